/-! ===== long numbers: digits to the base 100000000 ===== -/
def vS (f : Nat → Int) (a : Nat) : Nat → Int
  | 0 => 0
  | n + 1 => vS f a n + f (a + n) * (100000000 : Int) ^ n
theorem vS_succ (f : Nat → Int) (a n : Nat) : vS f a (n + 1) = vS f a n + f (a + n) * (100000000 : Int) ^ n := rfl
theorem vS_same {f g : Nat → Int} {a b : Nat} : ∀ {n : Nat}, (∀ j, j < n → f (a + j) = g (b + j)) → vS f a n = vS g b n
  | 0, _ => rfl
  | n + 1, e => by
    simp only [vS]
    rw [vS_same (fun j hj => e j (by omega)), e n (by omega)]
theorem vS_up {f : Nat → Int} {a j : Nat} {v : Int} : ∀ {n : Nat}, j < n → vS (fun q => if q = a + j then v else f q) a n = vS f a n + (v - f (a + j)) * (100000000 : Int) ^ j
  | n + 1, hj => by
    simp only [vS]
    by_cases q : j = n
    · subst q
      have e1 : vS (fun q => if q = a + j then v else f q) a j = vS f a j := vS_same (fun k hk => by rw [if_neg (by omega)])
      rw [e1, if_pos rfl, Int.sub_mul]
      omega
    · rw [vS_up (by omega), if_neg (by omega)]
      omega
theorem vS_bd {f : Nat → Int} {a : Nat} : ∀ {n : Nat}, (∀ j, j < n → 0 ≤ f (a + j) ∧ f (a + j) ≤ 99999999) → 0 ≤ vS f a n ∧ vS f a n < (100000000 : Int) ^ n
  | 0, _ => ⟨Int.le_refl _, (by decide : (0 : Int) < 100000000 ^ 0)⟩
  | n + 1, h => by
    obtain ⟨h1, h2⟩ := vS_bd (fun j hj => h j (by omega) : ∀ j, j < n → 0 ≤ f (a + j) ∧ f (a + j) ≤ 99999999)
    obtain ⟨h3, h4⟩ := h n (by omega)
    rw [vS_succ]
    have hp : (0 : Int) < (100000000 : Int) ^ n := Int.pow_pos (by decide)
    have k1 : 0 ≤ f (a + n) * (100000000 : Int) ^ n := Int.mul_nonneg h3 (Int.le_of_lt hp)
    have k2 : f (a + n) * (100000000 : Int) ^ n ≤ 99999999 * (100000000 : Int) ^ n := Int.mul_le_mul_of_nonneg_right h4 (Int.le_of_lt hp)
    rw [Int.pow_succ]
    generalize (100000000 : Int) ^ n = P at *
    omega
theorem upf {h h' : m_H} {k j : Nat} {v : Int} (E : h' = m_up h k j v) : h' k = fun q => if q = j then v else h k q := by
  funext q
  rw [E]
  by_cases hq : q = j
  · simp [m_up, hq]
  · simp [m_up, hq]
theorem upo {h h' : m_H} {k j c : Nat} {v : Int} (E : h' = m_up h k j v) (hc : c ≠ k) : h' c = h c := by
  rw [E]; exact m_up_row hc
/-! times -/
def tmI (g f : Nat → Int) (a : Int) (l c b : Int) : Prop := vS g 0 l.toNat + c * (100000000 : Int) ^ l.toNat = vS f a.toNat l.toNat * b
theorem tmI_0 {g f : Nat → Int} {a b : Int} : tmI g f a 0 0 b := by
  show (0 : Int) + 0 * _ = 0 * b
  rw [Int.zero_mul, Int.zero_mul]; rfl
theorem tmI_step {h h' : m_H} {f : Nat → Int} {t s : Nat} {z a l c b d m r c' : Int} (hz : z = 0) (ha : 0 ≤ a) (hl : 0 ≤ l) (I : tmI (h t) f a l c b) (hf : ∀ j, h s j = f j) (ed : h s (a + l).toNat = d) (em : d * b = m) (er : (m + c) % 100000000 = r) (ec : (m + c) / 100000000 = c') (E : h' = m_up h t (z + l).toNat r) : tmI (h' t) f a (l + 1) c' b := by
  unfold tmI at I ⊢
  have e1 : (l + 1).toNat = l.toNat + 1 := by omega
  have e2 : (z + l).toNat = l.toNat := by omega
  have e3 : (a + l).toNat = a.toNat + l.toNat := by omega
  rw [hf, e3] at ed
  rw [e2] at E
  rw [e1, vS_succ, vS_succ]
  have e4 : vS (h' t) 0 l.toNat = vS (h t) 0 l.toNat := vS_same (fun j hj => upN E (fun q => by have := q.2; omega))
  have e5 : h' t (0 + l.toNat) = r := by rw [Nat.zero_add]; exact upE E
  rw [e4, e5, ed, Int.pow_succ]
  have e6 : m + c = r + 100000000 * c' := by omega
  generalize (100000000 : Int) ^ l.toNat = P at *
  have e0 : c' * (P * (100000000 : Int)) = 100000000 * c' * P := by
    rw [Int.mul_comm P 100000000, ← Int.mul_assoc, Int.mul_comm c']
  have e7 : r * P + c' * (P * (100000000 : Int)) = (m + c) * P := by
    rw [e6, Int.add_mul, e0]
  have e8 : (vS f a.toNat l.toNat + d * P) * b = vS f a.toNat l.toNat * b + m * P := by
    rw [Int.add_mul, ← em]; congr 1; ac_rfl
  rw [e8, ← I]
  rw [Int.add_mul] at e7
  omega
theorem tmI_end {h : m_H} {f : Nat → Int} {t : Nat} {a l c b : Int} (hl : l = 5) (I : tmI (h t) f a l c b) (hd : ∀ j, j < 5 → 0 ≤ h t j ∧ h t j ≤ 99999999) : vS (h t) 0 5 = (vS f a.toNat 5 * b) % gBig := by
  subst hl
  unfold tmI at I
  have e1 : (5 : Int).toNat = 5 := rfl
  rw [e1] at I
  obtain ⟨b1, b2⟩ := vS_bd (f := h t) (a := 0) (n := 5) (fun j hj => by rw [Nat.zero_add]; exact hd j hj)
  have e2 : (100000000 : Int) ^ 5 = gBig := by decide
  rw [e2] at I b2
  rw [← I]
  generalize vS (h t) 0 5 = x at *
  show x = (x + c * 10000000000000000000000000000000000000000) % 10000000000000000000000000000000000000000
  have b3 : x < 10000000000000000000000000000000000000000 := b2
  omega
theorem mul_bd {x y X Y : Int} (h1 : 0 ≤ x) (h2 : x ≤ X) (h3 : 0 ≤ y) (h4 : y ≤ Y) : 0 ≤ x * y ∧ x * y ≤ X * Y := ⟨Int.mul_nonneg h1 h3, Int.mul_le_mul h2 h4 h3 (by omega)⟩
/-! product -/
def pdD (g : Nat → Int) (n : Nat) : Prop := (∀ j, j < 10 → 0 ≤ g j ∧ g j ≤ 99999999) ∧ ∀ j, n ≤ j → j < 10 → g j = 0
theorem pdD.at {g : Nat → Int} {n : Nat} (I : pdD g n) {i : Int} (h0 : 0 ≤ i) (h1 : i < 10) : 0 ≤ g i.toNat ∧ g i.toNat ≤ 99999999 := I.1 _ (by omega)
def pdO (g A B : Nat → Int) (a b i : Int) : Prop := pdD g (i.toNat + 5) ∧ vS g 0 10 = vS A a.toNat i.toNat * vS B b.toNat 5
def pdI (g A B : Nat → Int) (a b i k c : Int) : Prop := pdD g (i.toNat + 5) ∧ vS g 0 10 + c * (100000000 : Int) ^ (i.toNat + k.toNat) = vS A a.toNat i.toNat * vS B b.toNat 5 + A (a.toNat + i.toNat) * (100000000 : Int) ^ i.toNat * vS B b.toNat k.toNat
theorem pz_step {h h' : m_H} {t : Nat} {l : Int} (hl : 0 ≤ l) (I : ∀ j : Nat, (j : Int) < l → h t j = 0) (E : h' = m_up h t l.toNat 0) : ∀ j : Nat, (j : Int) < l + 1 → h' t j = 0 := by
  intro j hj
  by_cases q : j = l.toNat
  · rw [q]; exact upE E
  · rw [upN E (fun z => q z.2)]; exact I j (by omega)
theorem pdO_0 {g A B : Nat → Int} {a b l : Int} (hl : 10 ≤ l) (I : ∀ j : Nat, (j : Int) < l → g j = 0) : pdO g A B a b 0 := by
  have z : ∀ j, j < 10 → g j = 0 := fun j hj => I j (by omega)
  refine ⟨⟨fun j hj => by rw [z j hj]; decide, fun j _ hj => z j hj⟩, ?_⟩
  show vS g 0 10 = 0 * _
  rw [Int.zero_mul, vS_same (g := fun _ => 0) (b := 0) (fun j hj => by rw [Nat.zero_add]; exact z j hj)]
  decide
theorem pdI_0 {g A B : Nat → Int} {a b i : Int} (I : pdO g A B a b i) : pdI g A B a b i 0 0 := by
  refine ⟨I.1, ?_⟩
  rw [I.2]
  show _ + 0 * _ = _ + _ * 0
  rw [Int.zero_mul, Int.mul_zero]
theorem pdI_step {h h' : m_H} {t : Nat} {A B : Nat → Int} {a b i k c x y z m r c' : Int} (ha : 0 ≤ a) (hb : 0 ≤ b) (hi : 0 ≤ i) (hi4 : i ≤ 4) (hk : 0 ≤ k) (hk4 : k ≤ 4) (I : pdI (h t) A B a b i k c) (ex : h t (i + k).toNat = x) (ey : A (a + i).toNat = y) (ez : B (b + k).toNat = z) (em : y * z = m) (er : (x + m + c) % 100000000 = r) (ec : (x + m + c) / 100000000 = c') (hr : 0 ≤ r ∧ r ≤ 99999999) (E : h' = m_up h t (i + k).toNat r) : pdI (h' t) A B a b i (k + 1) c' := by
  obtain ⟨⟨d1, d2⟩, I⟩ := I
  have n1 : (i + k).toNat = i.toNat + k.toNat := by omega
  have n2 : (a + i).toNat = a.toNat + i.toNat := by omega
  have n3 : (b + k).toNat = b.toNat + k.toNat := by omega
  have n4 : (k + 1).toNat = k.toNat + 1 := by omega
  rw [n1] at ex E; rw [n2] at ey; rw [n3] at ez
  refine ⟨⟨fun j hj => ?_, fun j hj hj2 => ?_⟩, ?_⟩
  · by_cases q : j = i.toNat + k.toNat
    · rw [q, upE E]; exact hr
    · rw [upN E (fun z => q z.2)]; exact d1 j hj
  · rw [upN E (fun z => by have := z.2; omega)]; exact d2 j hj hj2
  · have u1 := vS_up (f := h t) (a := 0) (j := i.toNat + k.toNat) (v := r) (n := 10) (by omega)
    rw [Nat.zero_add, ex] at u1
    rw [upf E, u1, n4, vS_succ B b.toNat k.toNat]
    rw [ez, ey]
    rw [ey] at I
    rw [← Nat.add_assoc, Int.pow_succ]
    have p1 : (100000000 : Int) ^ (i.toNat + k.toNat) = (100000000 : Int) ^ i.toNat * (100000000 : Int) ^ k.toNat := Int.pow_add _ _ _
    have e6 : x + m + c = r + 100000000 * c' := by omega
    generalize vS (h t) 0 10 = X at *
    generalize vS A a.toNat i.toNat * vS B b.toNat 5 = Y at *
    generalize vS B b.toNat k.toNat = Z at *
    have q1 : y * (100000000 : Int) ^ i.toNat * (Z + z * (100000000 : Int) ^ k.toNat) = y * (100000000 : Int) ^ i.toNat * Z + m * (100000000 : Int) ^ (i.toNat + k.toNat) := by
      rw [Int.mul_add, p1, ← em]; congr 1; ac_rfl
    rw [q1]
    generalize (100000000 : Int) ^ (i.toNat + k.toNat) = P at *
    have q2 : c' * (P * (100000000 : Int)) = 100000000 * c' * P := by
      rw [Int.mul_comm P (100000000 : Int), ← Int.mul_assoc, Int.mul_comm c']
    have q3 : (r + 100000000 * c') * P = (x + m + c) * P := by rw [e6]
    rw [q2, Int.sub_mul]
    rw [Int.add_mul, Int.add_mul, Int.add_mul] at q3
    omega
theorem pdO_step {h h' : m_H} {t : Nat} {A B : Nat → Int} {a b i k c x : Int} (hi : 0 ≤ i) (hi4 : i ≤ 4) (hk : k = 5) (I : pdI (h t) A B a b i k c) (ex : h t (i + 5).toNat = x) (hc : 0 ≤ c ∧ c ≤ 99999999) (E : h' = m_up h t (i + 5).toNat (x + c)) : pdO (h' t) A B a b (i + 1) := by
  subst hk
  obtain ⟨⟨d1, d2⟩, I⟩ := I
  have n1 : (i + 5).toNat = i.toNat + 5 := by omega
  have n4 : (i + 1).toNat = i.toNat + 1 := by omega
  rw [n1] at ex E
  have x0 : x = 0 := by rw [← ex]; exact d2 _ (Nat.le_refl _) (by omega)
  subst x0
  rw [Int.zero_add] at E
  refine ⟨⟨fun j hj => ?_, fun j hj hj2 => ?_⟩, ?_⟩
  · by_cases q : j = i.toNat + 5
    · rw [q, upE E]; exact hc
    · rw [upN E (fun z => q z.2)]; exact d1 j hj
  · rw [upN E (fun z => by have := z.2; omega)]; exact d2 j (by omega) hj2
  · have u1 := vS_up (f := h t) (a := 0) (j := i.toNat + 5) (v := c) (n := 10) (by omega)
    rw [Nat.zero_add, ex] at u1
    rw [upf E, u1, n4, Int.sub_zero, vS_succ A a.toNat i.toNat]
    rw [Int.add_mul]
    exact I
/-! compare -/
theorem vS_agree {f g : Nat → Int} {k : Nat} : ∀ {n : Nat}, k ≤ n → (∀ j, k ≤ j → j < n → f j = g j) → vS f 0 n - vS g 0 n = vS f 0 k - vS g 0 k
  | 0, hk, _ => by
    have : k = 0 := by omega
    subst this; rfl
  | n + 1, hk, e => by
    by_cases q : k = n + 1
    · subst q; rfl
    · have ih := vS_agree (f := f) (g := g) (k := k) (n := n) (by omega) (fun j h1 h2 => e j h1 (by omega))
      simp only [vS]
      rw [Nat.zero_add, e n (by omega) (by omega)]
      omega
theorem vS_lt {f g : Nat → Int} {k : Nat} (hk : k < 10) (hf : ∀ j, j < 10 → 0 ≤ f j ∧ f j ≤ 99999999) (hg : ∀ j, j < 10 → 0 ≤ g j ∧ g j ≤ 99999999) (e : ∀ j, k < j → j < 10 → f j = g j) (hl : f k < g k) : vS f 0 10 < vS g 0 10 := by
  have h1 := vS_agree (f := f) (g := g) (k := k + 1) (n := 10) (by omega) (fun j a b => e j (by omega) b)
  obtain ⟨f1, f2⟩ := vS_bd (f := f) (a := 0) (n := k) (fun j hj => by rw [Nat.zero_add]; exact hf j (by omega))
  obtain ⟨g1, g2⟩ := vS_bd (f := g) (a := 0) (n := k) (fun j hj => by rw [Nat.zero_add]; exact hg j (by omega))
  rw [vS_succ f 0 k, vS_succ g 0 k, Nat.zero_add] at h1
  have hp : (0 : Int) < (100000000 : Int) ^ k := Int.pow_pos (by decide)
  have h3 : (f k + 1) * (100000000 : Int) ^ k ≤ g k * (100000000 : Int) ^ k := Int.mul_le_mul_of_nonneg_right (by omega) (Int.le_of_lt hp)
  rw [Int.add_mul, Int.one_mul] at h3
  generalize vS f 0 10 = X at *
  generalize vS g 0 10 = Y at *
  omega
def cmpQ (x a b : Int) : Prop := (x = -1 ∧ a < b) ∨ (x = 0 ∧ a = b) ∨ (x = 1 ∧ b < a)
def cpI (f g : Nat → Int) (a b k : Int) : Prop := (∀ j, j < 10 → 0 ≤ f j ∧ f j ≤ 99999999) ∧ (∀ j, j < 10 → 0 ≤ g j ∧ g j ≤ 99999999) ∧ vS f 0 10 = a ∧ vS g 0 10 = b ∧ ∀ j : Nat, k < (j : Int) → j < 10 → f j = g j
theorem cpI_0 {f g A B C D : Nat → Int} {a b c d : Int} (I : pdO f A B a b 5) (J : pdO g C D c d 5) : cpI f g (vS A a.toNat 5 * vS B b.toNat 5) (vS C c.toNat 5 * vS D d.toNat 5) 9 := ⟨I.1.1, J.1.1, I.2, J.2, fun j h1 h2 => by omega⟩
theorem cpI_step {f g : Nat → Int} {a b k x y : Int} (I : cpI f g a b k) (hk : 0 ≤ k) (ex : f k.toNat = x) (ey : g k.toNat = y) (e : x = y) : cpI f g a b (k - 1) := by
  obtain ⟨i1, i2, i3, i4, i5⟩ := I
  refine ⟨i1, i2, i3, i4, fun j h1 h2 => ?_⟩
  by_cases q : (j : Int) = k
  · have : k.toNat = j := by omega
    rw [this] at ex ey
    rw [ex, ey, e]
  · exact i5 j (by omega) h2
theorem cpI_lt {f g : Nat → Int} {a b k x y : Int} (I : cpI f g a b k) (hk : 0 ≤ k) (hk9 : k ≤ 9) (ex : f k.toNat = x) (ey : g k.toNat = y) (e : x < y) : cmpQ (-1) a b := by
  obtain ⟨i1, i2, i3, i4, i5⟩ := I
  have := vS_lt (f := f) (g := g) (k := k.toNat) (by omega) i1 i2 (fun j h1 h2 => i5 j (by omega) h2) (by rw [ex, ey]; exact e)
  exact Or.inl ⟨rfl, by omega⟩
theorem cpI_gt {f g : Nat → Int} {a b k x y : Int} (I : cpI f g a b k) (hk : 0 ≤ k) (hk9 : k ≤ 9) (ex : f k.toNat = x) (ey : g k.toNat = y) (e : y < x) : cmpQ 1 a b := by
  obtain ⟨i1, i2, i3, i4, i5⟩ := I
  have := vS_lt (f := g) (g := f) (k := k.toNat) (by omega) i2 i1 (fun j h1 h2 => (i5 j (by omega) h2).symm) (by rw [ex, ey]; exact e)
  exact Or.inr (Or.inr ⟨rfl, by omega⟩)
theorem cpI_eq {f g : Nat → Int} {a b k : Int} (I : cpI f g a b k) (hk : k < 0) : cmpQ 0 a b := by
  obtain ⟨i1, i2, i3, i4, i5⟩ := I
  have h1 := vS_agree (f := f) (g := g) (k := 0) (n := 10) (by omega) (fun j a b => i5 j (by omega) b)
  have h2 : vS f 0 0 - vS g 0 0 = 0 := rfl
  exact Or.inr (Or.inl ⟨rfl, by omega⟩)
theorem cmpQ_bd {x a b : Int} (q : cmpQ x a b) : -1 ≤ x ∧ x ≤ 1 := by unfold cmpQ at q; omega
theorem FR.row {cs : List Nat} {ss : List (Nat × Nat)} {h h' : m_H} {c : Nat} (S : FR cs ss h h') (e : ∀ j, fr cs ss c j = false) : h' c = h c := funext fun j => S c j (e j)
