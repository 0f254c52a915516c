/-! ===== long numbers: digits to the base 100000000 ===== -/
def vS (f : Nat → Int) (a : Nat) : Nat → Int
  | 0 => 0
  | n + 1 => vS f a n + f (a + n) * (100000000 : Int) ^ n
theorem vS_succ (f : Nat → Int) (a n : Nat) : vS f a (n + 1) = vS f a n + f (a + n) * (100000000 : Int) ^ n := rfl
theorem vS_same {f g : Nat → Int} {a b : Nat} : ∀ {n : Nat}, (∀ j, j < n → f (a + j) = g (b + j)) → vS f a n = vS g b n
  | 0, _ => rfl
  | n + 1, e => by
    simp only [vS]
    rw [vS_same (fun j hj => e j (by omega)), e n (by omega)]
theorem vS_up {f : Nat → Int} {a j : Nat} {v : Int} : ∀ {n : Nat}, j < n → vS (fun q => if q = a + j then v else f q) a n = vS f a n + (v - f (a + j)) * (100000000 : Int) ^ j
  | n + 1, hj => by
    simp only [vS]
    by_cases q : j = n
    · subst q
      have e1 : vS (fun q => if q = a + j then v else f q) a j = vS f a j := vS_same (fun k hk => by rw [if_neg (by omega)])
      rw [e1, if_pos rfl, Int.sub_mul]
      omega
    · rw [vS_up (by omega), if_neg (by omega)]
      omega
theorem vS_bd {f : Nat → Int} {a : Nat} : ∀ {n : Nat}, (∀ j, j < n → 0 ≤ f (a + j) ∧ f (a + j) ≤ 99999999) → 0 ≤ vS f a n ∧ vS f a n < (100000000 : Int) ^ n
  | 0, _ => ⟨Int.le_refl _, (by decide : (0 : Int) < 100000000 ^ 0)⟩
  | n + 1, h => by
    obtain ⟨h1, h2⟩ := vS_bd (fun j hj => h j (by omega) : ∀ j, j < n → 0 ≤ f (a + j) ∧ f (a + j) ≤ 99999999)
    obtain ⟨h3, h4⟩ := h n (by omega)
    rw [vS_succ]
    have hp : (0 : Int) < (100000000 : Int) ^ n := Int.pow_pos (by decide)
    have k1 : 0 ≤ f (a + n) * (100000000 : Int) ^ n := Int.mul_nonneg h3 (Int.le_of_lt hp)
    have k2 : f (a + n) * (100000000 : Int) ^ n ≤ 99999999 * (100000000 : Int) ^ n := Int.mul_le_mul_of_nonneg_right h4 (Int.le_of_lt hp)
    rw [Int.pow_succ]
    generalize (100000000 : Int) ^ n = P at *
    omega
theorem upf {h h' : m_H} {k j : Nat} {v : Int} (E : h' = m_up h k j v) : h' k = fun q => if q = j then v else h k q := by
  funext q
  rw [E]
  by_cases hq : q = j
  · simp [m_up, hq]
  · simp [m_up, hq]
theorem upo {h h' : m_H} {k j c : Nat} {v : Int} (E : h' = m_up h k j v) (hc : c ≠ k) : h' c = h c := by
  rw [E]; exact m_up_row hc
/-! times -/
def tmI (g f : Nat → Int) (a : Int) (l c b : Int) : Prop := vS g 0 l.toNat + c * (100000000 : Int) ^ l.toNat = vS f a.toNat l.toNat * b
theorem tmI_0 {g f : Nat → Int} {a b : Int} : tmI g f a 0 0 b := by
  show (0 : Int) + 0 * _ = 0 * b
  rw [Int.zero_mul, Int.zero_mul]; rfl
theorem tmI_step {h h' : m_H} {f : Nat → Int} {t s : Nat} {z a l c b d m r c' : Int} (hz : z = 0) (ha : 0 ≤ a) (hl : 0 ≤ l) (I : tmI (h t) f a l c b) (hf : ∀ j, h s j = f j) (ed : h s (a + l).toNat = d) (em : d * b = m) (er : (m + c) % 100000000 = r) (ec : (m + c) / 100000000 = c') (E : h' = m_up h t (z + l).toNat r) : tmI (h' t) f a (l + 1) c' b := by
  unfold tmI at I ⊢
  have e1 : (l + 1).toNat = l.toNat + 1 := by omega
  have e2 : (z + l).toNat = l.toNat := by omega
  have e3 : (a + l).toNat = a.toNat + l.toNat := by omega
  rw [hf, e3] at ed
  rw [e2] at E
  rw [e1, vS_succ, vS_succ]
  have e4 : vS (h' t) 0 l.toNat = vS (h t) 0 l.toNat := vS_same (fun j hj => upN E (fun q => by have := q.2; omega))
  have e5 : h' t (0 + l.toNat) = r := by rw [Nat.zero_add]; exact upE E
  rw [e4, e5, ed, Int.pow_succ]
  have e6 : m + c = r + 100000000 * c' := by omega
  generalize (100000000 : Int) ^ l.toNat = P at *
  have e0 : c' * (P * (100000000 : Int)) = 100000000 * c' * P := by
    rw [Int.mul_comm P 100000000, ← Int.mul_assoc, Int.mul_comm c']
  have e7 : r * P + c' * (P * (100000000 : Int)) = (m + c) * P := by
    rw [e6, Int.add_mul, e0]
  have e8 : (vS f a.toNat l.toNat + d * P) * b = vS f a.toNat l.toNat * b + m * P := by
    rw [Int.add_mul, ← em]; congr 1; ac_rfl
  rw [e8, ← I]
  rw [Int.add_mul] at e7
  omega
theorem tmI_end {h : m_H} {f : Nat → Int} {t : Nat} {a l c b : Int} (hl : l = 5) (I : tmI (h t) f a l c b) (hd : ∀ j, j < 5 → 0 ≤ h t j ∧ h t j ≤ 99999999) : vS (h t) 0 5 = (vS f a.toNat 5 * b) % gBig := by
  subst hl
  unfold tmI at I
  have e1 : (5 : Int).toNat = 5 := rfl
  rw [e1] at I
  obtain ⟨b1, b2⟩ := vS_bd (f := h t) (a := 0) (n := 5) (fun j hj => by rw [Nat.zero_add]; exact hd j hj)
  have e2 : (100000000 : Int) ^ 5 = gBig := by decide
  rw [e2] at I b2
  rw [← I]
  generalize vS (h t) 0 5 = x at *
  show x = (x + c * 10000000000000000000000000000000000000000) % 10000000000000000000000000000000000000000
  have b3 : x < 10000000000000000000000000000000000000000 := b2
  omega
theorem mul_bd {x y X Y : Int} (h1 : 0 ≤ x) (h2 : x ≤ X) (h3 : 0 ≤ y) (h4 : y ≤ Y) : 0 ≤ x * y ∧ x * y ≤ X * Y := ⟨Int.mul_nonneg h1 h3, Int.mul_le_mul h2 h4 h3 (by omega)⟩
/-! product -/
def pdD (g : Nat → Int) (n : Nat) : Prop := (∀ j, j < 10 → 0 ≤ g j ∧ g j ≤ 99999999) ∧ ∀ j, n ≤ j → j < 10 → g j = 0
theorem pdD.at {g : Nat → Int} {n : Nat} (I : pdD g n) {i : Int} (h0 : 0 ≤ i) (h1 : i < 10) : 0 ≤ g i.toNat ∧ g i.toNat ≤ 99999999 := I.1 _ (by omega)
def pdO (g A B : Nat → Int) (a b i : Int) : Prop := pdD g (i.toNat + 5) ∧ vS g 0 10 = vS A a.toNat i.toNat * vS B b.toNat 5
def pdI (g A B : Nat → Int) (a b i k c : Int) : Prop := pdD g (i.toNat + 5) ∧ vS g 0 10 + c * (100000000 : Int) ^ (i.toNat + k.toNat) = vS A a.toNat i.toNat * vS B b.toNat 5 + A (a.toNat + i.toNat) * (100000000 : Int) ^ i.toNat * vS B b.toNat k.toNat
theorem pz_step {h h' : m_H} {t : Nat} {l : Int} (hl : 0 ≤ l) (I : ∀ j : Nat, (j : Int) < l → h t j = 0) (E : h' = m_up h t l.toNat 0) : ∀ j : Nat, (j : Int) < l + 1 → h' t j = 0 := by
  intro j hj
  by_cases q : j = l.toNat
  · rw [q]; exact upE E
  · rw [upN E (fun z => q z.2)]; exact I j (by omega)
theorem pdO_0 {g A B : Nat → Int} {a b l : Int} (hl : 10 ≤ l) (I : ∀ j : Nat, (j : Int) < l → g j = 0) : pdO g A B a b 0 := by
  have z : ∀ j, j < 10 → g j = 0 := fun j hj => I j (by omega)
  refine ⟨⟨fun j hj => by rw [z j hj]; decide, fun j _ hj => z j hj⟩, ?_⟩
  show vS g 0 10 = 0 * _
  rw [Int.zero_mul, vS_same (g := fun _ => 0) (b := 0) (fun j hj => by rw [Nat.zero_add]; exact z j hj)]
  decide
theorem pdI_0 {g A B : Nat → Int} {a b i : Int} (I : pdO g A B a b i) : pdI g A B a b i 0 0 := by
  refine ⟨I.1, ?_⟩
  rw [I.2]
  show _ + 0 * _ = _ + _ * 0
  rw [Int.zero_mul, Int.mul_zero]
theorem pdI_step {h h' : m_H} {t : Nat} {A B : Nat → Int} {a b i k c x y z m r c' : Int} (ha : 0 ≤ a) (hb : 0 ≤ b) (hi : 0 ≤ i) (hi4 : i ≤ 4) (hk : 0 ≤ k) (hk4 : k ≤ 4) (I : pdI (h t) A B a b i k c) (ex : h t (i + k).toNat = x) (ey : A (a + i).toNat = y) (ez : B (b + k).toNat = z) (em : y * z = m) (er : (x + m + c) % 100000000 = r) (ec : (x + m + c) / 100000000 = c') (hr : 0 ≤ r ∧ r ≤ 99999999) (E : h' = m_up h t (i + k).toNat r) : pdI (h' t) A B a b i (k + 1) c' := by
  obtain ⟨⟨d1, d2⟩, I⟩ := I
  have n1 : (i + k).toNat = i.toNat + k.toNat := by omega
  have n2 : (a + i).toNat = a.toNat + i.toNat := by omega
  have n3 : (b + k).toNat = b.toNat + k.toNat := by omega
  have n4 : (k + 1).toNat = k.toNat + 1 := by omega
  rw [n1] at ex E; rw [n2] at ey; rw [n3] at ez
  refine ⟨⟨fun j hj => ?_, fun j hj hj2 => ?_⟩, ?_⟩
  · by_cases q : j = i.toNat + k.toNat
    · rw [q, upE E]; exact hr
    · rw [upN E (fun z => q z.2)]; exact d1 j hj
  · rw [upN E (fun z => by have := z.2; omega)]; exact d2 j hj hj2
  · have u1 := vS_up (f := h t) (a := 0) (j := i.toNat + k.toNat) (v := r) (n := 10) (by omega)
    rw [Nat.zero_add, ex] at u1
    rw [upf E, u1, n4, vS_succ B b.toNat k.toNat]
    rw [ez, ey]
    rw [ey] at I
    rw [← Nat.add_assoc, Int.pow_succ]
    have p1 : (100000000 : Int) ^ (i.toNat + k.toNat) = (100000000 : Int) ^ i.toNat * (100000000 : Int) ^ k.toNat := Int.pow_add _ _ _
    have e6 : x + m + c = r + 100000000 * c' := by omega
    generalize vS (h t) 0 10 = X at *
    generalize vS A a.toNat i.toNat * vS B b.toNat 5 = Y at *
    generalize vS B b.toNat k.toNat = Z at *
    have q1 : y * (100000000 : Int) ^ i.toNat * (Z + z * (100000000 : Int) ^ k.toNat) = y * (100000000 : Int) ^ i.toNat * Z + m * (100000000 : Int) ^ (i.toNat + k.toNat) := by
      rw [Int.mul_add, p1, ← em]; congr 1; ac_rfl
    rw [q1]
    generalize (100000000 : Int) ^ (i.toNat + k.toNat) = P at *
    have q2 : c' * (P * (100000000 : Int)) = 100000000 * c' * P := by
      rw [Int.mul_comm P (100000000 : Int), ← Int.mul_assoc, Int.mul_comm c']
    have q3 : (r + 100000000 * c') * P = (x + m + c) * P := by rw [e6]
    rw [q2, Int.sub_mul]
    rw [Int.add_mul, Int.add_mul, Int.add_mul] at q3
    omega
theorem pdO_step {h h' : m_H} {t : Nat} {A B : Nat → Int} {a b i k c x : Int} (hi : 0 ≤ i) (hi4 : i ≤ 4) (hk : k = 5) (I : pdI (h t) A B a b i k c) (ex : h t (i + 5).toNat = x) (hc : 0 ≤ c ∧ c ≤ 99999999) (E : h' = m_up h t (i + 5).toNat (x + c)) : pdO (h' t) A B a b (i + 1) := by
  subst hk
  obtain ⟨⟨d1, d2⟩, I⟩ := I
  have n1 : (i + 5).toNat = i.toNat + 5 := by omega
  have n4 : (i + 1).toNat = i.toNat + 1 := by omega
  rw [n1] at ex E
  have x0 : x = 0 := by rw [← ex]; exact d2 _ (Nat.le_refl _) (by omega)
  subst x0
  rw [Int.zero_add] at E
  refine ⟨⟨fun j hj => ?_, fun j hj hj2 => ?_⟩, ?_⟩
  · by_cases q : j = i.toNat + 5
    · rw [q, upE E]; exact hc
    · rw [upN E (fun z => q z.2)]; exact d1 j hj
  · rw [upN E (fun z => by have := z.2; omega)]; exact d2 j (by omega) hj2
  · have u1 := vS_up (f := h t) (a := 0) (j := i.toNat + 5) (v := c) (n := 10) (by omega)
    rw [Nat.zero_add, ex] at u1
    rw [upf E, u1, n4, Int.sub_zero, vS_succ A a.toNat i.toNat]
    rw [Int.add_mul]
    exact I
/-! compare -/
theorem vS_agree {f g : Nat → Int} {k : Nat} : ∀ {n : Nat}, k ≤ n → (∀ j, k ≤ j → j < n → f j = g j) → vS f 0 n - vS g 0 n = vS f 0 k - vS g 0 k
  | 0, hk, _ => by
    have : k = 0 := by omega
    subst this; rfl
  | n + 1, hk, e => by
    by_cases q : k = n + 1
    · subst q; rfl
    · have ih := vS_agree (f := f) (g := g) (k := k) (n := n) (by omega) (fun j h1 h2 => e j h1 (by omega))
      simp only [vS]
      rw [Nat.zero_add, e n (by omega) (by omega)]
      omega
theorem vS_lt {f g : Nat → Int} {k : Nat} (hk : k < 10) (hf : ∀ j, j < 10 → 0 ≤ f j ∧ f j ≤ 99999999) (hg : ∀ j, j < 10 → 0 ≤ g j ∧ g j ≤ 99999999) (e : ∀ j, k < j → j < 10 → f j = g j) (hl : f k < g k) : vS f 0 10 < vS g 0 10 := by
  have h1 := vS_agree (f := f) (g := g) (k := k + 1) (n := 10) (by omega) (fun j a b => e j (by omega) b)
  obtain ⟨f1, f2⟩ := vS_bd (f := f) (a := 0) (n := k) (fun j hj => by rw [Nat.zero_add]; exact hf j (by omega))
  obtain ⟨g1, g2⟩ := vS_bd (f := g) (a := 0) (n := k) (fun j hj => by rw [Nat.zero_add]; exact hg j (by omega))
  rw [vS_succ f 0 k, vS_succ g 0 k, Nat.zero_add] at h1
  have hp : (0 : Int) < (100000000 : Int) ^ k := Int.pow_pos (by decide)
  have h3 : (f k + 1) * (100000000 : Int) ^ k ≤ g k * (100000000 : Int) ^ k := Int.mul_le_mul_of_nonneg_right (by omega) (Int.le_of_lt hp)
  rw [Int.add_mul, Int.one_mul] at h3
  generalize vS f 0 10 = X at *
  generalize vS g 0 10 = Y at *
  omega
def cmpQ (x a b : Int) : Prop := (x = -1 ∧ a < b) ∨ (x = 0 ∧ a = b) ∨ (x = 1 ∧ b < a)
def cpI (f g : Nat → Int) (a b k : Int) : Prop := (∀ j, j < 10 → 0 ≤ f j ∧ f j ≤ 99999999) ∧ (∀ j, j < 10 → 0 ≤ g j ∧ g j ≤ 99999999) ∧ vS f 0 10 = a ∧ vS g 0 10 = b ∧ ∀ j : Nat, k < (j : Int) → j < 10 → f j = g j
theorem cpI_0 {f g A B C D : Nat → Int} {a b c d : Int} (I : pdO f A B a b 5) (J : pdO g C D c d 5) : cpI f g (vS A a.toNat 5 * vS B b.toNat 5) (vS C c.toNat 5 * vS D d.toNat 5) 9 := ⟨I.1.1, J.1.1, I.2, J.2, fun j h1 h2 => by omega⟩
theorem cpI_step {f g : Nat → Int} {a b k x y : Int} (I : cpI f g a b k) (hk : 0 ≤ k) (ex : f k.toNat = x) (ey : g k.toNat = y) (e : x = y) : cpI f g a b (k - 1) := by
  obtain ⟨i1, i2, i3, i4, i5⟩ := I
  refine ⟨i1, i2, i3, i4, fun j h1 h2 => ?_⟩
  by_cases q : (j : Int) = k
  · have : k.toNat = j := by omega
    rw [this] at ex ey
    rw [ex, ey, e]
  · exact i5 j (by omega) h2
theorem cpI_lt {f g : Nat → Int} {a b k x y : Int} (I : cpI f g a b k) (hk : 0 ≤ k) (hk9 : k ≤ 9) (ex : f k.toNat = x) (ey : g k.toNat = y) (e : x < y) : cmpQ (-1) a b := by
  obtain ⟨i1, i2, i3, i4, i5⟩ := I
  have := vS_lt (f := f) (g := g) (k := k.toNat) (by omega) i1 i2 (fun j h1 h2 => i5 j (by omega) h2) (by rw [ex, ey]; exact e)
  exact Or.inl ⟨rfl, by omega⟩
theorem cpI_gt {f g : Nat → Int} {a b k x y : Int} (I : cpI f g a b k) (hk : 0 ≤ k) (hk9 : k ≤ 9) (ex : f k.toNat = x) (ey : g k.toNat = y) (e : y < x) : cmpQ 1 a b := by
  obtain ⟨i1, i2, i3, i4, i5⟩ := I
  have := vS_lt (f := g) (g := f) (k := k.toNat) (by omega) i2 i1 (fun j h1 h2 => (i5 j (by omega) h2).symm) (by rw [ex, ey]; exact e)
  exact Or.inr (Or.inr ⟨rfl, by omega⟩)
theorem cpI_eq {f g : Nat → Int} {a b k : Int} (I : cpI f g a b k) (hk : k < 0) : cmpQ 0 a b := by
  obtain ⟨i1, i2, i3, i4, i5⟩ := I
  have h1 := vS_agree (f := f) (g := g) (k := 0) (n := 10) (by omega) (fun j a b => i5 j (by omega) b)
  have h2 : vS f 0 0 - vS g 0 0 = 0 := rfl
  exact Or.inr (Or.inl ⟨rfl, by omega⟩)
theorem cmpQ_bd {x a b : Int} (q : cmpQ x a b) : -1 ≤ x ∧ x ≤ 1 := by unfold cmpQ at q; omega
theorem FR.row {cs : List Nat} {ss : List (Nat × Nat)} {h h' : m_H} {c : Nat} (S : FR cs ss h h') (e : ∀ j, fr cs ss c j = false) : h' c = h c := funext fun j => S c j (e j)
abbrev P_X12_timesU (h0 : m_H) (a1 a3 a4 : Int) : m_H → Prop := fun h' => GI h' ∧ FR [132] [] h0 h' ∧ vS (h' 132) 0 5 = (vS (h0 124) a3.toNat 5 * a4) % gBig
def q_X12_timesU (h0 : m_H) (a1 a3 a4 : Int) (n : Nat) : Prop := (∀ (l5 l7 : Int) (h : m_H), GI h → FR [132] [] h0 h → 0 ≤ l5 → l5 ≤ 198 → 0 ≤ l7 → l7 ≤ 5 → (tmI (h 132) (h0 124) a3 l7 l5 a4) → 2 * (5 - l7) + (1) ≤ (n : Int) → m_Z oF M_X12_times 6 [some (mR 132), some (mI a1), some (mR 124), some (mI a3), some (mI a4), some (mJ l5), none, some (mI l7), none, none] [] h (m_QV (P_X12_timesU h0 a1 a3 a4)))
set_option maxHeartbeats 4000000 in
set_option maxRecDepth 100000 in
theorem s_X12_timesU_6 (h0 : m_H) (a1 a3 a4 : Int) (G0 : GI h0) (pa1 : 0 ≤ a1 ∧ a1 ≤ 0) (pa3 : 0 ≤ a3 ∧ a3 ≤ 75) (pa4 : 0 ≤ a4 ∧ a4 ≤ 199) (n : Nat) (ih : q_X12_timesU h0 a1 a3 a4 n) : ∀ (l5 l7 : Int) (h : m_H), GI h → FR [132] [] h0 h → 0 ≤ l5 → l5 ≤ 198 → 0 ≤ l7 → l7 ≤ 5 → (tmI (h 132) (h0 124) a3 l7 l5 a4) → 2 * (5 - l7) + (1) ≤ ((n + 1 : Nat) : Int) → m_Z oF M_X12_times 6 [some (mR 132), some (mI a1), some (mR 124), some (mI a3), some (mI a4), some (mJ l5), none, some (mI l7), none, none] [] h (m_QV (P_X12_timesU h0 a1 a3 a4)) := by
  intro l5 l7 h G R v0 v1 v2 v3 i0 hr
  refine z_iload (M := M_X12_times) 6 dX12_times_6 rfl ?_
  refine z_iconst (M := M_X12_times) 8 dX12_times_8 ?_
  refine z_icmp_ge (M := M_X12_times) 9 dX12_times_9 53 rfl (fun c1 => ?_) (fun c1 => ?_)
  · exact z_retV (M := M_X12_times) 53 dX12_times_53 rfl ⟨G, R, tmI_end (by omega) i0 (fun j hj => g_132 G hj)⟩
  · refine z_aload_n (M := M_X12_times) 12 dX12_times_12 rfl ?_
    refine z_iload_n (M := M_X12_times) 13 dX12_times_13 rfl ?_
    refine z_iload (M := M_X12_times) 14 dX12_times_14 rfl ?_
    refine z_iaddN (M := M_X12_times) 16 dX12_times_16 (by omega) (by omega) ?_
    refine z_laldG (M := M_X12_times) 17 dX12_times_17 o_124 (by omega) (by omega) (g_124 G (by omega)) (fun x2 ex2 ax2 bx2 => ?_)
    refine z_iload (M := M_X12_times) 18 dX12_times_18 rfl ?_
    refine z_i2l (M := M_X12_times) 20 dX12_times_20 ?_
    have mx3 := mul_bd (x := x2) (y := a4) (X := 99999999) (Y := 199) (by omega) (by omega) (by omega) (by omega)
    refine z_lmulN (M := M_X12_times) 21 dX12_times_21 (by omega) (by omega) ?_
    refine z_topBJ (lo := 0) (hi := 19899999801) ⟨by omega, by omega⟩ (fun x3 ex3 ax3 bx3 => ?_)
    refine z_lload (M := M_X12_times) 22 dX12_times_22 rfl ?_
    refine z_laddN (M := M_X12_times) 24 dX12_times_24 (by omega) (by omega) ?_
    refine z_lstore (M := M_X12_times) 25 dX12_times_25 (ls' := [some (mR 132), some (mI a1), some (mR 124), some (mI a3), some (mI a4), some (mJ l5), none, some (mI l7), some (mJ (x3 + l5)), none]) (by decide) rfl ?_
    refine z_aload_n (M := M_X12_times) 27 dX12_times_27 rfl ?_
    refine z_iload_n (M := M_X12_times) 28 dX12_times_28 rfl ?_
    refine z_iload (M := M_X12_times) 29 dX12_times_29 rfl ?_
    refine z_iaddN (M := M_X12_times) 31 dX12_times_31 (by omega) (by omega) ?_
    refine z_lload (M := M_X12_times) 32 dX12_times_32 rfl ?_
    refine z_ldc2 (M := M_X12_times) 34 dX12_times_34 k_X12_327 ?_
    refine z_lremN (M := M_X12_times) 37 dX12_times_37 (by omega) (by omega) ?_
    refine z_topBJ (lo := 0) (hi := 99999999) ⟨by omega, by omega⟩ (fun x4 ex4 ax4 bx4 => ?_)
    refine z_lastH (M := M_X12_times) 38 dX12_times_38 o_132 (by omega) (by omega) (u_132 G (by omega) (by omega)) (R.up rfl) (fun h1 E1 G1 R1 => ?_)
    refine z_lload (M := M_X12_times) 39 dX12_times_39 rfl ?_
    refine z_ldc2 (M := M_X12_times) 41 dX12_times_41 k_X12_327 ?_
    refine z_ldivN (M := M_X12_times) 44 dX12_times_44 (by omega) (by omega) ?_
    refine z_topBJ (lo := 0) (hi := 198) ⟨by omega, by omega⟩ (fun x5 ex5 ax5 bx5 => ?_)
    refine z_lstore (M := M_X12_times) 45 dX12_times_45 (ls' := [some (mR 132), some (mI a1), some (mR 124), some (mI a3), some (mI a4), some (mJ x5), none, some (mI l7), some (mJ (x3 + l5)), none]) (by decide) rfl ?_
    refine z_iincN (M := M_X12_times) 47 dX12_times_47 (ls' := [some (mR 132), some (mI a1), some (mR 124), some (mI a3), some (mI a4), some (mJ x5), none, some (mI (l7 + 1)), some (mJ (x3 + l5)), none]) (by decide) rfl (by (unfold m_32; decide)) (by omega) (by omega) rfl ?_
    refine z_goto (M := M_X12_times) 50 dX12_times_50 6 rfl ?_
    exact z_mask [true, true, true, true, true, true, false, true, false, false] rfl (ih x5 (l7 + 1) h1 G1 R1 (by omega) (by omega) (by omega) (by omega) (tmI_step (by omega) (by omega) (by omega) i0 (fun j => R 124 j rfl) ex2 ex3 ex4 ex5 E1) (by omega))
theorem a_X12_timesU (h0 : m_H) (a1 a3 a4 : Int) (G0 : GI h0) (pa1 : 0 ≤ a1 ∧ a1 ≤ 0) (pa3 : 0 ≤ a3 ∧ a3 ≤ 75) (pa4 : 0 ≤ a4 ∧ a4 ≤ 199) : ∀ n, q_X12_timesU h0 a1 a3 a4 n := by
  intro n
  induction n with
  | zero => unfold q_X12_timesU; intros; omega
  | succ n ih => exact s_X12_timesU_6 h0 a1 a3 a4 G0 pa1 pa3 pa4 n ih
set_option maxHeartbeats 4000000 in
set_option maxRecDepth 100000 in
theorem c_X12_timesU (h0 : m_H) (a1 a3 a4 : Int) (G0 : GI h0) (pa1 : 0 ≤ a1 ∧ a1 ≤ 0) (pa3 : 0 ≤ a3 ∧ a3 ≤ 75) (pa4 : 0 ≤ a4 ∧ a4 ≤ 199) : m_CV M_X12_times [mR 132, mI a1, mR 124, mI a3, mI a4] h0 (P_X12_timesU h0 a1 a3 a4) := by
  refine m_CV_of ⟨by decide, rfl, by simp [m_arg, m_isL, M_X12_times], ⟨rfl, rfl⟩, rfl, rfl⟩ (ls := [some (mR 132), some (mI a1), some (mR 124), some (mI a3), some (mI a4), none, none, none, none, none]) rfl ?_
  have ih := a_X12_timesU h0 a1 a3 a4 G0 pa1 pa3 pa4 18
  refine z_lconst (M := M_X12_times) 0 dX12_times_0 (v := 0) ?_
  refine z_lstore (M := M_X12_times) 1 dX12_times_1 (ls' := [some (mR 132), some (mI a1), some (mR 124), some (mI a3), some (mI a4), some (mJ 0), none, none, none, none]) (by decide) rfl ?_
  refine z_iconst (M := M_X12_times) 3 dX12_times_3 ?_
  refine z_istore (M := M_X12_times) 4 dX12_times_4 (ls' := [some (mR 132), some (mI a1), some (mR 124), some (mI a3), some (mI a4), some (mJ 0), none, some (mI 0), none, none]) (by decide) rfl ?_
  exact z_mask [true, true, true, true, true, true, false, true, false, false] rfl (ih 0 0 h0 G0 (FR.rf (cs := [132]) (ss := []) (h := h0)) (by omega) (by omega) (by omega) (by omega) tmI_0 (by omega))
abbrev P_X12_timesL (h0 : m_H) (a1 a3 a4 : Int) : m_H → Prop := fun h' => GI h' ∧ FR [133] [] h0 h' ∧ vS (h' 133) 0 5 = (vS (h0 125) a3.toNat 5 * a4) % gBig
def q_X12_timesL (h0 : m_H) (a1 a3 a4 : Int) (n : Nat) : Prop := (∀ (l5 l7 : Int) (h : m_H), GI h → FR [133] [] h0 h → 0 ≤ l5 → l5 ≤ 198 → 0 ≤ l7 → l7 ≤ 5 → (tmI (h 133) (h0 125) a3 l7 l5 a4) → 2 * (5 - l7) + (1) ≤ (n : Int) → m_Z oF M_X12_times 6 [some (mR 133), some (mI a1), some (mR 125), some (mI a3), some (mI a4), some (mJ l5), none, some (mI l7), none, none] [] h (m_QV (P_X12_timesL h0 a1 a3 a4)))
set_option maxHeartbeats 4000000 in
set_option maxRecDepth 100000 in
theorem s_X12_timesL_6 (h0 : m_H) (a1 a3 a4 : Int) (G0 : GI h0) (pa1 : 0 ≤ a1 ∧ a1 ≤ 0) (pa3 : 0 ≤ a3 ∧ a3 ≤ 75) (pa4 : 0 ≤ a4 ∧ a4 ≤ 199) (n : Nat) (ih : q_X12_timesL h0 a1 a3 a4 n) : ∀ (l5 l7 : Int) (h : m_H), GI h → FR [133] [] h0 h → 0 ≤ l5 → l5 ≤ 198 → 0 ≤ l7 → l7 ≤ 5 → (tmI (h 133) (h0 125) a3 l7 l5 a4) → 2 * (5 - l7) + (1) ≤ ((n + 1 : Nat) : Int) → m_Z oF M_X12_times 6 [some (mR 133), some (mI a1), some (mR 125), some (mI a3), some (mI a4), some (mJ l5), none, some (mI l7), none, none] [] h (m_QV (P_X12_timesL h0 a1 a3 a4)) := by
  intro l5 l7 h G R v0 v1 v2 v3 i0 hr
  refine z_iload (M := M_X12_times) 6 dX12_times_6 rfl ?_
  refine z_iconst (M := M_X12_times) 8 dX12_times_8 ?_
  refine z_icmp_ge (M := M_X12_times) 9 dX12_times_9 53 rfl (fun c1 => ?_) (fun c1 => ?_)
  · exact z_retV (M := M_X12_times) 53 dX12_times_53 rfl ⟨G, R, tmI_end (by omega) i0 (fun j hj => g_133 G hj)⟩
  · refine z_aload_n (M := M_X12_times) 12 dX12_times_12 rfl ?_
    refine z_iload_n (M := M_X12_times) 13 dX12_times_13 rfl ?_
    refine z_iload (M := M_X12_times) 14 dX12_times_14 rfl ?_
    refine z_iaddN (M := M_X12_times) 16 dX12_times_16 (by omega) (by omega) ?_
    refine z_laldG (M := M_X12_times) 17 dX12_times_17 o_125 (by omega) (by omega) (g_125 G (by omega)) (fun x2 ex2 ax2 bx2 => ?_)
    refine z_iload (M := M_X12_times) 18 dX12_times_18 rfl ?_
    refine z_i2l (M := M_X12_times) 20 dX12_times_20 ?_
    have mx3 := mul_bd (x := x2) (y := a4) (X := 99999999) (Y := 199) (by omega) (by omega) (by omega) (by omega)
    refine z_lmulN (M := M_X12_times) 21 dX12_times_21 (by omega) (by omega) ?_
    refine z_topBJ (lo := 0) (hi := 19899999801) ⟨by omega, by omega⟩ (fun x3 ex3 ax3 bx3 => ?_)
    refine z_lload (M := M_X12_times) 22 dX12_times_22 rfl ?_
    refine z_laddN (M := M_X12_times) 24 dX12_times_24 (by omega) (by omega) ?_
    refine z_lstore (M := M_X12_times) 25 dX12_times_25 (ls' := [some (mR 133), some (mI a1), some (mR 125), some (mI a3), some (mI a4), some (mJ l5), none, some (mI l7), some (mJ (x3 + l5)), none]) (by decide) rfl ?_
    refine z_aload_n (M := M_X12_times) 27 dX12_times_27 rfl ?_
    refine z_iload_n (M := M_X12_times) 28 dX12_times_28 rfl ?_
    refine z_iload (M := M_X12_times) 29 dX12_times_29 rfl ?_
    refine z_iaddN (M := M_X12_times) 31 dX12_times_31 (by omega) (by omega) ?_
    refine z_lload (M := M_X12_times) 32 dX12_times_32 rfl ?_
    refine z_ldc2 (M := M_X12_times) 34 dX12_times_34 k_X12_327 ?_
    refine z_lremN (M := M_X12_times) 37 dX12_times_37 (by omega) (by omega) ?_
    refine z_topBJ (lo := 0) (hi := 99999999) ⟨by omega, by omega⟩ (fun x4 ex4 ax4 bx4 => ?_)
    refine z_lastH (M := M_X12_times) 38 dX12_times_38 o_133 (by omega) (by omega) (u_133 G (by omega) (by omega)) (R.up rfl) (fun h1 E1 G1 R1 => ?_)
    refine z_lload (M := M_X12_times) 39 dX12_times_39 rfl ?_
    refine z_ldc2 (M := M_X12_times) 41 dX12_times_41 k_X12_327 ?_
    refine z_ldivN (M := M_X12_times) 44 dX12_times_44 (by omega) (by omega) ?_
    refine z_topBJ (lo := 0) (hi := 198) ⟨by omega, by omega⟩ (fun x5 ex5 ax5 bx5 => ?_)
    refine z_lstore (M := M_X12_times) 45 dX12_times_45 (ls' := [some (mR 133), some (mI a1), some (mR 125), some (mI a3), some (mI a4), some (mJ x5), none, some (mI l7), some (mJ (x3 + l5)), none]) (by decide) rfl ?_
    refine z_iincN (M := M_X12_times) 47 dX12_times_47 (ls' := [some (mR 133), some (mI a1), some (mR 125), some (mI a3), some (mI a4), some (mJ x5), none, some (mI (l7 + 1)), some (mJ (x3 + l5)), none]) (by decide) rfl (by (unfold m_32; decide)) (by omega) (by omega) rfl ?_
    refine z_goto (M := M_X12_times) 50 dX12_times_50 6 rfl ?_
    exact z_mask [true, true, true, true, true, true, false, true, false, false] rfl (ih x5 (l7 + 1) h1 G1 R1 (by omega) (by omega) (by omega) (by omega) (tmI_step (by omega) (by omega) (by omega) i0 (fun j => R 125 j rfl) ex2 ex3 ex4 ex5 E1) (by omega))
theorem a_X12_timesL (h0 : m_H) (a1 a3 a4 : Int) (G0 : GI h0) (pa1 : 0 ≤ a1 ∧ a1 ≤ 0) (pa3 : 0 ≤ a3 ∧ a3 ≤ 75) (pa4 : 0 ≤ a4 ∧ a4 ≤ 199) : ∀ n, q_X12_timesL h0 a1 a3 a4 n := by
  intro n
  induction n with
  | zero => unfold q_X12_timesL; intros; omega
  | succ n ih => exact s_X12_timesL_6 h0 a1 a3 a4 G0 pa1 pa3 pa4 n ih
set_option maxHeartbeats 4000000 in
set_option maxRecDepth 100000 in
theorem c_X12_timesL (h0 : m_H) (a1 a3 a4 : Int) (G0 : GI h0) (pa1 : 0 ≤ a1 ∧ a1 ≤ 0) (pa3 : 0 ≤ a3 ∧ a3 ≤ 75) (pa4 : 0 ≤ a4 ∧ a4 ≤ 199) : m_CV M_X12_times [mR 133, mI a1, mR 125, mI a3, mI a4] h0 (P_X12_timesL h0 a1 a3 a4) := by
  refine m_CV_of ⟨by decide, rfl, by simp [m_arg, m_isL, M_X12_times], ⟨rfl, rfl⟩, rfl, rfl⟩ (ls := [some (mR 133), some (mI a1), some (mR 125), some (mI a3), some (mI a4), none, none, none, none, none]) rfl ?_
  have ih := a_X12_timesL h0 a1 a3 a4 G0 pa1 pa3 pa4 18
  refine z_lconst (M := M_X12_times) 0 dX12_times_0 (v := 0) ?_
  refine z_lstore (M := M_X12_times) 1 dX12_times_1 (ls' := [some (mR 133), some (mI a1), some (mR 125), some (mI a3), some (mI a4), some (mJ 0), none, none, none, none]) (by decide) rfl ?_
  refine z_iconst (M := M_X12_times) 3 dX12_times_3 ?_
  refine z_istore (M := M_X12_times) 4 dX12_times_4 (ls' := [some (mR 133), some (mI a1), some (mR 125), some (mI a3), some (mI a4), some (mJ 0), none, some (mI 0), none, none]) (by decide) rfl ?_
  exact z_mask [true, true, true, true, true, true, false, true, false, false] rfl (ih 0 0 h0 G0 (FR.rf (cs := [133]) (ss := []) (h := h0)) (by omega) (by omega) (by omega) (by omega) tmI_0 (by omega))
abbrev P_X12_product0 (h0 : m_H) (a2 a4 : Int) : m_H → Prop := fun h' => GI h' ∧ FR [115] [] h0 h' ∧ pdO (h' 115) (h0 132) (h0 129) a2 a4 5
def q_X12_product0 (h0 : m_H) (a2 a4 : Int) (n : Nat) : Prop := (∀ (l5 : Int) (h : m_H), GI h → FR [115] [] h0 h → 0 ≤ l5 → l5 ≤ 10 → (∀ j : Nat, (j : Int) < l5 → h 115 j = 0) → 2 * (10 - l5) + (92) ≤ (n : Int) → m_Z oF M_X12_product 3 [some (mR 115), some (mR 132), some (mI a2), some (mR 129), some (mI a4), some (mI l5), none, none, none, none, none] [] h (m_QV (P_X12_product0 h0 a2 a4))) ∧ (∀ (l5 : Int) (h : m_H), GI h → FR [115] [] h0 h → 0 ≤ l5 → l5 ≤ 5 → (pdO (h 115) (h0 132) (h0 129) a2 a4 l5) → 15 * (5 - l5) + (14) ≤ (n : Int) → m_Z oF M_X12_product 24 [some (mR 115), some (mR 132), some (mI a2), some (mR 129), some (mI a4), some (mI l5), none, none, none, none, none] [] h (m_QV (P_X12_product0 h0 a2 a4))) ∧ (∀ (l5 l6 l8 : Int) (h : m_H), GI h → FR [115] [] h0 h → 0 ≤ l5 → l5 ≤ 4 → 0 ≤ l6 → l6 ≤ 99999999 → 0 ≤ l8 → l8 ≤ 5 → (pdI (h 115) (h0 132) (h0 129) a2 a4 l5 l8 l6) → 15 * (5 - l5) + 2 * (5 - l8) + (1) ≤ (n : Int) → m_Z oF M_X12_product 36 [some (mR 115), some (mR 132), some (mI a2), some (mR 129), some (mI a4), some (mI l5), some (mJ l6), none, some (mI l8), none, none] [] h (m_QV (P_X12_product0 h0 a2 a4)))
set_option maxHeartbeats 4000000 in
set_option maxRecDepth 100000 in
theorem s_X12_product0_3 (h0 : m_H) (a2 a4 : Int) (G0 : GI h0) (pa2 : 0 ≤ a2 ∧ a2 ≤ 0) (pa4 : 0 ≤ a4 ∧ a4 ≤ 75) (n : Nat) (ih : q_X12_product0 h0 a2 a4 n) : ∀ (l5 : Int) (h : m_H), GI h → FR [115] [] h0 h → 0 ≤ l5 → l5 ≤ 10 → (∀ j : Nat, (j : Int) < l5 → h 115 j = 0) → 2 * (10 - l5) + (92) ≤ ((n + 1 : Nat) : Int) → m_Z oF M_X12_product 3 [some (mR 115), some (mR 132), some (mI a2), some (mR 129), some (mI a4), some (mI l5), none, none, none, none, none] [] h (m_QV (P_X12_product0 h0 a2 a4)) := by
  intro l5 h G R v0 v1 i0 hr
  refine z_iload (M := M_X12_product) 3 dX12_product_3 rfl ?_
  refine z_bipush (M := M_X12_product) 5 dX12_product_5 ?_
  refine z_icmp_ge (M := M_X12_product) 7 dX12_product_7 21 rfl (fun c1 => ?_) (fun c1 => ?_)
  · refine z_iconst (M := M_X12_product) 21 dX12_product_21 ?_
    refine z_istore (M := M_X12_product) 22 dX12_product_22 (ls' := [some (mR 115), some (mR 132), some (mI a2), some (mR 129), some (mI a4), some (mI 0), none, none, none, none, none]) (by decide) rfl ?_
    exact z_mask [true, true, true, true, true, true, false, false, false, false, false] rfl (ih.2.1 0 h G R (by omega) (by omega) (pdO_0 (by omega) i0) (by omega))
  · refine z_aload_n (M := M_X12_product) 10 dX12_product_10 rfl ?_
    refine z_iload (M := M_X12_product) 11 dX12_product_11 rfl ?_
    refine z_lconst (M := M_X12_product) 13 dX12_product_13 (v := 0) ?_
    refine z_lastH (M := M_X12_product) 14 dX12_product_14 o_115 (by omega) (by omega) (u_115 G) (R.up rfl) (fun h1 E1 G1 R1 => ?_)
    refine z_iincN (M := M_X12_product) 15 dX12_product_15 (ls' := [some (mR 115), some (mR 132), some (mI a2), some (mR 129), some (mI a4), some (mI (l5 + 1)), none, none, none, none, none]) (by decide) rfl (by (unfold m_32; decide)) (by omega) (by omega) rfl ?_
    refine z_goto (M := M_X12_product) 18 dX12_product_18 3 rfl ?_
    exact z_mask [true, true, true, true, true, true, false, false, false, false, false] rfl (ih.1 (l5 + 1) h1 G1 R1 (by omega) (by omega) (pz_step (by omega) i0 E1) (by omega))
set_option maxHeartbeats 4000000 in
set_option maxRecDepth 100000 in
theorem s_X12_product0_24 (h0 : m_H) (a2 a4 : Int) (G0 : GI h0) (pa2 : 0 ≤ a2 ∧ a2 ≤ 0) (pa4 : 0 ≤ a4 ∧ a4 ≤ 75) (n : Nat) (ih : q_X12_product0 h0 a2 a4 n) : ∀ (l5 : Int) (h : m_H), GI h → FR [115] [] h0 h → 0 ≤ l5 → l5 ≤ 5 → (pdO (h 115) (h0 132) (h0 129) a2 a4 l5) → 15 * (5 - l5) + (14) ≤ ((n + 1 : Nat) : Int) → m_Z oF M_X12_product 24 [some (mR 115), some (mR 132), some (mI a2), some (mR 129), some (mI a4), some (mI l5), none, none, none, none, none] [] h (m_QV (P_X12_product0 h0 a2 a4)) := by
  intro l5 h G R v0 v1 i0 hr
  refine z_iload (M := M_X12_product) 24 dX12_product_24 rfl ?_
  refine z_iconst (M := M_X12_product) 26 dX12_product_26 ?_
  refine z_icmp_ge (M := M_X12_product) 27 dX12_product_27 113 rfl (fun c1 => ?_) (fun c1 => ?_)
  · exact z_retV (M := M_X12_product) 113 dX12_product_113 rfl ⟨G, R, (show l5 = 5 by omega) ▸ i0⟩
  · refine z_lconst (M := M_X12_product) 30 dX12_product_30 (v := 0) ?_
    refine z_lstore (M := M_X12_product) 31 dX12_product_31 (ls' := [some (mR 115), some (mR 132), some (mI a2), some (mR 129), some (mI a4), some (mI l5), some (mJ 0), none, none, none, none]) (by decide) rfl ?_
    refine z_iconst (M := M_X12_product) 33 dX12_product_33 ?_
    refine z_istore (M := M_X12_product) 34 dX12_product_34 (ls' := [some (mR 115), some (mR 132), some (mI a2), some (mR 129), some (mI a4), some (mI l5), some (mJ 0), none, some (mI 0), none, none]) (by decide) rfl ?_
    exact z_mask [true, true, true, true, true, true, true, false, true, false, false] rfl (ih.2.2 l5 0 0 h G R (by omega) (by omega) (by omega) (by omega) (by omega) (by omega) (pdI_0 i0) (by omega))
set_option maxHeartbeats 4000000 in
set_option maxRecDepth 100000 in
theorem s_X12_product0_36 (h0 : m_H) (a2 a4 : Int) (G0 : GI h0) (pa2 : 0 ≤ a2 ∧ a2 ≤ 0) (pa4 : 0 ≤ a4 ∧ a4 ≤ 75) (n : Nat) (ih : q_X12_product0 h0 a2 a4 n) : ∀ (l5 l6 l8 : Int) (h : m_H), GI h → FR [115] [] h0 h → 0 ≤ l5 → l5 ≤ 4 → 0 ≤ l6 → l6 ≤ 99999999 → 0 ≤ l8 → l8 ≤ 5 → (pdI (h 115) (h0 132) (h0 129) a2 a4 l5 l8 l6) → 15 * (5 - l5) + 2 * (5 - l8) + (1) ≤ ((n + 1 : Nat) : Int) → m_Z oF M_X12_product 36 [some (mR 115), some (mR 132), some (mI a2), some (mR 129), some (mI a4), some (mI l5), some (mJ l6), none, some (mI l8), none, none] [] h (m_QV (P_X12_product0 h0 a2 a4)) := by
  intro l5 l6 l8 h G R v0 v1 v2 v3 v4 v5 i0 hr
  refine z_iload (M := M_X12_product) 36 dX12_product_36 rfl ?_
  refine z_iconst (M := M_X12_product) 38 dX12_product_38 ?_
  refine z_icmp_ge (M := M_X12_product) 39 dX12_product_39 96 rfl (fun c1 => ?_) (fun c1 => ?_)
  · refine z_aload_n (M := M_X12_product) 96 dX12_product_96 rfl ?_
    refine z_iload (M := M_X12_product) 97 dX12_product_97 rfl ?_
    refine z_iconst (M := M_X12_product) 99 dX12_product_99 ?_
    refine z_iaddN (M := M_X12_product) 100 dX12_product_100 (by omega) (by omega) ?_
    refine z_dup2 (M := M_X12_product) 101 dX12_product_101 rfl rfl ?_
    refine z_laldG (M := M_X12_product) 102 dX12_product_102 o_115 (by omega) (by omega) (i0.1.at (i := (l5 + 5)) (by omega) (by omega)) (fun x2 ex2 ax2 bx2 => ?_)
    refine z_lload (M := M_X12_product) 103 dX12_product_103 rfl ?_
    refine z_laddN (M := M_X12_product) 105 dX12_product_105 (by omega) (by omega) ?_
    refine z_lastH (M := M_X12_product) 106 dX12_product_106 o_115 (by omega) (by omega) (u_115 G) (R.up rfl) (fun h1 E1 G1 R1 => ?_)
    refine z_iincN (M := M_X12_product) 107 dX12_product_107 (ls' := [some (mR 115), some (mR 132), some (mI a2), some (mR 129), some (mI a4), some (mI (l5 + 1)), some (mJ l6), none, some (mI l8), none, none]) (by decide) rfl (by (unfold m_32; decide)) (by omega) (by omega) rfl ?_
    refine z_goto (M := M_X12_product) 110 dX12_product_110 24 rfl ?_
    exact z_mask [true, true, true, true, true, true, false, false, false, false, false] rfl (ih.2.1 (l5 + 1) h1 G1 R1 (by omega) (by omega) (pdO_step (by omega) (by omega) (by omega) i0 ex2 ⟨by omega, by omega⟩ E1) (by omega))
  · refine z_aload_n (M := M_X12_product) 42 dX12_product_42 rfl ?_
    refine z_iload (M := M_X12_product) 43 dX12_product_43 rfl ?_
    refine z_iload (M := M_X12_product) 45 dX12_product_45 rfl ?_
    refine z_iaddN (M := M_X12_product) 47 dX12_product_47 (by omega) (by omega) ?_
    refine z_laldG (M := M_X12_product) 48 dX12_product_48 o_115 (by omega) (by omega) (i0.1.at (i := (l5 + l8)) (by omega) (by omega)) (fun x3 ex3 ax3 bx3 => ?_)
    refine z_aload_n (M := M_X12_product) 49 dX12_product_49 rfl ?_
    refine z_iload_n (M := M_X12_product) 50 dX12_product_50 rfl ?_
    refine z_iload (M := M_X12_product) 51 dX12_product_51 rfl ?_
    refine z_iaddN (M := M_X12_product) 53 dX12_product_53 (by omega) (by omega) ?_
    refine z_laldG (M := M_X12_product) 54 dX12_product_54 o_132 (by omega) (by omega) (g_132 G (by omega)) (fun x4 ex4 ax4 bx4 => ?_)
    refine z_aload_n (M := M_X12_product) 55 dX12_product_55 rfl ?_
    refine z_iload (M := M_X12_product) 56 dX12_product_56 rfl ?_
    refine z_iload (M := M_X12_product) 58 dX12_product_58 rfl ?_
    refine z_iaddN (M := M_X12_product) 60 dX12_product_60 (by omega) (by omega) ?_
    refine z_laldG (M := M_X12_product) 61 dX12_product_61 o_129 (by omega) (by omega) (g_129 G (by omega)) (fun x5 ex5 ax5 bx5 => ?_)
    have mx6 := mul_bd (x := x4) (y := x5) (X := 99999999) (Y := 99999999) (by omega) (by omega) (by omega) (by omega)
    refine z_lmulN (M := M_X12_product) 62 dX12_product_62 (by omega) (by omega) ?_
    refine z_topBJ (lo := 0) (hi := 9999999800000001) ⟨by omega, by omega⟩ (fun x6 ex6 ax6 bx6 => ?_)
    refine z_laddN (M := M_X12_product) 63 dX12_product_63 (by omega) (by omega) ?_
    refine z_lload (M := M_X12_product) 64 dX12_product_64 rfl ?_
    refine z_laddN (M := M_X12_product) 66 dX12_product_66 (by omega) (by omega) ?_
    refine z_lstore (M := M_X12_product) 67 dX12_product_67 (ls' := [some (mR 115), some (mR 132), some (mI a2), some (mR 129), some (mI a4), some (mI l5), some (mJ l6), none, some (mI l8), some (mJ ((x3 + x6) + l6)), none]) (by decide) rfl ?_
    refine z_aload_n (M := M_X12_product) 69 dX12_product_69 rfl ?_
    refine z_iload (M := M_X12_product) 70 dX12_product_70 rfl ?_
    refine z_iload (M := M_X12_product) 72 dX12_product_72 rfl ?_
    refine z_iaddN (M := M_X12_product) 74 dX12_product_74 (by omega) (by omega) ?_
    refine z_lload (M := M_X12_product) 75 dX12_product_75 rfl ?_
    refine z_ldc2 (M := M_X12_product) 77 dX12_product_77 k_X12_327 ?_
    refine z_lremN (M := M_X12_product) 80 dX12_product_80 (by omega) (by omega) ?_
    refine z_topBJ (lo := 0) (hi := 99999999) ⟨by omega, by omega⟩ (fun x7 ex7 ax7 bx7 => ?_)
    refine z_lastH (M := M_X12_product) 81 dX12_product_81 o_115 (by omega) (by omega) (u_115 G) (R.up rfl) (fun h2 E2 G2 R2 => ?_)
    refine z_lload (M := M_X12_product) 82 dX12_product_82 rfl ?_
    refine z_ldc2 (M := M_X12_product) 84 dX12_product_84 k_X12_327 ?_
    refine z_ldivN (M := M_X12_product) 87 dX12_product_87 (by omega) (by omega) ?_
    refine z_topBJ (lo := 0) (hi := 99999999) ⟨by omega, by omega⟩ (fun x8 ex8 ax8 bx8 => ?_)
    refine z_lstore (M := M_X12_product) 88 dX12_product_88 (ls' := [some (mR 115), some (mR 132), some (mI a2), some (mR 129), some (mI a4), some (mI l5), some (mJ x8), none, some (mI l8), some (mJ ((x3 + x6) + l6)), none]) (by decide) rfl ?_
    refine z_iincN (M := M_X12_product) 90 dX12_product_90 (ls' := [some (mR 115), some (mR 132), some (mI a2), some (mR 129), some (mI a4), some (mI l5), some (mJ x8), none, some (mI (l8 + 1)), some (mJ ((x3 + x6) + l6)), none]) (by decide) rfl (by (unfold m_32; decide)) (by omega) (by omega) rfl ?_
    refine z_goto (M := M_X12_product) 93 dX12_product_93 36 rfl ?_
    exact z_mask [true, true, true, true, true, true, true, false, true, false, false] rfl (ih.2.2 l5 x8 (l8 + 1) h2 G2 R2 (by omega) (by omega) (by omega) (by omega) (by omega) (by omega) (pdI_step (by omega) (by omega) (by omega) (by omega) (by omega) (by omega) i0 ex3 ((R 132 _ rfl).symm.trans ex4) ((R 129 _ rfl).symm.trans ex5) ex6 ex7 ex8 ⟨by omega, by omega⟩ E2) (by omega))
theorem a_X12_product0 (h0 : m_H) (a2 a4 : Int) (G0 : GI h0) (pa2 : 0 ≤ a2 ∧ a2 ≤ 0) (pa4 : 0 ≤ a4 ∧ a4 ≤ 75) : ∀ n, q_X12_product0 h0 a2 a4 n := by
  intro n
  induction n with
  | zero => unfold q_X12_product0; refine ⟨?_, ?_, ?_⟩ <;> (intros; omega)
  | succ n ih => exact ⟨s_X12_product0_3 h0 a2 a4 G0 pa2 pa4 n ih, s_X12_product0_24 h0 a2 a4 G0 pa2 pa4 n ih, s_X12_product0_36 h0 a2 a4 G0 pa2 pa4 n ih⟩
set_option maxHeartbeats 4000000 in
set_option maxRecDepth 100000 in
theorem c_X12_product0 (h0 : m_H) (a2 a4 : Int) (G0 : GI h0) (pa2 : 0 ≤ a2 ∧ a2 ≤ 0) (pa4 : 0 ≤ a4 ∧ a4 ≤ 75) : m_CV M_X12_product [mR 115, mR 132, mI a2, mR 129, mI a4] h0 (P_X12_product0 h0 a2 a4) := by
  refine m_CV_of ⟨by decide, rfl, by simp [m_arg, m_isL, M_X12_product], ⟨rfl, rfl⟩, rfl, rfl⟩ (ls := [some (mR 115), some (mR 132), some (mI a2), some (mR 129), some (mI a4), none, none, none, none, none, none]) rfl ?_
  have ih := a_X12_product0 h0 a2 a4 G0 pa2 pa4 119
  refine z_iconst (M := M_X12_product) 0 dX12_product_0 ?_
  refine z_istore (M := M_X12_product) 1 dX12_product_1 (ls' := [some (mR 115), some (mR 132), some (mI a2), some (mR 129), some (mI a4), some (mI 0), none, none, none, none, none]) (by decide) rfl ?_
  exact z_mask [true, true, true, true, true, true, false, false, false, false, false] rfl (ih.1 0 h0 G0 (FR.rf (cs := [115]) (ss := []) (h := h0)) (by omega) (by omega) (fun j hj => by omega) (by omega))
abbrev P_X12_product1 (h0 : m_H) (a2 a4 : Int) : m_H → Prop := fun h' => GI h' ∧ FR [116] [] h0 h' ∧ pdO (h' 116) (h0 128) (h0 133) a2 a4 5
def q_X12_product1 (h0 : m_H) (a2 a4 : Int) (n : Nat) : Prop := (∀ (l5 : Int) (h : m_H), GI h → FR [116] [] h0 h → 0 ≤ l5 → l5 ≤ 10 → (∀ j : Nat, (j : Int) < l5 → h 116 j = 0) → 2 * (10 - l5) + (92) ≤ (n : Int) → m_Z oF M_X12_product 3 [some (mR 116), some (mR 128), some (mI a2), some (mR 133), some (mI a4), some (mI l5), none, none, none, none, none] [] h (m_QV (P_X12_product1 h0 a2 a4))) ∧ (∀ (l5 : Int) (h : m_H), GI h → FR [116] [] h0 h → 0 ≤ l5 → l5 ≤ 5 → (pdO (h 116) (h0 128) (h0 133) a2 a4 l5) → 15 * (5 - l5) + (14) ≤ (n : Int) → m_Z oF M_X12_product 24 [some (mR 116), some (mR 128), some (mI a2), some (mR 133), some (mI a4), some (mI l5), none, none, none, none, none] [] h (m_QV (P_X12_product1 h0 a2 a4))) ∧ (∀ (l5 l6 l8 : Int) (h : m_H), GI h → FR [116] [] h0 h → 0 ≤ l5 → l5 ≤ 4 → 0 ≤ l6 → l6 ≤ 99999999 → 0 ≤ l8 → l8 ≤ 5 → (pdI (h 116) (h0 128) (h0 133) a2 a4 l5 l8 l6) → 15 * (5 - l5) + 2 * (5 - l8) + (1) ≤ (n : Int) → m_Z oF M_X12_product 36 [some (mR 116), some (mR 128), some (mI a2), some (mR 133), some (mI a4), some (mI l5), some (mJ l6), none, some (mI l8), none, none] [] h (m_QV (P_X12_product1 h0 a2 a4)))
set_option maxHeartbeats 4000000 in
set_option maxRecDepth 100000 in
theorem s_X12_product1_3 (h0 : m_H) (a2 a4 : Int) (G0 : GI h0) (pa2 : 0 ≤ a2 ∧ a2 ≤ 75) (pa4 : 0 ≤ a4 ∧ a4 ≤ 0) (n : Nat) (ih : q_X12_product1 h0 a2 a4 n) : ∀ (l5 : Int) (h : m_H), GI h → FR [116] [] h0 h → 0 ≤ l5 → l5 ≤ 10 → (∀ j : Nat, (j : Int) < l5 → h 116 j = 0) → 2 * (10 - l5) + (92) ≤ ((n + 1 : Nat) : Int) → m_Z oF M_X12_product 3 [some (mR 116), some (mR 128), some (mI a2), some (mR 133), some (mI a4), some (mI l5), none, none, none, none, none] [] h (m_QV (P_X12_product1 h0 a2 a4)) := by
  intro l5 h G R v0 v1 i0 hr
  refine z_iload (M := M_X12_product) 3 dX12_product_3 rfl ?_
  refine z_bipush (M := M_X12_product) 5 dX12_product_5 ?_
  refine z_icmp_ge (M := M_X12_product) 7 dX12_product_7 21 rfl (fun c1 => ?_) (fun c1 => ?_)
  · refine z_iconst (M := M_X12_product) 21 dX12_product_21 ?_
    refine z_istore (M := M_X12_product) 22 dX12_product_22 (ls' := [some (mR 116), some (mR 128), some (mI a2), some (mR 133), some (mI a4), some (mI 0), none, none, none, none, none]) (by decide) rfl ?_
    exact z_mask [true, true, true, true, true, true, false, false, false, false, false] rfl (ih.2.1 0 h G R (by omega) (by omega) (pdO_0 (by omega) i0) (by omega))
  · refine z_aload_n (M := M_X12_product) 10 dX12_product_10 rfl ?_
    refine z_iload (M := M_X12_product) 11 dX12_product_11 rfl ?_
    refine z_lconst (M := M_X12_product) 13 dX12_product_13 (v := 0) ?_
    refine z_lastH (M := M_X12_product) 14 dX12_product_14 o_116 (by omega) (by omega) (u_116 G) (R.up rfl) (fun h1 E1 G1 R1 => ?_)
    refine z_iincN (M := M_X12_product) 15 dX12_product_15 (ls' := [some (mR 116), some (mR 128), some (mI a2), some (mR 133), some (mI a4), some (mI (l5 + 1)), none, none, none, none, none]) (by decide) rfl (by (unfold m_32; decide)) (by omega) (by omega) rfl ?_
    refine z_goto (M := M_X12_product) 18 dX12_product_18 3 rfl ?_
    exact z_mask [true, true, true, true, true, true, false, false, false, false, false] rfl (ih.1 (l5 + 1) h1 G1 R1 (by omega) (by omega) (pz_step (by omega) i0 E1) (by omega))
set_option maxHeartbeats 4000000 in
set_option maxRecDepth 100000 in
theorem s_X12_product1_24 (h0 : m_H) (a2 a4 : Int) (G0 : GI h0) (pa2 : 0 ≤ a2 ∧ a2 ≤ 75) (pa4 : 0 ≤ a4 ∧ a4 ≤ 0) (n : Nat) (ih : q_X12_product1 h0 a2 a4 n) : ∀ (l5 : Int) (h : m_H), GI h → FR [116] [] h0 h → 0 ≤ l5 → l5 ≤ 5 → (pdO (h 116) (h0 128) (h0 133) a2 a4 l5) → 15 * (5 - l5) + (14) ≤ ((n + 1 : Nat) : Int) → m_Z oF M_X12_product 24 [some (mR 116), some (mR 128), some (mI a2), some (mR 133), some (mI a4), some (mI l5), none, none, none, none, none] [] h (m_QV (P_X12_product1 h0 a2 a4)) := by
  intro l5 h G R v0 v1 i0 hr
  refine z_iload (M := M_X12_product) 24 dX12_product_24 rfl ?_
  refine z_iconst (M := M_X12_product) 26 dX12_product_26 ?_
  refine z_icmp_ge (M := M_X12_product) 27 dX12_product_27 113 rfl (fun c1 => ?_) (fun c1 => ?_)
  · exact z_retV (M := M_X12_product) 113 dX12_product_113 rfl ⟨G, R, (show l5 = 5 by omega) ▸ i0⟩
  · refine z_lconst (M := M_X12_product) 30 dX12_product_30 (v := 0) ?_
    refine z_lstore (M := M_X12_product) 31 dX12_product_31 (ls' := [some (mR 116), some (mR 128), some (mI a2), some (mR 133), some (mI a4), some (mI l5), some (mJ 0), none, none, none, none]) (by decide) rfl ?_
    refine z_iconst (M := M_X12_product) 33 dX12_product_33 ?_
    refine z_istore (M := M_X12_product) 34 dX12_product_34 (ls' := [some (mR 116), some (mR 128), some (mI a2), some (mR 133), some (mI a4), some (mI l5), some (mJ 0), none, some (mI 0), none, none]) (by decide) rfl ?_
    exact z_mask [true, true, true, true, true, true, true, false, true, false, false] rfl (ih.2.2 l5 0 0 h G R (by omega) (by omega) (by omega) (by omega) (by omega) (by omega) (pdI_0 i0) (by omega))
set_option maxHeartbeats 4000000 in
set_option maxRecDepth 100000 in
theorem s_X12_product1_36 (h0 : m_H) (a2 a4 : Int) (G0 : GI h0) (pa2 : 0 ≤ a2 ∧ a2 ≤ 75) (pa4 : 0 ≤ a4 ∧ a4 ≤ 0) (n : Nat) (ih : q_X12_product1 h0 a2 a4 n) : ∀ (l5 l6 l8 : Int) (h : m_H), GI h → FR [116] [] h0 h → 0 ≤ l5 → l5 ≤ 4 → 0 ≤ l6 → l6 ≤ 99999999 → 0 ≤ l8 → l8 ≤ 5 → (pdI (h 116) (h0 128) (h0 133) a2 a4 l5 l8 l6) → 15 * (5 - l5) + 2 * (5 - l8) + (1) ≤ ((n + 1 : Nat) : Int) → m_Z oF M_X12_product 36 [some (mR 116), some (mR 128), some (mI a2), some (mR 133), some (mI a4), some (mI l5), some (mJ l6), none, some (mI l8), none, none] [] h (m_QV (P_X12_product1 h0 a2 a4)) := by
  intro l5 l6 l8 h G R v0 v1 v2 v3 v4 v5 i0 hr
  refine z_iload (M := M_X12_product) 36 dX12_product_36 rfl ?_
  refine z_iconst (M := M_X12_product) 38 dX12_product_38 ?_
  refine z_icmp_ge (M := M_X12_product) 39 dX12_product_39 96 rfl (fun c1 => ?_) (fun c1 => ?_)
  · refine z_aload_n (M := M_X12_product) 96 dX12_product_96 rfl ?_
    refine z_iload (M := M_X12_product) 97 dX12_product_97 rfl ?_
    refine z_iconst (M := M_X12_product) 99 dX12_product_99 ?_
    refine z_iaddN (M := M_X12_product) 100 dX12_product_100 (by omega) (by omega) ?_
    refine z_dup2 (M := M_X12_product) 101 dX12_product_101 rfl rfl ?_
    refine z_laldG (M := M_X12_product) 102 dX12_product_102 o_116 (by omega) (by omega) (i0.1.at (i := (l5 + 5)) (by omega) (by omega)) (fun x2 ex2 ax2 bx2 => ?_)
    refine z_lload (M := M_X12_product) 103 dX12_product_103 rfl ?_
    refine z_laddN (M := M_X12_product) 105 dX12_product_105 (by omega) (by omega) ?_
    refine z_lastH (M := M_X12_product) 106 dX12_product_106 o_116 (by omega) (by omega) (u_116 G) (R.up rfl) (fun h1 E1 G1 R1 => ?_)
    refine z_iincN (M := M_X12_product) 107 dX12_product_107 (ls' := [some (mR 116), some (mR 128), some (mI a2), some (mR 133), some (mI a4), some (mI (l5 + 1)), some (mJ l6), none, some (mI l8), none, none]) (by decide) rfl (by (unfold m_32; decide)) (by omega) (by omega) rfl ?_
    refine z_goto (M := M_X12_product) 110 dX12_product_110 24 rfl ?_
    exact z_mask [true, true, true, true, true, true, false, false, false, false, false] rfl (ih.2.1 (l5 + 1) h1 G1 R1 (by omega) (by omega) (pdO_step (by omega) (by omega) (by omega) i0 ex2 ⟨by omega, by omega⟩ E1) (by omega))
  · refine z_aload_n (M := M_X12_product) 42 dX12_product_42 rfl ?_
    refine z_iload (M := M_X12_product) 43 dX12_product_43 rfl ?_
    refine z_iload (M := M_X12_product) 45 dX12_product_45 rfl ?_
    refine z_iaddN (M := M_X12_product) 47 dX12_product_47 (by omega) (by omega) ?_
    refine z_laldG (M := M_X12_product) 48 dX12_product_48 o_116 (by omega) (by omega) (i0.1.at (i := (l5 + l8)) (by omega) (by omega)) (fun x3 ex3 ax3 bx3 => ?_)
    refine z_aload_n (M := M_X12_product) 49 dX12_product_49 rfl ?_
    refine z_iload_n (M := M_X12_product) 50 dX12_product_50 rfl ?_
    refine z_iload (M := M_X12_product) 51 dX12_product_51 rfl ?_
    refine z_iaddN (M := M_X12_product) 53 dX12_product_53 (by omega) (by omega) ?_
    refine z_laldG (M := M_X12_product) 54 dX12_product_54 o_128 (by omega) (by omega) (g_128 G (by omega)) (fun x4 ex4 ax4 bx4 => ?_)
    refine z_aload_n (M := M_X12_product) 55 dX12_product_55 rfl ?_
    refine z_iload (M := M_X12_product) 56 dX12_product_56 rfl ?_
    refine z_iload (M := M_X12_product) 58 dX12_product_58 rfl ?_
    refine z_iaddN (M := M_X12_product) 60 dX12_product_60 (by omega) (by omega) ?_
    refine z_laldG (M := M_X12_product) 61 dX12_product_61 o_133 (by omega) (by omega) (g_133 G (by omega)) (fun x5 ex5 ax5 bx5 => ?_)
    have mx6 := mul_bd (x := x4) (y := x5) (X := 99999999) (Y := 99999999) (by omega) (by omega) (by omega) (by omega)
    refine z_lmulN (M := M_X12_product) 62 dX12_product_62 (by omega) (by omega) ?_
    refine z_topBJ (lo := 0) (hi := 9999999800000001) ⟨by omega, by omega⟩ (fun x6 ex6 ax6 bx6 => ?_)
    refine z_laddN (M := M_X12_product) 63 dX12_product_63 (by omega) (by omega) ?_
    refine z_lload (M := M_X12_product) 64 dX12_product_64 rfl ?_
    refine z_laddN (M := M_X12_product) 66 dX12_product_66 (by omega) (by omega) ?_
    refine z_lstore (M := M_X12_product) 67 dX12_product_67 (ls' := [some (mR 116), some (mR 128), some (mI a2), some (mR 133), some (mI a4), some (mI l5), some (mJ l6), none, some (mI l8), some (mJ ((x3 + x6) + l6)), none]) (by decide) rfl ?_
    refine z_aload_n (M := M_X12_product) 69 dX12_product_69 rfl ?_
    refine z_iload (M := M_X12_product) 70 dX12_product_70 rfl ?_
    refine z_iload (M := M_X12_product) 72 dX12_product_72 rfl ?_
    refine z_iaddN (M := M_X12_product) 74 dX12_product_74 (by omega) (by omega) ?_
    refine z_lload (M := M_X12_product) 75 dX12_product_75 rfl ?_
    refine z_ldc2 (M := M_X12_product) 77 dX12_product_77 k_X12_327 ?_
    refine z_lremN (M := M_X12_product) 80 dX12_product_80 (by omega) (by omega) ?_
    refine z_topBJ (lo := 0) (hi := 99999999) ⟨by omega, by omega⟩ (fun x7 ex7 ax7 bx7 => ?_)
    refine z_lastH (M := M_X12_product) 81 dX12_product_81 o_116 (by omega) (by omega) (u_116 G) (R.up rfl) (fun h2 E2 G2 R2 => ?_)
    refine z_lload (M := M_X12_product) 82 dX12_product_82 rfl ?_
    refine z_ldc2 (M := M_X12_product) 84 dX12_product_84 k_X12_327 ?_
    refine z_ldivN (M := M_X12_product) 87 dX12_product_87 (by omega) (by omega) ?_
    refine z_topBJ (lo := 0) (hi := 99999999) ⟨by omega, by omega⟩ (fun x8 ex8 ax8 bx8 => ?_)
    refine z_lstore (M := M_X12_product) 88 dX12_product_88 (ls' := [some (mR 116), some (mR 128), some (mI a2), some (mR 133), some (mI a4), some (mI l5), some (mJ x8), none, some (mI l8), some (mJ ((x3 + x6) + l6)), none]) (by decide) rfl ?_
    refine z_iincN (M := M_X12_product) 90 dX12_product_90 (ls' := [some (mR 116), some (mR 128), some (mI a2), some (mR 133), some (mI a4), some (mI l5), some (mJ x8), none, some (mI (l8 + 1)), some (mJ ((x3 + x6) + l6)), none]) (by decide) rfl (by (unfold m_32; decide)) (by omega) (by omega) rfl ?_
    refine z_goto (M := M_X12_product) 93 dX12_product_93 36 rfl ?_
    exact z_mask [true, true, true, true, true, true, true, false, true, false, false] rfl (ih.2.2 l5 x8 (l8 + 1) h2 G2 R2 (by omega) (by omega) (by omega) (by omega) (by omega) (by omega) (pdI_step (by omega) (by omega) (by omega) (by omega) (by omega) (by omega) i0 ex3 ((R 128 _ rfl).symm.trans ex4) ((R 133 _ rfl).symm.trans ex5) ex6 ex7 ex8 ⟨by omega, by omega⟩ E2) (by omega))
theorem a_X12_product1 (h0 : m_H) (a2 a4 : Int) (G0 : GI h0) (pa2 : 0 ≤ a2 ∧ a2 ≤ 75) (pa4 : 0 ≤ a4 ∧ a4 ≤ 0) : ∀ n, q_X12_product1 h0 a2 a4 n := by
  intro n
  induction n with
  | zero => unfold q_X12_product1; refine ⟨?_, ?_, ?_⟩ <;> (intros; omega)
  | succ n ih => exact ⟨s_X12_product1_3 h0 a2 a4 G0 pa2 pa4 n ih, s_X12_product1_24 h0 a2 a4 G0 pa2 pa4 n ih, s_X12_product1_36 h0 a2 a4 G0 pa2 pa4 n ih⟩
set_option maxHeartbeats 4000000 in
set_option maxRecDepth 100000 in
theorem c_X12_product1 (h0 : m_H) (a2 a4 : Int) (G0 : GI h0) (pa2 : 0 ≤ a2 ∧ a2 ≤ 75) (pa4 : 0 ≤ a4 ∧ a4 ≤ 0) : m_CV M_X12_product [mR 116, mR 128, mI a2, mR 133, mI a4] h0 (P_X12_product1 h0 a2 a4) := by
  refine m_CV_of ⟨by decide, rfl, by simp [m_arg, m_isL, M_X12_product], ⟨rfl, rfl⟩, rfl, rfl⟩ (ls := [some (mR 116), some (mR 128), some (mI a2), some (mR 133), some (mI a4), none, none, none, none, none, none]) rfl ?_
  have ih := a_X12_product1 h0 a2 a4 G0 pa2 pa4 119
  refine z_iconst (M := M_X12_product) 0 dX12_product_0 ?_
  refine z_istore (M := M_X12_product) 1 dX12_product_1 (ls' := [some (mR 116), some (mR 128), some (mI a2), some (mR 133), some (mI a4), some (mI 0), none, none, none, none, none]) (by decide) rfl ?_
  exact z_mask [true, true, true, true, true, true, false, false, false, false, false] rfl (ih.1 0 h0 G0 (FR.rf (cs := [116]) (ss := []) (h := h0)) (by omega) (by omega) (fun j hj => by omega) (by omega))
abbrev P_X12_product2 (h0 : m_H) (a2 a4 : Int) : m_H → Prop := fun h' => GI h' ∧ FR [115] [] h0 h' ∧ pdO (h' 115) (h0 132) (h0 125) a2 a4 5
def q_X12_product2 (h0 : m_H) (a2 a4 : Int) (n : Nat) : Prop := (∀ (l5 : Int) (h : m_H), GI h → FR [115] [] h0 h → 0 ≤ l5 → l5 ≤ 10 → (∀ j : Nat, (j : Int) < l5 → h 115 j = 0) → 2 * (10 - l5) + (92) ≤ (n : Int) → m_Z oF M_X12_product 3 [some (mR 115), some (mR 132), some (mI a2), some (mR 125), some (mI a4), some (mI l5), none, none, none, none, none] [] h (m_QV (P_X12_product2 h0 a2 a4))) ∧ (∀ (l5 : Int) (h : m_H), GI h → FR [115] [] h0 h → 0 ≤ l5 → l5 ≤ 5 → (pdO (h 115) (h0 132) (h0 125) a2 a4 l5) → 15 * (5 - l5) + (14) ≤ (n : Int) → m_Z oF M_X12_product 24 [some (mR 115), some (mR 132), some (mI a2), some (mR 125), some (mI a4), some (mI l5), none, none, none, none, none] [] h (m_QV (P_X12_product2 h0 a2 a4))) ∧ (∀ (l5 l6 l8 : Int) (h : m_H), GI h → FR [115] [] h0 h → 0 ≤ l5 → l5 ≤ 4 → 0 ≤ l6 → l6 ≤ 99999999 → 0 ≤ l8 → l8 ≤ 5 → (pdI (h 115) (h0 132) (h0 125) a2 a4 l5 l8 l6) → 15 * (5 - l5) + 2 * (5 - l8) + (1) ≤ (n : Int) → m_Z oF M_X12_product 36 [some (mR 115), some (mR 132), some (mI a2), some (mR 125), some (mI a4), some (mI l5), some (mJ l6), none, some (mI l8), none, none] [] h (m_QV (P_X12_product2 h0 a2 a4)))
set_option maxHeartbeats 4000000 in
set_option maxRecDepth 100000 in
theorem s_X12_product2_3 (h0 : m_H) (a2 a4 : Int) (G0 : GI h0) (pa2 : 0 ≤ a2 ∧ a2 ≤ 0) (pa4 : 0 ≤ a4 ∧ a4 ≤ 75) (n : Nat) (ih : q_X12_product2 h0 a2 a4 n) : ∀ (l5 : Int) (h : m_H), GI h → FR [115] [] h0 h → 0 ≤ l5 → l5 ≤ 10 → (∀ j : Nat, (j : Int) < l5 → h 115 j = 0) → 2 * (10 - l5) + (92) ≤ ((n + 1 : Nat) : Int) → m_Z oF M_X12_product 3 [some (mR 115), some (mR 132), some (mI a2), some (mR 125), some (mI a4), some (mI l5), none, none, none, none, none] [] h (m_QV (P_X12_product2 h0 a2 a4)) := by
  intro l5 h G R v0 v1 i0 hr
  refine z_iload (M := M_X12_product) 3 dX12_product_3 rfl ?_
  refine z_bipush (M := M_X12_product) 5 dX12_product_5 ?_
  refine z_icmp_ge (M := M_X12_product) 7 dX12_product_7 21 rfl (fun c1 => ?_) (fun c1 => ?_)
  · refine z_iconst (M := M_X12_product) 21 dX12_product_21 ?_
    refine z_istore (M := M_X12_product) 22 dX12_product_22 (ls' := [some (mR 115), some (mR 132), some (mI a2), some (mR 125), some (mI a4), some (mI 0), none, none, none, none, none]) (by decide) rfl ?_
    exact z_mask [true, true, true, true, true, true, false, false, false, false, false] rfl (ih.2.1 0 h G R (by omega) (by omega) (pdO_0 (by omega) i0) (by omega))
  · refine z_aload_n (M := M_X12_product) 10 dX12_product_10 rfl ?_
    refine z_iload (M := M_X12_product) 11 dX12_product_11 rfl ?_
    refine z_lconst (M := M_X12_product) 13 dX12_product_13 (v := 0) ?_
    refine z_lastH (M := M_X12_product) 14 dX12_product_14 o_115 (by omega) (by omega) (u_115 G) (R.up rfl) (fun h1 E1 G1 R1 => ?_)
    refine z_iincN (M := M_X12_product) 15 dX12_product_15 (ls' := [some (mR 115), some (mR 132), some (mI a2), some (mR 125), some (mI a4), some (mI (l5 + 1)), none, none, none, none, none]) (by decide) rfl (by (unfold m_32; decide)) (by omega) (by omega) rfl ?_
    refine z_goto (M := M_X12_product) 18 dX12_product_18 3 rfl ?_
    exact z_mask [true, true, true, true, true, true, false, false, false, false, false] rfl (ih.1 (l5 + 1) h1 G1 R1 (by omega) (by omega) (pz_step (by omega) i0 E1) (by omega))
set_option maxHeartbeats 4000000 in
set_option maxRecDepth 100000 in
theorem s_X12_product2_24 (h0 : m_H) (a2 a4 : Int) (G0 : GI h0) (pa2 : 0 ≤ a2 ∧ a2 ≤ 0) (pa4 : 0 ≤ a4 ∧ a4 ≤ 75) (n : Nat) (ih : q_X12_product2 h0 a2 a4 n) : ∀ (l5 : Int) (h : m_H), GI h → FR [115] [] h0 h → 0 ≤ l5 → l5 ≤ 5 → (pdO (h 115) (h0 132) (h0 125) a2 a4 l5) → 15 * (5 - l5) + (14) ≤ ((n + 1 : Nat) : Int) → m_Z oF M_X12_product 24 [some (mR 115), some (mR 132), some (mI a2), some (mR 125), some (mI a4), some (mI l5), none, none, none, none, none] [] h (m_QV (P_X12_product2 h0 a2 a4)) := by
  intro l5 h G R v0 v1 i0 hr
  refine z_iload (M := M_X12_product) 24 dX12_product_24 rfl ?_
  refine z_iconst (M := M_X12_product) 26 dX12_product_26 ?_
  refine z_icmp_ge (M := M_X12_product) 27 dX12_product_27 113 rfl (fun c1 => ?_) (fun c1 => ?_)
  · exact z_retV (M := M_X12_product) 113 dX12_product_113 rfl ⟨G, R, (show l5 = 5 by omega) ▸ i0⟩
  · refine z_lconst (M := M_X12_product) 30 dX12_product_30 (v := 0) ?_
    refine z_lstore (M := M_X12_product) 31 dX12_product_31 (ls' := [some (mR 115), some (mR 132), some (mI a2), some (mR 125), some (mI a4), some (mI l5), some (mJ 0), none, none, none, none]) (by decide) rfl ?_
    refine z_iconst (M := M_X12_product) 33 dX12_product_33 ?_
    refine z_istore (M := M_X12_product) 34 dX12_product_34 (ls' := [some (mR 115), some (mR 132), some (mI a2), some (mR 125), some (mI a4), some (mI l5), some (mJ 0), none, some (mI 0), none, none]) (by decide) rfl ?_
    exact z_mask [true, true, true, true, true, true, true, false, true, false, false] rfl (ih.2.2 l5 0 0 h G R (by omega) (by omega) (by omega) (by omega) (by omega) (by omega) (pdI_0 i0) (by omega))
set_option maxHeartbeats 4000000 in
set_option maxRecDepth 100000 in
theorem s_X12_product2_36 (h0 : m_H) (a2 a4 : Int) (G0 : GI h0) (pa2 : 0 ≤ a2 ∧ a2 ≤ 0) (pa4 : 0 ≤ a4 ∧ a4 ≤ 75) (n : Nat) (ih : q_X12_product2 h0 a2 a4 n) : ∀ (l5 l6 l8 : Int) (h : m_H), GI h → FR [115] [] h0 h → 0 ≤ l5 → l5 ≤ 4 → 0 ≤ l6 → l6 ≤ 99999999 → 0 ≤ l8 → l8 ≤ 5 → (pdI (h 115) (h0 132) (h0 125) a2 a4 l5 l8 l6) → 15 * (5 - l5) + 2 * (5 - l8) + (1) ≤ ((n + 1 : Nat) : Int) → m_Z oF M_X12_product 36 [some (mR 115), some (mR 132), some (mI a2), some (mR 125), some (mI a4), some (mI l5), some (mJ l6), none, some (mI l8), none, none] [] h (m_QV (P_X12_product2 h0 a2 a4)) := by
  intro l5 l6 l8 h G R v0 v1 v2 v3 v4 v5 i0 hr
  refine z_iload (M := M_X12_product) 36 dX12_product_36 rfl ?_
  refine z_iconst (M := M_X12_product) 38 dX12_product_38 ?_
  refine z_icmp_ge (M := M_X12_product) 39 dX12_product_39 96 rfl (fun c1 => ?_) (fun c1 => ?_)
  · refine z_aload_n (M := M_X12_product) 96 dX12_product_96 rfl ?_
    refine z_iload (M := M_X12_product) 97 dX12_product_97 rfl ?_
    refine z_iconst (M := M_X12_product) 99 dX12_product_99 ?_
    refine z_iaddN (M := M_X12_product) 100 dX12_product_100 (by omega) (by omega) ?_
    refine z_dup2 (M := M_X12_product) 101 dX12_product_101 rfl rfl ?_
    refine z_laldG (M := M_X12_product) 102 dX12_product_102 o_115 (by omega) (by omega) (i0.1.at (i := (l5 + 5)) (by omega) (by omega)) (fun x2 ex2 ax2 bx2 => ?_)
    refine z_lload (M := M_X12_product) 103 dX12_product_103 rfl ?_
    refine z_laddN (M := M_X12_product) 105 dX12_product_105 (by omega) (by omega) ?_
    refine z_lastH (M := M_X12_product) 106 dX12_product_106 o_115 (by omega) (by omega) (u_115 G) (R.up rfl) (fun h1 E1 G1 R1 => ?_)
    refine z_iincN (M := M_X12_product) 107 dX12_product_107 (ls' := [some (mR 115), some (mR 132), some (mI a2), some (mR 125), some (mI a4), some (mI (l5 + 1)), some (mJ l6), none, some (mI l8), none, none]) (by decide) rfl (by (unfold m_32; decide)) (by omega) (by omega) rfl ?_
    refine z_goto (M := M_X12_product) 110 dX12_product_110 24 rfl ?_
    exact z_mask [true, true, true, true, true, true, false, false, false, false, false] rfl (ih.2.1 (l5 + 1) h1 G1 R1 (by omega) (by omega) (pdO_step (by omega) (by omega) (by omega) i0 ex2 ⟨by omega, by omega⟩ E1) (by omega))
  · refine z_aload_n (M := M_X12_product) 42 dX12_product_42 rfl ?_
    refine z_iload (M := M_X12_product) 43 dX12_product_43 rfl ?_
    refine z_iload (M := M_X12_product) 45 dX12_product_45 rfl ?_
    refine z_iaddN (M := M_X12_product) 47 dX12_product_47 (by omega) (by omega) ?_
    refine z_laldG (M := M_X12_product) 48 dX12_product_48 o_115 (by omega) (by omega) (i0.1.at (i := (l5 + l8)) (by omega) (by omega)) (fun x3 ex3 ax3 bx3 => ?_)
    refine z_aload_n (M := M_X12_product) 49 dX12_product_49 rfl ?_
    refine z_iload_n (M := M_X12_product) 50 dX12_product_50 rfl ?_
    refine z_iload (M := M_X12_product) 51 dX12_product_51 rfl ?_
    refine z_iaddN (M := M_X12_product) 53 dX12_product_53 (by omega) (by omega) ?_
    refine z_laldG (M := M_X12_product) 54 dX12_product_54 o_132 (by omega) (by omega) (g_132 G (by omega)) (fun x4 ex4 ax4 bx4 => ?_)
    refine z_aload_n (M := M_X12_product) 55 dX12_product_55 rfl ?_
    refine z_iload (M := M_X12_product) 56 dX12_product_56 rfl ?_
    refine z_iload (M := M_X12_product) 58 dX12_product_58 rfl ?_
    refine z_iaddN (M := M_X12_product) 60 dX12_product_60 (by omega) (by omega) ?_
    refine z_laldG (M := M_X12_product) 61 dX12_product_61 o_125 (by omega) (by omega) (g_125 G (by omega)) (fun x5 ex5 ax5 bx5 => ?_)
    have mx6 := mul_bd (x := x4) (y := x5) (X := 99999999) (Y := 99999999) (by omega) (by omega) (by omega) (by omega)
    refine z_lmulN (M := M_X12_product) 62 dX12_product_62 (by omega) (by omega) ?_
    refine z_topBJ (lo := 0) (hi := 9999999800000001) ⟨by omega, by omega⟩ (fun x6 ex6 ax6 bx6 => ?_)
    refine z_laddN (M := M_X12_product) 63 dX12_product_63 (by omega) (by omega) ?_
    refine z_lload (M := M_X12_product) 64 dX12_product_64 rfl ?_
    refine z_laddN (M := M_X12_product) 66 dX12_product_66 (by omega) (by omega) ?_
    refine z_lstore (M := M_X12_product) 67 dX12_product_67 (ls' := [some (mR 115), some (mR 132), some (mI a2), some (mR 125), some (mI a4), some (mI l5), some (mJ l6), none, some (mI l8), some (mJ ((x3 + x6) + l6)), none]) (by decide) rfl ?_
    refine z_aload_n (M := M_X12_product) 69 dX12_product_69 rfl ?_
    refine z_iload (M := M_X12_product) 70 dX12_product_70 rfl ?_
    refine z_iload (M := M_X12_product) 72 dX12_product_72 rfl ?_
    refine z_iaddN (M := M_X12_product) 74 dX12_product_74 (by omega) (by omega) ?_
    refine z_lload (M := M_X12_product) 75 dX12_product_75 rfl ?_
    refine z_ldc2 (M := M_X12_product) 77 dX12_product_77 k_X12_327 ?_
    refine z_lremN (M := M_X12_product) 80 dX12_product_80 (by omega) (by omega) ?_
    refine z_topBJ (lo := 0) (hi := 99999999) ⟨by omega, by omega⟩ (fun x7 ex7 ax7 bx7 => ?_)
    refine z_lastH (M := M_X12_product) 81 dX12_product_81 o_115 (by omega) (by omega) (u_115 G) (R.up rfl) (fun h2 E2 G2 R2 => ?_)
    refine z_lload (M := M_X12_product) 82 dX12_product_82 rfl ?_
    refine z_ldc2 (M := M_X12_product) 84 dX12_product_84 k_X12_327 ?_
    refine z_ldivN (M := M_X12_product) 87 dX12_product_87 (by omega) (by omega) ?_
    refine z_topBJ (lo := 0) (hi := 99999999) ⟨by omega, by omega⟩ (fun x8 ex8 ax8 bx8 => ?_)
    refine z_lstore (M := M_X12_product) 88 dX12_product_88 (ls' := [some (mR 115), some (mR 132), some (mI a2), some (mR 125), some (mI a4), some (mI l5), some (mJ x8), none, some (mI l8), some (mJ ((x3 + x6) + l6)), none]) (by decide) rfl ?_
    refine z_iincN (M := M_X12_product) 90 dX12_product_90 (ls' := [some (mR 115), some (mR 132), some (mI a2), some (mR 125), some (mI a4), some (mI l5), some (mJ x8), none, some (mI (l8 + 1)), some (mJ ((x3 + x6) + l6)), none]) (by decide) rfl (by (unfold m_32; decide)) (by omega) (by omega) rfl ?_
    refine z_goto (M := M_X12_product) 93 dX12_product_93 36 rfl ?_
    exact z_mask [true, true, true, true, true, true, true, false, true, false, false] rfl (ih.2.2 l5 x8 (l8 + 1) h2 G2 R2 (by omega) (by omega) (by omega) (by omega) (by omega) (by omega) (pdI_step (by omega) (by omega) (by omega) (by omega) (by omega) (by omega) i0 ex3 ((R 132 _ rfl).symm.trans ex4) ((R 125 _ rfl).symm.trans ex5) ex6 ex7 ex8 ⟨by omega, by omega⟩ E2) (by omega))
theorem a_X12_product2 (h0 : m_H) (a2 a4 : Int) (G0 : GI h0) (pa2 : 0 ≤ a2 ∧ a2 ≤ 0) (pa4 : 0 ≤ a4 ∧ a4 ≤ 75) : ∀ n, q_X12_product2 h0 a2 a4 n := by
  intro n
  induction n with
  | zero => unfold q_X12_product2; refine ⟨?_, ?_, ?_⟩ <;> (intros; omega)
  | succ n ih => exact ⟨s_X12_product2_3 h0 a2 a4 G0 pa2 pa4 n ih, s_X12_product2_24 h0 a2 a4 G0 pa2 pa4 n ih, s_X12_product2_36 h0 a2 a4 G0 pa2 pa4 n ih⟩
set_option maxHeartbeats 4000000 in
set_option maxRecDepth 100000 in
theorem c_X12_product2 (h0 : m_H) (a2 a4 : Int) (G0 : GI h0) (pa2 : 0 ≤ a2 ∧ a2 ≤ 0) (pa4 : 0 ≤ a4 ∧ a4 ≤ 75) : m_CV M_X12_product [mR 115, mR 132, mI a2, mR 125, mI a4] h0 (P_X12_product2 h0 a2 a4) := by
  refine m_CV_of ⟨by decide, rfl, by simp [m_arg, m_isL, M_X12_product], ⟨rfl, rfl⟩, rfl, rfl⟩ (ls := [some (mR 115), some (mR 132), some (mI a2), some (mR 125), some (mI a4), none, none, none, none, none, none]) rfl ?_
  have ih := a_X12_product2 h0 a2 a4 G0 pa2 pa4 119
  refine z_iconst (M := M_X12_product) 0 dX12_product_0 ?_
  refine z_istore (M := M_X12_product) 1 dX12_product_1 (ls' := [some (mR 115), some (mR 132), some (mI a2), some (mR 125), some (mI a4), some (mI 0), none, none, none, none, none]) (by decide) rfl ?_
  exact z_mask [true, true, true, true, true, true, false, false, false, false, false] rfl (ih.1 0 h0 G0 (FR.rf (cs := [115]) (ss := []) (h := h0)) (by omega) (by omega) (fun j hj => by omega) (by omega))
abbrev P_X12_product3 (h0 : m_H) (a2 a4 : Int) : m_H → Prop := fun h' => GI h' ∧ FR [116] [] h0 h' ∧ pdO (h' 116) (h0 124) (h0 133) a2 a4 5
def q_X12_product3 (h0 : m_H) (a2 a4 : Int) (n : Nat) : Prop := (∀ (l5 : Int) (h : m_H), GI h → FR [116] [] h0 h → 0 ≤ l5 → l5 ≤ 10 → (∀ j : Nat, (j : Int) < l5 → h 116 j = 0) → 2 * (10 - l5) + (92) ≤ (n : Int) → m_Z oF M_X12_product 3 [some (mR 116), some (mR 124), some (mI a2), some (mR 133), some (mI a4), some (mI l5), none, none, none, none, none] [] h (m_QV (P_X12_product3 h0 a2 a4))) ∧ (∀ (l5 : Int) (h : m_H), GI h → FR [116] [] h0 h → 0 ≤ l5 → l5 ≤ 5 → (pdO (h 116) (h0 124) (h0 133) a2 a4 l5) → 15 * (5 - l5) + (14) ≤ (n : Int) → m_Z oF M_X12_product 24 [some (mR 116), some (mR 124), some (mI a2), some (mR 133), some (mI a4), some (mI l5), none, none, none, none, none] [] h (m_QV (P_X12_product3 h0 a2 a4))) ∧ (∀ (l5 l6 l8 : Int) (h : m_H), GI h → FR [116] [] h0 h → 0 ≤ l5 → l5 ≤ 4 → 0 ≤ l6 → l6 ≤ 99999999 → 0 ≤ l8 → l8 ≤ 5 → (pdI (h 116) (h0 124) (h0 133) a2 a4 l5 l8 l6) → 15 * (5 - l5) + 2 * (5 - l8) + (1) ≤ (n : Int) → m_Z oF M_X12_product 36 [some (mR 116), some (mR 124), some (mI a2), some (mR 133), some (mI a4), some (mI l5), some (mJ l6), none, some (mI l8), none, none] [] h (m_QV (P_X12_product3 h0 a2 a4)))
set_option maxHeartbeats 4000000 in
set_option maxRecDepth 100000 in
theorem s_X12_product3_3 (h0 : m_H) (a2 a4 : Int) (G0 : GI h0) (pa2 : 0 ≤ a2 ∧ a2 ≤ 75) (pa4 : 0 ≤ a4 ∧ a4 ≤ 0) (n : Nat) (ih : q_X12_product3 h0 a2 a4 n) : ∀ (l5 : Int) (h : m_H), GI h → FR [116] [] h0 h → 0 ≤ l5 → l5 ≤ 10 → (∀ j : Nat, (j : Int) < l5 → h 116 j = 0) → 2 * (10 - l5) + (92) ≤ ((n + 1 : Nat) : Int) → m_Z oF M_X12_product 3 [some (mR 116), some (mR 124), some (mI a2), some (mR 133), some (mI a4), some (mI l5), none, none, none, none, none] [] h (m_QV (P_X12_product3 h0 a2 a4)) := by
  intro l5 h G R v0 v1 i0 hr
  refine z_iload (M := M_X12_product) 3 dX12_product_3 rfl ?_
  refine z_bipush (M := M_X12_product) 5 dX12_product_5 ?_
  refine z_icmp_ge (M := M_X12_product) 7 dX12_product_7 21 rfl (fun c1 => ?_) (fun c1 => ?_)
  · refine z_iconst (M := M_X12_product) 21 dX12_product_21 ?_
    refine z_istore (M := M_X12_product) 22 dX12_product_22 (ls' := [some (mR 116), some (mR 124), some (mI a2), some (mR 133), some (mI a4), some (mI 0), none, none, none, none, none]) (by decide) rfl ?_
    exact z_mask [true, true, true, true, true, true, false, false, false, false, false] rfl (ih.2.1 0 h G R (by omega) (by omega) (pdO_0 (by omega) i0) (by omega))
  · refine z_aload_n (M := M_X12_product) 10 dX12_product_10 rfl ?_
    refine z_iload (M := M_X12_product) 11 dX12_product_11 rfl ?_
    refine z_lconst (M := M_X12_product) 13 dX12_product_13 (v := 0) ?_
    refine z_lastH (M := M_X12_product) 14 dX12_product_14 o_116 (by omega) (by omega) (u_116 G) (R.up rfl) (fun h1 E1 G1 R1 => ?_)
    refine z_iincN (M := M_X12_product) 15 dX12_product_15 (ls' := [some (mR 116), some (mR 124), some (mI a2), some (mR 133), some (mI a4), some (mI (l5 + 1)), none, none, none, none, none]) (by decide) rfl (by (unfold m_32; decide)) (by omega) (by omega) rfl ?_
    refine z_goto (M := M_X12_product) 18 dX12_product_18 3 rfl ?_
    exact z_mask [true, true, true, true, true, true, false, false, false, false, false] rfl (ih.1 (l5 + 1) h1 G1 R1 (by omega) (by omega) (pz_step (by omega) i0 E1) (by omega))
set_option maxHeartbeats 4000000 in
set_option maxRecDepth 100000 in
theorem s_X12_product3_24 (h0 : m_H) (a2 a4 : Int) (G0 : GI h0) (pa2 : 0 ≤ a2 ∧ a2 ≤ 75) (pa4 : 0 ≤ a4 ∧ a4 ≤ 0) (n : Nat) (ih : q_X12_product3 h0 a2 a4 n) : ∀ (l5 : Int) (h : m_H), GI h → FR [116] [] h0 h → 0 ≤ l5 → l5 ≤ 5 → (pdO (h 116) (h0 124) (h0 133) a2 a4 l5) → 15 * (5 - l5) + (14) ≤ ((n + 1 : Nat) : Int) → m_Z oF M_X12_product 24 [some (mR 116), some (mR 124), some (mI a2), some (mR 133), some (mI a4), some (mI l5), none, none, none, none, none] [] h (m_QV (P_X12_product3 h0 a2 a4)) := by
  intro l5 h G R v0 v1 i0 hr
  refine z_iload (M := M_X12_product) 24 dX12_product_24 rfl ?_
  refine z_iconst (M := M_X12_product) 26 dX12_product_26 ?_
  refine z_icmp_ge (M := M_X12_product) 27 dX12_product_27 113 rfl (fun c1 => ?_) (fun c1 => ?_)
  · exact z_retV (M := M_X12_product) 113 dX12_product_113 rfl ⟨G, R, (show l5 = 5 by omega) ▸ i0⟩
  · refine z_lconst (M := M_X12_product) 30 dX12_product_30 (v := 0) ?_
    refine z_lstore (M := M_X12_product) 31 dX12_product_31 (ls' := [some (mR 116), some (mR 124), some (mI a2), some (mR 133), some (mI a4), some (mI l5), some (mJ 0), none, none, none, none]) (by decide) rfl ?_
    refine z_iconst (M := M_X12_product) 33 dX12_product_33 ?_
    refine z_istore (M := M_X12_product) 34 dX12_product_34 (ls' := [some (mR 116), some (mR 124), some (mI a2), some (mR 133), some (mI a4), some (mI l5), some (mJ 0), none, some (mI 0), none, none]) (by decide) rfl ?_
    exact z_mask [true, true, true, true, true, true, true, false, true, false, false] rfl (ih.2.2 l5 0 0 h G R (by omega) (by omega) (by omega) (by omega) (by omega) (by omega) (pdI_0 i0) (by omega))
set_option maxHeartbeats 4000000 in
set_option maxRecDepth 100000 in
theorem s_X12_product3_36 (h0 : m_H) (a2 a4 : Int) (G0 : GI h0) (pa2 : 0 ≤ a2 ∧ a2 ≤ 75) (pa4 : 0 ≤ a4 ∧ a4 ≤ 0) (n : Nat) (ih : q_X12_product3 h0 a2 a4 n) : ∀ (l5 l6 l8 : Int) (h : m_H), GI h → FR [116] [] h0 h → 0 ≤ l5 → l5 ≤ 4 → 0 ≤ l6 → l6 ≤ 99999999 → 0 ≤ l8 → l8 ≤ 5 → (pdI (h 116) (h0 124) (h0 133) a2 a4 l5 l8 l6) → 15 * (5 - l5) + 2 * (5 - l8) + (1) ≤ ((n + 1 : Nat) : Int) → m_Z oF M_X12_product 36 [some (mR 116), some (mR 124), some (mI a2), some (mR 133), some (mI a4), some (mI l5), some (mJ l6), none, some (mI l8), none, none] [] h (m_QV (P_X12_product3 h0 a2 a4)) := by
  intro l5 l6 l8 h G R v0 v1 v2 v3 v4 v5 i0 hr
  refine z_iload (M := M_X12_product) 36 dX12_product_36 rfl ?_
  refine z_iconst (M := M_X12_product) 38 dX12_product_38 ?_
  refine z_icmp_ge (M := M_X12_product) 39 dX12_product_39 96 rfl (fun c1 => ?_) (fun c1 => ?_)
  · refine z_aload_n (M := M_X12_product) 96 dX12_product_96 rfl ?_
    refine z_iload (M := M_X12_product) 97 dX12_product_97 rfl ?_
    refine z_iconst (M := M_X12_product) 99 dX12_product_99 ?_
    refine z_iaddN (M := M_X12_product) 100 dX12_product_100 (by omega) (by omega) ?_
    refine z_dup2 (M := M_X12_product) 101 dX12_product_101 rfl rfl ?_
    refine z_laldG (M := M_X12_product) 102 dX12_product_102 o_116 (by omega) (by omega) (i0.1.at (i := (l5 + 5)) (by omega) (by omega)) (fun x2 ex2 ax2 bx2 => ?_)
    refine z_lload (M := M_X12_product) 103 dX12_product_103 rfl ?_
    refine z_laddN (M := M_X12_product) 105 dX12_product_105 (by omega) (by omega) ?_
    refine z_lastH (M := M_X12_product) 106 dX12_product_106 o_116 (by omega) (by omega) (u_116 G) (R.up rfl) (fun h1 E1 G1 R1 => ?_)
    refine z_iincN (M := M_X12_product) 107 dX12_product_107 (ls' := [some (mR 116), some (mR 124), some (mI a2), some (mR 133), some (mI a4), some (mI (l5 + 1)), some (mJ l6), none, some (mI l8), none, none]) (by decide) rfl (by (unfold m_32; decide)) (by omega) (by omega) rfl ?_
    refine z_goto (M := M_X12_product) 110 dX12_product_110 24 rfl ?_
    exact z_mask [true, true, true, true, true, true, false, false, false, false, false] rfl (ih.2.1 (l5 + 1) h1 G1 R1 (by omega) (by omega) (pdO_step (by omega) (by omega) (by omega) i0 ex2 ⟨by omega, by omega⟩ E1) (by omega))
  · refine z_aload_n (M := M_X12_product) 42 dX12_product_42 rfl ?_
    refine z_iload (M := M_X12_product) 43 dX12_product_43 rfl ?_
    refine z_iload (M := M_X12_product) 45 dX12_product_45 rfl ?_
    refine z_iaddN (M := M_X12_product) 47 dX12_product_47 (by omega) (by omega) ?_
    refine z_laldG (M := M_X12_product) 48 dX12_product_48 o_116 (by omega) (by omega) (i0.1.at (i := (l5 + l8)) (by omega) (by omega)) (fun x3 ex3 ax3 bx3 => ?_)
    refine z_aload_n (M := M_X12_product) 49 dX12_product_49 rfl ?_
    refine z_iload_n (M := M_X12_product) 50 dX12_product_50 rfl ?_
    refine z_iload (M := M_X12_product) 51 dX12_product_51 rfl ?_
    refine z_iaddN (M := M_X12_product) 53 dX12_product_53 (by omega) (by omega) ?_
    refine z_laldG (M := M_X12_product) 54 dX12_product_54 o_124 (by omega) (by omega) (g_124 G (by omega)) (fun x4 ex4 ax4 bx4 => ?_)
    refine z_aload_n (M := M_X12_product) 55 dX12_product_55 rfl ?_
    refine z_iload (M := M_X12_product) 56 dX12_product_56 rfl ?_
    refine z_iload (M := M_X12_product) 58 dX12_product_58 rfl ?_
    refine z_iaddN (M := M_X12_product) 60 dX12_product_60 (by omega) (by omega) ?_
    refine z_laldG (M := M_X12_product) 61 dX12_product_61 o_133 (by omega) (by omega) (g_133 G (by omega)) (fun x5 ex5 ax5 bx5 => ?_)
    have mx6 := mul_bd (x := x4) (y := x5) (X := 99999999) (Y := 99999999) (by omega) (by omega) (by omega) (by omega)
    refine z_lmulN (M := M_X12_product) 62 dX12_product_62 (by omega) (by omega) ?_
    refine z_topBJ (lo := 0) (hi := 9999999800000001) ⟨by omega, by omega⟩ (fun x6 ex6 ax6 bx6 => ?_)
    refine z_laddN (M := M_X12_product) 63 dX12_product_63 (by omega) (by omega) ?_
    refine z_lload (M := M_X12_product) 64 dX12_product_64 rfl ?_
    refine z_laddN (M := M_X12_product) 66 dX12_product_66 (by omega) (by omega) ?_
    refine z_lstore (M := M_X12_product) 67 dX12_product_67 (ls' := [some (mR 116), some (mR 124), some (mI a2), some (mR 133), some (mI a4), some (mI l5), some (mJ l6), none, some (mI l8), some (mJ ((x3 + x6) + l6)), none]) (by decide) rfl ?_
    refine z_aload_n (M := M_X12_product) 69 dX12_product_69 rfl ?_
    refine z_iload (M := M_X12_product) 70 dX12_product_70 rfl ?_
    refine z_iload (M := M_X12_product) 72 dX12_product_72 rfl ?_
    refine z_iaddN (M := M_X12_product) 74 dX12_product_74 (by omega) (by omega) ?_
    refine z_lload (M := M_X12_product) 75 dX12_product_75 rfl ?_
    refine z_ldc2 (M := M_X12_product) 77 dX12_product_77 k_X12_327 ?_
    refine z_lremN (M := M_X12_product) 80 dX12_product_80 (by omega) (by omega) ?_
    refine z_topBJ (lo := 0) (hi := 99999999) ⟨by omega, by omega⟩ (fun x7 ex7 ax7 bx7 => ?_)
    refine z_lastH (M := M_X12_product) 81 dX12_product_81 o_116 (by omega) (by omega) (u_116 G) (R.up rfl) (fun h2 E2 G2 R2 => ?_)
    refine z_lload (M := M_X12_product) 82 dX12_product_82 rfl ?_
    refine z_ldc2 (M := M_X12_product) 84 dX12_product_84 k_X12_327 ?_
    refine z_ldivN (M := M_X12_product) 87 dX12_product_87 (by omega) (by omega) ?_
    refine z_topBJ (lo := 0) (hi := 99999999) ⟨by omega, by omega⟩ (fun x8 ex8 ax8 bx8 => ?_)
    refine z_lstore (M := M_X12_product) 88 dX12_product_88 (ls' := [some (mR 116), some (mR 124), some (mI a2), some (mR 133), some (mI a4), some (mI l5), some (mJ x8), none, some (mI l8), some (mJ ((x3 + x6) + l6)), none]) (by decide) rfl ?_
    refine z_iincN (M := M_X12_product) 90 dX12_product_90 (ls' := [some (mR 116), some (mR 124), some (mI a2), some (mR 133), some (mI a4), some (mI l5), some (mJ x8), none, some (mI (l8 + 1)), some (mJ ((x3 + x6) + l6)), none]) (by decide) rfl (by (unfold m_32; decide)) (by omega) (by omega) rfl ?_
    refine z_goto (M := M_X12_product) 93 dX12_product_93 36 rfl ?_
    exact z_mask [true, true, true, true, true, true, true, false, true, false, false] rfl (ih.2.2 l5 x8 (l8 + 1) h2 G2 R2 (by omega) (by omega) (by omega) (by omega) (by omega) (by omega) (pdI_step (by omega) (by omega) (by omega) (by omega) (by omega) (by omega) i0 ex3 ((R 124 _ rfl).symm.trans ex4) ((R 133 _ rfl).symm.trans ex5) ex6 ex7 ex8 ⟨by omega, by omega⟩ E2) (by omega))
theorem a_X12_product3 (h0 : m_H) (a2 a4 : Int) (G0 : GI h0) (pa2 : 0 ≤ a2 ∧ a2 ≤ 75) (pa4 : 0 ≤ a4 ∧ a4 ≤ 0) : ∀ n, q_X12_product3 h0 a2 a4 n := by
  intro n
  induction n with
  | zero => unfold q_X12_product3; refine ⟨?_, ?_, ?_⟩ <;> (intros; omega)
  | succ n ih => exact ⟨s_X12_product3_3 h0 a2 a4 G0 pa2 pa4 n ih, s_X12_product3_24 h0 a2 a4 G0 pa2 pa4 n ih, s_X12_product3_36 h0 a2 a4 G0 pa2 pa4 n ih⟩
set_option maxHeartbeats 4000000 in
set_option maxRecDepth 100000 in
theorem c_X12_product3 (h0 : m_H) (a2 a4 : Int) (G0 : GI h0) (pa2 : 0 ≤ a2 ∧ a2 ≤ 75) (pa4 : 0 ≤ a4 ∧ a4 ≤ 0) : m_CV M_X12_product [mR 116, mR 124, mI a2, mR 133, mI a4] h0 (P_X12_product3 h0 a2 a4) := by
  refine m_CV_of ⟨by decide, rfl, by simp [m_arg, m_isL, M_X12_product], ⟨rfl, rfl⟩, rfl, rfl⟩ (ls := [some (mR 116), some (mR 124), some (mI a2), some (mR 133), some (mI a4), none, none, none, none, none, none]) rfl ?_
  have ih := a_X12_product3 h0 a2 a4 G0 pa2 pa4 119
  refine z_iconst (M := M_X12_product) 0 dX12_product_0 ?_
  refine z_istore (M := M_X12_product) 1 dX12_product_1 (ls' := [some (mR 116), some (mR 124), some (mI a2), some (mR 133), some (mI a4), some (mI 0), none, none, none, none, none]) (by decide) rfl ?_
  exact z_mask [true, true, true, true, true, true, false, false, false, false, false] rfl (ih.1 0 h0 G0 (FR.rf (cs := [116]) (ss := []) (h := h0)) (by omega) (by omega) (fun j hj => by omega) (by omega))
abbrev P_X12_product4 (h0 : m_H) (a2 a4 : Int) : m_H → Prop := fun h' => GI h' ∧ FR [115] [] h0 h' ∧ pdO (h' 115) (h0 124) (h0 137) a2 a4 5
def q_X12_product4 (h0 : m_H) (a2 a4 : Int) (n : Nat) : Prop := (∀ (l5 : Int) (h : m_H), GI h → FR [115] [] h0 h → 0 ≤ l5 → l5 ≤ 10 → (∀ j : Nat, (j : Int) < l5 → h 115 j = 0) → 2 * (10 - l5) + (92) ≤ (n : Int) → m_Z oF M_X12_product 3 [some (mR 115), some (mR 124), some (mI a2), some (mR 137), some (mI a4), some (mI l5), none, none, none, none, none] [] h (m_QV (P_X12_product4 h0 a2 a4))) ∧ (∀ (l5 : Int) (h : m_H), GI h → FR [115] [] h0 h → 0 ≤ l5 → l5 ≤ 5 → (pdO (h 115) (h0 124) (h0 137) a2 a4 l5) → 15 * (5 - l5) + (14) ≤ (n : Int) → m_Z oF M_X12_product 24 [some (mR 115), some (mR 124), some (mI a2), some (mR 137), some (mI a4), some (mI l5), none, none, none, none, none] [] h (m_QV (P_X12_product4 h0 a2 a4))) ∧ (∀ (l5 l6 l8 : Int) (h : m_H), GI h → FR [115] [] h0 h → 0 ≤ l5 → l5 ≤ 4 → 0 ≤ l6 → l6 ≤ 99999999 → 0 ≤ l8 → l8 ≤ 5 → (pdI (h 115) (h0 124) (h0 137) a2 a4 l5 l8 l6) → 15 * (5 - l5) + 2 * (5 - l8) + (1) ≤ (n : Int) → m_Z oF M_X12_product 36 [some (mR 115), some (mR 124), some (mI a2), some (mR 137), some (mI a4), some (mI l5), some (mJ l6), none, some (mI l8), none, none] [] h (m_QV (P_X12_product4 h0 a2 a4)))
set_option maxHeartbeats 4000000 in
set_option maxRecDepth 100000 in
theorem s_X12_product4_3 (h0 : m_H) (a2 a4 : Int) (G0 : GI h0) (pa2 : 0 ≤ a2 ∧ a2 ≤ 75) (pa4 : 0 ≤ a4 ∧ a4 ≤ 0) (n : Nat) (ih : q_X12_product4 h0 a2 a4 n) : ∀ (l5 : Int) (h : m_H), GI h → FR [115] [] h0 h → 0 ≤ l5 → l5 ≤ 10 → (∀ j : Nat, (j : Int) < l5 → h 115 j = 0) → 2 * (10 - l5) + (92) ≤ ((n + 1 : Nat) : Int) → m_Z oF M_X12_product 3 [some (mR 115), some (mR 124), some (mI a2), some (mR 137), some (mI a4), some (mI l5), none, none, none, none, none] [] h (m_QV (P_X12_product4 h0 a2 a4)) := by
  intro l5 h G R v0 v1 i0 hr
  refine z_iload (M := M_X12_product) 3 dX12_product_3 rfl ?_
  refine z_bipush (M := M_X12_product) 5 dX12_product_5 ?_
  refine z_icmp_ge (M := M_X12_product) 7 dX12_product_7 21 rfl (fun c1 => ?_) (fun c1 => ?_)
  · refine z_iconst (M := M_X12_product) 21 dX12_product_21 ?_
    refine z_istore (M := M_X12_product) 22 dX12_product_22 (ls' := [some (mR 115), some (mR 124), some (mI a2), some (mR 137), some (mI a4), some (mI 0), none, none, none, none, none]) (by decide) rfl ?_
    exact z_mask [true, true, true, true, true, true, false, false, false, false, false] rfl (ih.2.1 0 h G R (by omega) (by omega) (pdO_0 (by omega) i0) (by omega))
  · refine z_aload_n (M := M_X12_product) 10 dX12_product_10 rfl ?_
    refine z_iload (M := M_X12_product) 11 dX12_product_11 rfl ?_
    refine z_lconst (M := M_X12_product) 13 dX12_product_13 (v := 0) ?_
    refine z_lastH (M := M_X12_product) 14 dX12_product_14 o_115 (by omega) (by omega) (u_115 G) (R.up rfl) (fun h1 E1 G1 R1 => ?_)
    refine z_iincN (M := M_X12_product) 15 dX12_product_15 (ls' := [some (mR 115), some (mR 124), some (mI a2), some (mR 137), some (mI a4), some (mI (l5 + 1)), none, none, none, none, none]) (by decide) rfl (by (unfold m_32; decide)) (by omega) (by omega) rfl ?_
    refine z_goto (M := M_X12_product) 18 dX12_product_18 3 rfl ?_
    exact z_mask [true, true, true, true, true, true, false, false, false, false, false] rfl (ih.1 (l5 + 1) h1 G1 R1 (by omega) (by omega) (pz_step (by omega) i0 E1) (by omega))
set_option maxHeartbeats 4000000 in
set_option maxRecDepth 100000 in
theorem s_X12_product4_24 (h0 : m_H) (a2 a4 : Int) (G0 : GI h0) (pa2 : 0 ≤ a2 ∧ a2 ≤ 75) (pa4 : 0 ≤ a4 ∧ a4 ≤ 0) (n : Nat) (ih : q_X12_product4 h0 a2 a4 n) : ∀ (l5 : Int) (h : m_H), GI h → FR [115] [] h0 h → 0 ≤ l5 → l5 ≤ 5 → (pdO (h 115) (h0 124) (h0 137) a2 a4 l5) → 15 * (5 - l5) + (14) ≤ ((n + 1 : Nat) : Int) → m_Z oF M_X12_product 24 [some (mR 115), some (mR 124), some (mI a2), some (mR 137), some (mI a4), some (mI l5), none, none, none, none, none] [] h (m_QV (P_X12_product4 h0 a2 a4)) := by
  intro l5 h G R v0 v1 i0 hr
  refine z_iload (M := M_X12_product) 24 dX12_product_24 rfl ?_
  refine z_iconst (M := M_X12_product) 26 dX12_product_26 ?_
  refine z_icmp_ge (M := M_X12_product) 27 dX12_product_27 113 rfl (fun c1 => ?_) (fun c1 => ?_)
  · exact z_retV (M := M_X12_product) 113 dX12_product_113 rfl ⟨G, R, (show l5 = 5 by omega) ▸ i0⟩
  · refine z_lconst (M := M_X12_product) 30 dX12_product_30 (v := 0) ?_
    refine z_lstore (M := M_X12_product) 31 dX12_product_31 (ls' := [some (mR 115), some (mR 124), some (mI a2), some (mR 137), some (mI a4), some (mI l5), some (mJ 0), none, none, none, none]) (by decide) rfl ?_
    refine z_iconst (M := M_X12_product) 33 dX12_product_33 ?_
    refine z_istore (M := M_X12_product) 34 dX12_product_34 (ls' := [some (mR 115), some (mR 124), some (mI a2), some (mR 137), some (mI a4), some (mI l5), some (mJ 0), none, some (mI 0), none, none]) (by decide) rfl ?_
    exact z_mask [true, true, true, true, true, true, true, false, true, false, false] rfl (ih.2.2 l5 0 0 h G R (by omega) (by omega) (by omega) (by omega) (by omega) (by omega) (pdI_0 i0) (by omega))
set_option maxHeartbeats 4000000 in
set_option maxRecDepth 100000 in
theorem s_X12_product4_36 (h0 : m_H) (a2 a4 : Int) (G0 : GI h0) (pa2 : 0 ≤ a2 ∧ a2 ≤ 75) (pa4 : 0 ≤ a4 ∧ a4 ≤ 0) (n : Nat) (ih : q_X12_product4 h0 a2 a4 n) : ∀ (l5 l6 l8 : Int) (h : m_H), GI h → FR [115] [] h0 h → 0 ≤ l5 → l5 ≤ 4 → 0 ≤ l6 → l6 ≤ 99999999 → 0 ≤ l8 → l8 ≤ 5 → (pdI (h 115) (h0 124) (h0 137) a2 a4 l5 l8 l6) → 15 * (5 - l5) + 2 * (5 - l8) + (1) ≤ ((n + 1 : Nat) : Int) → m_Z oF M_X12_product 36 [some (mR 115), some (mR 124), some (mI a2), some (mR 137), some (mI a4), some (mI l5), some (mJ l6), none, some (mI l8), none, none] [] h (m_QV (P_X12_product4 h0 a2 a4)) := by
  intro l5 l6 l8 h G R v0 v1 v2 v3 v4 v5 i0 hr
  refine z_iload (M := M_X12_product) 36 dX12_product_36 rfl ?_
  refine z_iconst (M := M_X12_product) 38 dX12_product_38 ?_
  refine z_icmp_ge (M := M_X12_product) 39 dX12_product_39 96 rfl (fun c1 => ?_) (fun c1 => ?_)
  · refine z_aload_n (M := M_X12_product) 96 dX12_product_96 rfl ?_
    refine z_iload (M := M_X12_product) 97 dX12_product_97 rfl ?_
    refine z_iconst (M := M_X12_product) 99 dX12_product_99 ?_
    refine z_iaddN (M := M_X12_product) 100 dX12_product_100 (by omega) (by omega) ?_
    refine z_dup2 (M := M_X12_product) 101 dX12_product_101 rfl rfl ?_
    refine z_laldG (M := M_X12_product) 102 dX12_product_102 o_115 (by omega) (by omega) (i0.1.at (i := (l5 + 5)) (by omega) (by omega)) (fun x2 ex2 ax2 bx2 => ?_)
    refine z_lload (M := M_X12_product) 103 dX12_product_103 rfl ?_
    refine z_laddN (M := M_X12_product) 105 dX12_product_105 (by omega) (by omega) ?_
    refine z_lastH (M := M_X12_product) 106 dX12_product_106 o_115 (by omega) (by omega) (u_115 G) (R.up rfl) (fun h1 E1 G1 R1 => ?_)
    refine z_iincN (M := M_X12_product) 107 dX12_product_107 (ls' := [some (mR 115), some (mR 124), some (mI a2), some (mR 137), some (mI a4), some (mI (l5 + 1)), some (mJ l6), none, some (mI l8), none, none]) (by decide) rfl (by (unfold m_32; decide)) (by omega) (by omega) rfl ?_
    refine z_goto (M := M_X12_product) 110 dX12_product_110 24 rfl ?_
    exact z_mask [true, true, true, true, true, true, false, false, false, false, false] rfl (ih.2.1 (l5 + 1) h1 G1 R1 (by omega) (by omega) (pdO_step (by omega) (by omega) (by omega) i0 ex2 ⟨by omega, by omega⟩ E1) (by omega))
  · refine z_aload_n (M := M_X12_product) 42 dX12_product_42 rfl ?_
    refine z_iload (M := M_X12_product) 43 dX12_product_43 rfl ?_
    refine z_iload (M := M_X12_product) 45 dX12_product_45 rfl ?_
    refine z_iaddN (M := M_X12_product) 47 dX12_product_47 (by omega) (by omega) ?_
    refine z_laldG (M := M_X12_product) 48 dX12_product_48 o_115 (by omega) (by omega) (i0.1.at (i := (l5 + l8)) (by omega) (by omega)) (fun x3 ex3 ax3 bx3 => ?_)
    refine z_aload_n (M := M_X12_product) 49 dX12_product_49 rfl ?_
    refine z_iload_n (M := M_X12_product) 50 dX12_product_50 rfl ?_
    refine z_iload (M := M_X12_product) 51 dX12_product_51 rfl ?_
    refine z_iaddN (M := M_X12_product) 53 dX12_product_53 (by omega) (by omega) ?_
    refine z_laldG (M := M_X12_product) 54 dX12_product_54 o_124 (by omega) (by omega) (g_124 G (by omega)) (fun x4 ex4 ax4 bx4 => ?_)
    refine z_aload_n (M := M_X12_product) 55 dX12_product_55 rfl ?_
    refine z_iload (M := M_X12_product) 56 dX12_product_56 rfl ?_
    refine z_iload (M := M_X12_product) 58 dX12_product_58 rfl ?_
    refine z_iaddN (M := M_X12_product) 60 dX12_product_60 (by omega) (by omega) ?_
    refine z_laldG (M := M_X12_product) 61 dX12_product_61 o_137 (by omega) (by omega) (g_137 G (by omega)) (fun x5 ex5 ax5 bx5 => ?_)
    have mx6 := mul_bd (x := x4) (y := x5) (X := 99999999) (Y := 1) (by omega) (by omega) (by omega) (by omega)
    refine z_lmulN (M := M_X12_product) 62 dX12_product_62 (by omega) (by omega) ?_
    refine z_topBJ (lo := 0) (hi := 99999999) ⟨by omega, by omega⟩ (fun x6 ex6 ax6 bx6 => ?_)
    refine z_laddN (M := M_X12_product) 63 dX12_product_63 (by omega) (by omega) ?_
    refine z_lload (M := M_X12_product) 64 dX12_product_64 rfl ?_
    refine z_laddN (M := M_X12_product) 66 dX12_product_66 (by omega) (by omega) ?_
    refine z_lstore (M := M_X12_product) 67 dX12_product_67 (ls' := [some (mR 115), some (mR 124), some (mI a2), some (mR 137), some (mI a4), some (mI l5), some (mJ l6), none, some (mI l8), some (mJ ((x3 + x6) + l6)), none]) (by decide) rfl ?_
    refine z_aload_n (M := M_X12_product) 69 dX12_product_69 rfl ?_
    refine z_iload (M := M_X12_product) 70 dX12_product_70 rfl ?_
    refine z_iload (M := M_X12_product) 72 dX12_product_72 rfl ?_
    refine z_iaddN (M := M_X12_product) 74 dX12_product_74 (by omega) (by omega) ?_
    refine z_lload (M := M_X12_product) 75 dX12_product_75 rfl ?_
    refine z_ldc2 (M := M_X12_product) 77 dX12_product_77 k_X12_327 ?_
    refine z_lremN (M := M_X12_product) 80 dX12_product_80 (by omega) (by omega) ?_
    refine z_topBJ (lo := 0) (hi := 99999999) ⟨by omega, by omega⟩ (fun x7 ex7 ax7 bx7 => ?_)
    refine z_lastH (M := M_X12_product) 81 dX12_product_81 o_115 (by omega) (by omega) (u_115 G) (R.up rfl) (fun h2 E2 G2 R2 => ?_)
    refine z_lload (M := M_X12_product) 82 dX12_product_82 rfl ?_
    refine z_ldc2 (M := M_X12_product) 84 dX12_product_84 k_X12_327 ?_
    refine z_ldivN (M := M_X12_product) 87 dX12_product_87 (by omega) (by omega) ?_
    refine z_topBJ (lo := 0) (hi := 2) ⟨by omega, by omega⟩ (fun x8 ex8 ax8 bx8 => ?_)
    refine z_lstore (M := M_X12_product) 88 dX12_product_88 (ls' := [some (mR 115), some (mR 124), some (mI a2), some (mR 137), some (mI a4), some (mI l5), some (mJ x8), none, some (mI l8), some (mJ ((x3 + x6) + l6)), none]) (by decide) rfl ?_
    refine z_iincN (M := M_X12_product) 90 dX12_product_90 (ls' := [some (mR 115), some (mR 124), some (mI a2), some (mR 137), some (mI a4), some (mI l5), some (mJ x8), none, some (mI (l8 + 1)), some (mJ ((x3 + x6) + l6)), none]) (by decide) rfl (by (unfold m_32; decide)) (by omega) (by omega) rfl ?_
    refine z_goto (M := M_X12_product) 93 dX12_product_93 36 rfl ?_
    exact z_mask [true, true, true, true, true, true, true, false, true, false, false] rfl (ih.2.2 l5 x8 (l8 + 1) h2 G2 R2 (by omega) (by omega) (by omega) (by omega) (by omega) (by omega) (pdI_step (by omega) (by omega) (by omega) (by omega) (by omega) (by omega) i0 ex3 ((R 124 _ rfl).symm.trans ex4) ((R 137 _ rfl).symm.trans ex5) ex6 ex7 ex8 ⟨by omega, by omega⟩ E2) (by omega))
theorem a_X12_product4 (h0 : m_H) (a2 a4 : Int) (G0 : GI h0) (pa2 : 0 ≤ a2 ∧ a2 ≤ 75) (pa4 : 0 ≤ a4 ∧ a4 ≤ 0) : ∀ n, q_X12_product4 h0 a2 a4 n := by
  intro n
  induction n with
  | zero => unfold q_X12_product4; refine ⟨?_, ?_, ?_⟩ <;> (intros; omega)
  | succ n ih => exact ⟨s_X12_product4_3 h0 a2 a4 G0 pa2 pa4 n ih, s_X12_product4_24 h0 a2 a4 G0 pa2 pa4 n ih, s_X12_product4_36 h0 a2 a4 G0 pa2 pa4 n ih⟩
set_option maxHeartbeats 4000000 in
set_option maxRecDepth 100000 in
theorem c_X12_product4 (h0 : m_H) (a2 a4 : Int) (G0 : GI h0) (pa2 : 0 ≤ a2 ∧ a2 ≤ 75) (pa4 : 0 ≤ a4 ∧ a4 ≤ 0) : m_CV M_X12_product [mR 115, mR 124, mI a2, mR 137, mI a4] h0 (P_X12_product4 h0 a2 a4) := by
  refine m_CV_of ⟨by decide, rfl, by simp [m_arg, m_isL, M_X12_product], ⟨rfl, rfl⟩, rfl, rfl⟩ (ls := [some (mR 115), some (mR 124), some (mI a2), some (mR 137), some (mI a4), none, none, none, none, none, none]) rfl ?_
  have ih := a_X12_product4 h0 a2 a4 G0 pa2 pa4 119
  refine z_iconst (M := M_X12_product) 0 dX12_product_0 ?_
  refine z_istore (M := M_X12_product) 1 dX12_product_1 (ls' := [some (mR 115), some (mR 124), some (mI a2), some (mR 137), some (mI a4), some (mI 0), none, none, none, none, none]) (by decide) rfl ?_
  exact z_mask [true, true, true, true, true, true, false, false, false, false, false] rfl (ih.1 0 h0 G0 (FR.rf (cs := [115]) (ss := []) (h := h0)) (by omega) (by omega) (fun j hj => by omega) (by omega))
abbrev P_X12_product5 (h0 : m_H) (a2 a4 : Int) : m_H → Prop := fun h' => GI h' ∧ FR [116] [] h0 h' ∧ pdO (h' 116) (h0 137) (h0 125) a2 a4 5
def q_X12_product5 (h0 : m_H) (a2 a4 : Int) (n : Nat) : Prop := (∀ (l5 : Int) (h : m_H), GI h → FR [116] [] h0 h → 0 ≤ l5 → l5 ≤ 10 → (∀ j : Nat, (j : Int) < l5 → h 116 j = 0) → 2 * (10 - l5) + (92) ≤ (n : Int) → m_Z oF M_X12_product 3 [some (mR 116), some (mR 137), some (mI a2), some (mR 125), some (mI a4), some (mI l5), none, none, none, none, none] [] h (m_QV (P_X12_product5 h0 a2 a4))) ∧ (∀ (l5 : Int) (h : m_H), GI h → FR [116] [] h0 h → 0 ≤ l5 → l5 ≤ 5 → (pdO (h 116) (h0 137) (h0 125) a2 a4 l5) → 15 * (5 - l5) + (14) ≤ (n : Int) → m_Z oF M_X12_product 24 [some (mR 116), some (mR 137), some (mI a2), some (mR 125), some (mI a4), some (mI l5), none, none, none, none, none] [] h (m_QV (P_X12_product5 h0 a2 a4))) ∧ (∀ (l5 l6 l8 : Int) (h : m_H), GI h → FR [116] [] h0 h → 0 ≤ l5 → l5 ≤ 4 → 0 ≤ l6 → l6 ≤ 99999999 → 0 ≤ l8 → l8 ≤ 5 → (pdI (h 116) (h0 137) (h0 125) a2 a4 l5 l8 l6) → 15 * (5 - l5) + 2 * (5 - l8) + (1) ≤ (n : Int) → m_Z oF M_X12_product 36 [some (mR 116), some (mR 137), some (mI a2), some (mR 125), some (mI a4), some (mI l5), some (mJ l6), none, some (mI l8), none, none] [] h (m_QV (P_X12_product5 h0 a2 a4)))
set_option maxHeartbeats 4000000 in
set_option maxRecDepth 100000 in
theorem s_X12_product5_3 (h0 : m_H) (a2 a4 : Int) (G0 : GI h0) (pa2 : 0 ≤ a2 ∧ a2 ≤ 0) (pa4 : 0 ≤ a4 ∧ a4 ≤ 75) (n : Nat) (ih : q_X12_product5 h0 a2 a4 n) : ∀ (l5 : Int) (h : m_H), GI h → FR [116] [] h0 h → 0 ≤ l5 → l5 ≤ 10 → (∀ j : Nat, (j : Int) < l5 → h 116 j = 0) → 2 * (10 - l5) + (92) ≤ ((n + 1 : Nat) : Int) → m_Z oF M_X12_product 3 [some (mR 116), some (mR 137), some (mI a2), some (mR 125), some (mI a4), some (mI l5), none, none, none, none, none] [] h (m_QV (P_X12_product5 h0 a2 a4)) := by
  intro l5 h G R v0 v1 i0 hr
  refine z_iload (M := M_X12_product) 3 dX12_product_3 rfl ?_
  refine z_bipush (M := M_X12_product) 5 dX12_product_5 ?_
  refine z_icmp_ge (M := M_X12_product) 7 dX12_product_7 21 rfl (fun c1 => ?_) (fun c1 => ?_)
  · refine z_iconst (M := M_X12_product) 21 dX12_product_21 ?_
    refine z_istore (M := M_X12_product) 22 dX12_product_22 (ls' := [some (mR 116), some (mR 137), some (mI a2), some (mR 125), some (mI a4), some (mI 0), none, none, none, none, none]) (by decide) rfl ?_
    exact z_mask [true, true, true, true, true, true, false, false, false, false, false] rfl (ih.2.1 0 h G R (by omega) (by omega) (pdO_0 (by omega) i0) (by omega))
  · refine z_aload_n (M := M_X12_product) 10 dX12_product_10 rfl ?_
    refine z_iload (M := M_X12_product) 11 dX12_product_11 rfl ?_
    refine z_lconst (M := M_X12_product) 13 dX12_product_13 (v := 0) ?_
    refine z_lastH (M := M_X12_product) 14 dX12_product_14 o_116 (by omega) (by omega) (u_116 G) (R.up rfl) (fun h1 E1 G1 R1 => ?_)
    refine z_iincN (M := M_X12_product) 15 dX12_product_15 (ls' := [some (mR 116), some (mR 137), some (mI a2), some (mR 125), some (mI a4), some (mI (l5 + 1)), none, none, none, none, none]) (by decide) rfl (by (unfold m_32; decide)) (by omega) (by omega) rfl ?_
    refine z_goto (M := M_X12_product) 18 dX12_product_18 3 rfl ?_
    exact z_mask [true, true, true, true, true, true, false, false, false, false, false] rfl (ih.1 (l5 + 1) h1 G1 R1 (by omega) (by omega) (pz_step (by omega) i0 E1) (by omega))
set_option maxHeartbeats 4000000 in
set_option maxRecDepth 100000 in
theorem s_X12_product5_24 (h0 : m_H) (a2 a4 : Int) (G0 : GI h0) (pa2 : 0 ≤ a2 ∧ a2 ≤ 0) (pa4 : 0 ≤ a4 ∧ a4 ≤ 75) (n : Nat) (ih : q_X12_product5 h0 a2 a4 n) : ∀ (l5 : Int) (h : m_H), GI h → FR [116] [] h0 h → 0 ≤ l5 → l5 ≤ 5 → (pdO (h 116) (h0 137) (h0 125) a2 a4 l5) → 15 * (5 - l5) + (14) ≤ ((n + 1 : Nat) : Int) → m_Z oF M_X12_product 24 [some (mR 116), some (mR 137), some (mI a2), some (mR 125), some (mI a4), some (mI l5), none, none, none, none, none] [] h (m_QV (P_X12_product5 h0 a2 a4)) := by
  intro l5 h G R v0 v1 i0 hr
  refine z_iload (M := M_X12_product) 24 dX12_product_24 rfl ?_
  refine z_iconst (M := M_X12_product) 26 dX12_product_26 ?_
  refine z_icmp_ge (M := M_X12_product) 27 dX12_product_27 113 rfl (fun c1 => ?_) (fun c1 => ?_)
  · exact z_retV (M := M_X12_product) 113 dX12_product_113 rfl ⟨G, R, (show l5 = 5 by omega) ▸ i0⟩
  · refine z_lconst (M := M_X12_product) 30 dX12_product_30 (v := 0) ?_
    refine z_lstore (M := M_X12_product) 31 dX12_product_31 (ls' := [some (mR 116), some (mR 137), some (mI a2), some (mR 125), some (mI a4), some (mI l5), some (mJ 0), none, none, none, none]) (by decide) rfl ?_
    refine z_iconst (M := M_X12_product) 33 dX12_product_33 ?_
    refine z_istore (M := M_X12_product) 34 dX12_product_34 (ls' := [some (mR 116), some (mR 137), some (mI a2), some (mR 125), some (mI a4), some (mI l5), some (mJ 0), none, some (mI 0), none, none]) (by decide) rfl ?_
    exact z_mask [true, true, true, true, true, true, true, false, true, false, false] rfl (ih.2.2 l5 0 0 h G R (by omega) (by omega) (by omega) (by omega) (by omega) (by omega) (pdI_0 i0) (by omega))
set_option maxHeartbeats 4000000 in
set_option maxRecDepth 100000 in
theorem s_X12_product5_36 (h0 : m_H) (a2 a4 : Int) (G0 : GI h0) (pa2 : 0 ≤ a2 ∧ a2 ≤ 0) (pa4 : 0 ≤ a4 ∧ a4 ≤ 75) (n : Nat) (ih : q_X12_product5 h0 a2 a4 n) : ∀ (l5 l6 l8 : Int) (h : m_H), GI h → FR [116] [] h0 h → 0 ≤ l5 → l5 ≤ 4 → 0 ≤ l6 → l6 ≤ 99999999 → 0 ≤ l8 → l8 ≤ 5 → (pdI (h 116) (h0 137) (h0 125) a2 a4 l5 l8 l6) → 15 * (5 - l5) + 2 * (5 - l8) + (1) ≤ ((n + 1 : Nat) : Int) → m_Z oF M_X12_product 36 [some (mR 116), some (mR 137), some (mI a2), some (mR 125), some (mI a4), some (mI l5), some (mJ l6), none, some (mI l8), none, none] [] h (m_QV (P_X12_product5 h0 a2 a4)) := by
  intro l5 l6 l8 h G R v0 v1 v2 v3 v4 v5 i0 hr
  refine z_iload (M := M_X12_product) 36 dX12_product_36 rfl ?_
  refine z_iconst (M := M_X12_product) 38 dX12_product_38 ?_
  refine z_icmp_ge (M := M_X12_product) 39 dX12_product_39 96 rfl (fun c1 => ?_) (fun c1 => ?_)
  · refine z_aload_n (M := M_X12_product) 96 dX12_product_96 rfl ?_
    refine z_iload (M := M_X12_product) 97 dX12_product_97 rfl ?_
    refine z_iconst (M := M_X12_product) 99 dX12_product_99 ?_
    refine z_iaddN (M := M_X12_product) 100 dX12_product_100 (by omega) (by omega) ?_
    refine z_dup2 (M := M_X12_product) 101 dX12_product_101 rfl rfl ?_
    refine z_laldG (M := M_X12_product) 102 dX12_product_102 o_116 (by omega) (by omega) (i0.1.at (i := (l5 + 5)) (by omega) (by omega)) (fun x2 ex2 ax2 bx2 => ?_)
    refine z_lload (M := M_X12_product) 103 dX12_product_103 rfl ?_
    refine z_laddN (M := M_X12_product) 105 dX12_product_105 (by omega) (by omega) ?_
    refine z_lastH (M := M_X12_product) 106 dX12_product_106 o_116 (by omega) (by omega) (u_116 G) (R.up rfl) (fun h1 E1 G1 R1 => ?_)
    refine z_iincN (M := M_X12_product) 107 dX12_product_107 (ls' := [some (mR 116), some (mR 137), some (mI a2), some (mR 125), some (mI a4), some (mI (l5 + 1)), some (mJ l6), none, some (mI l8), none, none]) (by decide) rfl (by (unfold m_32; decide)) (by omega) (by omega) rfl ?_
    refine z_goto (M := M_X12_product) 110 dX12_product_110 24 rfl ?_
    exact z_mask [true, true, true, true, true, true, false, false, false, false, false] rfl (ih.2.1 (l5 + 1) h1 G1 R1 (by omega) (by omega) (pdO_step (by omega) (by omega) (by omega) i0 ex2 ⟨by omega, by omega⟩ E1) (by omega))
  · refine z_aload_n (M := M_X12_product) 42 dX12_product_42 rfl ?_
    refine z_iload (M := M_X12_product) 43 dX12_product_43 rfl ?_
    refine z_iload (M := M_X12_product) 45 dX12_product_45 rfl ?_
    refine z_iaddN (M := M_X12_product) 47 dX12_product_47 (by omega) (by omega) ?_
    refine z_laldG (M := M_X12_product) 48 dX12_product_48 o_116 (by omega) (by omega) (i0.1.at (i := (l5 + l8)) (by omega) (by omega)) (fun x3 ex3 ax3 bx3 => ?_)
    refine z_aload_n (M := M_X12_product) 49 dX12_product_49 rfl ?_
    refine z_iload_n (M := M_X12_product) 50 dX12_product_50 rfl ?_
    refine z_iload (M := M_X12_product) 51 dX12_product_51 rfl ?_
    refine z_iaddN (M := M_X12_product) 53 dX12_product_53 (by omega) (by omega) ?_
    refine z_laldG (M := M_X12_product) 54 dX12_product_54 o_137 (by omega) (by omega) (g_137 G (by omega)) (fun x4 ex4 ax4 bx4 => ?_)
    refine z_aload_n (M := M_X12_product) 55 dX12_product_55 rfl ?_
    refine z_iload (M := M_X12_product) 56 dX12_product_56 rfl ?_
    refine z_iload (M := M_X12_product) 58 dX12_product_58 rfl ?_
    refine z_iaddN (M := M_X12_product) 60 dX12_product_60 (by omega) (by omega) ?_
    refine z_laldG (M := M_X12_product) 61 dX12_product_61 o_125 (by omega) (by omega) (g_125 G (by omega)) (fun x5 ex5 ax5 bx5 => ?_)
    have mx6 := mul_bd (x := x4) (y := x5) (X := 1) (Y := 99999999) (by omega) (by omega) (by omega) (by omega)
    refine z_lmulN (M := M_X12_product) 62 dX12_product_62 (by omega) (by omega) ?_
    refine z_topBJ (lo := 0) (hi := 99999999) ⟨by omega, by omega⟩ (fun x6 ex6 ax6 bx6 => ?_)
    refine z_laddN (M := M_X12_product) 63 dX12_product_63 (by omega) (by omega) ?_
    refine z_lload (M := M_X12_product) 64 dX12_product_64 rfl ?_
    refine z_laddN (M := M_X12_product) 66 dX12_product_66 (by omega) (by omega) ?_
    refine z_lstore (M := M_X12_product) 67 dX12_product_67 (ls' := [some (mR 116), some (mR 137), some (mI a2), some (mR 125), some (mI a4), some (mI l5), some (mJ l6), none, some (mI l8), some (mJ ((x3 + x6) + l6)), none]) (by decide) rfl ?_
    refine z_aload_n (M := M_X12_product) 69 dX12_product_69 rfl ?_
    refine z_iload (M := M_X12_product) 70 dX12_product_70 rfl ?_
    refine z_iload (M := M_X12_product) 72 dX12_product_72 rfl ?_
    refine z_iaddN (M := M_X12_product) 74 dX12_product_74 (by omega) (by omega) ?_
    refine z_lload (M := M_X12_product) 75 dX12_product_75 rfl ?_
    refine z_ldc2 (M := M_X12_product) 77 dX12_product_77 k_X12_327 ?_
    refine z_lremN (M := M_X12_product) 80 dX12_product_80 (by omega) (by omega) ?_
    refine z_topBJ (lo := 0) (hi := 99999999) ⟨by omega, by omega⟩ (fun x7 ex7 ax7 bx7 => ?_)
    refine z_lastH (M := M_X12_product) 81 dX12_product_81 o_116 (by omega) (by omega) (u_116 G) (R.up rfl) (fun h2 E2 G2 R2 => ?_)
    refine z_lload (M := M_X12_product) 82 dX12_product_82 rfl ?_
    refine z_ldc2 (M := M_X12_product) 84 dX12_product_84 k_X12_327 ?_
    refine z_ldivN (M := M_X12_product) 87 dX12_product_87 (by omega) (by omega) ?_
    refine z_topBJ (lo := 0) (hi := 2) ⟨by omega, by omega⟩ (fun x8 ex8 ax8 bx8 => ?_)
    refine z_lstore (M := M_X12_product) 88 dX12_product_88 (ls' := [some (mR 116), some (mR 137), some (mI a2), some (mR 125), some (mI a4), some (mI l5), some (mJ x8), none, some (mI l8), some (mJ ((x3 + x6) + l6)), none]) (by decide) rfl ?_
    refine z_iincN (M := M_X12_product) 90 dX12_product_90 (ls' := [some (mR 116), some (mR 137), some (mI a2), some (mR 125), some (mI a4), some (mI l5), some (mJ x8), none, some (mI (l8 + 1)), some (mJ ((x3 + x6) + l6)), none]) (by decide) rfl (by (unfold m_32; decide)) (by omega) (by omega) rfl ?_
    refine z_goto (M := M_X12_product) 93 dX12_product_93 36 rfl ?_
    exact z_mask [true, true, true, true, true, true, true, false, true, false, false] rfl (ih.2.2 l5 x8 (l8 + 1) h2 G2 R2 (by omega) (by omega) (by omega) (by omega) (by omega) (by omega) (pdI_step (by omega) (by omega) (by omega) (by omega) (by omega) (by omega) i0 ex3 ((R 137 _ rfl).symm.trans ex4) ((R 125 _ rfl).symm.trans ex5) ex6 ex7 ex8 ⟨by omega, by omega⟩ E2) (by omega))
theorem a_X12_product5 (h0 : m_H) (a2 a4 : Int) (G0 : GI h0) (pa2 : 0 ≤ a2 ∧ a2 ≤ 0) (pa4 : 0 ≤ a4 ∧ a4 ≤ 75) : ∀ n, q_X12_product5 h0 a2 a4 n := by
  intro n
  induction n with
  | zero => unfold q_X12_product5; refine ⟨?_, ?_, ?_⟩ <;> (intros; omega)
  | succ n ih => exact ⟨s_X12_product5_3 h0 a2 a4 G0 pa2 pa4 n ih, s_X12_product5_24 h0 a2 a4 G0 pa2 pa4 n ih, s_X12_product5_36 h0 a2 a4 G0 pa2 pa4 n ih⟩
set_option maxHeartbeats 4000000 in
set_option maxRecDepth 100000 in
theorem c_X12_product5 (h0 : m_H) (a2 a4 : Int) (G0 : GI h0) (pa2 : 0 ≤ a2 ∧ a2 ≤ 0) (pa4 : 0 ≤ a4 ∧ a4 ≤ 75) : m_CV M_X12_product [mR 116, mR 137, mI a2, mR 125, mI a4] h0 (P_X12_product5 h0 a2 a4) := by
  refine m_CV_of ⟨by decide, rfl, by simp [m_arg, m_isL, M_X12_product], ⟨rfl, rfl⟩, rfl, rfl⟩ (ls := [some (mR 116), some (mR 137), some (mI a2), some (mR 125), some (mI a4), none, none, none, none, none, none]) rfl ?_
  have ih := a_X12_product5 h0 a2 a4 G0 pa2 pa4 119
  refine z_iconst (M := M_X12_product) 0 dX12_product_0 ?_
  refine z_istore (M := M_X12_product) 1 dX12_product_1 (ls' := [some (mR 116), some (mR 137), some (mI a2), some (mR 125), some (mI a4), some (mI 0), none, none, none, none, none]) (by decide) rfl ?_
  exact z_mask [true, true, true, true, true, true, false, false, false, false, false] rfl (ih.1 0 h0 G0 (FR.rf (cs := [116]) (ss := []) (h := h0)) (by omega) (by omega) (fun j hj => by omega) (by omega))
abbrev P_X12_compareA (h0 : m_H) (a3 a6 : Int) : Int → m_H → Prop := fun x h' => GI h' ∧ FR [115, 116] [] h0 h' ∧ (-1) ≤ x ∧ x ≤ 1 ∧ cmpQ x (vS (h0 132) a3.toNat 5 * vS (h0 129) a6.toNat 5) (vS (h0 128) a6.toNat 5 * vS (h0 133) a3.toNat 5)
def q_X12_compareA (h0 : m_H) (a3 a6 : Int) (n : Nat) : Prop := (∀ (l7 : Int) (h : m_H), GI h → FR [115, 116] [] h0 h → (-1) ≤ l7 → l7 ≤ 9 → (cpI (h 115) (h 116) (vS (h0 132) a3.toNat 5 * vS (h0 129) a6.toNat 5) (vS (h0 128) a6.toNat 5 * vS (h0 133) a3.toNat 5) l7) → 2 * (l7 - (-1)) + (1) ≤ (n : Int) → m_Z oF M_X12_compare 30 [some (mR 108), none, none, none, none, none, none, some (mI l7)] [] h (m_QI (P_X12_compareA h0 a3 a6)))
set_option maxHeartbeats 4000000 in
set_option maxRecDepth 100000 in
theorem s_X12_compareA_30 (h0 : m_H) (a3 a6 : Int) (G0 : GI h0) (pa3 : 0 ≤ a3 ∧ a3 ≤ 0) (pa6 : 0 ≤ a6 ∧ a6 ≤ 75) (n : Nat) (ih : q_X12_compareA h0 a3 a6 n) : ∀ (l7 : Int) (h : m_H), GI h → FR [115, 116] [] h0 h → (-1) ≤ l7 → l7 ≤ 9 → (cpI (h 115) (h 116) (vS (h0 132) a3.toNat 5 * vS (h0 129) a6.toNat 5) (vS (h0 128) a6.toNat 5 * vS (h0 133) a3.toNat 5) l7) → 2 * (l7 - (-1)) + (1) ≤ ((n + 1 : Nat) : Int) → m_Z oF M_X12_compare 30 [some (mR 108), none, none, none, none, none, none, some (mI l7)] [] h (m_QI (P_X12_compareA h0 a3 a6)) := by
  intro l7 h G R v0 v1 i0 hr
  refine z_iload (M := M_X12_compare) 30 dX12_compare_30 rfl ?_
  refine z_if_lt (M := M_X12_compare) 32 dX12_compare_32 83 rfl (fun c1 => ?_) (fun c1 => ?_)
  · refine z_iconst (M := M_X12_compare) 83 dX12_compare_83 ?_
    exact z_retI (M := M_X12_compare) 84 dX12_compare_84 rfl ⟨G, R, by omega, by omega, cpI_eq i0 (by omega)⟩
  · refine z_aload_n (M := M_X12_compare) 35 dX12_compare_35 rfl ?_
    refine z_getR (M := M_X12_compare) 36 dX12_compare_36 f_X12_33 o_108 rfl (g_108_19 G) ?_
    refine z_iload (M := M_X12_compare) 39 dX12_compare_39 rfl ?_
    refine z_laldV (M := M_X12_compare) 41 dX12_compare_41 o_115 (by omega) (by omega) (fun x2 ex2 => ?_)
    refine z_aload_n (M := M_X12_compare) 42 dX12_compare_42 rfl ?_
    refine z_getR (M := M_X12_compare) 43 dX12_compare_43 f_X12_37 o_108 rfl (g_108_20 G) ?_
    refine z_iload (M := M_X12_compare) 46 dX12_compare_46 rfl ?_
    refine z_laldV (M := M_X12_compare) 48 dX12_compare_48 o_116 (by omega) (by omega) (fun x3 ex3 => ?_)
    refine z_lcmp (M := M_X12_compare) 49 dX12_compare_49 ?_
    refine z_if_eq (M := M_X12_compare) 50 dX12_compare_50 77 rfl (fun c4 => ?_) (fun c4 => ?_)
    · rw [m_cmp_eq] at c4
      refine z_iincN (M := M_X12_compare) 77 dX12_compare_77 (ls' := [some (mR 108), none, none, none, none, none, none, some (mI (l7 + (-1)))]) (by decide) rfl (by (unfold m_32; decide)) (by omega) (by omega) rfl ?_
      refine z_goto (M := M_X12_compare) 80 dX12_compare_80 30 rfl ?_
      exact z_mask [true, false, false, false, false, false, false, true] rfl (ih (l7 + (-1)) h G R (by omega) (by omega) (cpI_step i0 (by omega) ex2 ex3 (by omega)) (by omega))
    · rw [m_cmp_eq] at c4
      refine z_aload_n (M := M_X12_compare) 53 dX12_compare_53 rfl ?_
      refine z_getR (M := M_X12_compare) 54 dX12_compare_54 f_X12_33 o_108 rfl (g_108_19 G) ?_
      refine z_iload (M := M_X12_compare) 57 dX12_compare_57 rfl ?_
      refine z_laldE (M := M_X12_compare) 59 dX12_compare_59 o_115 (by omega) (by omega) ex2 ?_
      refine z_aload_n (M := M_X12_compare) 60 dX12_compare_60 rfl ?_
      refine z_getR (M := M_X12_compare) 61 dX12_compare_61 f_X12_37 o_108 rfl (g_108_20 G) ?_
      refine z_iload (M := M_X12_compare) 64 dX12_compare_64 rfl ?_
      refine z_laldE (M := M_X12_compare) 66 dX12_compare_66 o_116 (by omega) (by omega) ex3 ?_
      refine z_lcmp (M := M_X12_compare) 67 dX12_compare_67 ?_
      refine z_if_ge (M := M_X12_compare) 68 dX12_compare_68 75 rfl (fun c5 => ?_) (fun c5 => ?_)
      · rw [m_cmp_ge] at c5
        refine z_iconst (M := M_X12_compare) 75 dX12_compare_75 ?_
        exact z_retI (M := M_X12_compare) 76 dX12_compare_76 rfl ⟨G, R, by omega, by omega, cpI_gt i0 (by omega) (by omega) ex2 ex3 (by omega)⟩
      · rw [m_cmp_ge] at c5
        refine z_iconst (M := M_X12_compare) 71 dX12_compare_71 ?_
        refine z_goto (M := M_X12_compare) 72 dX12_compare_72 76 rfl ?_
        exact z_retI (M := M_X12_compare) 76 dX12_compare_76 rfl ⟨G, R, by omega, by omega, cpI_lt i0 (by omega) (by omega) ex2 ex3 (by omega)⟩
theorem a_X12_compareA (h0 : m_H) (a3 a6 : Int) (G0 : GI h0) (pa3 : 0 ≤ a3 ∧ a3 ≤ 0) (pa6 : 0 ≤ a6 ∧ a6 ≤ 75) : ∀ n, q_X12_compareA h0 a3 a6 n := by
  intro n
  induction n with
  | zero => unfold q_X12_compareA; intros; omega
  | succ n ih => exact s_X12_compareA_30 h0 a3 a6 G0 pa3 pa6 n ih
set_option maxHeartbeats 4000000 in
set_option maxRecDepth 100000 in
theorem c_X12_compareA (h0 : m_H) (a3 a6 : Int) (G0 : GI h0) (pa3 : 0 ≤ a3 ∧ a3 ≤ 0) (pa6 : 0 ≤ a6 ∧ a6 ≤ 75) : m_CI M_X12_compare [mR 108, mR 132, mR 133, mI a3, mR 128, mR 129, mI a6] h0 (P_X12_compareA h0 a3 a6) := by
  refine m_CI_of ⟨by decide, rfl, by simp [m_arg, m_isL, M_X12_compare], ⟨rfl, rfl⟩, rfl, rfl⟩ (ls := [some (mR 108), some (mR 132), some (mR 133), some (mI a3), some (mR 128), some (mR 129), some (mI a6), none]) rfl ?_
  have ih := a_X12_compareA h0 a3 a6 G0 pa3 pa6 28
  refine z_aload_n (M := M_X12_compare) 0 dX12_compare_0 rfl ?_
  refine z_getR (M := M_X12_compare) 1 dX12_compare_1 f_X12_33 o_108 rfl (g_108_19 G0) ?_
  refine z_aload_n (M := M_X12_compare) 4 dX12_compare_4 rfl ?_
  refine z_iload_n (M := M_X12_compare) 5 dX12_compare_5 rfl ?_
  refine z_aload (M := M_X12_compare) 6 dX12_compare_6 rfl ?_
  refine z_iload (M := M_X12_compare) 8 dX12_compare_8 rfl ?_
  refine z_sV (M := M_X12_compare) 10 dX12_compare_10 t_X12_product l_X12_329 (m_rr_of rfl) (rest := []) (c_X12_product0 h0 a3 a6 G0 ⟨by omega, by omega⟩ ⟨by omega, by omega⟩) rfl rfl (Nat.le_of_ble_eq_true rfl) ⟨rfl, rfl⟩ (fun h1 qx1 => ?_)
  obtain ⟨G1, S1, fx1_0⟩ := qx1
  have R1 := (FR.rf (cs := [115, 116]) (ss := []) (h := h0)).call S1 (by decide +kernel)
  refine z_aload_n (M := M_X12_compare) 13 dX12_compare_13 rfl ?_
  refine z_getR (M := M_X12_compare) 14 dX12_compare_14 f_X12_37 o_108 rfl (g_108_20 G1) ?_
  refine z_aload (M := M_X12_compare) 17 dX12_compare_17 rfl ?_
  refine z_iload (M := M_X12_compare) 19 dX12_compare_19 rfl ?_
  refine z_aload_n (M := M_X12_compare) 21 dX12_compare_21 rfl ?_
  refine z_iload_n (M := M_X12_compare) 22 dX12_compare_22 rfl ?_
  refine z_sV (M := M_X12_compare) 23 dX12_compare_23 t_X12_product l_X12_329 (m_rr_of rfl) (rest := []) (c_X12_product1 h1 a6 a3 G1 ⟨by omega, by omega⟩ ⟨by omega, by omega⟩) rfl rfl (Nat.le_of_ble_eq_true rfl) ⟨rfl, rfl⟩ (fun h2 qx2 => ?_)
  obtain ⟨G2, S2, fx2_0⟩ := qx2
  have R2 := R1.call S2 (by decide +kernel)
  refine z_bipush (M := M_X12_compare) 26 dX12_compare_26 ?_
  refine z_istore (M := M_X12_compare) 28 dX12_compare_28 (ls' := [some (mR 108), some (mR 132), some (mR 133), some (mI a3), some (mR 128), some (mR 129), some (mI a6), some (mI 9)]) (by decide) rfl ?_
  exact z_mask [true, false, false, false, false, false, false, true] rfl (ih 9 h2 G2 R2 (by omega) (by omega) (by have q1 := fx1_0; have q2 := fx2_0; rw [show h1 128 = h0 128 from FR.row S1 (fun _ => rfl), show h1 133 = h0 133 from FR.row S1 (fun _ => rfl)] at q2; rw [show h2 115 = h1 115 from FR.row S2 (fun _ => rfl)]; exact cpI_0 q1 q2) (by omega))
abbrev P_X12_compareB (h0 : m_H) (a3 a6 : Int) : Int → m_H → Prop := fun x h' => GI h' ∧ FR [115, 116] [] h0 h' ∧ (-1) ≤ x ∧ x ≤ 1 ∧ cmpQ x (vS (h0 132) a3.toNat 5 * vS (h0 125) a6.toNat 5) (vS (h0 124) a6.toNat 5 * vS (h0 133) a3.toNat 5)
def q_X12_compareB (h0 : m_H) (a3 a6 : Int) (n : Nat) : Prop := (∀ (l7 : Int) (h : m_H), GI h → FR [115, 116] [] h0 h → (-1) ≤ l7 → l7 ≤ 9 → (cpI (h 115) (h 116) (vS (h0 132) a3.toNat 5 * vS (h0 125) a6.toNat 5) (vS (h0 124) a6.toNat 5 * vS (h0 133) a3.toNat 5) l7) → 2 * (l7 - (-1)) + (1) ≤ (n : Int) → m_Z oF M_X12_compare 30 [some (mR 108), none, none, none, none, none, none, some (mI l7)] [] h (m_QI (P_X12_compareB h0 a3 a6)))
set_option maxHeartbeats 4000000 in
set_option maxRecDepth 100000 in
theorem s_X12_compareB_30 (h0 : m_H) (a3 a6 : Int) (G0 : GI h0) (pa3 : 0 ≤ a3 ∧ a3 ≤ 0) (pa6 : 0 ≤ a6 ∧ a6 ≤ 75) (n : Nat) (ih : q_X12_compareB h0 a3 a6 n) : ∀ (l7 : Int) (h : m_H), GI h → FR [115, 116] [] h0 h → (-1) ≤ l7 → l7 ≤ 9 → (cpI (h 115) (h 116) (vS (h0 132) a3.toNat 5 * vS (h0 125) a6.toNat 5) (vS (h0 124) a6.toNat 5 * vS (h0 133) a3.toNat 5) l7) → 2 * (l7 - (-1)) + (1) ≤ ((n + 1 : Nat) : Int) → m_Z oF M_X12_compare 30 [some (mR 108), none, none, none, none, none, none, some (mI l7)] [] h (m_QI (P_X12_compareB h0 a3 a6)) := by
  intro l7 h G R v0 v1 i0 hr
  refine z_iload (M := M_X12_compare) 30 dX12_compare_30 rfl ?_
  refine z_if_lt (M := M_X12_compare) 32 dX12_compare_32 83 rfl (fun c1 => ?_) (fun c1 => ?_)
  · refine z_iconst (M := M_X12_compare) 83 dX12_compare_83 ?_
    exact z_retI (M := M_X12_compare) 84 dX12_compare_84 rfl ⟨G, R, by omega, by omega, cpI_eq i0 (by omega)⟩
  · refine z_aload_n (M := M_X12_compare) 35 dX12_compare_35 rfl ?_
    refine z_getR (M := M_X12_compare) 36 dX12_compare_36 f_X12_33 o_108 rfl (g_108_19 G) ?_
    refine z_iload (M := M_X12_compare) 39 dX12_compare_39 rfl ?_
    refine z_laldV (M := M_X12_compare) 41 dX12_compare_41 o_115 (by omega) (by omega) (fun x2 ex2 => ?_)
    refine z_aload_n (M := M_X12_compare) 42 dX12_compare_42 rfl ?_
    refine z_getR (M := M_X12_compare) 43 dX12_compare_43 f_X12_37 o_108 rfl (g_108_20 G) ?_
    refine z_iload (M := M_X12_compare) 46 dX12_compare_46 rfl ?_
    refine z_laldV (M := M_X12_compare) 48 dX12_compare_48 o_116 (by omega) (by omega) (fun x3 ex3 => ?_)
    refine z_lcmp (M := M_X12_compare) 49 dX12_compare_49 ?_
    refine z_if_eq (M := M_X12_compare) 50 dX12_compare_50 77 rfl (fun c4 => ?_) (fun c4 => ?_)
    · rw [m_cmp_eq] at c4
      refine z_iincN (M := M_X12_compare) 77 dX12_compare_77 (ls' := [some (mR 108), none, none, none, none, none, none, some (mI (l7 + (-1)))]) (by decide) rfl (by (unfold m_32; decide)) (by omega) (by omega) rfl ?_
      refine z_goto (M := M_X12_compare) 80 dX12_compare_80 30 rfl ?_
      exact z_mask [true, false, false, false, false, false, false, true] rfl (ih (l7 + (-1)) h G R (by omega) (by omega) (cpI_step i0 (by omega) ex2 ex3 (by omega)) (by omega))
    · rw [m_cmp_eq] at c4
      refine z_aload_n (M := M_X12_compare) 53 dX12_compare_53 rfl ?_
      refine z_getR (M := M_X12_compare) 54 dX12_compare_54 f_X12_33 o_108 rfl (g_108_19 G) ?_
      refine z_iload (M := M_X12_compare) 57 dX12_compare_57 rfl ?_
      refine z_laldE (M := M_X12_compare) 59 dX12_compare_59 o_115 (by omega) (by omega) ex2 ?_
      refine z_aload_n (M := M_X12_compare) 60 dX12_compare_60 rfl ?_
      refine z_getR (M := M_X12_compare) 61 dX12_compare_61 f_X12_37 o_108 rfl (g_108_20 G) ?_
      refine z_iload (M := M_X12_compare) 64 dX12_compare_64 rfl ?_
      refine z_laldE (M := M_X12_compare) 66 dX12_compare_66 o_116 (by omega) (by omega) ex3 ?_
      refine z_lcmp (M := M_X12_compare) 67 dX12_compare_67 ?_
      refine z_if_ge (M := M_X12_compare) 68 dX12_compare_68 75 rfl (fun c5 => ?_) (fun c5 => ?_)
      · rw [m_cmp_ge] at c5
        refine z_iconst (M := M_X12_compare) 75 dX12_compare_75 ?_
        exact z_retI (M := M_X12_compare) 76 dX12_compare_76 rfl ⟨G, R, by omega, by omega, cpI_gt i0 (by omega) (by omega) ex2 ex3 (by omega)⟩
      · rw [m_cmp_ge] at c5
        refine z_iconst (M := M_X12_compare) 71 dX12_compare_71 ?_
        refine z_goto (M := M_X12_compare) 72 dX12_compare_72 76 rfl ?_
        exact z_retI (M := M_X12_compare) 76 dX12_compare_76 rfl ⟨G, R, by omega, by omega, cpI_lt i0 (by omega) (by omega) ex2 ex3 (by omega)⟩
theorem a_X12_compareB (h0 : m_H) (a3 a6 : Int) (G0 : GI h0) (pa3 : 0 ≤ a3 ∧ a3 ≤ 0) (pa6 : 0 ≤ a6 ∧ a6 ≤ 75) : ∀ n, q_X12_compareB h0 a3 a6 n := by
  intro n
  induction n with
  | zero => unfold q_X12_compareB; intros; omega
  | succ n ih => exact s_X12_compareB_30 h0 a3 a6 G0 pa3 pa6 n ih
set_option maxHeartbeats 4000000 in
set_option maxRecDepth 100000 in
theorem c_X12_compareB (h0 : m_H) (a3 a6 : Int) (G0 : GI h0) (pa3 : 0 ≤ a3 ∧ a3 ≤ 0) (pa6 : 0 ≤ a6 ∧ a6 ≤ 75) : m_CI M_X12_compare [mR 108, mR 132, mR 133, mI a3, mR 124, mR 125, mI a6] h0 (P_X12_compareB h0 a3 a6) := by
  refine m_CI_of ⟨by decide, rfl, by simp [m_arg, m_isL, M_X12_compare], ⟨rfl, rfl⟩, rfl, rfl⟩ (ls := [some (mR 108), some (mR 132), some (mR 133), some (mI a3), some (mR 124), some (mR 125), some (mI a6), none]) rfl ?_
  have ih := a_X12_compareB h0 a3 a6 G0 pa3 pa6 28
  refine z_aload_n (M := M_X12_compare) 0 dX12_compare_0 rfl ?_
  refine z_getR (M := M_X12_compare) 1 dX12_compare_1 f_X12_33 o_108 rfl (g_108_19 G0) ?_
  refine z_aload_n (M := M_X12_compare) 4 dX12_compare_4 rfl ?_
  refine z_iload_n (M := M_X12_compare) 5 dX12_compare_5 rfl ?_
  refine z_aload (M := M_X12_compare) 6 dX12_compare_6 rfl ?_
  refine z_iload (M := M_X12_compare) 8 dX12_compare_8 rfl ?_
  refine z_sV (M := M_X12_compare) 10 dX12_compare_10 t_X12_product l_X12_329 (m_rr_of rfl) (rest := []) (c_X12_product2 h0 a3 a6 G0 ⟨by omega, by omega⟩ ⟨by omega, by omega⟩) rfl rfl (Nat.le_of_ble_eq_true rfl) ⟨rfl, rfl⟩ (fun h1 qx1 => ?_)
  obtain ⟨G1, S1, fx1_0⟩ := qx1
  have R1 := (FR.rf (cs := [115, 116]) (ss := []) (h := h0)).call S1 (by decide +kernel)
  refine z_aload_n (M := M_X12_compare) 13 dX12_compare_13 rfl ?_
  refine z_getR (M := M_X12_compare) 14 dX12_compare_14 f_X12_37 o_108 rfl (g_108_20 G1) ?_
  refine z_aload (M := M_X12_compare) 17 dX12_compare_17 rfl ?_
  refine z_iload (M := M_X12_compare) 19 dX12_compare_19 rfl ?_
  refine z_aload_n (M := M_X12_compare) 21 dX12_compare_21 rfl ?_
  refine z_iload_n (M := M_X12_compare) 22 dX12_compare_22 rfl ?_
  refine z_sV (M := M_X12_compare) 23 dX12_compare_23 t_X12_product l_X12_329 (m_rr_of rfl) (rest := []) (c_X12_product3 h1 a6 a3 G1 ⟨by omega, by omega⟩ ⟨by omega, by omega⟩) rfl rfl (Nat.le_of_ble_eq_true rfl) ⟨rfl, rfl⟩ (fun h2 qx2 => ?_)
  obtain ⟨G2, S2, fx2_0⟩ := qx2
  have R2 := R1.call S2 (by decide +kernel)
  refine z_bipush (M := M_X12_compare) 26 dX12_compare_26 ?_
  refine z_istore (M := M_X12_compare) 28 dX12_compare_28 (ls' := [some (mR 108), some (mR 132), some (mR 133), some (mI a3), some (mR 124), some (mR 125), some (mI a6), some (mI 9)]) (by decide) rfl ?_
  exact z_mask [true, false, false, false, false, false, false, true] rfl (ih 9 h2 G2 R2 (by omega) (by omega) (by have q1 := fx1_0; have q2 := fx2_0; rw [show h1 124 = h0 124 from FR.row S1 (fun _ => rfl), show h1 133 = h0 133 from FR.row S1 (fun _ => rfl)] at q2; rw [show h2 115 = h1 115 from FR.row S2 (fun _ => rfl)]; exact cpI_0 q1 q2) (by omega))
abbrev P_X12_compareC (h0 : m_H) (a3 a6 : Int) : Int → m_H → Prop := fun x h' => GI h' ∧ FR [115, 116] [] h0 h' ∧ (-1) ≤ x ∧ x ≤ 1 ∧ cmpQ x (vS (h0 124) a3.toNat 5 * vS (h0 137) a6.toNat 5) (vS (h0 137) a6.toNat 5 * vS (h0 125) a3.toNat 5)
def q_X12_compareC (h0 : m_H) (a3 a6 : Int) (n : Nat) : Prop := (∀ (l7 : Int) (h : m_H), GI h → FR [115, 116] [] h0 h → (-1) ≤ l7 → l7 ≤ 9 → (cpI (h 115) (h 116) (vS (h0 124) a3.toNat 5 * vS (h0 137) a6.toNat 5) (vS (h0 137) a6.toNat 5 * vS (h0 125) a3.toNat 5) l7) → 2 * (l7 - (-1)) + (1) ≤ (n : Int) → m_Z oF M_X12_compare 30 [some (mR 108), none, none, none, none, none, none, some (mI l7)] [] h (m_QI (P_X12_compareC h0 a3 a6)))
set_option maxHeartbeats 4000000 in
set_option maxRecDepth 100000 in
theorem s_X12_compareC_30 (h0 : m_H) (a3 a6 : Int) (G0 : GI h0) (pa3 : 0 ≤ a3 ∧ a3 ≤ 75) (pa6 : 0 ≤ a6 ∧ a6 ≤ 0) (n : Nat) (ih : q_X12_compareC h0 a3 a6 n) : ∀ (l7 : Int) (h : m_H), GI h → FR [115, 116] [] h0 h → (-1) ≤ l7 → l7 ≤ 9 → (cpI (h 115) (h 116) (vS (h0 124) a3.toNat 5 * vS (h0 137) a6.toNat 5) (vS (h0 137) a6.toNat 5 * vS (h0 125) a3.toNat 5) l7) → 2 * (l7 - (-1)) + (1) ≤ ((n + 1 : Nat) : Int) → m_Z oF M_X12_compare 30 [some (mR 108), none, none, none, none, none, none, some (mI l7)] [] h (m_QI (P_X12_compareC h0 a3 a6)) := by
  intro l7 h G R v0 v1 i0 hr
  refine z_iload (M := M_X12_compare) 30 dX12_compare_30 rfl ?_
  refine z_if_lt (M := M_X12_compare) 32 dX12_compare_32 83 rfl (fun c1 => ?_) (fun c1 => ?_)
  · refine z_iconst (M := M_X12_compare) 83 dX12_compare_83 ?_
    exact z_retI (M := M_X12_compare) 84 dX12_compare_84 rfl ⟨G, R, by omega, by omega, cpI_eq i0 (by omega)⟩
  · refine z_aload_n (M := M_X12_compare) 35 dX12_compare_35 rfl ?_
    refine z_getR (M := M_X12_compare) 36 dX12_compare_36 f_X12_33 o_108 rfl (g_108_19 G) ?_
    refine z_iload (M := M_X12_compare) 39 dX12_compare_39 rfl ?_
    refine z_laldV (M := M_X12_compare) 41 dX12_compare_41 o_115 (by omega) (by omega) (fun x2 ex2 => ?_)
    refine z_aload_n (M := M_X12_compare) 42 dX12_compare_42 rfl ?_
    refine z_getR (M := M_X12_compare) 43 dX12_compare_43 f_X12_37 o_108 rfl (g_108_20 G) ?_
    refine z_iload (M := M_X12_compare) 46 dX12_compare_46 rfl ?_
    refine z_laldV (M := M_X12_compare) 48 dX12_compare_48 o_116 (by omega) (by omega) (fun x3 ex3 => ?_)
    refine z_lcmp (M := M_X12_compare) 49 dX12_compare_49 ?_
    refine z_if_eq (M := M_X12_compare) 50 dX12_compare_50 77 rfl (fun c4 => ?_) (fun c4 => ?_)
    · rw [m_cmp_eq] at c4
      refine z_iincN (M := M_X12_compare) 77 dX12_compare_77 (ls' := [some (mR 108), none, none, none, none, none, none, some (mI (l7 + (-1)))]) (by decide) rfl (by (unfold m_32; decide)) (by omega) (by omega) rfl ?_
      refine z_goto (M := M_X12_compare) 80 dX12_compare_80 30 rfl ?_
      exact z_mask [true, false, false, false, false, false, false, true] rfl (ih (l7 + (-1)) h G R (by omega) (by omega) (cpI_step i0 (by omega) ex2 ex3 (by omega)) (by omega))
    · rw [m_cmp_eq] at c4
      refine z_aload_n (M := M_X12_compare) 53 dX12_compare_53 rfl ?_
      refine z_getR (M := M_X12_compare) 54 dX12_compare_54 f_X12_33 o_108 rfl (g_108_19 G) ?_
      refine z_iload (M := M_X12_compare) 57 dX12_compare_57 rfl ?_
      refine z_laldE (M := M_X12_compare) 59 dX12_compare_59 o_115 (by omega) (by omega) ex2 ?_
      refine z_aload_n (M := M_X12_compare) 60 dX12_compare_60 rfl ?_
      refine z_getR (M := M_X12_compare) 61 dX12_compare_61 f_X12_37 o_108 rfl (g_108_20 G) ?_
      refine z_iload (M := M_X12_compare) 64 dX12_compare_64 rfl ?_
      refine z_laldE (M := M_X12_compare) 66 dX12_compare_66 o_116 (by omega) (by omega) ex3 ?_
      refine z_lcmp (M := M_X12_compare) 67 dX12_compare_67 ?_
      refine z_if_ge (M := M_X12_compare) 68 dX12_compare_68 75 rfl (fun c5 => ?_) (fun c5 => ?_)
      · rw [m_cmp_ge] at c5
        refine z_iconst (M := M_X12_compare) 75 dX12_compare_75 ?_
        exact z_retI (M := M_X12_compare) 76 dX12_compare_76 rfl ⟨G, R, by omega, by omega, cpI_gt i0 (by omega) (by omega) ex2 ex3 (by omega)⟩
      · rw [m_cmp_ge] at c5
        refine z_iconst (M := M_X12_compare) 71 dX12_compare_71 ?_
        refine z_goto (M := M_X12_compare) 72 dX12_compare_72 76 rfl ?_
        exact z_retI (M := M_X12_compare) 76 dX12_compare_76 rfl ⟨G, R, by omega, by omega, cpI_lt i0 (by omega) (by omega) ex2 ex3 (by omega)⟩
theorem a_X12_compareC (h0 : m_H) (a3 a6 : Int) (G0 : GI h0) (pa3 : 0 ≤ a3 ∧ a3 ≤ 75) (pa6 : 0 ≤ a6 ∧ a6 ≤ 0) : ∀ n, q_X12_compareC h0 a3 a6 n := by
  intro n
  induction n with
  | zero => unfold q_X12_compareC; intros; omega
  | succ n ih => exact s_X12_compareC_30 h0 a3 a6 G0 pa3 pa6 n ih
set_option maxHeartbeats 4000000 in
set_option maxRecDepth 100000 in
theorem c_X12_compareC (h0 : m_H) (a3 a6 : Int) (G0 : GI h0) (pa3 : 0 ≤ a3 ∧ a3 ≤ 75) (pa6 : 0 ≤ a6 ∧ a6 ≤ 0) : m_CI M_X12_compare [mR 108, mR 124, mR 125, mI a3, mR 137, mR 137, mI a6] h0 (P_X12_compareC h0 a3 a6) := by
  refine m_CI_of ⟨by decide, rfl, by simp [m_arg, m_isL, M_X12_compare], ⟨rfl, rfl⟩, rfl, rfl⟩ (ls := [some (mR 108), some (mR 124), some (mR 125), some (mI a3), some (mR 137), some (mR 137), some (mI a6), none]) rfl ?_
  have ih := a_X12_compareC h0 a3 a6 G0 pa3 pa6 28
  refine z_aload_n (M := M_X12_compare) 0 dX12_compare_0 rfl ?_
  refine z_getR (M := M_X12_compare) 1 dX12_compare_1 f_X12_33 o_108 rfl (g_108_19 G0) ?_
  refine z_aload_n (M := M_X12_compare) 4 dX12_compare_4 rfl ?_
  refine z_iload_n (M := M_X12_compare) 5 dX12_compare_5 rfl ?_
  refine z_aload (M := M_X12_compare) 6 dX12_compare_6 rfl ?_
  refine z_iload (M := M_X12_compare) 8 dX12_compare_8 rfl ?_
  refine z_sV (M := M_X12_compare) 10 dX12_compare_10 t_X12_product l_X12_329 (m_rr_of rfl) (rest := []) (c_X12_product4 h0 a3 a6 G0 ⟨by omega, by omega⟩ ⟨by omega, by omega⟩) rfl rfl (Nat.le_of_ble_eq_true rfl) ⟨rfl, rfl⟩ (fun h1 qx1 => ?_)
  obtain ⟨G1, S1, fx1_0⟩ := qx1
  have R1 := (FR.rf (cs := [115, 116]) (ss := []) (h := h0)).call S1 (by decide +kernel)
  refine z_aload_n (M := M_X12_compare) 13 dX12_compare_13 rfl ?_
  refine z_getR (M := M_X12_compare) 14 dX12_compare_14 f_X12_37 o_108 rfl (g_108_20 G1) ?_
  refine z_aload (M := M_X12_compare) 17 dX12_compare_17 rfl ?_
  refine z_iload (M := M_X12_compare) 19 dX12_compare_19 rfl ?_
  refine z_aload_n (M := M_X12_compare) 21 dX12_compare_21 rfl ?_
  refine z_iload_n (M := M_X12_compare) 22 dX12_compare_22 rfl ?_
  refine z_sV (M := M_X12_compare) 23 dX12_compare_23 t_X12_product l_X12_329 (m_rr_of rfl) (rest := []) (c_X12_product5 h1 a6 a3 G1 ⟨by omega, by omega⟩ ⟨by omega, by omega⟩) rfl rfl (Nat.le_of_ble_eq_true rfl) ⟨rfl, rfl⟩ (fun h2 qx2 => ?_)
  obtain ⟨G2, S2, fx2_0⟩ := qx2
  have R2 := R1.call S2 (by decide +kernel)
  refine z_bipush (M := M_X12_compare) 26 dX12_compare_26 ?_
  refine z_istore (M := M_X12_compare) 28 dX12_compare_28 (ls' := [some (mR 108), some (mR 124), some (mR 125), some (mI a3), some (mR 137), some (mR 137), some (mI a6), some (mI 9)]) (by decide) rfl ?_
  exact z_mask [true, false, false, false, false, false, false, true] rfl (ih 9 h2 G2 R2 (by omega) (by omega) (by have q1 := fx1_0; have q2 := fx2_0; rw [show h1 125 = h0 125 from FR.row S1 (fun _ => rfl), show h1 137 = h0 137 from FR.row S1 (fun _ => rfl)] at q2; rw [show h2 115 = h1 115 from FR.row S2 (fun _ => rfl)]; exact cpI_0 q1 q2) (by omega))
/-! ===== the model's graph ===== -/
def AR (h : m_H) (L : List gE) : Prop := h 108 21 = (L.length : Int) ∧ ∀ (i : Nat) (q : gE), L[i]? = some q → h 117 i = (q.1.1 : Int) ∧ h 118 i = (q.1.2 : Int) ∧ h 119 i = q.2.1 ∧ h 120 i = q.2.2.1 ∧ h 121 i = q.2.2.2
theorem AR.same {h h' : m_H} {L : List gE} (A : AR h L) (e0 : h' 108 21 = h 108 21) (e1 : ∀ j, h' 117 j = h 117 j) (e2 : ∀ j, h' 118 j = h 118 j) (e3 : ∀ j, h' 119 j = h 119 j) (e4 : ∀ j, h' 120 j = h 120 j) (e5 : ∀ j, h' 121 j = h 121 j) : AR h' L := by
  refine ⟨by rw [e0]; exact A.1, fun i q hq => ?_⟩
  rw [e1, e2, e3, e4, e5]; exact A.2 i q hq
theorem AR.call {h h' : m_H} {L : List gE} {cs : List Nat} {ss : List (Nat × Nat)} (A : AR h L) (S : FR cs ss h h') (e0 : fr cs ss 108 21 = false) (e1 : ∀ j, fr cs ss 117 j = false) (e2 : ∀ j, fr cs ss 118 j = false) (e3 : ∀ j, fr cs ss 119 j = false) (e4 : ∀ j, fr cs ss 120 j = false) (e5 : ∀ j, fr cs ss 121 j = false) : AR h' L :=
  A.same (S _ _ e0) (fun j => S _ _ (e1 j)) (fun j => S _ _ (e2 j)) (fun j => S _ _ (e3 j)) (fun j => S _ _ (e4 j)) (fun j => S _ _ (e5 j))
theorem AR_at {h : m_H} {L : List gE} {e n : Int} (A : AR h L) (h0 : 0 ≤ e) (en : h 108 21 = n) (hn : e < n) : ∃ q, L[e.toNat]? = some q ∧ q ∈ L ∧ h 117 e.toNat = (q.1.1 : Int) ∧ h 118 e.toNat = (q.1.2 : Int) ∧ h 119 e.toNat = q.2.1 ∧ h 120 e.toNat = q.2.2.1 ∧ h 121 e.toNat = q.2.2.2 := by
  have hl : e.toNat < L.length := by have := A.1; omega
  refine ⟨L[e.toNat], List.getElem?_eq_getElem hl, List.getElem_mem hl, ?_⟩
  exact A.2 _ _ (List.getElem?_eq_getElem hl)
def edQ (h h' : m_H) (a b u l o : Int) : Prop := h' 108 21 = h 108 21 + 1 ∧ (h' 117 (h 108 21).toNat = a ∧ h' 118 (h 108 21).toNat = b ∧ h' 119 (h 108 21).toNat = u ∧ h' 120 (h 108 21).toNat = l ∧ h' 121 (h 108 21).toNat = o) ∧ ∀ j, j < (h 108 21).toNat → h' 117 j = h 117 j ∧ h' 118 j = h 118 j ∧ h' 119 j = h 119 j ∧ h' 120 j = h 120 j ∧ h' 121 j = h 121 j
theorem edQ_of {h h1 h2 h3 h4 h5 h6 : m_H} {y a b u l o : Int} (ey : h 108 21 = y) (E1 : h1 = m_up h 117 y.toNat a) (E2 : h2 = m_up h1 118 y.toNat b) (E3 : h3 = m_up h2 119 y.toNat u) (E4 : h4 = m_up h3 120 y.toNat l) (E5 : h5 = m_up h4 121 y.toNat o) (E6 : h6 = m_up h5 108 21 (y + 1)) : edQ h h6 a b u l o := by
  subst ey
  unfold edQ
  generalize hn : (h 108 21).toNat = n at E1 E2 E3 E4 E5 ⊢
  subst E6; subst E5; subst E4; subst E3; subst E2; subst E1
  refine ⟨by simp [m_up], ?_, fun j hj => ?_⟩
  · refine ⟨?_, ?_, ?_, ?_, ?_⟩ <;> simp [m_up]
  · have q0 : j ≠ n := by omega
    refine ⟨?_, ?_, ?_, ?_, ?_⟩ <;> simp [m_up, q0]
theorem AR_push {h h' : m_H} {L : List gE} {a b u l o : Int} (A : AR h L) (Q : edQ h h' a b u l o) (ha : 0 ≤ a) (hb : 0 ≤ b) : AR h' (L ++ [((a.toNat, b.toNat), (u, l, o))]) := by
  obtain ⟨q1, q2, q3⟩ := Q
  have hn : (h 108 21).toNat = L.length := by have := A.1; omega
  rw [hn] at q2 q3
  refine ⟨by rw [q1, A.1]; simp, fun i q hq => ?_⟩
  by_cases hi : i < L.length
  · rw [List.getElem?_append_left hi] at hq
    obtain ⟨z1, z2, z3, z4, z5⟩ := q3 i hi
    rw [z1, z2, z3, z4, z5]
    exact A.2 i q hq
  · rw [List.getElem?_append_right (by omega)] at hq
    have hi2 : i - L.length = 0 := by
      have := (List.getElem?_eq_some_iff.mp hq).1
      simp at this
      omega
    rw [hi2] at hq
    have e1 : i = L.length := by omega
    cases hq
    subst e1
    obtain ⟨z1, z2, z3, z4, z5⟩ := q2
    exact ⟨by rw [z1]; show a = ((a.toNat : Nat) : Int); omega, by rw [z2]; show b = ((b.toNat : Nat) : Int); omega, z3, z4, z5⟩
/-! as the row tells it -/
def cS (row : Nat → Int) : Nat → Int
  | 0 => 0
  | e + 1 => m_or (cS row e) (if row (5 * e + 84) = 1 then m_shl 1 e else 0)
def cF (row : Nat → Int) : Int := cS row (row 0).toNat
theorem cS_1 {row : Nat → Int} {c e x s r : Int} (h0 : 0 ≤ e) (I : c = cS row e.toNat) (ex : row (80 + 5 * e + 4).toNat = x) (hx : x = 1) (es : m_shl 1 e = s) (er : m_or c s = r) : r = cS row (e + 1).toNat := by
  have n1 : (e + 1).toNat = e.toNat + 1 := by omega
  have n2 : (80 + 5 * e + 4).toNat = 5 * e.toNat + 84 := by omega
  have n3 : ((e.toNat : Nat) : Int) = e := by omega
  rw [n2] at ex
  rw [n1]; simp only [cS]
  rw [ex, if_pos hx, n3, es, ← I, er]
theorem cS_0 {row : Nat → Int} {c e x r : Int} (h0 : 0 ≤ e) (I : c = cS row e.toNat) (ex : row (80 + 5 * e + 4).toNat = x) (hx : x ≠ 1) (er : m_or c 0 = r) : r = cS row (e + 1).toNat := by
  have n1 : (e + 1).toNat = e.toNat + 1 := by omega
  have n2 : (80 + 5 * e + 4).toNat = 5 * e.toNat + 84 := by omega
  rw [n2] at ex
  rw [n1]; simp only [cS]
  rw [ex, if_neg hx, ← I, er]
def asQ (h h' : m_H) (n m : Int) : Prop := (∀ j : Nat, (j : Int) < n → h' 122 j = h 110 (10 + j)) ∧ ∀ j : Nat, (j : Int) < m → h' 123 j = h 110 (42 + j)
theorem as_1 {h0 h h' : m_H} {l x : Int} (h1 : 0 ≤ l) (I : asQ h0 h l 0) (ex : h0 110 (10 + l).toNat = x) (E : h' = m_up h 122 l.toNat x) : asQ h0 h' (l + 1) 0 := by
  refine ⟨fun j hj => ?_, fun j hj => by omega⟩
  by_cases q : (j : Int) = l
  · have n1 : (10 + l).toNat = 10 + j := by omega
    have n2 : l.toNat = j := by omega
    rw [n2] at E; rw [n1] at ex
    rw [upE E, ex]
  · rw [upN E (fun z => by have := z.2; omega)]; exact I.1 j (by omega)
theorem as_2 {h0 h h' : m_H} {l x : Int} (h1 : 0 ≤ l) (I : asQ h0 h 32 l) (ex : h0 110 (42 + l).toNat = x) (E : h' = m_up h 123 l.toNat x) : asQ h0 h' 32 (l + 1) := by
  refine ⟨fun j hj => ?_, fun j hj => ?_⟩
  · rw [upN E (fun z => absurd z.1 (by decide))]; exact I.1 j hj
  · by_cases q : (j : Int) = l
    · have n1 : (42 + l).toNat = 42 + j := by omega
      have n2 : l.toNat = j := by omega
      rw [n2] at E; rw [n1] at ex
      rw [upE E, ex]
    · rw [upN E (fun z => by have := z.2; omega)]; exact I.2 j (by omega)
def eOf (en e kp t w c n k : Int) : List gE := if m_and (m_shr en e) 1 = 1 ∧ kp ≠ -1 then [(((12 + kp).toNat, (if c ≠ -1 ∧ c ≤ w then 6 + t else t).toNat), (if k = 2 then 2 * n - 1 else n, if k = 2 then 2 else 1, 0)), (((if c ≠ -1 ∧ c ≤ w then 6 + t else t).toNat, (12 + kp).toNat), (if k = 2 then 2 else 1, if k = 0 then n else if k = 1 then n + 1 else 2 * n + 1, if 0 < k then 1 else 0))] else []
def eR (row kp ct : Nat → Int) (en : Int) (e : Nat) : List gE := eOf en e (kp (row (5 * e + 81)).toNat) (row (5 * e + 80)) (row (5 * e + 81)) (ct (row (5 * e + 80)).toNat) (row (5 * e + 82)) (row (5 * e + 83))
def eA (row kp ct : Nat → Int) (en : Int) : Nat → List gE
  | 0 => []
  | e + 1 => eA row kp ct en e ++ eR row kp ct en e
def sA (row : Nat → Int) : Nat → List gE
  | 0 => []
  | k + 1 => sA row k ++ [(((12 + row (2 * k + 48)).toNat, (12 + row (2 * k + 49)).toNat), (1, 1, 1))]
def cA (ct : Nat → Int) : Nat → List gE
  | 0 => []
  | t + 1 => cA ct t ++ (if ct t = -1 then [] else [((6 + t, t), (1, 1, 0))])
def bL (row kp ct : Nat → Int) (en : Int) : List gE := eA row kp ct en (row 0).toNat ++ sA row (row 1).toNat ++ cA ct 6
def bR (row : Nat → Int) : List gE := bL row (fun j => row (10 + j)) (fun j => row (42 + j)) (cF row)
theorem eOf_no {en e kp t w c n k : Int} (h : ¬ (m_and (m_shr en e) 1 = 1 ∧ kp ≠ -1)) : eOf en e kp t w c n k = [] := if_neg h
theorem eOf_yes {en e kp t w c n k i lo of hi op : Int} (h1 : m_and (m_shr en e) 1 = 1) (h2 : kp ≠ -1) (a1 : i = if c ≠ -1 ∧ c ≤ w then 6 + t else t) (a2 : lo = if k = 2 then 2 * n - 1 else n) (a3 : of = if k = 2 then 2 else 1) (a4 : hi = if k = 0 then n else if k = 1 then n + 1 else 2 * n + 1) (a5 : op = if 0 < k then 1 else 0) : eOf en e kp t w c n k = [(((12 + kp).toNat, i.toNat), (lo, of, 0)), ((i.toNat, (12 + kp).toNat), (of, hi, op))] := by
  subst a1; subst a2; subst a3; subst a4; subst a5
  exact if_pos ⟨h1, h2⟩
theorem eR_of {row kp ct : Nat → Int} {en e w t c n k q : Int} (h0 : 0 ≤ e) (ew : row (80 + 5 * e + 1).toNat = w) (et : row (80 + 5 * e + 0).toNat = t) (ek : kp w.toNat = q) (ec : ct t.toNat = c) (e2 : row (80 + 5 * e + 2).toNat = n) (e3 : row (80 + 5 * e + 3).toNat = k) : eR row kp ct en e.toNat = eOf en e q t w c n k := by
  have n1 : (80 + 5 * e + 1).toNat = 5 * e.toNat + 81 := by omega
  have n0 : (80 + 5 * e + 0).toNat = 5 * e.toNat + 80 := by omega
  have n2 : (80 + 5 * e + 2).toNat = 5 * e.toNat + 82 := by omega
  have n3 : (80 + 5 * e + 3).toNat = 5 * e.toNat + 83 := by omega
  have n4 : ((e.toNat : Nat) : Int) = e := by omega
  rw [n1] at ew; rw [n0] at et; rw [n2] at e2; rw [n3] at e3
  unfold eR
  rw [ew, et, ek, ec, e2, e3, n4]
theorem eR_no {row kp ct : Nat → Int} {en e w q : Int} (h0 : 0 ≤ e) (ew : row (80 + 5 * e + 1).toNat = w) (ek : kp w.toNat = q) (h : ¬ (m_and (m_shr en e) 1 = 1 ∧ q ≠ -1)) : eR row kp ct en e.toNat = [] := by
  have n1 : (80 + 5 * e + 1).toNat = 5 * e.toNat + 81 := by omega
  have n4 : ((e.toNat : Nat) : Int) = e := by omega
  rw [n1] at ew
  unfold eR
  rw [ew, ek, n4]
  exact eOf_no h
theorem b_ent0 {h : m_H} {row kp ct : Nat → Int} {en e : Int} (h0 : 0 ≤ e) (A : AR h (eA row kp ct en e.toNat)) (Q : eR row kp ct en e.toNat = []) : AR h (eA row kp ct en (e + 1).toNat) := by
  have n1 : (e + 1).toNat = e.toNat + 1 := by omega
  rw [n1]; simp only [eA]
  rw [Q, List.append_nil]; exact A
theorem b_ent2 {h h1 h2 : m_H} {row kp ct : Nat → Int} {en e q i lo of hi op : Int} (h0 : 0 ≤ e) (A : AR h (eA row kp ct en e.toNat)) (hq : 0 ≤ q) (hi0 : 0 ≤ i) (Q1 : edQ h h1 (12 + q) i lo of 0) (Q2 : edQ h1 h2 i (12 + q) of hi op) (Q : eR row kp ct en e.toNat = [(((12 + q).toNat, i.toNat), (lo, of, 0)), ((i.toNat, (12 + q).toNat), (of, hi, op))]) : AR h2 (eA row kp ct en (e + 1).toNat) := by
  have n1 : (e + 1).toNat = e.toNat + 1 := by omega
  rw [n1]; simp only [eA]
  rw [Q]
  have := AR_push (AR_push A Q1 (by omega) hi0) Q2 hi0 (by omega)
  rw [List.append_assoc] at this
  exact this
theorem b_sh {h h1 : m_H} {Z : List gE} {row : Nat → Int} {k a b : Int} (h0 : 0 ≤ k) (A : AR h (Z ++ sA row k.toNat)) (ea : row (48 + 2 * k).toNat = a) (eb : row (48 + 2 * k + 1).toNat = b) (ha : 0 ≤ a) (hb : 0 ≤ b) (Q : edQ h h1 (12 + a) (12 + b) 1 1 1) : AR h1 (Z ++ sA row (k + 1).toNat) := by
  have n1 : (k + 1).toNat = k.toNat + 1 := by omega
  have n2 : (48 + 2 * k).toNat = 2 * k.toNat + 48 := by omega
  have n3 : (48 + 2 * k + 1).toNat = 2 * k.toNat + 49 := by omega
  rw [n2] at ea; rw [n3] at eb
  rw [n1]; simp only [sA]
  rw [ea, eb, ← List.append_assoc]
  exact AR_push A Q (by omega) (by omega)
theorem b_cut1 {h h1 : m_H} {Z : List gE} {ct : Nat → Int} {t c : Int} (h0 : 0 ≤ t) (A : AR h (Z ++ cA ct t.toNat)) (ec : ct t.toNat = c) (hc : c ≠ -1) (Q : edQ h h1 (6 + t) t 1 1 0) : AR h1 (Z ++ cA ct (t + 1).toNat) := by
  have n1 : (t + 1).toNat = t.toNat + 1 := by omega
  have n2 : (6 + t).toNat = 6 + t.toNat := by omega
  rw [n1]; simp only [cA]
  rw [ec, if_neg hc, ← List.append_assoc]
  have := AR_push A Q (by omega) h0
  rw [n2] at this
  exact this
theorem b_cut0 {h : m_H} {Z : List gE} {ct : Nat → Int} {t c : Int} (h0 : 0 ≤ t) (A : AR h (Z ++ cA ct t.toNat)) (ec : ct t.toNat = c) (hc : c = -1) : AR h (Z ++ cA ct (t + 1).toNat) := by
  have n1 : (t + 1).toNat = t.toNat + 1 := by omega
  rw [n1]; simp only [cA]
  rw [ec, if_pos hc, List.append_nil]; exact A
theorem b_end1 {h : m_H} {row kp ct : Nat → Int} {en e n : Int} (A : AR h (eA row kp ct en e.toNat)) (en0 : row 0 = n) (h1 : n ≤ e) (h2 : e ≤ n) : AR h (eA row kp ct en (row 0).toNat ++ sA row (0 : Int).toNat) := by
  have : e = n := by omega
  subst this
  rw [en0]
  show AR h (_ ++ [])
  rw [List.append_nil]; exact A
theorem b_end2 {h : m_H} {Z : List gE} {row ct : Nat → Int} {k n : Int} (A : AR h (Z ++ sA row k.toNat)) (en0 : row 1 = n) (h1 : n ≤ k) (h2 : k ≤ n) : AR h (Z ++ sA row (row 1).toNat ++ cA ct (0 : Int).toNat) := by
  have : k = n := by omega
  subst this
  rw [en0]
  show AR h (_ ++ [])
  rw [List.append_nil]; exact A
/-! every tie is as a tie must be -/
theorem eOf_ok {en e kp t w c n k : Int} (h1 : -1 ≤ kp ∧ kp ≤ 3) (h2 : 0 ≤ t ∧ t ≤ 5) (h3 : 1 ≤ n ∧ n ≤ 99) (h4 : 0 ≤ k ∧ k ≤ 2) : ∀ q ∈ eOf en e kp t w c n k, gEo q := by
  intro q hq
  unfold eOf at hq
  split at hq
  · rename_i hc
    obtain ⟨-, hk⟩ := hc
    have hi : ∃ i : Int, (if c ≠ -1 ∧ c ≤ w then 6 + t else t) = i ∧ 0 ≤ i ∧ i ≤ 11 := ⟨_, rfl, by split <;> omega, by split <;> omega⟩
    have hl : ∃ i : Int, (if k = 2 then 2 * n - 1 else n) = i ∧ 1 ≤ i ∧ i ≤ 199 := ⟨_, rfl, by split <;> omega, by split <;> omega⟩
    have ho : ∃ i : Int, (if k = 2 then (2 : Int) else 1) = i ∧ 1 ≤ i ∧ i ≤ 2 := ⟨_, rfl, by split <;> omega, by split <;> omega⟩
    have hh : ∃ i : Int, (if k = 0 then n else if k = 1 then n + 1 else 2 * n + 1) = i ∧ 1 ≤ i ∧ i ≤ 199 := ⟨_, rfl, by split <;> (try split) <;> omega, by split <;> (try split) <;> omega⟩
    obtain ⟨i, hi0, hi1, hi2⟩ := hi
    obtain ⟨lo, hl0, hl1, hl2⟩ := hl
    obtain ⟨of, ho0, ho1, ho2⟩ := ho
    obtain ⟨hi', hh0, hh1, hh2⟩ := hh
    rw [hi0, hl0, ho0, hh0] at hq
    unfold gEo
    rcases List.mem_cons.mp hq with rfl | hq
    · refine ⟨⟨?_, ?_⟩, ⟨hl1, hl2⟩, ⟨ho1, by show of ≤ 199; omega⟩, fun _ _ => ho2, fun a b => ?_, fun z => ?_⟩
      · show (12 + kp).toNat < 16; omega
      · show i.toNat < 16; omega
      · exfalso; have a2 : (12 + kp).toNat < 12 := a; omega
      · exfalso; have z2 : 12 ≤ (12 + kp).toNat ↔ 12 ≤ i.toNat := z; omega
    · rw [List.mem_singleton] at hq
      subst hq
      refine ⟨⟨?_, ?_⟩, ⟨ho1, by show of ≤ 199; omega⟩, ⟨hh1, hh2⟩, fun a b => ?_, fun _ _ => ho2, fun z => ?_⟩
      · show i.toNat < 16; omega
      · show (12 + kp).toNat < 16; omega
      · exfalso; have b2 : (12 + kp).toNat < 12 := b; omega
      · exfalso; have z2 : 12 ≤ i.toNat ↔ 12 ≤ (12 + kp).toNat := z; omega
  · cases hq
theorem eA_ok {row kp ct : Nat → Int} {en : Int} {N : Nat} (H : ∀ e, e < N → (-1 ≤ kp (row (5 * e + 81)).toNat ∧ kp (row (5 * e + 81)).toNat ≤ 3) ∧ (0 ≤ row (5 * e + 80) ∧ row (5 * e + 80) ≤ 5) ∧ (1 ≤ row (5 * e + 82) ∧ row (5 * e + 82) ≤ 99) ∧ (0 ≤ row (5 * e + 83) ∧ row (5 * e + 83) ≤ 2)) : ∀ q ∈ eA row kp ct en N, gEo q := by
  induction N with
  | zero => intro q hq; cases hq
  | succ n ih =>
    intro q hq
    simp only [eA] at hq
    rcases List.mem_append.mp hq with g | g
    · exact ih (fun e he => H e (by omega)) q g
    · obtain ⟨a, b, c, d⟩ := H n (by omega)
      exact eOf_ok a b c d q g
theorem sA_ok {row : Nat → Int} {N : Nat} (H : ∀ k, k < N → (0 ≤ row (2 * k + 48) ∧ row (2 * k + 48) ≤ 3) ∧ (0 ≤ row (2 * k + 49) ∧ row (2 * k + 49) ≤ 3)) : ∀ q ∈ sA row N, gEo q := by
  induction N with
  | zero => intro q hq; cases hq
  | succ n ih =>
    intro q hq
    simp only [sA] at hq
    rcases List.mem_append.mp hq with g | g
    · exact ih (fun e he => H e (by omega)) q g
    · rw [List.mem_singleton] at g
      subst g
      obtain ⟨a, b⟩ := H n (by omega)
      refine ⟨⟨?_, ?_⟩, ⟨Int.le_refl _, (by decide : (1 : Int) ≤ 199)⟩, ⟨Int.le_refl _, (by decide : (1 : Int) ≤ 199)⟩, fun _ _ => (by decide : (1 : Int) ≤ 2), fun _ _ => (by decide : (1 : Int) ≤ 2), fun _ => ⟨rfl, rfl⟩⟩
      · show (12 + row (2 * n + 48)).toNat < 16; omega
      · show (12 + row (2 * n + 49)).toNat < 16; omega
theorem cA_ok {ct : Nat → Int} {N : Nat} (hN : N ≤ 6) : ∀ q ∈ cA ct N, gEo q := by
  induction N with
  | zero => intro q hq; cases hq
  | succ n ih =>
    intro q hq
    simp only [cA] at hq
    rcases List.mem_append.mp hq with g | g
    · exact ih (by omega) q g
    · split at g
      · cases g
      · rw [List.mem_singleton] at g
        subst g
        refine ⟨⟨?_, ?_⟩, ⟨Int.le_refl _, (by decide : (1 : Int) ≤ 199)⟩, ⟨Int.le_refl _, (by decide : (1 : Int) ≤ 199)⟩, fun _ _ => (by decide : (1 : Int) ≤ 2), fun _ _ => (by decide : (1 : Int) ≤ 2), fun _ => ⟨rfl, rfl⟩⟩
        · show 6 + n < 16; omega
        · show n < 16; omega
theorem gw_n {h : m_H} (G : GI h) {e : Nat} (he : e < 24) : (0 ≤ h 110 (5 * e + 80) ∧ h 110 (5 * e + 80) ≤ 5) ∧ (0 ≤ h 110 (5 * e + 81) ∧ h 110 (5 * e + 81) ≤ 31) ∧ h 110 (5 * e + 82) ≤ 99 ∧ (0 ≤ h 110 (5 * e + 83) ∧ h 110 (5 * e + 83) ≤ 2) := by
  have a0 := gw_e0 G (i := 80 + 5 * (e : Int) + 0) (e := e) rfl (by omega) (by omega)
  have a1 := gw_e1 G (i := 80 + 5 * (e : Int) + 1) (e := e) rfl (by omega) (by omega)
  have a2 := gw_e2 G (i := 80 + 5 * (e : Int) + 2) (e := e) rfl (by omega) (by omega)
  have a3 := gw_e3 G (i := 80 + 5 * (e : Int) + 3) (e := e) rfl (by omega) (by omega)
  rw [show (80 + 5 * (e : Int) + 0).toNat = 5 * e + 80 by omega] at a0
  rw [show (80 + 5 * (e : Int) + 1).toNat = 5 * e + 81 by omega] at a1
  rw [show (80 + 5 * (e : Int) + 2).toNat = 5 * e + 82 by omega] at a2
  rw [show (80 + 5 * (e : Int) + 3).toNat = 5 * e + 83 by omega] at a3
  exact ⟨a0, a1, a2.2, a3⟩
theorem bL_ok {h : m_H} {kp ct : Nat → Int} {en : Int} (G : GI h) (N : NP h) (hk : ∀ j, j < 32 → -1 ≤ kp j ∧ kp j ≤ 3) : ∀ q ∈ bL (h 110) kp ct en, gEo q := by
  intro q hq
  have r0 : 0 ≤ h 110 0 ∧ h 110 0 ≤ 24 := gw_0 G
  have r1 : 0 ≤ h 110 1 ∧ h 110 1 ≤ 6 := gw_1 G
  unfold bL at hq
  rcases List.mem_append.mp hq with g | g
  · rcases List.mem_append.mp g with g | g
    · refine eA_ok (fun e he => ?_) q g
      obtain ⟨a, b, c, d⟩ := gw_n G (e := e) (by omega)
      exact ⟨hk _ (by omega), a, ⟨N.1 e (by omega), c⟩, d⟩
    · refine sA_ok (fun k hk2 => ?_) q g
      have b0 := gw_s G (i := 2 * (k : Int) + 48) (by omega) (by omega)
      have b1 := gw_s G (i := 2 * (k : Int) + 49) (by omega) (by omega)
      rw [show (2 * (k : Int) + 48).toNat = 2 * k + 48 by omega] at b0
      rw [show (2 * (k : Int) + 49).toNat = 2 * k + 49 by omega] at b1
      exact ⟨b0, b1⟩
  · exact cA_ok (Nat.le_refl _) q g
theorem eA_cg {row kp ct kp' ct' : Nat → Int} {en : Int} {N : Nat} (H : ∀ e, e < N → kp (row (5 * e + 81)).toNat = kp' (row (5 * e + 81)).toNat ∧ ct (row (5 * e + 80)).toNat = ct' (row (5 * e + 80)).toNat) : eA row kp ct en N = eA row kp' ct' en N := by
  induction N with
  | zero => rfl
  | succ n ih =>
    simp only [eA]
    rw [ih (fun e he => H e (by omega))]
    unfold eR
    rw [(H n (by omega)).1, (H n (by omega)).2]
theorem cA_cg {ct ct' : Nat → Int} {N : Nat} (H : ∀ t, t < N → ct t = ct' t) : cA ct N = cA ct' N := by
  induction N with
  | zero => rfl
  | succ n ih =>
    simp only [cA]
    rw [ih (fun e he => H e (by omega)), H n (by omega)]
theorem bL_cg {h : m_H} {kp ct kp' ct' : Nat → Int} {en : Int} (G : GI h) (hk : ∀ j, j < 32 → kp j = kp' j) (hc : ∀ j, j < 6 → ct j = ct' j) : bL (h 110) kp ct en = bL (h 110) kp' ct' en := by
  have r0 : 0 ≤ h 110 0 ∧ h 110 0 ≤ 24 := gw_0 G
  unfold bL
  rw [eA_cg (kp' := kp') (ct' := ct') (fun e he => ?_), cA_cg hc]
  obtain ⟨a, b, c, d⟩ := gw_n G (e := e) (by omega)
  exact ⟨hk _ (by omega), hc _ (by omega)⟩
/-- built as the row tells it -/
theorem bR_of {h0 h h' : m_H} {en : Int} (G0 : GI h0) (e0 : ∀ j, h 110 j = h0 110 j) (K : asQ h0 h 32 6) (ec : en = cF (h0 110)) (A : AR h' (bL (h 110) (h 122) (h 123) en)) : AR h' (bR (h0 110)) := by
  have e1 : h 110 = h0 110 := funext e0
  rw [e1] at A
  unfold bR
  rw [← ec, ← bL_cg (h := h0) (kp := h 122) (ct := h 123) G0 (fun j hj => K.1 j (by omega)) (fun j hj => K.2 j (by omega))]
  exact A
theorem bR_ok {h : m_H} (G : GI h) (N : NP h) : ∀ q ∈ bR (h 110), gEo q := bL_ok G N (fun j hj => by
  have b0 := gw_w G (i := 10 + (j : Int)) (by omega) (by omega)
  rw [show (10 + (j : Int)).toNat = 10 + j by omega] at b0
  exact b0)
theorem AR_nil {h h' : m_H} (E : h' = m_up h 108 21 0) : AR h' [] := ⟨upE E, fun i q hq => by simp at hq⟩
theorem np_at {h0 h : m_H} {cs : List Nat} {ss : List (Nat × Nat)} {e n x : Int} (N : NP h0) (R : FR cs ss h0 h) (f : ∀ j, fr cs ss 110 j = false) (h1 : 0 ≤ e) (h2 : e < n) (en : h 110 (0 : Int).toNat = n) (ex : h 110 (80 + 5 * e + 2).toNat = x) : 1 ≤ x := by
  have r0 : h 110 0 = h0 110 0 := R 110 0 (f 0)
  have h3 := N.1 e.toNat (by have e0 : h 110 0 = n := en; omega)
  rw [← R 110 _ (f _)] at h3
  rw [show 5 * e.toNat + 82 = (80 + 5 * e + 2).toNat by omega, ex] at h3
  exact h3
/-! ===== a round ===== -/
def aS (h : m_H) : gS := fun l => ((vS (h 124) (5 * l) 5, vS (h 125) (5 * l) 5), (h 126 l, h 127 l))
def aD (h : m_H) : gS := fun l => ((vS (h 128) (5 * l) 5, vS (h 129) (5 * l) 5), (h 130 l, h 131 l))
def kp0 (h0 h : m_H) (n m : Int) : Prop := (∀ j, h 124 j = h0 124 j) ∧ (∀ j, h 125 j = h0 125 j) ∧ (∀ j, h 126 j = h0 126 j) ∧ (∀ j, h 127 j = h0 127 j) ∧ (∀ j : Nat, (j : Int) < n → h 128 j = h0 124 j ∧ h 129 j = h0 125 j) ∧ ∀ j : Nat, (j : Int) < m → h 130 j = h0 126 j ∧ h 131 j = h0 127 j
def kp1 (h0 h : m_H) (n m : Int) : Prop := (∀ j, h 128 j = h0 128 j) ∧ (∀ j, h 129 j = h0 129 j) ∧ (∀ j, h 130 j = h0 130 j) ∧ (∀ j, h 131 j = h0 131 j) ∧ (∀ j : Nat, (j : Int) < n → h 124 j = h0 128 j ∧ h 125 j = h0 129 j) ∧ ∀ j : Nat, (j : Int) < m → h 126 j = h0 130 j ∧ h 127 j = h0 131 j
theorem kp0_0 {h : m_H} : kp0 h h 0 0 := ⟨fun _ => rfl, fun _ => rfl, fun _ => rfl, fun _ => rfl, fun j hj => by omega, fun j hj => by omega⟩
theorem kp1_0 {h : m_H} : kp1 h h 0 0 := ⟨fun _ => rfl, fun _ => rfl, fun _ => rfl, fun _ => rfl, fun j hj => by omega, fun j hj => by omega⟩
/-- four stores at one place -/
theorem up4 {h h1 h2 h3 h4 : m_H} {c1 c2 c3 c4 i : Nat} {x1 x2 x3 x4 : Int} (n12 : c1 ≠ c2) (n13 : c1 ≠ c3) (n14 : c1 ≠ c4) (n23 : c2 ≠ c3) (n24 : c2 ≠ c4) (n34 : c3 ≠ c4) (E1 : h1 = m_up h c1 i x1) (E2 : h2 = m_up h1 c2 i x2) (E3 : h3 = m_up h2 c3 i x3) (E4 : h4 = m_up h3 c4 i x4) :
    (∀ j, h4 c1 j = if j = i then x1 else h c1 j) ∧ (∀ j, h4 c2 j = if j = i then x2 else h c2 j) ∧ (∀ j, h4 c3 j = if j = i then x3 else h c3 j) ∧ (∀ j, h4 c4 j = if j = i then x4 else h c4 j) ∧ (∀ c j, c ≠ c1 → c ≠ c2 → c ≠ c3 → c ≠ c4 → h4 c j = h c j) := by
  subst E4; subst E3; subst E2; subst E1
  refine ⟨fun j => ?_, fun j => ?_, fun j => ?_, fun j => ?_, fun c j a1 a2 a3 a4 => ?_⟩
  · simp [m_up, n12, n13, n14]
  · simp [m_up, n12.symm, n23, n24]
  · simp [m_up, n13.symm, n23.symm, n34]
  · simp [m_up, n14.symm, n24.symm, n34.symm]
  · simp [m_up, a1, a2, a3, a4]
theorem kp0_a {h0 h h1 h2 h3 h4 : m_H} {l x1 x2 x3 x4 : Int} (hl : 0 ≤ l) (I : kp0 h0 h l 0) (e1 : h 124 l.toNat = x1) (E1 : h1 = m_up h 128 l.toNat x1) (e2 : h1 125 l.toNat = x2) (E2 : h2 = m_up h1 129 l.toNat x2) (e3 : h2 124 l.toNat = x3) (E3 : h3 = m_up h2 124 l.toNat x3) (e4 : h3 125 l.toNat = x4) (E4 : h4 = m_up h3 125 l.toNat x4) : kp0 h0 h4 (l + 1) 0 := by
  obtain ⟨i1, i2, i3, i4, i5, i6⟩ := I
  obtain ⟨u1, u2, u3, u4, u5⟩ := up4 (by decide) (by decide) (by decide) (by decide) (by decide) (by decide) E1 E2 E3 E4
  rw [upN E1 (fun z => absurd z.1 (by decide))] at e2
  rw [upN E2 (fun z => absurd z.1 (by decide)), upN E1 (fun z => absurd z.1 (by decide))] at e3
  rw [upN E3 (fun z => absurd z.1 (by decide)), upN E2 (fun z => absurd z.1 (by decide)), upN E1 (fun z => absurd z.1 (by decide))] at e4
  refine ⟨fun j => ?_, fun j => ?_, fun j => ?_, fun j => ?_, fun j hj => ?_, fun j hj => by omega⟩
  · rw [u3]; split
    · rename_i q; rw [← e3, q]; exact i1 _
    · exact i1 j
  · rw [u4]; split
    · rename_i q; rw [← e4, q]; exact i2 _
    · exact i2 j
  · rw [u5 _ _ (by decide) (by decide) (by decide) (by decide)]; exact i3 j
  · rw [u5 _ _ (by decide) (by decide) (by decide) (by decide)]; exact i4 j
  · rw [u1, u2]
    by_cases q : j = l.toNat
    · rw [if_pos q, if_pos q, ← e1, ← e2, q]; exact ⟨i1 _, i2 _⟩
    · rw [if_neg q, if_neg q]; exact i5 j (by omega)
theorem kp0_b {h0 h h1 h2 h3 h4 : m_H} {l x1 x2 x3 x4 : Int} (hl : 0 ≤ l) (I : kp0 h0 h 80 l) (e1 : h 126 l.toNat = x1) (E1 : h1 = m_up h 130 l.toNat x1) (e2 : h1 127 l.toNat = x2) (E2 : h2 = m_up h1 131 l.toNat x2) (e3 : h2 126 l.toNat = x3) (E3 : h3 = m_up h2 126 l.toNat x3) (e4 : h3 127 l.toNat = x4) (E4 : h4 = m_up h3 127 l.toNat x4) : kp0 h0 h4 80 (l + 1) := by
  obtain ⟨i1, i2, i3, i4, i5, i6⟩ := I
  obtain ⟨u1, u2, u3, u4, u5⟩ := up4 (by decide) (by decide) (by decide) (by decide) (by decide) (by decide) E1 E2 E3 E4
  rw [upN E1 (fun z => absurd z.1 (by decide))] at e2
  rw [upN E2 (fun z => absurd z.1 (by decide)), upN E1 (fun z => absurd z.1 (by decide))] at e3
  rw [upN E3 (fun z => absurd z.1 (by decide)), upN E2 (fun z => absurd z.1 (by decide)), upN E1 (fun z => absurd z.1 (by decide))] at e4
  refine ⟨fun j => ?_, fun j => ?_, fun j => ?_, fun j => ?_, fun j hj => ?_, fun j hj => ?_⟩
  · rw [u5 _ _ (by decide) (by decide) (by decide) (by decide)]; exact i1 j
  · rw [u5 _ _ (by decide) (by decide) (by decide) (by decide)]; exact i2 j
  · rw [u3]; split
    · rename_i q; rw [← e3, q]; exact i3 _
    · exact i3 j
  · rw [u4]; split
    · rename_i q; rw [← e4, q]; exact i4 _
    · exact i4 j
  · rw [u5 _ _ (by decide) (by decide) (by decide) (by decide), u5 _ _ (by decide) (by decide) (by decide) (by decide)]; exact i5 j hj
  · rw [u1, u2]
    by_cases q : j = l.toNat
    · rw [if_pos q, if_pos q, ← e1, ← e2, q]; exact ⟨i3 _, i4 _⟩
    · rw [if_neg q, if_neg q]; exact i6 j (by omega)
theorem kp1_a {h0 h h1 h2 h3 h4 : m_H} {l x1 x2 x3 x4 : Int} (hl : 0 ≤ l) (I : kp1 h0 h l 0) (e1 : h 128 l.toNat = x1) (E1 : h1 = m_up h 128 l.toNat x1) (e2 : h1 129 l.toNat = x2) (E2 : h2 = m_up h1 129 l.toNat x2) (e3 : h2 128 l.toNat = x3) (E3 : h3 = m_up h2 124 l.toNat x3) (e4 : h3 129 l.toNat = x4) (E4 : h4 = m_up h3 125 l.toNat x4) : kp1 h0 h4 (l + 1) 0 := by
  obtain ⟨i1, i2, i3, i4, i5, i6⟩ := I
  obtain ⟨u1, u2, u3, u4, u5⟩ := up4 (by decide) (by decide) (by decide) (by decide) (by decide) (by decide) E1 E2 E3 E4
  rw [upN E1 (fun z => absurd z.1 (by decide))] at e2
  rw [upN E2 (fun z => absurd z.1 (by decide)), upE E1] at e3
  rw [upN E3 (fun z => absurd z.1 (by decide)), upE E2] at e4
  subst e3; subst e4
  refine ⟨fun j => ?_, fun j => ?_, fun j => ?_, fun j => ?_, fun j hj => ?_, fun j hj => by omega⟩
  · rw [u1]; split
    · rename_i q; rw [← e1, q]; exact i1 _
    · exact i1 j
  · rw [u2]; split
    · rename_i q; rw [← e2, q]; exact i2 _
    · exact i2 j
  · rw [u5 _ _ (by decide) (by decide) (by decide) (by decide)]; exact i3 j
  · rw [u5 _ _ (by decide) (by decide) (by decide) (by decide)]; exact i4 j
  · rw [u3, u4]
    by_cases q : j = l.toNat
    · rw [if_pos q, if_pos q, ← e1, ← e2, q]; exact ⟨i1 _, i2 _⟩
    · rw [if_neg q, if_neg q]; exact i5 j (by omega)
theorem kp1_b {h0 h h1 h2 h3 h4 : m_H} {l x1 x2 x3 x4 : Int} (hl : 0 ≤ l) (I : kp1 h0 h 80 l) (e1 : h 130 l.toNat = x1) (E1 : h1 = m_up h 130 l.toNat x1) (e2 : h1 131 l.toNat = x2) (E2 : h2 = m_up h1 131 l.toNat x2) (e3 : h2 130 l.toNat = x3) (E3 : h3 = m_up h2 126 l.toNat x3) (e4 : h3 131 l.toNat = x4) (E4 : h4 = m_up h3 127 l.toNat x4) : kp1 h0 h4 80 (l + 1) := by
  obtain ⟨i1, i2, i3, i4, i5, i6⟩ := I
  obtain ⟨u1, u2, u3, u4, u5⟩ := up4 (by decide) (by decide) (by decide) (by decide) (by decide) (by decide) E1 E2 E3 E4
  rw [upN E1 (fun z => absurd z.1 (by decide))] at e2
  rw [upN E2 (fun z => absurd z.1 (by decide)), upE E1] at e3
  rw [upN E3 (fun z => absurd z.1 (by decide)), upE E2] at e4
  subst e3; subst e4
  refine ⟨fun j => ?_, fun j => ?_, fun j => ?_, fun j => ?_, fun j hj => ?_, fun j hj => ?_⟩
  · rw [u5 _ _ (by decide) (by decide) (by decide) (by decide)]; exact i1 j
  · rw [u5 _ _ (by decide) (by decide) (by decide) (by decide)]; exact i2 j
  · rw [u1]; split
    · rename_i q; rw [← e1, q]; exact i3 _
    · exact i3 j
  · rw [u2]; split
    · rename_i q; rw [← e2, q]; exact i4 _
    · exact i4 j
  · rw [u5 _ _ (by decide) (by decide) (by decide) (by decide), u5 _ _ (by decide) (by decide) (by decide) (by decide)]; exact i5 j hj
  · rw [u3, u4]
    by_cases q : j = l.toNat
    · rw [if_pos q, if_pos q, ← e1, ← e2, q]; exact ⟨i3 _, i4 _⟩
    · rw [if_neg q, if_neg q]; exact i6 j (by omega)
/-! startAt -/
def stI (h : m_H) (a n m : Int) : Prop := (∀ i : Nat, (i : Int) < n → h 124 i = (if i % 5 = 0 then 1 else 0) ∧ h 125 i = (if i % 5 = 0 then 1 else 0)) ∧ ∀ j : Nat, (j : Int) < m → h 126 j = 0 ∧ h 127 j = (if a = -1 ∨ (j : Int) = a then 1 else 0)
theorem stI_0 {h : m_H} {a : Int} : stI h a (5 * 0) 0 := ⟨fun j hj => by omega, fun j hj => by omega⟩
theorem stI_a {h h1 h2 : m_H} {a l k v : Int} (hl : 0 ≤ l) (hk : 0 ≤ k) (hk5 : k ≤ 4) (I : stI h a (5 * l + k) l) (hv : v = if k = 0 then 1 else 0) (E1 : h1 = m_up h 124 (5 * l + k).toNat v) (E2 : h2 = m_up h1 125 (5 * l + k).toNat v) : stI h2 a (5 * l + (k + 1)) l := by
  refine ⟨fun i hi => ?_, fun j hj => ?_⟩
  · by_cases q : i = (5 * l + k).toNat
    · have e1 : h2 124 i = v := by rw [upN E2 (fun z => absurd z.1 (by decide)), q]; exact upE E1
      have e2 : h2 125 i = v := by rw [q]; exact upE E2
      have e3 : (if i % 5 = 0 then (1 : Int) else 0) = v := by
        rw [hv]
        by_cases k0 : k = 0
        · rw [if_pos (by omega), if_pos k0]
        · rw [if_neg (by omega), if_neg k0]
      rw [e1, e2, e3]; exact ⟨rfl, rfl⟩
    · rw [upN E2 (fun z => absurd z.1 (by decide)), upN E1 (fun z => q z.2), upN E2 (fun z => q z.2), upN E1 (fun z => absurd z.1 (by decide))]
      exact I.1 i (by omega)
  · rw [upN E2 (fun z => absurd z.1 (by decide)), upN E1 (fun z => absurd z.1 (by decide)), upN E2 (fun z => absurd z.1 (by decide)), upN E1 (fun z => absurd z.1 (by decide))]
    exact I.2 j hj
theorem stI_b {h h1 h2 : m_H} {a l k v : Int} (hl : 0 ≤ l) (hk : 5 ≤ k) (I : stI h a (5 * l + k) l) (hv : v = if a = -1 ∨ l = a then 1 else 0) (E1 : h1 = m_up h 126 l.toNat 0) (E2 : h2 = m_up h1 127 l.toNat v) : stI h2 a (5 * (l + 1)) (l + 1) := by
  refine ⟨fun i hi => ?_, fun j hj => ?_⟩
  · rw [upN E2 (fun z => absurd z.1 (by decide)), upN E1 (fun z => absurd z.1 (by decide)), upN E2 (fun z => absurd z.1 (by decide)), upN E1 (fun z => absurd z.1 (by decide))]
    exact I.1 i (by omega)
  · by_cases q : (j : Int) = l
    · have q2 : l.toNat = j := by omega
      rw [q2] at E1 E2
      rw [upN E2 (fun z => absurd z.1 (by decide)), upE E1, upE E2, hv, q]
      exact ⟨rfl, rfl⟩
    · rw [upN E2 (fun z => absurd z.1 (by decide)), upN E1 (fun z => by have := z.2; omega), upN E2 (fun z => by have := z.2; omega), upN E1 (fun z => absurd z.1 (by decide))]
      exact I.2 j (by omega)
theorem vS_one {f : Nat → Int} {l : Nat} (H : ∀ k, k < 5 → f (5 * l + k) = (if k = 0 then 1 else 0)) : vS f (5 * l) 5 = 1 := by
  rw [vS_same (g := fun k => if k = 0 then 1 else 0) (b := 0) (fun j hj => by rw [Nat.zero_add]; exact H j hj)]
  decide
theorem stI_end {h : m_H} {a n m : Int} (hn : 80 ≤ n) (hm : 16 ≤ m) (I : stI h a n m) : ∀ l, l < 16 → aS h l = ((1, 1), (0, if a = -1 ∨ (l : Int) = a then 1 else 0)) := by
  intro l hl
  unfold aS
  obtain ⟨a1, a2⟩ := I.2 l (by omega)
  rw [a1, a2]
  have d : ∀ k, k < 5 → h 124 (5 * l + k) = (if k = 0 then 1 else 0) ∧ h 125 (5 * l + k) = (if k = 0 then 1 else 0) := by
    intro k hk
    have := I.1 (5 * l + k) (by omega)
    rw [show (5 * l + k) % 5 = k by omega] at this
    exact this
  rw [vS_one (fun k hk => (d k hk).1), vS_one (fun k hk => (d k hk).2)]
/-! the loop over the ties -/
def rdI (h0 h : m_H) (L : List gE) (z : Int) (e : Nat) (m : Int) : Prop := (∀ l, l < 16 → aS h l = aS h0 l) ∧ (∀ l, l < 16 → aD h l = (gi z (aS h0) L e).1 l) ∧ m = (gi z (aS h0) L e).2
theorem aS_same {h h' : m_H} (e1 : h' 124 = h 124) (e2 : h' 125 = h 125) (e3 : h' 126 = h 126) (e4 : h' 127 = h 127) : aS h' = aS h := by unfold aS; rw [e1, e2, e3, e4]
theorem aD_same {h h' : m_H} (e1 : h' 128 = h 128) (e2 : h' 129 = h 129) (e3 : h' 130 = h 130) (e4 : h' 131 = h 131) : aD h' = aD h := by unfold aD; rw [e1, e2, e3, e4]
theorem rdI.call {h0 h h' : m_H} {L : List gE} {z m : Int} {e : Nat} {cs : List Nat} {ss : List (Nat × Nat)} (I : rdI h0 h L z e m) (S : FR cs ss h h') (e4 : ∀ j, fr cs ss 124 j = false) (e5 : ∀ j, fr cs ss 125 j = false) (e6 : ∀ j, fr cs ss 126 j = false) (e7 : ∀ j, fr cs ss 127 j = false) (e8 : ∀ j, fr cs ss 128 j = false) (e9 : ∀ j, fr cs ss 129 j = false) (e10 : ∀ j, fr cs ss 130 j = false) (e11 : ∀ j, fr cs ss 131 j = false) : rdI h0 h' L z e m := by
  unfold rdI
  rw [aS_same (FR.row S e4) (FR.row S e5) (FR.row S e6) (FR.row S e7), aD_same (FR.row S e8) (FR.row S e9) (FR.row S e10) (FR.row S e11)]
  exact I
theorem rd_0 {h0 h : m_H} {L : List gE} {z : Int} (K : kp0 h0 h 80 16) : rdI h0 h L z (0 : Int).toNat 0 := by
  obtain ⟨k1, k2, k3, k4, k5, k6⟩ := K
  have e1 : aS h = aS h0 := aS_same (funext k1) (funext k2) (funext k3) (funext k4)
  refine ⟨fun l _ => by rw [e1], fun l hl => ?_, rfl⟩
  show aD h l = aS h0 l
  unfold aD aS
  rw [(k6 l (by omega)).1, (k6 l (by omega)).2, vS_same (g := h0 124) (b := 5 * l) (fun j hj => (k5 _ (by omega)).1), vS_same (f := h 129) (g := h0 125) (b := 5 * l) (fun j hj => (k5 _ (by omega)).2)]
theorem rd_sk {h0 h : m_H} {L : List gE} {z m : Int} {e : Int} {q : gE} (he : 0 ≤ e) (I : rdI h0 h L z e.toNat m) (hq : L[e.toNat]? = some q) (hn : ¬ ((aS h0 q.1.1).2.2 = 1 ∧ gb (gc z (aS h0) q) ((gi z (aS h0) L e.toNat).1 q.1.2))) : rdI h0 h L z (e + 1).toNat m := by
  have n1 : (e + 1).toNat = e.toNat + 1 := by omega
  have e0 : gi z (aS h0) L (e.toNat + 1) = gi z (aS h0) L e.toNat := by
    simp only [gi, hq]
    unfold gs
    rw [if_neg hn]
  unfold rdI
  rw [n1, e0]; exact I
theorem rd_skipA {h0 h : m_H} {L : List gE} {z m e n f t : Int} (hE : ∀ q ∈ L, gEo q) (A : AR h L) (he : 0 ≤ e) (I : rdI h0 h L z e.toNat m) (en : h 108 21 = n) (hn : e < n) (ef : h 117 e.toNat = f) (et : h 127 f.toNat = t) (ht : t ≠ 1) : rdI h0 h L z (e + 1).toNat m := by
  obtain ⟨q, q1, q2, q3, q4, -⟩ := AR_at A he en hn
  refine rd_sk he I q1 (fun w => ht ?_)
  have e1 : f.toNat = q.1.1 := by omega
  have e2 := (I.1 q.1.1 (hE q q2).1.1)
  have e3 : h 127 q.1.1 = (aS h0 q.1.1).2.2 := by rw [← e2]; rfl
  rw [← et, e1, e3]; exact w.1
def rcI (h0 h : m_H) (L : List gE) (z e m t o : Int) : Prop := ∃ q, L[e.toNat]? = some q ∧ q.1.2 = t.toNat ∧ q.1.2 < 16 ∧ (aS h0 q.1.1).2.2 = 1 ∧ rdI h0 h L z e.toNat m ∧ vS (h 132) 0 5 = (gc z (aS h0) q).1.1 ∧ vS (h 133) 0 5 = (gc z (aS h0) q).1.2 ∧ o = (gc z (aS h0) q).2.1
/-- behind times, times and the question whether it is open -/
theorem rc_of {h0 h h1 h2 : m_H} {L : List gE} {z m e n f t x u l o : Int} (hE : ∀ q ∈ L, gEo q) (A : AR h L) (he : 0 ≤ e) (I : rdI h0 h L z e.toNat m) (en : h 108 21 = n) (hn : e < n) (ef : h 117 e.toNat = f) (et : h 118 e.toNat = t) (ex : h 127 f.toNat = x) (hx : x = 1)
    (eu : h 119 e.toNat = u) (S1 : FR [132] [] h h1) (T1 : vS (h1 132) 0 5 = (vS (h 124) (5 * f).toNat 5 * u) % gBig) (el : h1 120 e.toNat = l) (S2 : FR [133] [] h1 h2) (T2 : vS (h2 133) 0 5 = (vS (h1 125) (5 * f).toNat 5 * l) % gBig)
    (ho : o = if z = 1 ∧ (h 126 f.toNat = 1 ∨ h 121 e.toNat = 1) then 1 else 0) : rcI h0 h2 L z e m t o := by
  obtain ⟨q, q1, q2, q3, q4, q5, q6, q7⟩ := AR_at A he en hn
  have e1 : f.toNat = q.1.1 := by omega
  have e2 : t.toNat = q.1.2 := by omega
  have hf := (hE q q2).1.1
  have e3 := I.1 q.1.1 hf
  have e4 : (5 * f).toNat = 5 * q.1.1 := by omega
  have I2 : rdI h0 h2 L z e.toNat m := (I.call S1 (fun _ => rfl) (fun _ => rfl) (fun _ => rfl) (fun _ => rfl) (fun _ => rfl) (fun _ => rfl) (fun _ => rfl) (fun _ => rfl)).call S2 (fun _ => rfl) (fun _ => rfl) (fun _ => rfl) (fun _ => rfl) (fun _ => rfl) (fun _ => rfl) (fun _ => rfl) (fun _ => rfl)
  have r1 : h1 125 = h 125 := FR.row S1 (fun _ => rfl)
  have r2 : h2 132 = h1 132 := FR.row S2 (fun _ => rfl)
  have r3 : h1 120 = h 120 := FR.row S1 (fun _ => rfl)
  refine ⟨q, q1, e2.symm, (hE q q2).1.2, ?_, I2, ?_, ?_, ?_⟩
  · rw [← e3]; show h 127 q.1.1 = 1; rw [← e1, ex]; exact hx
  · unfold gc; rw [← e3, r2, T1, e4]
    show _ = (vS (h 124) (5 * q.1.1) 5 * q.2.1) % gBig
    rw [← q5, eu]
  · unfold gc; rw [← e3, T2, r1, e4]
    show _ = (vS (h 125) (5 * q.1.1) 5 * q.2.2.1) % gBig
    rw [← q6, ← r3, el]
  · unfold gc; rw [← e3, ho, e1, q7]; rfl
theorem rcI.call {h0 h h' : m_H} {L : List gE} {z m e t o : Int} (I : rcI h0 h L z e m t o) (S : FR [115, 116] [] h h') : rcI h0 h' L z e m t o := by
  obtain ⟨q, i1, i2, i3, i4, i5, i6, i7, i8⟩ := I
  refine ⟨q, i1, i2, i3, i4, i5.call S (fun _ => rfl) (fun _ => rfl) (fun _ => rfl) (fun _ => rfl) (fun _ => rfl) (fun _ => rfl) (fun _ => rfl) (fun _ => rfl), ?_, ?_, i8⟩
  · rw [FR.row S (c := 132) (fun _ => rfl)]; exact i6
  · rw [FR.row S (c := 133) (fun _ => rfl)]; exact i7
def gbH (h : m_H) (t : Nat) (o : Int) : Prop := h 131 t ≠ 1 ∨ vS (h 128) (5 * t) 5 * vS (h 133) 0 5 < vS (h 132) 0 5 * vS (h 129) (5 * t) 5 ∨ (vS (h 132) 0 5 * vS (h 129) (5 * t) 5 = vS (h 128) (5 * t) 5 * vS (h 133) 0 5 ∧ o = 1 ∧ h 130 t ≠ 1)
theorem gbH.call {h h' : m_H} {t : Nat} {o : Int} (I : gbH h t o) (S : FR [115, 116] [] h h') : gbH h' t o := by
  unfold gbH
  rw [FR.row S (c := 128) (fun _ => rfl), FR.row S (c := 129) (fun _ => rfl), FR.row S (c := 130) (fun _ => rfl), FR.row S (c := 131) (fun _ => rfl), FR.row S (c := 132) (fun _ => rfl), FR.row S (c := 133) (fun _ => rfl)]
  exact I
theorem gbH_iff {h0 h : m_H} {L : List gE} {z m e t o : Int} {q : gE} (i2 : q.1.2 = t.toNat) (i3 : q.1.2 < 16) (i5 : rdI h0 h L z e.toNat m) (i6 : vS (h 132) 0 5 = (gc z (aS h0) q).1.1) (i7 : vS (h 133) 0 5 = (gc z (aS h0) q).1.2) (i8 : o = (gc z (aS h0) q).2.1) : gbH h t.toNat o ↔ gb (gc z (aS h0) q) ((gi z (aS h0) L e.toNat).1 q.1.2) := by
  rw [← i5.2.1 _ i3]
  unfold gbH
  rw [i6, i7, i8, i2]
  exact Iff.rfl
theorem rc_skip {h0 h : m_H} {L : List gE} {z m e t o : Int} (he : 0 ≤ e) (I : rcI h0 h L z e m t o) (hn : ¬ gbH h t.toNat o) : rdI h0 h L z (e + 1).toNat m := by
  obtain ⟨q, i1, i2, i3, i4, i5, i6, i7, i8⟩ := I
  exact rd_sk he i5 i1 (fun w => hn ((gbH_iff i2 i3 i5 i6 i7 i8).mpr w.2))
/-! the questions -/
theorem gbH_a {h : m_H} {t : Nat} {o x : Int} (e : h 131 t = x) (hx : x ≠ 1) : gbH h t o := Or.inl (by rw [e]; exact hx)
theorem gbH_b {h : m_H} {t z : Int} {o x : Int} (ht : 0 ≤ t) (hz : z = 0) (c : cmpQ x (vS (h 132) z.toNat 5 * vS (h 129) (5 * t).toNat 5) (vS (h 128) (5 * t).toNat 5 * vS (h 133) z.toNat 5)) (hx : 0 < x) : gbH h t.toNat o := by
  subst hz
  rw [show (5 * t).toNat = 5 * t.toNat by omega] at c
  rcases c with ⟨a, b⟩ | ⟨a, b⟩ | ⟨a, b⟩
  · omega
  · omega
  · exact Or.inr (Or.inl b)
theorem gbH_c {h : m_H} {t z : Int} {o x y : Int} (ht : 0 ≤ t) (hz : z = 0) (c : cmpQ x (vS (h 132) z.toNat 5 * vS (h 129) (5 * t).toNat 5) (vS (h 128) (5 * t).toNat 5 * vS (h 133) z.toNat 5)) (hx : x = 0) (ho : o = 1) (ey : h 130 t.toNat = y) (hy : y ≠ 1) : gbH h t.toNat o := by
  subst hz
  rw [show (5 * t).toNat = 5 * t.toNat by omega] at c
  rcases c with ⟨a, b⟩ | ⟨a, b⟩ | ⟨a, b⟩
  · omega
  · exact Or.inr (Or.inr ⟨b, ho, by rw [ey]; exact hy⟩)
  · omega
theorem ngb_d {h : m_H} {t z : Int} {o x w : Int} (ht : 0 ≤ t) (hz : z = 0) (ew : h 131 t.toNat = w) (hw : w = 1) (c : cmpQ x (vS (h 132) z.toNat 5 * vS (h 129) (5 * t).toNat 5) (vS (h 128) (5 * t).toNat 5 * vS (h 133) z.toNat 5)) (hx : x < 0) : ¬ gbH h t.toNat o := by
  subst hz
  rw [show (5 * t).toNat = 5 * t.toNat by omega] at c
  rintro (q | q | ⟨q, -⟩)
  · exact q (ew.trans hw)
  · rcases c with ⟨a, b⟩ | ⟨a, b⟩ | ⟨a, b⟩
    · exact absurd q (Int.not_lt.mpr (Int.le_of_lt b))
    · omega
    · omega
  · rcases c with ⟨a, b⟩ | ⟨a, b⟩ | ⟨a, b⟩
    · exact absurd q (Int.ne_of_lt b)
    · omega
    · omega
theorem ngb_e {h : m_H} {t z : Int} {o x w : Int} (ht : 0 ≤ t) (hz : z = 0) (ew : h 131 t.toNat = w) (hw : w = 1) (c : cmpQ x (vS (h 132) z.toNat 5 * vS (h 129) (5 * t).toNat 5) (vS (h 128) (5 * t).toNat 5 * vS (h 133) z.toNat 5)) (hx : x = 0) (ho : o ≠ 1 ∨ h 130 t.toNat = 1) : ¬ gbH h t.toNat o := by
  subst hz
  rw [show (5 * t).toNat = 5 * t.toNat by omega] at c
  rintro (q | q | ⟨-, q2, q3⟩)
  · exact q (ew.trans hw)
  · rcases c with ⟨a, b⟩ | ⟨a, b⟩ | ⟨a, b⟩
    · omega
    · exact absurd b.symm (Int.ne_of_lt q)
    · omega
  · rcases ho with o1 | o1
    · exact o1 q2
    · exact q3 o1
/-! the better one is laid down -/
def rkI (h0 h : m_H) (L : List gE) (z e t o k : Int) : Prop := ∃ (q : gE) (hB : m_H) (m : Int), L[e.toNat]? = some q ∧ q.1.2 = t.toNat ∧ q.1.2 < 16 ∧ (aS h0 q.1.1).2.2 = 1 ∧ rdI h0 hB L z e.toNat m ∧ vS (hB 132) 0 5 = (gc z (aS h0) q).1.1 ∧ vS (hB 133) 0 5 = (gc z (aS h0) q).1.2 ∧ o = (gc z (aS h0) q).2.1 ∧ gbH hB t.toNat o ∧ (∀ c, c ≠ 128 → c ≠ 129 → h c = hB c) ∧ (∀ j, h 128 j = if 5 * t.toNat ≤ j ∧ j < 5 * t.toNat + k.toNat then hB 132 (j - 5 * t.toNat) else hB 128 j) ∧ ∀ j, h 129 j = if 5 * t.toNat ≤ j ∧ j < 5 * t.toNat + k.toNat then hB 133 (j - 5 * t.toNat) else hB 129 j
theorem rk_0 {h0 h : m_H} {L : List gE} {z m e t o : Int} (I : rcI h0 h L z e m t o) (g : gbH h t.toNat o) : rkI h0 h L z e t o 0 := by
  obtain ⟨q, i1, i2, i3, i4, i5, i6, i7, i8⟩ := I
  have n0 : (0 : Int).toNat = 0 := rfl
  exact ⟨q, h, m, i1, i2, i3, i4, i5, i6, i7, i8, g, fun _ _ _ => rfl, fun j => by rw [if_neg (by omega)], fun j => by rw [if_neg (by omega)]⟩
theorem rk_step {h0 h h1 h2 : m_H} {L : List gE} {z e t o k x y : Int} (ht : 0 ≤ t) (hk : 0 ≤ k) (I : rkI h0 h L z e t o k) (ex : h 132 k.toNat = x) (E1 : h1 = m_up h 128 (5 * t + k).toNat x) (ey : h1 133 k.toNat = y) (E2 : h2 = m_up h1 129 (5 * t + k).toNat y) : rkI h0 h2 L z e t o (k + 1) := by
  obtain ⟨q, hB, m, i1, i2, i3, i4, i5, i6, i7, i8, i9, j1, j2, j3⟩ := I
  have n1 : (5 * t + k).toNat = 5 * t.toNat + k.toNat := by omega
  have n2 : (k + 1).toNat = k.toNat + 1 := by omega
  rw [n1] at E1 E2
  rw [upN E1 (fun z => absurd z.1 (by decide))] at ey
  refine ⟨q, hB, m, i1, i2, i3, i4, i5, i6, i7, i8, i9, fun c c1 c2 => ?_, fun j => ?_, fun j => ?_⟩
  · rw [upo E2 c2, upo E1 c1]; exact j1 c c1 c2
  · rw [upN E2 (fun z => absurd z.1 (by decide)), n2]
    by_cases w : j = 5 * t.toNat + k.toNat
    · rw [if_pos (by omega), w, upE E1, ← ex, j1 132 (by decide) (by decide)]
      congr 1; omega
    · rw [upN E1 (fun z => w z.2), j2 j]
      by_cases w2 : 5 * t.toNat ≤ j ∧ j < 5 * t.toNat + k.toNat
      · rw [if_pos w2, if_pos (by omega)]
      · rw [if_neg w2, if_neg (by omega)]
  · rw [n2]
    by_cases w : j = 5 * t.toNat + k.toNat
    · rw [if_pos (by omega), w, upE E2, ← ey, j1 133 (by decide) (by decide)]
      congr 1; omega
    · rw [upN E2 (fun z => w z.2), upN E1 (fun z => absurd z.1 (by decide)), j3 j]
      by_cases w2 : 5 * t.toNat ≤ j ∧ j < 5 * t.toNat + k.toNat
      · rw [if_pos w2, if_pos (by omega)]
      · rw [if_neg w2, if_neg (by omega)]
theorem rk_end {h0 h h1 h2 : m_H} {L : List gE} {z e t o k : Int} (he : 0 ≤ e) (hk : k = 5) (I : rkI h0 h L z e t o k) (E1 : h1 = m_up h 130 t.toNat o) (E2 : h2 = m_up h1 131 t.toNat 1) : rdI h0 h2 L z (e + 1).toNat 1 := by
  subst hk
  obtain ⟨q, hB, m, i1, i2, i3, i4, i5, i6, i7, i8, i9, j1, j2, j3⟩ := I
  have n1 : (e + 1).toNat = e.toNat + 1 := by omega
  have n5 : (5 : Int).toNat = 5 := rfl
  have g := (gbH_iff i2 i3 i5 i6 i7 i8).mp i9
  have e0 : gi z (aS h0) L (e.toNat + 1) = (fun l => if l = q.1.2 then gc z (aS h0) q else (gi z (aS h0) L e.toNat).1 l, 1) := by
    simp only [gi, i1]
    unfold gs
    rw [if_pos ⟨i4, g⟩]
  have s1 : aS h2 = aS hB := aS_same (by rw [upo E2 (by decide), upo E1 (by decide)]; exact j1 _ (by decide) (by decide)) (by rw [upo E2 (by decide), upo E1 (by decide)]; exact j1 _ (by decide) (by decide)) (by rw [upo E2 (by decide), upo E1 (by decide)]; exact j1 _ (by decide) (by decide)) (by rw [upo E2 (by decide), upo E1 (by decide)]; exact j1 _ (by decide) (by decide))
  have u8 : h2 128 = h 128 := by rw [upo E2 (by decide), upo E1 (by decide)]
  have u9 : h2 129 = h 129 := by rw [upo E2 (by decide), upo E1 (by decide)]
  rw [n5] at j2 j3
  refine ⟨fun l hl => by rw [s1]; exact i5.1 l hl, fun l hl => ?_, by rw [n1, e0]⟩
  rw [n1, e0]
  by_cases w : l = q.1.2
  · simp only [w, if_true]
    unfold aD
    rw [u8, u9, i2]
    have v8 : vS (h 128) (5 * t.toNat) 5 = vS (hB 132) 0 5 := vS_same (fun j hj => by
      rw [j2, if_pos (by omega), Nat.zero_add]; congr 1; omega)
    have v9 : vS (h 129) (5 * t.toNat) 5 = vS (hB 133) 0 5 := vS_same (fun j hj => by
      rw [j3, if_pos (by omega), Nat.zero_add]; congr 1; omega)
    rw [v8, v9, i6, i7, upN E2 (fun z => absurd z.1 (by decide)), upE E1, upE E2, i8]
    rfl
  · simp only [w, if_false]
    rw [← i5.2.1 l hl]
    unfold aD
    rw [u8, u9]
    have v8 : vS (h 128) (5 * l) 5 = vS (hB 128) (5 * l) 5 := vS_same (fun j hj => by rw [j2, if_neg (by omega)])
    have v9 : vS (h 129) (5 * l) 5 = vS (hB 129) (5 * l) 5 := vS_same (fun j hj => by rw [j3, if_neg (by omega)])
    have w2 : l ≠ t.toNat := by rw [← i2]; exact w
    rw [v8, v9, upN E2 (fun z => absurd z.1 (by decide)), upN E1 (fun z => w2 z.2), upN E2 (fun z => w2 z.2), upN E1 (fun z => absurd z.1 (by decide)), j1 130 (by decide) (by decide), j1 131 (by decide) (by decide)]
theorem rd_end {h0 h h' : m_H} {L : List gE} {z e m n : Int} (I : rdI h0 h L z e.toNat m) (A : AR h L) (en : h 108 21 = n) (h1 : n ≤ e) (h2 : e ≤ n) (K : kp1 h h' 80 16) : (∀ l, l < 16 → aS h' l = (gi z (aS h0) L L.length).1 l) ∧ m = (gi z (aS h0) L L.length).2 := by
  have n1 : e.toNat = L.length := by have := A.1; omega
  rw [← n1]
  obtain ⟨k1, k2, k3, k4, k5, k6⟩ := K
  refine ⟨fun l hl => ?_, I.2.2⟩
  rw [← I.2.1 l hl]
  unfold aS aD
  rw [(k6 l (by omega)).1, (k6 l (by omega)).2, vS_same (g := h 128) (b := 5 * l) (fun j hj => (k5 _ (by omega)).1), vS_same (f := h' 125) (g := h 129) (b := 5 * l) (fun j hj => (k5 _ (by omega)).2)]
abbrev P_X12_asIsX (h0 : m_H) : m_H → Prop := fun h' => GI h' ∧ FR [122, 123] [] h0 h' ∧ asQ h0 h' 32 6
def q_X12_asIsX (h0 : m_H) (n : Nat) : Prop := (∀ (l1 : Int) (h : m_H), GI h → FR [122, 123] [] h0 h → 0 ≤ l1 → l1 ≤ 32 → (asQ h0 h l1 0) → 2 * (32 - l1) + (16) ≤ (n : Int) → m_Z oF M_X12_asIs 2 [some (mR 108), some (mI l1)] [] h (m_QV (P_X12_asIsX h0))) ∧ (∀ (l1 : Int) (h : m_H), GI h → FR [122, 123] [] h0 h → 0 ≤ l1 → l1 ≤ 6 → (asQ h0 h 32 l1) → 2 * (6 - l1) + (1) ≤ (n : Int) → m_Z oF M_X12_asIs 31 [some (mR 108), some (mI l1)] [] h (m_QV (P_X12_asIsX h0)))
set_option maxHeartbeats 4000000 in
set_option maxRecDepth 100000 in
theorem s_X12_asIsX_2 (h0 : m_H) (G0 : GI h0) (n : Nat) (ih : q_X12_asIsX h0 n) : ∀ (l1 : Int) (h : m_H), GI h → FR [122, 123] [] h0 h → 0 ≤ l1 → l1 ≤ 32 → (asQ h0 h l1 0) → 2 * (32 - l1) + (16) ≤ ((n + 1 : Nat) : Int) → m_Z oF M_X12_asIs 2 [some (mR 108), some (mI l1)] [] h (m_QV (P_X12_asIsX h0)) := by
  intro l1 h G R v0 v1 i0 hr
  refine z_iload_n (M := M_X12_asIs) 2 dX12_asIs_2 rfl ?_
  refine z_bipush (M := M_X12_asIs) 3 dX12_asIs_3 ?_
  refine z_icmp_ge (M := M_X12_asIs) 5 dX12_asIs_5 29 rfl (fun c1 => ?_) (fun c1 => ?_)
  · refine z_iconst (M := M_X12_asIs) 29 dX12_asIs_29 ?_
    refine z_istore_n (M := M_X12_asIs) 30 dX12_asIs_30 (ls' := [some (mR 108), some (mI 0)]) (by decide) rfl ?_
    exact z_mask [true, true] rfl (ih.2 0 h G R (by omega) (by omega) ((show l1 = 32 by omega) ▸ i0) (by omega))
  · refine z_aload_n (M := M_X12_asIs) 8 dX12_asIs_8 rfl ?_
    refine z_getR (M := M_X12_asIs) 9 dX12_asIs_9 f_X12_55 o_108 rfl (g_108_27 G) ?_
    refine z_iload_n (M := M_X12_asIs) 12 dX12_asIs_12 rfl ?_
    refine z_aload_n (M := M_X12_asIs) 13 dX12_asIs_13 rfl ?_
    refine z_getR (M := M_X12_asIs) 14 dX12_asIs_14 f_X12_13 o_108 rfl (g_108_3 G) ?_
    refine z_bipush (M := M_X12_asIs) 17 dX12_asIs_17 ?_
    refine z_iload_n (M := M_X12_asIs) 19 dX12_asIs_19 rfl ?_
    refine z_iaddN (M := M_X12_asIs) 20 dX12_asIs_20 (by omega) (by omega) ?_
    refine z_ialdG (M := M_X12_asIs) 21 dX12_asIs_21 o_110 (by omega) (by omega) (gw_w G (by omega) (by omega)) (fun x2 ex2 ax2 bx2 => ?_)
    refine z_iastH (M := M_X12_asIs) 22 dX12_asIs_22 o_122 (by omega) (by omega) (u_122 G (by omega) (by omega)) (R.up rfl) (fun h1 E1 G1 R1 => ?_)
    refine z_iincN (M := M_X12_asIs) 23 dX12_asIs_23 (ls' := [some (mR 108), some (mI (l1 + 1))]) (by decide) rfl (by (unfold m_32; decide)) (by omega) (by omega) rfl ?_
    refine z_goto (M := M_X12_asIs) 26 dX12_asIs_26 2 rfl ?_
    exact z_mask [true, true] rfl (ih.1 (l1 + 1) h1 G1 R1 (by omega) (by omega) (as_1 (by omega) i0 ((R 110 _ rfl).symm.trans ex2) E1) (by omega))
set_option maxHeartbeats 4000000 in
set_option maxRecDepth 100000 in
theorem s_X12_asIsX_31 (h0 : m_H) (G0 : GI h0) (n : Nat) (ih : q_X12_asIsX h0 n) : ∀ (l1 : Int) (h : m_H), GI h → FR [122, 123] [] h0 h → 0 ≤ l1 → l1 ≤ 6 → (asQ h0 h 32 l1) → 2 * (6 - l1) + (1) ≤ ((n + 1 : Nat) : Int) → m_Z oF M_X12_asIs 31 [some (mR 108), some (mI l1)] [] h (m_QV (P_X12_asIsX h0)) := by
  intro l1 h G R v0 v1 i0 hr
  refine z_iload_n (M := M_X12_asIs) 31 dX12_asIs_31 rfl ?_
  refine z_bipush (M := M_X12_asIs) 32 dX12_asIs_32 ?_
  refine z_icmp_ge (M := M_X12_asIs) 34 dX12_asIs_34 58 rfl (fun c1 => ?_) (fun c1 => ?_)
  · exact z_retV (M := M_X12_asIs) 58 dX12_asIs_58 rfl ⟨G, R, (show l1 = 6 by omega) ▸ i0⟩
  · refine z_aload_n (M := M_X12_asIs) 37 dX12_asIs_37 rfl ?_
    refine z_getR (M := M_X12_asIs) 38 dX12_asIs_38 f_X12_58 o_108 rfl (g_108_28 G) ?_
    refine z_iload_n (M := M_X12_asIs) 41 dX12_asIs_41 rfl ?_
    refine z_aload_n (M := M_X12_asIs) 42 dX12_asIs_42 rfl ?_
    refine z_getR (M := M_X12_asIs) 43 dX12_asIs_43 f_X12_13 o_108 rfl (g_108_3 G) ?_
    refine z_bipush (M := M_X12_asIs) 46 dX12_asIs_46 ?_
    refine z_iload_n (M := M_X12_asIs) 48 dX12_asIs_48 rfl ?_
    refine z_iaddN (M := M_X12_asIs) 49 dX12_asIs_49 (by omega) (by omega) ?_
    refine z_ialdG (M := M_X12_asIs) 50 dX12_asIs_50 o_110 (by omega) (by omega) (gw_c G (by omega) (by omega)) (fun x2 ex2 ax2 bx2 => ?_)
    refine z_iastH (M := M_X12_asIs) 51 dX12_asIs_51 o_123 (by omega) (by omega) (u_123 G (by omega) (by omega)) (R.up rfl) (fun h1 E1 G1 R1 => ?_)
    refine z_iincN (M := M_X12_asIs) 52 dX12_asIs_52 (ls' := [some (mR 108), some (mI (l1 + 1))]) (by decide) rfl (by (unfold m_32; decide)) (by omega) (by omega) rfl ?_
    refine z_goto (M := M_X12_asIs) 55 dX12_asIs_55 31 rfl ?_
    exact z_mask [true, true] rfl (ih.2 (l1 + 1) h1 G1 R1 (by omega) (by omega) (as_2 (by omega) i0 ((R 110 _ rfl).symm.trans ex2) E1) (by omega))
theorem a_X12_asIsX (h0 : m_H) (G0 : GI h0) : ∀ n, q_X12_asIsX h0 n := by
  intro n
  induction n with
  | zero => unfold q_X12_asIsX; refine ⟨?_, ?_⟩ <;> (intros; omega)
  | succ n ih => exact ⟨s_X12_asIsX_2 h0 G0 n ih, s_X12_asIsX_31 h0 G0 n ih⟩
set_option maxHeartbeats 4000000 in
set_option maxRecDepth 100000 in
theorem c_X12_asIsX (h0 : m_H) (G0 : GI h0) : m_CV M_X12_asIs [mR 108] h0 (P_X12_asIsX h0) := by
  refine m_CV_of ⟨by decide, rfl, by simp [m_arg, m_isL, M_X12_asIs], ⟨rfl, rfl⟩, rfl, rfl⟩ (ls := [some (mR 108), none]) rfl ?_
  have ih := a_X12_asIsX h0 G0 87
  refine z_iconst (M := M_X12_asIs) 0 dX12_asIs_0 ?_
  refine z_istore_n (M := M_X12_asIs) 1 dX12_asIs_1 (ls' := [some (mR 108), some (mI 0)]) (by decide) rfl ?_
  exact z_mask [true, true] rfl (ih.1 0 h0 G0 (FR.rf (cs := [122, 123]) (ss := []) (h := h0)) (by omega) (by omega) ⟨fun j hj => by omega, fun j hj => by omega⟩ (by omega))
abbrev P_X12_countingX (h0 : m_H) : Int → m_H → Prop := fun x h' => GI h' ∧ FR [] [] h0 h' ∧ x = cF (h0 110)
def q_X12_countingX (h0 : m_H) (n : Nat) : Prop := (∀ (l1 l2 : Int) (h : m_H), GI h → FR [] [] h0 h → 0 ≤ l2 → l2 ≤ 24 → (l1 = cS (h0 110) l2.toNat) → (l2 ≤ h0 110 (0 : Int).toNat) → 2 * (24 - l2) + (1) ≤ (n : Int) → m_Z oF M_X12_counting 4 [some (mR 108), some (mI l1), some (mI l2)] [] h (m_QI (P_X12_countingX h0)))
set_option maxHeartbeats 4000000 in
set_option maxRecDepth 100000 in
theorem s_X12_countingX_4 (h0 : m_H) (G0 : GI h0) (n : Nat) (ih : q_X12_countingX h0 n) : ∀ (l1 l2 : Int) (h : m_H), GI h → FR [] [] h0 h → 0 ≤ l2 → l2 ≤ 24 → (l1 = cS (h0 110) l2.toNat) → (l2 ≤ h0 110 (0 : Int).toNat) → 2 * (24 - l2) + (1) ≤ ((n + 1 : Nat) : Int) → m_Z oF M_X12_counting 4 [some (mR 108), some (mI l1), some (mI l2)] [] h (m_QI (P_X12_countingX h0)) := by
  intro l1 l2 h G R v0 v1 i0 i1 hr
  refine z_ok (fun ostk _ olocs => ?_)
  have ol1 : m_32 l1 := olocs 1 _ rfl
  unfold m_32 at ol1
  refine z_iload_n (M := M_X12_counting) 4 dX12_counting_4 rfl ?_
  refine z_aload_n (M := M_X12_counting) 5 dX12_counting_5 rfl ?_
  refine z_getR (M := M_X12_counting) 6 dX12_counting_6 f_X12_13 o_108 rfl (g_108_3 G) ?_
  refine z_iconst (M := M_X12_counting) 9 dX12_counting_9 ?_
  refine z_ialdG (M := M_X12_counting) 10 dX12_counting_10 o_110 (by omega) (by omega) (gw_0 G) (fun x1 ex1 ax1 bx1 => ?_)
  refine z_icmp_ge (M := M_X12_counting) 11 dX12_counting_11 40 rfl (fun c2 => ?_) (fun c2 => ?_)
  · refine z_iload_n (M := M_X12_counting) 40 dX12_counting_40 rfl ?_
    exact z_retI (M := M_X12_counting) 41 dX12_counting_41 rfl ⟨G, R, by have r0 := R 110 (0 : Int).toNat rfl; have q1 : l2 = h0 110 (0 : Int).toNat := (by omega); rw [q1] at i0; exact i0⟩
  · refine z_iload_n (M := M_X12_counting) 14 dX12_counting_14 rfl ?_
    refine z_aload_n (M := M_X12_counting) 15 dX12_counting_15 rfl ?_
    refine z_iload_n (M := M_X12_counting) 16 dX12_counting_16 rfl ?_
    refine z_iconst (M := M_X12_counting) 17 dX12_counting_17 ?_
    refine z_vI (M := M_X12_counting) 18 dX12_counting_18 t_X12_ofEntry l_X12_195 (m_rr_of rfl) (rest := [mI l1]) (c_X12_ofEntry h l2 4 G ⟨by omega, by omega⟩ ⟨by omega, by omega⟩) o_108 rfl rfl rfl (Nat.le_of_ble_eq_true rfl) ⟨rfl, rfl⟩ (fun x3 h1 qx3 => ?_)
    obtain ⟨rfl, fx3⟩ := qx3
    have gx3 := gw_e4 G (i := (80 + 5 * l2 + 4)) (e := l2) (by omega) (by omega) (by omega)
    rw [fx3] at gx3
    refine z_iconst (M := M_X12_counting) 21 dX12_counting_21 ?_
    refine z_icmp_ne (M := M_X12_counting) 22 dX12_counting_22 31 rfl (fun c4 => ?_) (fun c4 => ?_)
    · refine z_iconst (M := M_X12_counting) 31 dX12_counting_31 ?_
      refine z_ior (M := M_X12_counting) 32 dX12_counting_32 ?_
      refine z_topm (fun x5 ex5 ox5 => ?_)
      unfold m_32 at ox5
      refine z_istore_n (M := M_X12_counting) 33 dX12_counting_33 (ls' := [some (mR 108), some (mI x5), some (mI l2)]) (by decide) rfl ?_
      refine z_iincN (M := M_X12_counting) 34 dX12_counting_34 (ls' := [some (mR 108), some (mI x5), some (mI (l2 + 1))]) (by decide) rfl (by (unfold m_32; decide)) (by omega) (by omega) rfl ?_
      refine z_goto (M := M_X12_counting) 37 dX12_counting_37 4 rfl ?_
      exact z_mask [true, true, true] rfl (ih x5 (l2 + 1) h G R (by omega) (by omega) (cS_0 (by omega) i0 ((R 110 _ rfl).symm.trans fx3) (by omega) ex5) (by have r0 := R 110 (0 : Int).toNat rfl; omega) (by omega))
    · refine z_iconst (M := M_X12_counting) 25 dX12_counting_25 ?_
      refine z_iload_n (M := M_X12_counting) 26 dX12_counting_26 rfl ?_
      refine z_ishl (M := M_X12_counting) 27 dX12_counting_27 ?_
      refine z_topm (fun x6 ex6 ox6 => ?_)
      unfold m_32 at ox6
      refine z_goto (M := M_X12_counting) 28 dX12_counting_28 32 rfl ?_
      refine z_ior (M := M_X12_counting) 32 dX12_counting_32 ?_
      refine z_topm (fun x7 ex7 ox7 => ?_)
      unfold m_32 at ox7
      refine z_istore_n (M := M_X12_counting) 33 dX12_counting_33 (ls' := [some (mR 108), some (mI x7), some (mI l2)]) (by decide) rfl ?_
      refine z_iincN (M := M_X12_counting) 34 dX12_counting_34 (ls' := [some (mR 108), some (mI x7), some (mI (l2 + 1))]) (by decide) rfl (by (unfold m_32; decide)) (by omega) (by omega) rfl ?_
      refine z_goto (M := M_X12_counting) 37 dX12_counting_37 4 rfl ?_
      exact z_mask [true, true, true] rfl (ih x7 (l2 + 1) h G R (by omega) (by omega) (cS_1 (by omega) i0 ((R 110 _ rfl).symm.trans fx3) (by omega) ex6 ex7) (by have r0 := R 110 (0 : Int).toNat rfl; omega) (by omega))
theorem a_X12_countingX (h0 : m_H) (G0 : GI h0) : ∀ n, q_X12_countingX h0 n := by
  intro n
  induction n with
  | zero => unfold q_X12_countingX; intros; omega
  | succ n ih => exact s_X12_countingX_4 h0 G0 n ih
set_option maxHeartbeats 4000000 in
set_option maxRecDepth 100000 in
theorem c_X12_countingX (h0 : m_H) (G0 : GI h0) : m_CI M_X12_counting [mR 108] h0 (P_X12_countingX h0) := by
  refine m_CI_of ⟨by decide, rfl, by simp [m_arg, m_isL, M_X12_counting], ⟨rfl, rfl⟩, rfl, rfl⟩ (ls := [some (mR 108), none, none]) rfl ?_
  have ih := a_X12_countingX h0 G0 56
  refine z_iconst (M := M_X12_counting) 0 dX12_counting_0 ?_
  refine z_istore_n (M := M_X12_counting) 1 dX12_counting_1 (ls' := [some (mR 108), some (mI 0), none]) (by decide) rfl ?_
  refine z_iconst (M := M_X12_counting) 2 dX12_counting_2 ?_
  refine z_istore_n (M := M_X12_counting) 3 dX12_counting_3 (ls' := [some (mR 108), some (mI 0), some (mI 0)]) (by decide) rfl ?_
  exact z_mask [true, true, true] rfl (ih 0 0 h0 G0 (FR.rf (cs := []) (ss := []) (h := h0)) (by omega) (by omega) rfl (gw_0 G0).1 (by omega))
abbrev P_X12_edgeX (h0 : m_H) (a1 a2 a3 a4 a5 : Int) : m_H → Prop := fun h' => GI h' ∧ FR [117, 118, 119, 120, 121] [(108, 21)] h0 h' ∧ h' 108 21 = h0 108 21 + 1 ∧ edQ h0 h' a1 a2 a3 a4 a5
set_option maxHeartbeats 4000000 in
set_option maxRecDepth 100000 in
theorem c_X12_edgeX (h0 : m_H) (a1 a2 a3 a4 a5 : Int) (G0 : GI h0) (pa1 : 0 ≤ a1 ∧ a1 ≤ 15) (pa2 : 0 ≤ a2 ∧ a2 ≤ 15) (pa3 : 0 ≤ a3 ∧ a3 ≤ 199) (pa4 : 0 ≤ a4 ∧ a4 ≤ 199) (pa5 : 0 ≤ a5 ∧ a5 ≤ 1) (he : h0 108 21 ≤ 59) : m_CV M_X12_edge [mR 108, mI a1, mI a2, mI a3, mI a4, mI a5] h0 (P_X12_edgeX h0 a1 a2 a3 a4 a5) := by
  refine m_CV_of ⟨by decide, rfl, by simp [m_arg, m_isL, M_X12_edge], ⟨rfl, rfl⟩, rfl, rfl⟩ (ls := [some (mR 108), some (mI a1), some (mI a2), some (mI a3), some (mI a4), some (mI a5)]) rfl ?_
  obtain ⟨x1, ex1⟩ : ∃ y : Int, h0 108 21 = y := ⟨_, rfl⟩
  have bx1 : 0 ≤ x1 ∧ x1 ≤ 60 := ex1 ▸ g_108_21 G0
  refine z_aload_n (M := M_X12_edge) 0 dX12_edge_0 rfl ?_
  refine z_getR (M := M_X12_edge) 1 dX12_edge_1 f_X12_40 o_108 rfl (g_108_22 G0) ?_
  refine z_aload_n (M := M_X12_edge) 4 dX12_edge_4 rfl ?_
  refine z_getIE (M := M_X12_edge) 5 dX12_edge_5 f_X12_333 o_108 (by decide) ex1 ?_
  refine z_iload_n (M := M_X12_edge) 8 dX12_edge_8 rfl ?_
  refine z_iastH (M := M_X12_edge) 9 dX12_edge_9 o_117 (by omega) (by omega) (u_117 G0 (by omega) (by omega)) ((FR.rf (cs := [117, 118, 119, 120, 121]) (ss := [(108, 21)]) (h := h0)).up rfl) (fun h1 E1 G1 R1 => ?_)
  refine z_aload_n (M := M_X12_edge) 10 dX12_edge_10 rfl ?_
  refine z_getR (M := M_X12_edge) 11 dX12_edge_11 f_X12_43 o_108 rfl (g_108_23 G1) ?_
  refine z_aload_n (M := M_X12_edge) 14 dX12_edge_14 rfl ?_
  refine z_getIE (M := M_X12_edge) 15 dX12_edge_15 f_X12_333 o_108 (by decide) ((upN E1 (fun q => absurd q.1 (by decide))).trans ex1) ?_
  refine z_iload_n (M := M_X12_edge) 18 dX12_edge_18 rfl ?_
  refine z_iastH (M := M_X12_edge) 19 dX12_edge_19 o_118 (by omega) (by omega) (u_118 G1 (by omega) (by omega)) (R1.up rfl) (fun h2 E2 G2 R2 => ?_)
  refine z_aload_n (M := M_X12_edge) 20 dX12_edge_20 rfl ?_
  refine z_getR (M := M_X12_edge) 21 dX12_edge_21 f_X12_46 o_108 rfl (g_108_24 G2) ?_
  refine z_aload_n (M := M_X12_edge) 24 dX12_edge_24 rfl ?_
  refine z_getIE (M := M_X12_edge) 25 dX12_edge_25 f_X12_333 o_108 (by decide) ((upN E2 (fun q => absurd q.1 (by decide))).trans ((upN E1 (fun q => absurd q.1 (by decide))).trans ex1)) ?_
  refine z_iload_n (M := M_X12_edge) 28 dX12_edge_28 rfl ?_
  refine z_iastH (M := M_X12_edge) 29 dX12_edge_29 o_119 (by omega) (by omega) (u_119 G2 (by omega) (by omega)) (R2.up rfl) (fun h3 E3 G3 R3 => ?_)
  refine z_aload_n (M := M_X12_edge) 30 dX12_edge_30 rfl ?_
  refine z_getR (M := M_X12_edge) 31 dX12_edge_31 f_X12_49 o_108 rfl (g_108_25 G3) ?_
  refine z_aload_n (M := M_X12_edge) 34 dX12_edge_34 rfl ?_
  refine z_getIE (M := M_X12_edge) 35 dX12_edge_35 f_X12_333 o_108 (by decide) ((upN E3 (fun q => absurd q.1 (by decide))).trans ((upN E2 (fun q => absurd q.1 (by decide))).trans ((upN E1 (fun q => absurd q.1 (by decide))).trans ex1))) ?_
  refine z_iload (M := M_X12_edge) 38 dX12_edge_38 rfl ?_
  refine z_iastH (M := M_X12_edge) 40 dX12_edge_40 o_120 (by omega) (by omega) (u_120 G3 (by omega) (by omega)) (R3.up rfl) (fun h4 E4 G4 R4 => ?_)
  refine z_aload_n (M := M_X12_edge) 41 dX12_edge_41 rfl ?_
  refine z_getR (M := M_X12_edge) 42 dX12_edge_42 f_X12_52 o_108 rfl (g_108_26 G4) ?_
  refine z_aload_n (M := M_X12_edge) 45 dX12_edge_45 rfl ?_
  refine z_getIE (M := M_X12_edge) 46 dX12_edge_46 f_X12_333 o_108 (by decide) ((upN E4 (fun q => absurd q.1 (by decide))).trans ((upN E3 (fun q => absurd q.1 (by decide))).trans ((upN E2 (fun q => absurd q.1 (by decide))).trans ((upN E1 (fun q => absurd q.1 (by decide))).trans ex1)))) ?_
  refine z_iload (M := M_X12_edge) 49 dX12_edge_49 rfl ?_
  refine z_zastH (M := M_X12_edge) 51 dX12_edge_51 o_121 (by omega) (by omega) (by omega) (u_121 G4 (by omega) (by omega)) (R4.up rfl) (fun h5 E5 G5 R5 => ?_)
  refine z_aload_n (M := M_X12_edge) 52 dX12_edge_52 rfl ?_
  refine z_dup (M := M_X12_edge) 53 dX12_edge_53 rfl ?_
  refine z_getIE (M := M_X12_edge) 54 dX12_edge_54 f_X12_333 o_108 (by decide) ((upN E5 (fun q => absurd q.1 (by decide))).trans ((upN E4 (fun q => absurd q.1 (by decide))).trans ((upN E3 (fun q => absurd q.1 (by decide))).trans ((upN E2 (fun q => absurd q.1 (by decide))).trans ((upN E1 (fun q => absurd q.1 (by decide))).trans ex1))))) ?_
  refine z_iconst (M := M_X12_edge) 57 dX12_edge_57 ?_
  refine z_iaddN (M := M_X12_edge) 58 dX12_edge_58 (by omega) (by omega) ?_
  refine z_putIH (M := M_X12_edge) 59 dX12_edge_59 p_X12_333 o_108 rfl (u_108_21 G5 (by omega) (by omega)) (R5.up rfl) (fun h6 E6 G6 R6 => ?_)
  have ze : h6 108 21 = (x1 + 1) := (upE E6)
  exact z_retV (M := M_X12_edge) 62 dX12_edge_62 rfl ⟨G6, R6, by omega, edQ_of ex1 E1 E2 E3 E4 E5 E6⟩
abbrev P_X12_startAtX (h0 : m_H) (a1 : Int) : m_H → Prop := fun h' => GI h' ∧ FR [124, 125, 126, 127] [] h0 h' ∧ ∀ l, l < 16 → aS h' l = ((1, 1), (0, if a1 = -1 ∨ (l : Int) = a1 then 1 else 0))
def q_X12_startAtX (h0 : m_H) (a1 : Int) (n : Nat) : Prop := (∀ (l2 : Int) (h : m_H), GI h → FR [124, 125, 126, 127] [] h0 h → 0 ≤ l2 → l2 ≤ 16 → (-2147483648) ≤ a1 → a1 ≤ 2147483647 → (stI h a1 (5 * l2) l2) → 15 * (16 - l2) + (14) ≤ (n : Int) → m_Z oF M_X12_startAt 2 [some (mR 108), some (mI a1), some (mI l2), none] [] h (m_QV (P_X12_startAtX h0 a1))) ∧ (∀ (l2 l3 : Int) (h : m_H), GI h → FR [124, 125, 126, 127] [] h0 h → 0 ≤ l2 → l2 ≤ 15 → 0 ≤ l3 → l3 ≤ 5 → (-2147483648) ≤ a1 → a1 ≤ 2147483647 → (stI h a1 (5 * l2 + l3) l2) → 15 * (16 - l2) + 2 * (5 - l3) + (1) ≤ (n : Int) → m_Z oF M_X12_startAt 10 [some (mR 108), some (mI a1), some (mI l2), some (mI l3)] [] h (m_QV (P_X12_startAtX h0 a1)))
set_option maxHeartbeats 4000000 in
set_option maxRecDepth 100000 in
theorem s_X12_startAtX_2 (h0 : m_H) (a1 : Int) (G0 : GI h0) (n : Nat) (ih : q_X12_startAtX h0 a1 n) : ∀ (l2 : Int) (h : m_H), GI h → FR [124, 125, 126, 127] [] h0 h → 0 ≤ l2 → l2 ≤ 16 → (-2147483648) ≤ a1 → a1 ≤ 2147483647 → (stI h a1 (5 * l2) l2) → 15 * (16 - l2) + (14) ≤ ((n + 1 : Nat) : Int) → m_Z oF M_X12_startAt 2 [some (mR 108), some (mI a1), some (mI l2), none] [] h (m_QV (P_X12_startAtX h0 a1)) := by
  intro l2 h G R v0 v1 v2 v3 i0 hr
  refine z_iload_n (M := M_X12_startAt) 2 dX12_startAt_2 rfl ?_
  refine z_bipush (M := M_X12_startAt) 3 dX12_startAt_3 ?_
  refine z_icmp_ge (M := M_X12_startAt) 5 dX12_startAt_5 93 rfl (fun c1 => ?_) (fun c1 => ?_)
  · exact z_retV (M := M_X12_startAt) 93 dX12_startAt_93 rfl ⟨G, R, stI_end (by omega) (by omega) i0⟩
  · refine z_iconst (M := M_X12_startAt) 8 dX12_startAt_8 ?_
    refine z_istore_n (M := M_X12_startAt) 9 dX12_startAt_9 (ls' := [some (mR 108), some (mI a1), some (mI l2), some (mI 0)]) (by decide) rfl ?_
    exact z_mask [true, true, true, true] rfl (ih.2 l2 0 h G R (by omega) (by omega) (by omega) (by omega) (by omega) (by omega) (by rw [Int.add_zero]; exact i0) (by omega))
set_option maxHeartbeats 4000000 in
set_option maxRecDepth 100000 in
theorem s_X12_startAtX_10 (h0 : m_H) (a1 : Int) (G0 : GI h0) (n : Nat) (ih : q_X12_startAtX h0 a1 n) : ∀ (l2 l3 : Int) (h : m_H), GI h → FR [124, 125, 126, 127] [] h0 h → 0 ≤ l2 → l2 ≤ 15 → 0 ≤ l3 → l3 ≤ 5 → (-2147483648) ≤ a1 → a1 ≤ 2147483647 → (stI h a1 (5 * l2 + l3) l2) → 15 * (16 - l2) + 2 * (5 - l3) + (1) ≤ ((n + 1 : Nat) : Int) → m_Z oF M_X12_startAt 10 [some (mR 108), some (mI a1), some (mI l2), some (mI l3)] [] h (m_QV (P_X12_startAtX h0 a1)) := by
  intro l2 l3 h G R v0 v1 v2 v3 v4 v5 i0 hr
  refine z_iload_n (M := M_X12_startAt) 10 dX12_startAt_10 rfl ?_
  refine z_iconst (M := M_X12_startAt) 11 dX12_startAt_11 ?_
  refine z_icmp_ge (M := M_X12_startAt) 12 dX12_startAt_12 59 rfl (fun c1 => ?_) (fun c1 => ?_)
  · refine z_aload_n (M := M_X12_startAt) 59 dX12_startAt_59 rfl ?_
    refine z_getR (M := M_X12_startAt) 60 dX12_startAt_60 f_X12_67 o_108 rfl (g_108_31 G) ?_
    refine z_iload_n (M := M_X12_startAt) 63 dX12_startAt_63 rfl ?_
    refine z_iconst (M := M_X12_startAt) 64 dX12_startAt_64 ?_
    refine z_zastH (M := M_X12_startAt) 65 dX12_startAt_65 o_126 (by omega) (by omega) (by omega) (u_126 G (by omega) (by omega)) (R.up rfl) (fun h1 E1 G1 R1 => ?_)
    refine z_aload_n (M := M_X12_startAt) 66 dX12_startAt_66 rfl ?_
    refine z_getR (M := M_X12_startAt) 67 dX12_startAt_67 f_X12_70 o_108 rfl (g_108_32 G1) ?_
    refine z_iload_n (M := M_X12_startAt) 70 dX12_startAt_70 rfl ?_
    refine z_iload_n (M := M_X12_startAt) 71 dX12_startAt_71 rfl ?_
    refine z_iconst (M := M_X12_startAt) 72 dX12_startAt_72 ?_
    refine z_icmp_eq (M := M_X12_startAt) 73 dX12_startAt_73 81 rfl (fun c2 => ?_) (fun c2 => ?_)
    · refine z_iconst (M := M_X12_startAt) 81 dX12_startAt_81 ?_
      refine z_goto (M := M_X12_startAt) 82 dX12_startAt_82 86 rfl ?_
      refine z_zastH (M := M_X12_startAt) 86 dX12_startAt_86 o_127 (by omega) (by omega) (by omega) (u_127 G1 (by omega) (by omega)) (R1.up rfl) (fun h2 E2 G2 R2 => ?_)
      refine z_iincN (M := M_X12_startAt) 87 dX12_startAt_87 (ls' := [some (mR 108), some (mI a1), some (mI (l2 + 1)), some (mI l3)]) (by decide) rfl (by (unfold m_32; decide)) (by omega) (by omega) rfl ?_
      refine z_goto (M := M_X12_startAt) 90 dX12_startAt_90 2 rfl ?_
      exact z_mask [true, true, true, false] rfl (ih.1 (l2 + 1) h2 G2 R2 (by omega) (by omega) (by omega) (by omega) (stI_b (by omega) (by omega) i0 (by split <;> omega) E1 E2) (by omega))
    · refine z_iload_n (M := M_X12_startAt) 76 dX12_startAt_76 rfl ?_
      refine z_iload_n (M := M_X12_startAt) 77 dX12_startAt_77 rfl ?_
      refine z_icmp_ne (M := M_X12_startAt) 78 dX12_startAt_78 85 rfl (fun c3 => ?_) (fun c3 => ?_)
      · refine z_iconst (M := M_X12_startAt) 85 dX12_startAt_85 ?_
        refine z_zastH (M := M_X12_startAt) 86 dX12_startAt_86 o_127 (by omega) (by omega) (by omega) (u_127 G1 (by omega) (by omega)) (R1.up rfl) (fun h3 E3 G3 R3 => ?_)
        refine z_iincN (M := M_X12_startAt) 87 dX12_startAt_87 (ls' := [some (mR 108), some (mI a1), some (mI (l2 + 1)), some (mI l3)]) (by decide) rfl (by (unfold m_32; decide)) (by omega) (by omega) rfl ?_
        refine z_goto (M := M_X12_startAt) 90 dX12_startAt_90 2 rfl ?_
        exact z_mask [true, true, true, false] rfl (ih.1 (l2 + 1) h3 G3 R3 (by omega) (by omega) (by omega) (by omega) (stI_b (by omega) (by omega) i0 (by split <;> omega) E1 E3) (by omega))
      · refine z_iconst (M := M_X12_startAt) 81 dX12_startAt_81 ?_
        refine z_goto (M := M_X12_startAt) 82 dX12_startAt_82 86 rfl ?_
        refine z_zastH (M := M_X12_startAt) 86 dX12_startAt_86 o_127 (by omega) (by omega) (by omega) (u_127 G1 (by omega) (by omega)) (R1.up rfl) (fun h4 E4 G4 R4 => ?_)
        refine z_iincN (M := M_X12_startAt) 87 dX12_startAt_87 (ls' := [some (mR 108), some (mI a1), some (mI (l2 + 1)), some (mI l3)]) (by decide) rfl (by (unfold m_32; decide)) (by omega) (by omega) rfl ?_
        refine z_goto (M := M_X12_startAt) 90 dX12_startAt_90 2 rfl ?_
        exact z_mask [true, true, true, false] rfl (ih.1 (l2 + 1) h4 G4 R4 (by omega) (by omega) (by omega) (by omega) (stI_b (by omega) (by omega) i0 (by split <;> omega) E1 E4) (by omega))
  · refine z_aload_n (M := M_X12_startAt) 15 dX12_startAt_15 rfl ?_
    refine z_getR (M := M_X12_startAt) 16 dX12_startAt_16 f_X12_61 o_108 rfl (g_108_29 G) ?_
    refine z_iconst (M := M_X12_startAt) 19 dX12_startAt_19 ?_
    refine z_iload_n (M := M_X12_startAt) 20 dX12_startAt_20 rfl ?_
    refine z_imulN (M := M_X12_startAt) 21 dX12_startAt_21 (by omega) (by omega) ?_
    refine z_iload_n (M := M_X12_startAt) 22 dX12_startAt_22 rfl ?_
    refine z_iaddN (M := M_X12_startAt) 23 dX12_startAt_23 (by omega) (by omega) ?_
    refine z_iload_n (M := M_X12_startAt) 24 dX12_startAt_24 rfl ?_
    refine z_if_ne (M := M_X12_startAt) 25 dX12_startAt_25 32 rfl (fun c4 => ?_) (fun c4 => ?_)
    · refine z_lconst (M := M_X12_startAt) 32 dX12_startAt_32 (v := 0) ?_
      refine z_lastH (M := M_X12_startAt) 33 dX12_startAt_33 o_124 (by omega) (by omega) (u_124 G (by omega) (by omega)) (R.up rfl) (fun h5 E5 G5 R5 => ?_)
      refine z_aload_n (M := M_X12_startAt) 34 dX12_startAt_34 rfl ?_
      refine z_getR (M := M_X12_startAt) 35 dX12_startAt_35 f_X12_64 o_108 rfl (g_108_30 G5) ?_
      refine z_iconst (M := M_X12_startAt) 38 dX12_startAt_38 ?_
      refine z_iload_n (M := M_X12_startAt) 39 dX12_startAt_39 rfl ?_
      refine z_imulN (M := M_X12_startAt) 40 dX12_startAt_40 (by omega) (by omega) ?_
      refine z_iload_n (M := M_X12_startAt) 41 dX12_startAt_41 rfl ?_
      refine z_iaddN (M := M_X12_startAt) 42 dX12_startAt_42 (by omega) (by omega) ?_
      refine z_iload_n (M := M_X12_startAt) 43 dX12_startAt_43 rfl ?_
      refine z_if_ne_T (M := M_X12_startAt) 44 dX12_startAt_44 51 rfl (by omega) ?_
      refine z_lconst (M := M_X12_startAt) 51 dX12_startAt_51 (v := 0) ?_
      refine z_lastH (M := M_X12_startAt) 52 dX12_startAt_52 o_125 (by omega) (by omega) (u_125 G5 (by omega) (by omega)) (R5.up rfl) (fun h6 E6 G6 R6 => ?_)
      refine z_iincN (M := M_X12_startAt) 53 dX12_startAt_53 (ls' := [some (mR 108), some (mI a1), some (mI l2), some (mI (l3 + 1))]) (by decide) rfl (by (unfold m_32; decide)) (by omega) (by omega) rfl ?_
      refine z_goto (M := M_X12_startAt) 56 dX12_startAt_56 10 rfl ?_
      exact z_mask [true, true, true, true] rfl (ih.2 l2 (l3 + 1) h6 G6 R6 (by omega) (by omega) (by omega) (by omega) (by omega) (by omega) (stI_a (by omega) (by omega) (by omega) i0 (by split <;> omega) E5 E6) (by omega))
    · refine z_lconst (M := M_X12_startAt) 28 dX12_startAt_28 (v := 1) ?_
      refine z_goto (M := M_X12_startAt) 29 dX12_startAt_29 33 rfl ?_
      refine z_lastH (M := M_X12_startAt) 33 dX12_startAt_33 o_124 (by omega) (by omega) (u_124 G (by omega) (by omega)) (R.up rfl) (fun h7 E7 G7 R7 => ?_)
      refine z_aload_n (M := M_X12_startAt) 34 dX12_startAt_34 rfl ?_
      refine z_getR (M := M_X12_startAt) 35 dX12_startAt_35 f_X12_64 o_108 rfl (g_108_30 G7) ?_
      refine z_iconst (M := M_X12_startAt) 38 dX12_startAt_38 ?_
      refine z_iload_n (M := M_X12_startAt) 39 dX12_startAt_39 rfl ?_
      refine z_imulN (M := M_X12_startAt) 40 dX12_startAt_40 (by omega) (by omega) ?_
      refine z_iload_n (M := M_X12_startAt) 41 dX12_startAt_41 rfl ?_
      refine z_iaddN (M := M_X12_startAt) 42 dX12_startAt_42 (by omega) (by omega) ?_
      refine z_iload_n (M := M_X12_startAt) 43 dX12_startAt_43 rfl ?_
      refine z_if_ne_F (M := M_X12_startAt) 44 dX12_startAt_44 51 rfl (by omega) ?_
      refine z_lconst (M := M_X12_startAt) 47 dX12_startAt_47 (v := 1) ?_
      refine z_goto (M := M_X12_startAt) 48 dX12_startAt_48 52 rfl ?_
      refine z_lastH (M := M_X12_startAt) 52 dX12_startAt_52 o_125 (by omega) (by omega) (u_125 G7 (by omega) (by omega)) (R7.up rfl) (fun h8 E8 G8 R8 => ?_)
      refine z_iincN (M := M_X12_startAt) 53 dX12_startAt_53 (ls' := [some (mR 108), some (mI a1), some (mI l2), some (mI (l3 + 1))]) (by decide) rfl (by (unfold m_32; decide)) (by omega) (by omega) rfl ?_
      refine z_goto (M := M_X12_startAt) 56 dX12_startAt_56 10 rfl ?_
      exact z_mask [true, true, true, true] rfl (ih.2 l2 (l3 + 1) h8 G8 R8 (by omega) (by omega) (by omega) (by omega) (by omega) (by omega) (stI_a (by omega) (by omega) (by omega) i0 (by split <;> omega) E7 E8) (by omega))
theorem a_X12_startAtX (h0 : m_H) (a1 : Int) (G0 : GI h0) : ∀ n, q_X12_startAtX h0 a1 n := by
  intro n
  induction n with
  | zero => unfold q_X12_startAtX; refine ⟨?_, ?_⟩ <;> (intros; omega)
  | succ n ih => exact ⟨s_X12_startAtX_2 h0 a1 G0 n ih, s_X12_startAtX_10 h0 a1 G0 n ih⟩
set_option maxHeartbeats 4000000 in
set_option maxRecDepth 100000 in
theorem c_X12_startAtX (h0 : m_H) (a1 : Int) (G0 : GI h0) : m_CV M_X12_startAt [mR 108, mI a1] h0 (P_X12_startAtX h0 a1) := by
  refine m_CV_of ⟨by decide, rfl, by simp [m_arg, m_isL, M_X12_startAt], ⟨rfl, rfl⟩, rfl, rfl⟩ (ls := [some (mR 108), some (mI a1), none, none]) rfl ?_
  have ih := a_X12_startAtX h0 a1 G0 261
  refine z_ok (fun _ _ ok => ?_)
  have oa1 : m_32 a1 := ok 1 _ rfl
  unfold m_32 at oa1
  refine z_iconst (M := M_X12_startAt) 0 dX12_startAt_0 ?_
  refine z_istore_n (M := M_X12_startAt) 1 dX12_startAt_1 (ls' := [some (mR 108), some (mI a1), some (mI 0), none]) (by decide) rfl ?_
  exact z_mask [true, true, true, false] rfl (ih.1 0 h0 G0 (FR.rf (cs := [124, 125, 126, 127]) (ss := []) (h := h0)) (by omega) (by omega) (by omega) (by omega) stI_0 (by omega))
abbrev P_X12_keep0 (h0 : m_H) (a1 : Int) : m_H → Prop := fun h' => GI h' ∧ FR [124, 125, 126, 127, 128, 129, 130, 131] [] h0 h' ∧ kp0 h0 h' 80 16
def q_X12_keep0 (h0 : m_H) (a1 : Int) (n : Nat) : Prop := (∀ (l2 : Int) (h : m_H), GI h → FR [124, 125, 126, 127, 128, 129, 130, 131] [] h0 h → 0 ≤ l2 → l2 ≤ 80 → (kp0 h0 h l2 0) → 2 * (80 - l2) + (36) ≤ (n : Int) → m_Z oF M_X12_keep 2 [some (mR 108), some (mI a1), some (mI l2)] [] h (m_QV (P_X12_keep0 h0 a1))) ∧ (∀ (l2 : Int) (h : m_H), GI h → FR [124, 125, 126, 127, 128, 129, 130, 131] [] h0 h → 0 ≤ l2 → l2 ≤ 16 → (kp0 h0 h 80 l2) → 2 * (16 - l2) + (1) ≤ (n : Int) → m_Z oF M_X12_keep 116 [some (mR 108), some (mI a1), some (mI l2)] [] h (m_QV (P_X12_keep0 h0 a1)))
set_option maxHeartbeats 4000000 in
set_option maxRecDepth 100000 in
theorem s_X12_keep0_2 (h0 : m_H) (a1 : Int) (G0 : GI h0) (pa1 : 0 ≤ a1 ∧ a1 ≤ 0) (n : Nat) (ih : q_X12_keep0 h0 a1 n) : ∀ (l2 : Int) (h : m_H), GI h → FR [124, 125, 126, 127, 128, 129, 130, 131] [] h0 h → 0 ≤ l2 → l2 ≤ 80 → (kp0 h0 h l2 0) → 2 * (80 - l2) + (36) ≤ ((n + 1 : Nat) : Int) → m_Z oF M_X12_keep 2 [some (mR 108), some (mI a1), some (mI l2)] [] h (m_QV (P_X12_keep0 h0 a1)) := by
  intro l2 h G R v0 v1 i0 hr
  refine z_iload_n (M := M_X12_keep) 2 dX12_keep_2 rfl ?_
  refine z_bipush (M := M_X12_keep) 3 dX12_keep_3 ?_
  refine z_icmp_ge (M := M_X12_keep) 5 dX12_keep_5 114 rfl (fun c1 => ?_) (fun c1 => ?_)
  · refine z_iconst (M := M_X12_keep) 114 dX12_keep_114 ?_
    refine z_istore_n (M := M_X12_keep) 115 dX12_keep_115 (ls' := [some (mR 108), some (mI a1), some (mI 0)]) (by decide) rfl ?_
    exact z_mask [true, true, true] rfl (ih.2 0 h G R (by omega) (by omega) ((show l2 = 80 by omega) ▸ i0) (by omega))
  · refine z_aload_n (M := M_X12_keep) 8 dX12_keep_8 rfl ?_
    refine z_getR (M := M_X12_keep) 9 dX12_keep_9 f_X12_73 o_108 rfl (g_108_33 G) ?_
    refine z_iload_n (M := M_X12_keep) 12 dX12_keep_12 rfl ?_
    refine z_iload_n (M := M_X12_keep) 13 dX12_keep_13 rfl ?_
    refine z_if_eq_T (M := M_X12_keep) 14 dX12_keep_14 26 rfl (by omega) ?_
    refine z_aload_n (M := M_X12_keep) 26 dX12_keep_26 rfl ?_
    refine z_getR (M := M_X12_keep) 27 dX12_keep_27 f_X12_61 o_108 rfl (g_108_29 G) ?_
    refine z_iload_n (M := M_X12_keep) 30 dX12_keep_30 rfl ?_
    refine z_laldG (M := M_X12_keep) 31 dX12_keep_31 o_124 (by omega) (by omega) (g_124 G (by omega)) (fun x2 ex2 ax2 bx2 => ?_)
    refine z_lastH (M := M_X12_keep) 32 dX12_keep_32 o_128 (by omega) (by omega) (u_128 G (by omega) (by omega)) (R.up rfl) (fun h1 E1 G1 R1 => ?_)
    refine z_aload_n (M := M_X12_keep) 33 dX12_keep_33 rfl ?_
    refine z_getR (M := M_X12_keep) 34 dX12_keep_34 f_X12_76 o_108 rfl (g_108_34 G1) ?_
    refine z_iload_n (M := M_X12_keep) 37 dX12_keep_37 rfl ?_
    refine z_iload_n (M := M_X12_keep) 38 dX12_keep_38 rfl ?_
    refine z_if_eq_T (M := M_X12_keep) 39 dX12_keep_39 51 rfl (by omega) ?_
    refine z_aload_n (M := M_X12_keep) 51 dX12_keep_51 rfl ?_
    refine z_getR (M := M_X12_keep) 52 dX12_keep_52 f_X12_64 o_108 rfl (g_108_30 G1) ?_
    refine z_iload_n (M := M_X12_keep) 55 dX12_keep_55 rfl ?_
    refine z_laldG (M := M_X12_keep) 56 dX12_keep_56 o_125 (by omega) (by omega) (g_125 G1 (by omega)) (fun x3 ex3 ax3 bx3 => ?_)
    refine z_lastH (M := M_X12_keep) 57 dX12_keep_57 o_129 (by omega) (by omega) (u_129 G1 (by omega) (by omega)) (R1.up rfl) (fun h2 E2 G2 R2 => ?_)
    refine z_aload_n (M := M_X12_keep) 58 dX12_keep_58 rfl ?_
    refine z_getR (M := M_X12_keep) 59 dX12_keep_59 f_X12_61 o_108 rfl (g_108_29 G2) ?_
    refine z_iload_n (M := M_X12_keep) 62 dX12_keep_62 rfl ?_
    refine z_iload_n (M := M_X12_keep) 63 dX12_keep_63 rfl ?_
    refine z_if_eq_T (M := M_X12_keep) 64 dX12_keep_64 76 rfl (by omega) ?_
    refine z_aload_n (M := M_X12_keep) 76 dX12_keep_76 rfl ?_
    refine z_getR (M := M_X12_keep) 77 dX12_keep_77 f_X12_61 o_108 rfl (g_108_29 G2) ?_
    refine z_iload_n (M := M_X12_keep) 80 dX12_keep_80 rfl ?_
    refine z_laldG (M := M_X12_keep) 81 dX12_keep_81 o_124 (by omega) (by omega) (g_124 G2 (by omega)) (fun x4 ex4 ax4 bx4 => ?_)
    refine z_lastH (M := M_X12_keep) 82 dX12_keep_82 o_124 (by omega) (by omega) (u_124 G2 (by omega) (by omega)) (R2.up rfl) (fun h3 E3 G3 R3 => ?_)
    refine z_aload_n (M := M_X12_keep) 83 dX12_keep_83 rfl ?_
    refine z_getR (M := M_X12_keep) 84 dX12_keep_84 f_X12_64 o_108 rfl (g_108_30 G3) ?_
    refine z_iload_n (M := M_X12_keep) 87 dX12_keep_87 rfl ?_
    refine z_iload_n (M := M_X12_keep) 88 dX12_keep_88 rfl ?_
    refine z_if_eq_T (M := M_X12_keep) 89 dX12_keep_89 101 rfl (by omega) ?_
    refine z_aload_n (M := M_X12_keep) 101 dX12_keep_101 rfl ?_
    refine z_getR (M := M_X12_keep) 102 dX12_keep_102 f_X12_64 o_108 rfl (g_108_30 G3) ?_
    refine z_iload_n (M := M_X12_keep) 105 dX12_keep_105 rfl ?_
    refine z_laldG (M := M_X12_keep) 106 dX12_keep_106 o_125 (by omega) (by omega) (g_125 G3 (by omega)) (fun x5 ex5 ax5 bx5 => ?_)
    refine z_lastH (M := M_X12_keep) 107 dX12_keep_107 o_125 (by omega) (by omega) (u_125 G3 (by omega) (by omega)) (R3.up rfl) (fun h4 E4 G4 R4 => ?_)
    refine z_iincN (M := M_X12_keep) 108 dX12_keep_108 (ls' := [some (mR 108), some (mI a1), some (mI (l2 + 1))]) (by decide) rfl (by (unfold m_32; decide)) (by omega) (by omega) rfl ?_
    refine z_goto (M := M_X12_keep) 111 dX12_keep_111 2 rfl ?_
    exact z_mask [true, true, true] rfl (ih.1 (l2 + 1) h4 G4 R4 (by omega) (by omega) (kp0_a (by omega) i0 ex2 E1 ex3 E2 ex4 E3 ex5 E4) (by omega))
set_option maxHeartbeats 4000000 in
set_option maxRecDepth 100000 in
theorem s_X12_keep0_116 (h0 : m_H) (a1 : Int) (G0 : GI h0) (pa1 : 0 ≤ a1 ∧ a1 ≤ 0) (n : Nat) (ih : q_X12_keep0 h0 a1 n) : ∀ (l2 : Int) (h : m_H), GI h → FR [124, 125, 126, 127, 128, 129, 130, 131] [] h0 h → 0 ≤ l2 → l2 ≤ 16 → (kp0 h0 h 80 l2) → 2 * (16 - l2) + (1) ≤ ((n + 1 : Nat) : Int) → m_Z oF M_X12_keep 116 [some (mR 108), some (mI a1), some (mI l2)] [] h (m_QV (P_X12_keep0 h0 a1)) := by
  intro l2 h G R v0 v1 i0 hr
  refine z_iload_n (M := M_X12_keep) 116 dX12_keep_116 rfl ?_
  refine z_bipush (M := M_X12_keep) 117 dX12_keep_117 ?_
  refine z_icmp_ge (M := M_X12_keep) 119 dX12_keep_119 228 rfl (fun c1 => ?_) (fun c1 => ?_)
  · exact z_retV (M := M_X12_keep) 228 dX12_keep_228 rfl ⟨G, R, (show l2 = 16 by omega) ▸ i0⟩
  · refine z_aload_n (M := M_X12_keep) 122 dX12_keep_122 rfl ?_
    refine z_getR (M := M_X12_keep) 123 dX12_keep_123 f_X12_79 o_108 rfl (g_108_35 G) ?_
    refine z_iload_n (M := M_X12_keep) 126 dX12_keep_126 rfl ?_
    refine z_iload_n (M := M_X12_keep) 127 dX12_keep_127 rfl ?_
    refine z_if_eq_T (M := M_X12_keep) 128 dX12_keep_128 140 rfl (by omega) ?_
    refine z_aload_n (M := M_X12_keep) 140 dX12_keep_140 rfl ?_
    refine z_getR (M := M_X12_keep) 141 dX12_keep_141 f_X12_67 o_108 rfl (g_108_31 G) ?_
    refine z_iload_n (M := M_X12_keep) 144 dX12_keep_144 rfl ?_
    refine z_zaldG (M := M_X12_keep) 145 dX12_keep_145 o_126 (by omega) (by omega) (g_126 G (by omega)) (fun x2 ex2 ax2 bx2 => ?_)
    refine z_zastH (M := M_X12_keep) 146 dX12_keep_146 o_130 (by omega) (by omega) (by omega) (u_130 G (by omega) (by omega)) (R.up rfl) (fun h1 E1 G1 R1 => ?_)
    refine z_aload_n (M := M_X12_keep) 147 dX12_keep_147 rfl ?_
    refine z_getR (M := M_X12_keep) 148 dX12_keep_148 f_X12_82 o_108 rfl (g_108_36 G1) ?_
    refine z_iload_n (M := M_X12_keep) 151 dX12_keep_151 rfl ?_
    refine z_iload_n (M := M_X12_keep) 152 dX12_keep_152 rfl ?_
    refine z_if_eq_T (M := M_X12_keep) 153 dX12_keep_153 165 rfl (by omega) ?_
    refine z_aload_n (M := M_X12_keep) 165 dX12_keep_165 rfl ?_
    refine z_getR (M := M_X12_keep) 166 dX12_keep_166 f_X12_70 o_108 rfl (g_108_32 G1) ?_
    refine z_iload_n (M := M_X12_keep) 169 dX12_keep_169 rfl ?_
    refine z_zaldG (M := M_X12_keep) 170 dX12_keep_170 o_127 (by omega) (by omega) (g_127 G1 (by omega)) (fun x3 ex3 ax3 bx3 => ?_)
    refine z_zastH (M := M_X12_keep) 171 dX12_keep_171 o_131 (by omega) (by omega) (by omega) (u_131 G1 (by omega) (by omega)) (R1.up rfl) (fun h2 E2 G2 R2 => ?_)
    refine z_aload_n (M := M_X12_keep) 172 dX12_keep_172 rfl ?_
    refine z_getR (M := M_X12_keep) 173 dX12_keep_173 f_X12_67 o_108 rfl (g_108_31 G2) ?_
    refine z_iload_n (M := M_X12_keep) 176 dX12_keep_176 rfl ?_
    refine z_iload_n (M := M_X12_keep) 177 dX12_keep_177 rfl ?_
    refine z_if_eq_T (M := M_X12_keep) 178 dX12_keep_178 190 rfl (by omega) ?_
    refine z_aload_n (M := M_X12_keep) 190 dX12_keep_190 rfl ?_
    refine z_getR (M := M_X12_keep) 191 dX12_keep_191 f_X12_67 o_108 rfl (g_108_31 G2) ?_
    refine z_iload_n (M := M_X12_keep) 194 dX12_keep_194 rfl ?_
    refine z_zaldG (M := M_X12_keep) 195 dX12_keep_195 o_126 (by omega) (by omega) (g_126 G2 (by omega)) (fun x4 ex4 ax4 bx4 => ?_)
    refine z_zastH (M := M_X12_keep) 196 dX12_keep_196 o_126 (by omega) (by omega) (by omega) (u_126 G2 (by omega) (by omega)) (R2.up rfl) (fun h3 E3 G3 R3 => ?_)
    refine z_aload_n (M := M_X12_keep) 197 dX12_keep_197 rfl ?_
    refine z_getR (M := M_X12_keep) 198 dX12_keep_198 f_X12_70 o_108 rfl (g_108_32 G3) ?_
    refine z_iload_n (M := M_X12_keep) 201 dX12_keep_201 rfl ?_
    refine z_iload_n (M := M_X12_keep) 202 dX12_keep_202 rfl ?_
    refine z_if_eq_T (M := M_X12_keep) 203 dX12_keep_203 215 rfl (by omega) ?_
    refine z_aload_n (M := M_X12_keep) 215 dX12_keep_215 rfl ?_
    refine z_getR (M := M_X12_keep) 216 dX12_keep_216 f_X12_70 o_108 rfl (g_108_32 G3) ?_
    refine z_iload_n (M := M_X12_keep) 219 dX12_keep_219 rfl ?_
    refine z_zaldG (M := M_X12_keep) 220 dX12_keep_220 o_127 (by omega) (by omega) (g_127 G3 (by omega)) (fun x5 ex5 ax5 bx5 => ?_)
    refine z_zastH (M := M_X12_keep) 221 dX12_keep_221 o_127 (by omega) (by omega) (by omega) (u_127 G3 (by omega) (by omega)) (R3.up rfl) (fun h4 E4 G4 R4 => ?_)
    refine z_iincN (M := M_X12_keep) 222 dX12_keep_222 (ls' := [some (mR 108), some (mI a1), some (mI (l2 + 1))]) (by decide) rfl (by (unfold m_32; decide)) (by omega) (by omega) rfl ?_
    refine z_goto (M := M_X12_keep) 225 dX12_keep_225 116 rfl ?_
    exact z_mask [true, true, true] rfl (ih.2 (l2 + 1) h4 G4 R4 (by omega) (by omega) (kp0_b (by omega) i0 ex2 E1 ex3 E2 ex4 E3 ex5 E4) (by omega))
theorem a_X12_keep0 (h0 : m_H) (a1 : Int) (G0 : GI h0) (pa1 : 0 ≤ a1 ∧ a1 ≤ 0) : ∀ n, q_X12_keep0 h0 a1 n := by
  intro n
  induction n with
  | zero => unfold q_X12_keep0; refine ⟨?_, ?_⟩ <;> (intros; omega)
  | succ n ih => exact ⟨s_X12_keep0_2 h0 a1 G0 pa1 n ih, s_X12_keep0_116 h0 a1 G0 pa1 n ih⟩
set_option maxHeartbeats 4000000 in
set_option maxRecDepth 100000 in
theorem c_X12_keep0 (h0 : m_H) (a1 : Int) (G0 : GI h0) (pa1 : 0 ≤ a1 ∧ a1 ≤ 0) : m_CV M_X12_keep [mR 108, mI a1] h0 (P_X12_keep0 h0 a1) := by
  refine m_CV_of ⟨by decide, rfl, by simp [m_arg, m_isL, M_X12_keep], ⟨rfl, rfl⟩, rfl, rfl⟩ (ls := [some (mR 108), some (mI a1), none]) rfl ?_
  have ih := a_X12_keep0 h0 a1 G0 pa1 203
  refine z_iconst (M := M_X12_keep) 0 dX12_keep_0 ?_
  refine z_istore_n (M := M_X12_keep) 1 dX12_keep_1 (ls' := [some (mR 108), some (mI a1), some (mI 0)]) (by decide) rfl ?_
  exact z_mask [true, true, true] rfl (ih.1 0 h0 G0 (FR.rf (cs := [124, 125, 126, 127, 128, 129, 130, 131]) (ss := []) (h := h0)) (by omega) (by omega) kp0_0 (by omega))
abbrev P_X12_keep1 (h0 : m_H) (a1 : Int) : m_H → Prop := fun h' => GI h' ∧ FR [124, 125, 126, 127, 128, 129, 130, 131] [] h0 h' ∧ kp1 h0 h' 80 16
def q_X12_keep1 (h0 : m_H) (a1 : Int) (n : Nat) : Prop := (∀ (l2 : Int) (h : m_H), GI h → FR [124, 125, 126, 127, 128, 129, 130, 131] [] h0 h → 0 ≤ l2 → l2 ≤ 80 → (kp1 h0 h l2 0) → 2 * (80 - l2) + (36) ≤ (n : Int) → m_Z oF M_X12_keep 2 [some (mR 108), some (mI a1), some (mI l2)] [] h (m_QV (P_X12_keep1 h0 a1))) ∧ (∀ (l2 : Int) (h : m_H), GI h → FR [124, 125, 126, 127, 128, 129, 130, 131] [] h0 h → 0 ≤ l2 → l2 ≤ 16 → (kp1 h0 h 80 l2) → 2 * (16 - l2) + (1) ≤ (n : Int) → m_Z oF M_X12_keep 116 [some (mR 108), some (mI a1), some (mI l2)] [] h (m_QV (P_X12_keep1 h0 a1)))
set_option maxHeartbeats 4000000 in
set_option maxRecDepth 100000 in
theorem s_X12_keep1_2 (h0 : m_H) (a1 : Int) (G0 : GI h0) (pa1 : 1 ≤ a1 ∧ a1 ≤ 1) (n : Nat) (ih : q_X12_keep1 h0 a1 n) : ∀ (l2 : Int) (h : m_H), GI h → FR [124, 125, 126, 127, 128, 129, 130, 131] [] h0 h → 0 ≤ l2 → l2 ≤ 80 → (kp1 h0 h l2 0) → 2 * (80 - l2) + (36) ≤ ((n + 1 : Nat) : Int) → m_Z oF M_X12_keep 2 [some (mR 108), some (mI a1), some (mI l2)] [] h (m_QV (P_X12_keep1 h0 a1)) := by
  intro l2 h G R v0 v1 i0 hr
  refine z_iload_n (M := M_X12_keep) 2 dX12_keep_2 rfl ?_
  refine z_bipush (M := M_X12_keep) 3 dX12_keep_3 ?_
  refine z_icmp_ge (M := M_X12_keep) 5 dX12_keep_5 114 rfl (fun c1 => ?_) (fun c1 => ?_)
  · refine z_iconst (M := M_X12_keep) 114 dX12_keep_114 ?_
    refine z_istore_n (M := M_X12_keep) 115 dX12_keep_115 (ls' := [some (mR 108), some (mI a1), some (mI 0)]) (by decide) rfl ?_
    exact z_mask [true, true, true] rfl (ih.2 0 h G R (by omega) (by omega) ((show l2 = 80 by omega) ▸ i0) (by omega))
  · refine z_aload_n (M := M_X12_keep) 8 dX12_keep_8 rfl ?_
    refine z_getR (M := M_X12_keep) 9 dX12_keep_9 f_X12_73 o_108 rfl (g_108_33 G) ?_
    refine z_iload_n (M := M_X12_keep) 12 dX12_keep_12 rfl ?_
    refine z_iload_n (M := M_X12_keep) 13 dX12_keep_13 rfl ?_
    refine z_if_eq_F (M := M_X12_keep) 14 dX12_keep_14 26 rfl (by omega) ?_
    refine z_aload_n (M := M_X12_keep) 17 dX12_keep_17 rfl ?_
    refine z_getR (M := M_X12_keep) 18 dX12_keep_18 f_X12_73 o_108 rfl (g_108_33 G) ?_
    refine z_iload_n (M := M_X12_keep) 21 dX12_keep_21 rfl ?_
    refine z_laldG (M := M_X12_keep) 22 dX12_keep_22 o_128 (by omega) (by omega) (g_128 G (by omega)) (fun x2 ex2 ax2 bx2 => ?_)
    refine z_goto (M := M_X12_keep) 23 dX12_keep_23 32 rfl ?_
    refine z_lastH (M := M_X12_keep) 32 dX12_keep_32 o_128 (by omega) (by omega) (u_128 G (by omega) (by omega)) (R.up rfl) (fun h1 E1 G1 R1 => ?_)
    refine z_aload_n (M := M_X12_keep) 33 dX12_keep_33 rfl ?_
    refine z_getR (M := M_X12_keep) 34 dX12_keep_34 f_X12_76 o_108 rfl (g_108_34 G1) ?_
    refine z_iload_n (M := M_X12_keep) 37 dX12_keep_37 rfl ?_
    refine z_iload_n (M := M_X12_keep) 38 dX12_keep_38 rfl ?_
    refine z_if_eq_F (M := M_X12_keep) 39 dX12_keep_39 51 rfl (by omega) ?_
    refine z_aload_n (M := M_X12_keep) 42 dX12_keep_42 rfl ?_
    refine z_getR (M := M_X12_keep) 43 dX12_keep_43 f_X12_76 o_108 rfl (g_108_34 G1) ?_
    refine z_iload_n (M := M_X12_keep) 46 dX12_keep_46 rfl ?_
    refine z_laldG (M := M_X12_keep) 47 dX12_keep_47 o_129 (by omega) (by omega) (g_129 G1 (by omega)) (fun x3 ex3 ax3 bx3 => ?_)
    refine z_goto (M := M_X12_keep) 48 dX12_keep_48 57 rfl ?_
    refine z_lastH (M := M_X12_keep) 57 dX12_keep_57 o_129 (by omega) (by omega) (u_129 G1 (by omega) (by omega)) (R1.up rfl) (fun h2 E2 G2 R2 => ?_)
    refine z_aload_n (M := M_X12_keep) 58 dX12_keep_58 rfl ?_
    refine z_getR (M := M_X12_keep) 59 dX12_keep_59 f_X12_61 o_108 rfl (g_108_29 G2) ?_
    refine z_iload_n (M := M_X12_keep) 62 dX12_keep_62 rfl ?_
    refine z_iload_n (M := M_X12_keep) 63 dX12_keep_63 rfl ?_
    refine z_if_eq_F (M := M_X12_keep) 64 dX12_keep_64 76 rfl (by omega) ?_
    refine z_aload_n (M := M_X12_keep) 67 dX12_keep_67 rfl ?_
    refine z_getR (M := M_X12_keep) 68 dX12_keep_68 f_X12_73 o_108 rfl (g_108_33 G2) ?_
    refine z_iload_n (M := M_X12_keep) 71 dX12_keep_71 rfl ?_
    refine z_laldG (M := M_X12_keep) 72 dX12_keep_72 o_128 (by omega) (by omega) (g_128 G2 (by omega)) (fun x4 ex4 ax4 bx4 => ?_)
    refine z_goto (M := M_X12_keep) 73 dX12_keep_73 82 rfl ?_
    refine z_lastH (M := M_X12_keep) 82 dX12_keep_82 o_124 (by omega) (by omega) (u_124 G2 (by omega) (by omega)) (R2.up rfl) (fun h3 E3 G3 R3 => ?_)
    refine z_aload_n (M := M_X12_keep) 83 dX12_keep_83 rfl ?_
    refine z_getR (M := M_X12_keep) 84 dX12_keep_84 f_X12_64 o_108 rfl (g_108_30 G3) ?_
    refine z_iload_n (M := M_X12_keep) 87 dX12_keep_87 rfl ?_
    refine z_iload_n (M := M_X12_keep) 88 dX12_keep_88 rfl ?_
    refine z_if_eq_F (M := M_X12_keep) 89 dX12_keep_89 101 rfl (by omega) ?_
    refine z_aload_n (M := M_X12_keep) 92 dX12_keep_92 rfl ?_
    refine z_getR (M := M_X12_keep) 93 dX12_keep_93 f_X12_76 o_108 rfl (g_108_34 G3) ?_
    refine z_iload_n (M := M_X12_keep) 96 dX12_keep_96 rfl ?_
    refine z_laldG (M := M_X12_keep) 97 dX12_keep_97 o_129 (by omega) (by omega) (g_129 G3 (by omega)) (fun x5 ex5 ax5 bx5 => ?_)
    refine z_goto (M := M_X12_keep) 98 dX12_keep_98 107 rfl ?_
    refine z_lastH (M := M_X12_keep) 107 dX12_keep_107 o_125 (by omega) (by omega) (u_125 G3 (by omega) (by omega)) (R3.up rfl) (fun h4 E4 G4 R4 => ?_)
    refine z_iincN (M := M_X12_keep) 108 dX12_keep_108 (ls' := [some (mR 108), some (mI a1), some (mI (l2 + 1))]) (by decide) rfl (by (unfold m_32; decide)) (by omega) (by omega) rfl ?_
    refine z_goto (M := M_X12_keep) 111 dX12_keep_111 2 rfl ?_
    exact z_mask [true, true, true] rfl (ih.1 (l2 + 1) h4 G4 R4 (by omega) (by omega) (kp1_a (by omega) i0 ex2 E1 ex3 E2 ex4 E3 ex5 E4) (by omega))
set_option maxHeartbeats 4000000 in
set_option maxRecDepth 100000 in
theorem s_X12_keep1_116 (h0 : m_H) (a1 : Int) (G0 : GI h0) (pa1 : 1 ≤ a1 ∧ a1 ≤ 1) (n : Nat) (ih : q_X12_keep1 h0 a1 n) : ∀ (l2 : Int) (h : m_H), GI h → FR [124, 125, 126, 127, 128, 129, 130, 131] [] h0 h → 0 ≤ l2 → l2 ≤ 16 → (kp1 h0 h 80 l2) → 2 * (16 - l2) + (1) ≤ ((n + 1 : Nat) : Int) → m_Z oF M_X12_keep 116 [some (mR 108), some (mI a1), some (mI l2)] [] h (m_QV (P_X12_keep1 h0 a1)) := by
  intro l2 h G R v0 v1 i0 hr
  refine z_iload_n (M := M_X12_keep) 116 dX12_keep_116 rfl ?_
  refine z_bipush (M := M_X12_keep) 117 dX12_keep_117 ?_
  refine z_icmp_ge (M := M_X12_keep) 119 dX12_keep_119 228 rfl (fun c1 => ?_) (fun c1 => ?_)
  · exact z_retV (M := M_X12_keep) 228 dX12_keep_228 rfl ⟨G, R, (show l2 = 16 by omega) ▸ i0⟩
  · refine z_aload_n (M := M_X12_keep) 122 dX12_keep_122 rfl ?_
    refine z_getR (M := M_X12_keep) 123 dX12_keep_123 f_X12_79 o_108 rfl (g_108_35 G) ?_
    refine z_iload_n (M := M_X12_keep) 126 dX12_keep_126 rfl ?_
    refine z_iload_n (M := M_X12_keep) 127 dX12_keep_127 rfl ?_
    refine z_if_eq_F (M := M_X12_keep) 128 dX12_keep_128 140 rfl (by omega) ?_
    refine z_aload_n (M := M_X12_keep) 131 dX12_keep_131 rfl ?_
    refine z_getR (M := M_X12_keep) 132 dX12_keep_132 f_X12_79 o_108 rfl (g_108_35 G) ?_
    refine z_iload_n (M := M_X12_keep) 135 dX12_keep_135 rfl ?_
    refine z_zaldG (M := M_X12_keep) 136 dX12_keep_136 o_130 (by omega) (by omega) (g_130 G (by omega)) (fun x2 ex2 ax2 bx2 => ?_)
    refine z_goto (M := M_X12_keep) 137 dX12_keep_137 146 rfl ?_
    refine z_zastH (M := M_X12_keep) 146 dX12_keep_146 o_130 (by omega) (by omega) (by omega) (u_130 G (by omega) (by omega)) (R.up rfl) (fun h1 E1 G1 R1 => ?_)
    refine z_aload_n (M := M_X12_keep) 147 dX12_keep_147 rfl ?_
    refine z_getR (M := M_X12_keep) 148 dX12_keep_148 f_X12_82 o_108 rfl (g_108_36 G1) ?_
    refine z_iload_n (M := M_X12_keep) 151 dX12_keep_151 rfl ?_
    refine z_iload_n (M := M_X12_keep) 152 dX12_keep_152 rfl ?_
    refine z_if_eq_F (M := M_X12_keep) 153 dX12_keep_153 165 rfl (by omega) ?_
    refine z_aload_n (M := M_X12_keep) 156 dX12_keep_156 rfl ?_
    refine z_getR (M := M_X12_keep) 157 dX12_keep_157 f_X12_82 o_108 rfl (g_108_36 G1) ?_
    refine z_iload_n (M := M_X12_keep) 160 dX12_keep_160 rfl ?_
    refine z_zaldG (M := M_X12_keep) 161 dX12_keep_161 o_131 (by omega) (by omega) (g_131 G1 (by omega)) (fun x3 ex3 ax3 bx3 => ?_)
    refine z_goto (M := M_X12_keep) 162 dX12_keep_162 171 rfl ?_
    refine z_zastH (M := M_X12_keep) 171 dX12_keep_171 o_131 (by omega) (by omega) (by omega) (u_131 G1 (by omega) (by omega)) (R1.up rfl) (fun h2 E2 G2 R2 => ?_)
    refine z_aload_n (M := M_X12_keep) 172 dX12_keep_172 rfl ?_
    refine z_getR (M := M_X12_keep) 173 dX12_keep_173 f_X12_67 o_108 rfl (g_108_31 G2) ?_
    refine z_iload_n (M := M_X12_keep) 176 dX12_keep_176 rfl ?_
    refine z_iload_n (M := M_X12_keep) 177 dX12_keep_177 rfl ?_
    refine z_if_eq_F (M := M_X12_keep) 178 dX12_keep_178 190 rfl (by omega) ?_
    refine z_aload_n (M := M_X12_keep) 181 dX12_keep_181 rfl ?_
    refine z_getR (M := M_X12_keep) 182 dX12_keep_182 f_X12_79 o_108 rfl (g_108_35 G2) ?_
    refine z_iload_n (M := M_X12_keep) 185 dX12_keep_185 rfl ?_
    refine z_zaldG (M := M_X12_keep) 186 dX12_keep_186 o_130 (by omega) (by omega) (g_130 G2 (by omega)) (fun x4 ex4 ax4 bx4 => ?_)
    refine z_goto (M := M_X12_keep) 187 dX12_keep_187 196 rfl ?_
    refine z_zastH (M := M_X12_keep) 196 dX12_keep_196 o_126 (by omega) (by omega) (by omega) (u_126 G2 (by omega) (by omega)) (R2.up rfl) (fun h3 E3 G3 R3 => ?_)
    refine z_aload_n (M := M_X12_keep) 197 dX12_keep_197 rfl ?_
    refine z_getR (M := M_X12_keep) 198 dX12_keep_198 f_X12_70 o_108 rfl (g_108_32 G3) ?_
    refine z_iload_n (M := M_X12_keep) 201 dX12_keep_201 rfl ?_
    refine z_iload_n (M := M_X12_keep) 202 dX12_keep_202 rfl ?_
    refine z_if_eq_F (M := M_X12_keep) 203 dX12_keep_203 215 rfl (by omega) ?_
    refine z_aload_n (M := M_X12_keep) 206 dX12_keep_206 rfl ?_
    refine z_getR (M := M_X12_keep) 207 dX12_keep_207 f_X12_82 o_108 rfl (g_108_36 G3) ?_
    refine z_iload_n (M := M_X12_keep) 210 dX12_keep_210 rfl ?_
    refine z_zaldG (M := M_X12_keep) 211 dX12_keep_211 o_131 (by omega) (by omega) (g_131 G3 (by omega)) (fun x5 ex5 ax5 bx5 => ?_)
    refine z_goto (M := M_X12_keep) 212 dX12_keep_212 221 rfl ?_
    refine z_zastH (M := M_X12_keep) 221 dX12_keep_221 o_127 (by omega) (by omega) (by omega) (u_127 G3 (by omega) (by omega)) (R3.up rfl) (fun h4 E4 G4 R4 => ?_)
    refine z_iincN (M := M_X12_keep) 222 dX12_keep_222 (ls' := [some (mR 108), some (mI a1), some (mI (l2 + 1))]) (by decide) rfl (by (unfold m_32; decide)) (by omega) (by omega) rfl ?_
    refine z_goto (M := M_X12_keep) 225 dX12_keep_225 116 rfl ?_
    exact z_mask [true, true, true] rfl (ih.2 (l2 + 1) h4 G4 R4 (by omega) (by omega) (kp1_b (by omega) i0 ex2 E1 ex3 E2 ex4 E3 ex5 E4) (by omega))
theorem a_X12_keep1 (h0 : m_H) (a1 : Int) (G0 : GI h0) (pa1 : 1 ≤ a1 ∧ a1 ≤ 1) : ∀ n, q_X12_keep1 h0 a1 n := by
  intro n
  induction n with
  | zero => unfold q_X12_keep1; refine ⟨?_, ?_⟩ <;> (intros; omega)
  | succ n ih => exact ⟨s_X12_keep1_2 h0 a1 G0 pa1 n ih, s_X12_keep1_116 h0 a1 G0 pa1 n ih⟩
set_option maxHeartbeats 4000000 in
set_option maxRecDepth 100000 in
theorem c_X12_keep1 (h0 : m_H) (a1 : Int) (G0 : GI h0) (pa1 : 1 ≤ a1 ∧ a1 ≤ 1) : m_CV M_X12_keep [mR 108, mI a1] h0 (P_X12_keep1 h0 a1) := by
  refine m_CV_of ⟨by decide, rfl, by simp [m_arg, m_isL, M_X12_keep], ⟨rfl, rfl⟩, rfl, rfl⟩ (ls := [some (mR 108), some (mI a1), none]) rfl ?_
  have ih := a_X12_keep1 h0 a1 G0 pa1 203
  refine z_iconst (M := M_X12_keep) 0 dX12_keep_0 ?_
  refine z_istore_n (M := M_X12_keep) 1 dX12_keep_1 (ls' := [some (mR 108), some (mI a1), some (mI 0)]) (by decide) rfl ?_
  exact z_mask [true, true, true] rfl (ih.1 0 h0 G0 (FR.rf (cs := [124, 125, 126, 127, 128, 129, 130, 131]) (ss := []) (h := h0)) (by omega) (by omega) kp1_0 (by omega))
abbrev P_X12_build (h0 : m_H) (a1 : Int) : m_H → Prop := fun h' => GI h' ∧ FR [117, 118, 119, 120, 121] [(108, 21)] h0 h' ∧ AR h' (bL (h0 110) (h0 122) (h0 123) a1)
def q_X12_build (h0 : m_H) (a1 : Int) (n : Nat) : Prop := (∀ (l2 y_108_21 : Int) (h : m_H), GI h → FR [117, 118, 119, 120, 121] [(108, 21)] h0 h → 0 ≤ l2 → l2 ≤ 24 → 0 ≤ y_108_21 → y_108_21 ≤ 60 → (-2147483648) ≤ a1 → a1 ≤ 2147483647 → (h 108 21 = y_108_21) → (AR h (eA (h0 110) (h0 122) (h0 123) a1 l2.toNat)) → (l2 ≤ h0 110 (0 : Int).toNat) → (y_108_21 ≤ 2 * l2) → 2 * (24 - l2) + (31) ≤ (n : Int) → m_Z oF M_X12_build 7 [some (mR 108), some (mI a1), some (mI l2), none, none, none, none, none, none, none, none] [] h (m_QV (P_X12_build h0 a1))) ∧ (∀ (l2 y_108_21 : Int) (h : m_H), GI h → FR [117, 118, 119, 120, 121] [(108, 21)] h0 h → 0 ≤ l2 → l2 ≤ 6 → 0 ≤ y_108_21 → y_108_21 ≤ 60 → (-2147483648) ≤ a1 → a1 ≤ 2147483647 → (h 108 21 = y_108_21) → (AR h (eA (h0 110) (h0 122) (h0 123) a1 (h0 110 0).toNat ++ sA (h0 110) l2.toNat)) → (l2 ≤ h0 110 (1 : Int).toNat) → (y_108_21 ≤ 48 + l2) → 2 * (6 - l2) + (16) ≤ (n : Int) → m_Z oF M_X12_build 215 [some (mR 108), none, some (mI l2), none, none, none, none, none, none, none, none] [] h (m_QV (P_X12_build h0 a1))) ∧ (∀ (l2 y_108_21 : Int) (h : m_H), GI h → FR [117, 118, 119, 120, 121] [(108, 21)] h0 h → 0 ≤ l2 → l2 ≤ 6 → 0 ≤ y_108_21 → y_108_21 ≤ 60 → (-2147483648) ≤ a1 → a1 ≤ 2147483647 → (h 108 21 = y_108_21) → (AR h (eA (h0 110) (h0 122) (h0 123) a1 (h0 110 0).toNat ++ sA (h0 110) (h0 110 1).toNat ++ cA (h0 123) l2.toNat)) → (y_108_21 ≤ 54 + l2) → 2 * (6 - l2) + (1) ≤ (n : Int) → m_Z oF M_X12_build 270 [some (mR 108), none, some (mI l2), none, none, none, none, none, none, none, none] [] h (m_QV (P_X12_build h0 a1)))
set_option maxHeartbeats 4000000 in
set_option maxRecDepth 100000 in
theorem s_X12_build_7 (h0 : m_H) (a1 : Int) (G0 : GI h0) (hN : NP h0) (n : Nat) (ih : q_X12_build h0 a1 n) : ∀ (l2 y_108_21 : Int) (h : m_H), GI h → FR [117, 118, 119, 120, 121] [(108, 21)] h0 h → 0 ≤ l2 → l2 ≤ 24 → 0 ≤ y_108_21 → y_108_21 ≤ 60 → (-2147483648) ≤ a1 → a1 ≤ 2147483647 → (h 108 21 = y_108_21) → (AR h (eA (h0 110) (h0 122) (h0 123) a1 l2.toNat)) → (l2 ≤ h0 110 (0 : Int).toNat) → (y_108_21 ≤ 2 * l2) → 2 * (24 - l2) + (31) ≤ ((n + 1 : Nat) : Int) → m_Z oF M_X12_build 7 [some (mR 108), some (mI a1), some (mI l2), none, none, none, none, none, none, none, none] [] h (m_QV (P_X12_build h0 a1)) := by
  intro l2 y_108_21 h G R v0 v1 v2 v3 v4 v5 t_108_21 i0 i1 i2 hr
  refine z_iload_n (M := M_X12_build) 7 dX12_build_7 rfl ?_
  refine z_aload_n (M := M_X12_build) 8 dX12_build_8 rfl ?_
  refine z_getR (M := M_X12_build) 9 dX12_build_9 f_X12_13 o_108 rfl (g_108_3 G) ?_
  refine z_iconst (M := M_X12_build) 12 dX12_build_12 ?_
  refine z_ialdG (M := M_X12_build) 13 dX12_build_13 o_110 (by omega) (by omega) (gw_0 G) (fun x1 ex1 ax1 bx1 => ?_)
  refine z_icmp_ge (M := M_X12_build) 14 dX12_build_14 213 rfl (fun c2 => ?_) (fun c2 => ?_)
  · refine z_iconst (M := M_X12_build) 213 dX12_build_213 ?_
    refine z_istore_n (M := M_X12_build) 214 dX12_build_214 (ls' := [some (mR 108), some (mI a1), some (mI 0), none, none, none, none, none, none, none, none]) (by decide) rfl ?_
    exact z_mask [true, false, true, false, false, false, false, false, false, false, false] rfl (ih.2.1 0 y_108_21 h G R (by omega) (by omega) (by omega) (by omega) (by omega) (by omega) t_108_21 (b_end1 i0 ((R 110 _ rfl).symm.trans ex1) (by omega) (by have r0 := R 110 (0 : Int).toNat rfl; omega)) (gw_1 G0).1 (by have r0 := R 110 (0 : Int).toNat rfl; omega) (by omega))
  · refine z_aload_n (M := M_X12_build) 17 dX12_build_17 rfl ?_
    refine z_getR (M := M_X12_build) 18 dX12_build_18 f_X12_55 o_108 rfl (g_108_27 G) ?_
    refine z_aload_n (M := M_X12_build) 21 dX12_build_21 rfl ?_
    refine z_iload_n (M := M_X12_build) 22 dX12_build_22 rfl ?_
    refine z_iconst (M := M_X12_build) 23 dX12_build_23 ?_
    refine z_vI (M := M_X12_build) 24 dX12_build_24 t_X12_ofEntry l_X12_195 (m_rr_of rfl) (rest := [mR 122]) (c_X12_ofEntry h l2 1 G ⟨by omega, by omega⟩ ⟨by omega, by omega⟩) o_108 rfl rfl rfl (Nat.le_of_ble_eq_true rfl) ⟨rfl, rfl⟩ (fun x3 h1 qx3 => ?_)
    obtain ⟨rfl, fx3⟩ := qx3
    have gx3 := gw_e1 G (i := (80 + 5 * l2 + 1)) (e := l2) (by omega) (by omega) (by omega)
    rw [fx3] at gx3
    refine z_ialdG (M := M_X12_build) 27 dX12_build_27 o_122 (by omega) (by omega) (g_122 G (by omega)) (fun x4 ex4 ax4 bx4 => ?_)
    refine z_istore_n (M := M_X12_build) 28 dX12_build_28 (ls' := [some (mR 108), some (mI a1), some (mI l2), some (mI x4), none, none, none, none, none, none, none]) (by decide) rfl ?_
    refine z_iload_n (M := M_X12_build) 29 dX12_build_29 rfl ?_
    refine z_iload_n (M := M_X12_build) 30 dX12_build_30 rfl ?_
    refine z_sI (M := M_X12_build) 31 dX12_build_31 t_X12_is l_X12_336 (m_rr_of rfl) (rest := []) (c_X12_is h a1 l2 G) rfl rfl (Nat.le_of_ble_eq_true rfl) ⟨rfl, rfl⟩ (fun x5 h2 qx5 => ?_)
    obtain ⟨rfl, ⟨rfl, cx5⟩ | ⟨rfl, cx5⟩⟩ := qx5
    · refine z_if_eq_F (M := M_X12_build) 34 dX12_build_34 207 rfl (by omega) ?_
      refine z_iload_n (M := M_X12_build) 37 dX12_build_37 rfl ?_
      refine z_iconst (M := M_X12_build) 38 dX12_build_38 ?_
      refine z_icmp_eq (M := M_X12_build) 39 dX12_build_39 207 rfl (fun c6 => ?_) (fun c6 => ?_)
      · refine z_iincN (M := M_X12_build) 207 dX12_build_207 (ls' := [some (mR 108), some (mI a1), some (mI (l2 + 1)), some (mI x4), none, none, none, none, none, none, none]) (by decide) rfl (by (unfold m_32; decide)) (by omega) (by omega) rfl ?_
        refine z_goto (M := M_X12_build) 210 dX12_build_210 7 rfl ?_
        exact z_mask [true, true, true, false, false, false, false, false, false, false, false] rfl (ih.1 (l2 + 1) y_108_21 h G R (by omega) (by omega) (by omega) (by omega) (by omega) (by omega) t_108_21 (b_ent0 (by omega) i0 (eR_no (by omega) ((R 110 _ rfl).symm.trans fx3) ((R 122 _ rfl).symm.trans ex4) (fun w => w.2 (by omega)))) (by have r0 := R 110 (0 : Int).toNat rfl; omega) (by omega) (by omega))
      · refine z_aload_n (M := M_X12_build) 42 dX12_build_42 rfl ?_
        refine z_iload_n (M := M_X12_build) 43 dX12_build_43 rfl ?_
        refine z_iconst (M := M_X12_build) 44 dX12_build_44 ?_
        refine z_vI (M := M_X12_build) 45 dX12_build_45 t_X12_ofEntry l_X12_195 (m_rr_of rfl) (rest := []) (c_X12_ofEntry h l2 0 G ⟨by omega, by omega⟩ ⟨by omega, by omega⟩) o_108 rfl rfl rfl (Nat.le_of_ble_eq_true rfl) ⟨rfl, rfl⟩ (fun x7 h3 qx7 => ?_)
        obtain ⟨rfl, fx7⟩ := qx7
        have gx7 := gw_e0 G (i := (80 + 5 * l2 + 0)) (e := l2) (by omega) (by omega) (by omega)
        rw [fx7] at gx7
        refine z_istore (M := M_X12_build) 48 dX12_build_48 (ls' := [some (mR 108), some (mI a1), some (mI l2), some (mI x4), some (mI x7), none, none, none, none, none, none]) (by decide) rfl ?_
        refine z_aload_n (M := M_X12_build) 50 dX12_build_50 rfl ?_
        refine z_getR (M := M_X12_build) 51 dX12_build_51 f_X12_58 o_108 rfl (g_108_28 G) ?_
        refine z_iload (M := M_X12_build) 54 dX12_build_54 rfl ?_
        refine z_ialdG (M := M_X12_build) 56 dX12_build_56 o_123 (by omega) (by omega) (g_123 G (by omega)) (fun x8 ex8 ax8 bx8 => ?_)
        refine z_iconst (M := M_X12_build) 57 dX12_build_57 ?_
        refine z_icmp_eq (M := M_X12_build) 58 dX12_build_58 85 rfl (fun c9 => ?_) (fun c9 => ?_)
        · refine z_iload (M := M_X12_build) 85 dX12_build_85 rfl ?_
          refine z_istore (M := M_X12_build) 87 dX12_build_87 (ls' := [some (mR 108), some (mI a1), some (mI l2), some (mI x4), some (mI x7), some (mI x7), none, none, none, none, none]) (by decide) rfl ?_
          refine z_aload_n (M := M_X12_build) 89 dX12_build_89 rfl ?_
          refine z_iload_n (M := M_X12_build) 90 dX12_build_90 rfl ?_
          refine z_iconst (M := M_X12_build) 91 dX12_build_91 ?_
          refine z_vI (M := M_X12_build) 92 dX12_build_92 t_X12_ofEntry l_X12_195 (m_rr_of rfl) (rest := []) (c_X12_ofEntry h l2 2 G ⟨by omega, by omega⟩ ⟨by omega, by omega⟩) o_108 rfl rfl rfl (Nat.le_of_ble_eq_true rfl) ⟨rfl, rfl⟩ (fun x10 h4 qx10 => ?_)
          obtain ⟨rfl, fx10⟩ := qx10
          have gx10 := gw_e2 G (i := (80 + 5 * l2 + 2)) (e := l2) (by omega) (by omega) (by omega)
          rw [fx10] at gx10
          have nx10 : 1 ≤ x10 := np_at hN R (fun _ => rfl) (by omega) (by omega) ex1 fx10
          refine z_istore (M := M_X12_build) 95 dX12_build_95 (ls' := [some (mR 108), some (mI a1), some (mI l2), some (mI x4), some (mI x7), some (mI x7), some (mI x10), none, none, none, none]) (by decide) rfl ?_
          refine z_aload_n (M := M_X12_build) 97 dX12_build_97 rfl ?_
          refine z_iload_n (M := M_X12_build) 98 dX12_build_98 rfl ?_
          refine z_iconst (M := M_X12_build) 99 dX12_build_99 ?_
          refine z_vI (M := M_X12_build) 100 dX12_build_100 t_X12_ofEntry l_X12_195 (m_rr_of rfl) (rest := []) (c_X12_ofEntry h l2 3 G ⟨by omega, by omega⟩ ⟨by omega, by omega⟩) o_108 rfl rfl rfl (Nat.le_of_ble_eq_true rfl) ⟨rfl, rfl⟩ (fun x11 h5 qx11 => ?_)
          obtain ⟨rfl, fx11⟩ := qx11
          have gx11 := gw_e3 G (i := (80 + 5 * l2 + 3)) (e := l2) (by omega) (by omega) (by omega)
          rw [fx11] at gx11
          refine z_istore (M := M_X12_build) 103 dX12_build_103 (ls' := [some (mR 108), some (mI a1), some (mI l2), some (mI x4), some (mI x7), some (mI x7), some (mI x10), some (mI x11), none, none, none]) (by decide) rfl ?_
          refine z_iload (M := M_X12_build) 105 dX12_build_105 rfl ?_
          refine z_iconst (M := M_X12_build) 107 dX12_build_107 ?_
          refine z_icmp_ne (M := M_X12_build) 108 dX12_build_108 120 rfl (fun c12 => ?_) (fun c12 => ?_)
          · refine z_iload (M := M_X12_build) 120 dX12_build_120 rfl ?_
            refine z_istore (M := M_X12_build) 122 dX12_build_122 (ls' := [some (mR 108), some (mI a1), some (mI l2), some (mI x4), some (mI x7), some (mI x7), some (mI x10), some (mI x11), some (mI x10), none, none]) (by decide) rfl ?_
            refine z_iload (M := M_X12_build) 124 dX12_build_124 rfl ?_
            refine z_if_ne (M := M_X12_build) 126 dX12_build_126 134 rfl (fun c13 => ?_) (fun c13 => ?_)
            · refine z_iload (M := M_X12_build) 134 dX12_build_134 rfl ?_
              refine z_iconst (M := M_X12_build) 136 dX12_build_136 ?_
              refine z_icmp_ne_F (M := M_X12_build) 137 dX12_build_137 147 rfl (by omega) ?_
              refine z_iload (M := M_X12_build) 140 dX12_build_140 rfl ?_
              refine z_iconst (M := M_X12_build) 142 dX12_build_142 ?_
              refine z_iaddN (M := M_X12_build) 143 dX12_build_143 (by omega) (by omega) ?_
              refine z_goto (M := M_X12_build) 144 dX12_build_144 153 rfl ?_
              refine z_istore (M := M_X12_build) 153 dX12_build_153 (ls' := [some (mR 108), some (mI a1), some (mI l2), some (mI x4), some (mI x7), some (mI x7), some (mI x10), some (mI x11), some (mI x10), some (mI (x10 + 1)), none]) (by decide) rfl ?_
              refine z_iload (M := M_X12_build) 155 dX12_build_155 rfl ?_
              refine z_iconst (M := M_X12_build) 157 dX12_build_157 ?_
              refine z_icmp_ne_T (M := M_X12_build) 158 dX12_build_158 165 rfl (by omega) ?_
              refine z_iconst (M := M_X12_build) 165 dX12_build_165 ?_
              refine z_istore (M := M_X12_build) 166 dX12_build_166 (ls' := [some (mR 108), some (mI a1), some (mI l2), some (mI x4), some (mI x7), some (mI x7), some (mI x10), some (mI x11), some (mI x10), some (mI (x10 + 1)), some (mI 1)]) (by decide) rfl ?_
              refine z_aload_n (M := M_X12_build) 168 dX12_build_168 rfl ?_
              refine z_bipush (M := M_X12_build) 169 dX12_build_169 ?_
              refine z_iload_n (M := M_X12_build) 171 dX12_build_171 rfl ?_
              refine z_iaddN (M := M_X12_build) 172 dX12_build_172 (by omega) (by omega) ?_
              refine z_iload (M := M_X12_build) 173 dX12_build_173 rfl ?_
              refine z_iload (M := M_X12_build) 175 dX12_build_175 rfl ?_
              refine z_iload (M := M_X12_build) 177 dX12_build_177 rfl ?_
              refine z_iconst (M := M_X12_build) 179 dX12_build_179 ?_
              refine z_vV (M := M_X12_build) 180 dX12_build_180 t_X12_edge l_X12_339 (m_rr_of rfl) (rest := []) (c_X12_edgeX h (12 + x4) x7 x10 1 0 G ⟨by omega, by omega⟩ ⟨by omega, by omega⟩ ⟨by omega, by omega⟩ ⟨by omega, by omega⟩ ⟨by omega, by omega⟩ (le_e t_108_21 (by omega))) o_108 rfl rfl rfl (Nat.le_of_ble_eq_true rfl) ⟨rfl, rfl⟩ (fun h6 qx14 => ?_)
              obtain ⟨G6, S6, fx14_0, fx14_1⟩ := qx14
              have R6 := R.call S6 (by decide +kernel)
              refine z_aload_n (M := M_X12_build) 183 dX12_build_183 rfl ?_
              refine z_iload (M := M_X12_build) 184 dX12_build_184 rfl ?_
              refine z_bipush (M := M_X12_build) 186 dX12_build_186 ?_
              refine z_iload_n (M := M_X12_build) 188 dX12_build_188 rfl ?_
              refine z_iaddN (M := M_X12_build) 189 dX12_build_189 (by omega) (by omega) ?_
              refine z_iload (M := M_X12_build) 190 dX12_build_190 rfl ?_
              refine z_iload (M := M_X12_build) 192 dX12_build_192 rfl ?_
              refine z_iload (M := M_X12_build) 194 dX12_build_194 rfl ?_
              refine z_if_le_F (M := M_X12_build) 196 dX12_build_196 203 rfl (by omega) ?_
              refine z_iconst (M := M_X12_build) 199 dX12_build_199 ?_
              refine z_goto (M := M_X12_build) 200 dX12_build_200 204 rfl ?_
              refine z_vV (M := M_X12_build) 204 dX12_build_204 t_X12_edge l_X12_339 (m_rr_of rfl) (rest := []) (c_X12_edgeX h6 x7 (12 + x4) 1 (x10 + 1) 1 G6 ⟨by omega, by omega⟩ ⟨by omega, by omega⟩ ⟨by omega, by omega⟩ ⟨by omega, by omega⟩ ⟨by omega, by omega⟩ (le_e (eq_ad fx14_0 t_108_21) (by omega))) o_108 rfl rfl rfl (Nat.le_of_ble_eq_true rfl) ⟨rfl, rfl⟩ (fun h7 qx15 => ?_)
              obtain ⟨G7, S7, fx15_0, fx15_1⟩ := qx15
              have R7 := R6.call S7 (by decide +kernel)
              refine z_iincN (M := M_X12_build) 207 dX12_build_207 (ls' := [some (mR 108), some (mI a1), some (mI (l2 + 1)), some (mI x4), some (mI x7), some (mI x7), some (mI x10), some (mI x11), some (mI x10), some (mI (x10 + 1)), some (mI 1)]) (by decide) rfl (by (unfold m_32; decide)) (by omega) (by omega) rfl ?_
              refine z_goto (M := M_X12_build) 210 dX12_build_210 7 rfl ?_
              exact z_mask [true, true, true, false, false, false, false, false, false, false, false] rfl (ih.1 (l2 + 1) ((y_108_21 + 1) + 1) h7 G7 R7 (by omega) (by omega) (by omega) (by omega) (by omega) (by omega) (eq_ad fx15_0 (eq_ad fx14_0 t_108_21)) (b_ent2 (by omega) i0 (by omega) (by omega) fx14_1 fx15_1 ((eR_of (by omega) ((R 110 _ rfl).symm.trans fx3) ((R 110 _ rfl).symm.trans fx7) ((R 122 _ rfl).symm.trans ex4) ((R 123 _ rfl).symm.trans ex8) ((R 110 _ rfl).symm.trans fx10) ((R 110 _ rfl).symm.trans fx11)).trans (eOf_yes cx5 (by omega) (by split <;> omega) (by split <;> omega) (by split <;> omega) (by split <;> (try split) <;> omega) (by split <;> omega)))) (by have r0 := R 110 (0 : Int).toNat rfl; omega) (by omega) (by omega))
            · refine z_iload (M := M_X12_build) 129 dX12_build_129 rfl ?_
              refine z_goto (M := M_X12_build) 131 dX12_build_131 153 rfl ?_
              refine z_istore (M := M_X12_build) 153 dX12_build_153 (ls' := [some (mR 108), some (mI a1), some (mI l2), some (mI x4), some (mI x7), some (mI x7), some (mI x10), some (mI x11), some (mI x10), some (mI x10), none]) (by decide) rfl ?_
              refine z_iload (M := M_X12_build) 155 dX12_build_155 rfl ?_
              refine z_iconst (M := M_X12_build) 157 dX12_build_157 ?_
              refine z_icmp_ne_T (M := M_X12_build) 158 dX12_build_158 165 rfl (by omega) ?_
              refine z_iconst (M := M_X12_build) 165 dX12_build_165 ?_
              refine z_istore (M := M_X12_build) 166 dX12_build_166 (ls' := [some (mR 108), some (mI a1), some (mI l2), some (mI x4), some (mI x7), some (mI x7), some (mI x10), some (mI x11), some (mI x10), some (mI x10), some (mI 1)]) (by decide) rfl ?_
              refine z_aload_n (M := M_X12_build) 168 dX12_build_168 rfl ?_
              refine z_bipush (M := M_X12_build) 169 dX12_build_169 ?_
              refine z_iload_n (M := M_X12_build) 171 dX12_build_171 rfl ?_
              refine z_iaddN (M := M_X12_build) 172 dX12_build_172 (by omega) (by omega) ?_
              refine z_iload (M := M_X12_build) 173 dX12_build_173 rfl ?_
              refine z_iload (M := M_X12_build) 175 dX12_build_175 rfl ?_
              refine z_iload (M := M_X12_build) 177 dX12_build_177 rfl ?_
              refine z_iconst (M := M_X12_build) 179 dX12_build_179 ?_
              refine z_vV (M := M_X12_build) 180 dX12_build_180 t_X12_edge l_X12_339 (m_rr_of rfl) (rest := []) (c_X12_edgeX h (12 + x4) x7 x10 1 0 G ⟨by omega, by omega⟩ ⟨by omega, by omega⟩ ⟨by omega, by omega⟩ ⟨by omega, by omega⟩ ⟨by omega, by omega⟩ (le_e t_108_21 (by omega))) o_108 rfl rfl rfl (Nat.le_of_ble_eq_true rfl) ⟨rfl, rfl⟩ (fun h8 qx16 => ?_)
              obtain ⟨G8, S8, fx16_0, fx16_1⟩ := qx16
              have R8 := R.call S8 (by decide +kernel)
              refine z_aload_n (M := M_X12_build) 183 dX12_build_183 rfl ?_
              refine z_iload (M := M_X12_build) 184 dX12_build_184 rfl ?_
              refine z_bipush (M := M_X12_build) 186 dX12_build_186 ?_
              refine z_iload_n (M := M_X12_build) 188 dX12_build_188 rfl ?_
              refine z_iaddN (M := M_X12_build) 189 dX12_build_189 (by omega) (by omega) ?_
              refine z_iload (M := M_X12_build) 190 dX12_build_190 rfl ?_
              refine z_iload (M := M_X12_build) 192 dX12_build_192 rfl ?_
              refine z_iload (M := M_X12_build) 194 dX12_build_194 rfl ?_
              refine z_if_le_T (M := M_X12_build) 196 dX12_build_196 203 rfl (by omega) ?_
              refine z_iconst (M := M_X12_build) 203 dX12_build_203 ?_
              refine z_vV (M := M_X12_build) 204 dX12_build_204 t_X12_edge l_X12_339 (m_rr_of rfl) (rest := []) (c_X12_edgeX h8 x7 (12 + x4) 1 x10 0 G8 ⟨by omega, by omega⟩ ⟨by omega, by omega⟩ ⟨by omega, by omega⟩ ⟨by omega, by omega⟩ ⟨by omega, by omega⟩ (le_e (eq_ad fx16_0 t_108_21) (by omega))) o_108 rfl rfl rfl (Nat.le_of_ble_eq_true rfl) ⟨rfl, rfl⟩ (fun h9 qx17 => ?_)
              obtain ⟨G9, S9, fx17_0, fx17_1⟩ := qx17
              have R9 := R8.call S9 (by decide +kernel)
              refine z_iincN (M := M_X12_build) 207 dX12_build_207 (ls' := [some (mR 108), some (mI a1), some (mI (l2 + 1)), some (mI x4), some (mI x7), some (mI x7), some (mI x10), some (mI x11), some (mI x10), some (mI x10), some (mI 1)]) (by decide) rfl (by (unfold m_32; decide)) (by omega) (by omega) rfl ?_
              refine z_goto (M := M_X12_build) 210 dX12_build_210 7 rfl ?_
              exact z_mask [true, true, true, false, false, false, false, false, false, false, false] rfl (ih.1 (l2 + 1) ((y_108_21 + 1) + 1) h9 G9 R9 (by omega) (by omega) (by omega) (by omega) (by omega) (by omega) (eq_ad fx17_0 (eq_ad fx16_0 t_108_21)) (b_ent2 (by omega) i0 (by omega) (by omega) fx16_1 fx17_1 ((eR_of (by omega) ((R 110 _ rfl).symm.trans fx3) ((R 110 _ rfl).symm.trans fx7) ((R 122 _ rfl).symm.trans ex4) ((R 123 _ rfl).symm.trans ex8) ((R 110 _ rfl).symm.trans fx10) ((R 110 _ rfl).symm.trans fx11)).trans (eOf_yes cx5 (by omega) (by split <;> omega) (by split <;> omega) (by split <;> omega) (by split <;> (try split) <;> omega) (by split <;> omega)))) (by have r0 := R 110 (0 : Int).toNat rfl; omega) (by omega) (by omega))
          · refine z_iconst (M := M_X12_build) 111 dX12_build_111 ?_
            refine z_iload (M := M_X12_build) 112 dX12_build_112 rfl ?_
            refine z_imulN (M := M_X12_build) 114 dX12_build_114 (by omega) (by omega) ?_
            refine z_iconst (M := M_X12_build) 115 dX12_build_115 ?_
            refine z_isubN (M := M_X12_build) 116 dX12_build_116 (by omega) (by omega) ?_
            refine z_goto (M := M_X12_build) 117 dX12_build_117 122 rfl ?_
            refine z_istore (M := M_X12_build) 122 dX12_build_122 (ls' := [some (mR 108), some (mI a1), some (mI l2), some (mI x4), some (mI x7), some (mI x7), some (mI x10), some (mI x11), some (mI ((2 * x10) - 1)), none, none]) (by decide) rfl ?_
            refine z_iload (M := M_X12_build) 124 dX12_build_124 rfl ?_
            refine z_if_ne_T (M := M_X12_build) 126 dX12_build_126 134 rfl (by omega) ?_
            refine z_iload (M := M_X12_build) 134 dX12_build_134 rfl ?_
            refine z_iconst (M := M_X12_build) 136 dX12_build_136 ?_
            refine z_icmp_ne_T (M := M_X12_build) 137 dX12_build_137 147 rfl (by omega) ?_
            refine z_iconst (M := M_X12_build) 147 dX12_build_147 ?_
            refine z_iload (M := M_X12_build) 148 dX12_build_148 rfl ?_
            refine z_imulN (M := M_X12_build) 150 dX12_build_150 (by omega) (by omega) ?_
            refine z_iconst (M := M_X12_build) 151 dX12_build_151 ?_
            refine z_iaddN (M := M_X12_build) 152 dX12_build_152 (by omega) (by omega) ?_
            refine z_istore (M := M_X12_build) 153 dX12_build_153 (ls' := [some (mR 108), some (mI a1), some (mI l2), some (mI x4), some (mI x7), some (mI x7), some (mI x10), some (mI x11), some (mI ((2 * x10) - 1)), some (mI ((2 * x10) + 1)), none]) (by decide) rfl ?_
            refine z_iload (M := M_X12_build) 155 dX12_build_155 rfl ?_
            refine z_iconst (M := M_X12_build) 157 dX12_build_157 ?_
            refine z_icmp_ne_F (M := M_X12_build) 158 dX12_build_158 165 rfl (by omega) ?_
            refine z_iconst (M := M_X12_build) 161 dX12_build_161 ?_
            refine z_goto (M := M_X12_build) 162 dX12_build_162 166 rfl ?_
            refine z_istore (M := M_X12_build) 166 dX12_build_166 (ls' := [some (mR 108), some (mI a1), some (mI l2), some (mI x4), some (mI x7), some (mI x7), some (mI x10), some (mI x11), some (mI ((2 * x10) - 1)), some (mI ((2 * x10) + 1)), some (mI 2)]) (by decide) rfl ?_
            refine z_aload_n (M := M_X12_build) 168 dX12_build_168 rfl ?_
            refine z_bipush (M := M_X12_build) 169 dX12_build_169 ?_
            refine z_iload_n (M := M_X12_build) 171 dX12_build_171 rfl ?_
            refine z_iaddN (M := M_X12_build) 172 dX12_build_172 (by omega) (by omega) ?_
            refine z_iload (M := M_X12_build) 173 dX12_build_173 rfl ?_
            refine z_iload (M := M_X12_build) 175 dX12_build_175 rfl ?_
            refine z_iload (M := M_X12_build) 177 dX12_build_177 rfl ?_
            refine z_iconst (M := M_X12_build) 179 dX12_build_179 ?_
            refine z_vV (M := M_X12_build) 180 dX12_build_180 t_X12_edge l_X12_339 (m_rr_of rfl) (rest := []) (c_X12_edgeX h (12 + x4) x7 ((2 * x10) - 1) 2 0 G ⟨by omega, by omega⟩ ⟨by omega, by omega⟩ ⟨by omega, by omega⟩ ⟨by omega, by omega⟩ ⟨by omega, by omega⟩ (le_e t_108_21 (by omega))) o_108 rfl rfl rfl (Nat.le_of_ble_eq_true rfl) ⟨rfl, rfl⟩ (fun h10 qx18 => ?_)
            obtain ⟨G10, S10, fx18_0, fx18_1⟩ := qx18
            have R10 := R.call S10 (by decide +kernel)
            refine z_aload_n (M := M_X12_build) 183 dX12_build_183 rfl ?_
            refine z_iload (M := M_X12_build) 184 dX12_build_184 rfl ?_
            refine z_bipush (M := M_X12_build) 186 dX12_build_186 ?_
            refine z_iload_n (M := M_X12_build) 188 dX12_build_188 rfl ?_
            refine z_iaddN (M := M_X12_build) 189 dX12_build_189 (by omega) (by omega) ?_
            refine z_iload (M := M_X12_build) 190 dX12_build_190 rfl ?_
            refine z_iload (M := M_X12_build) 192 dX12_build_192 rfl ?_
            refine z_iload (M := M_X12_build) 194 dX12_build_194 rfl ?_
            refine z_if_le_F (M := M_X12_build) 196 dX12_build_196 203 rfl (by omega) ?_
            refine z_iconst (M := M_X12_build) 199 dX12_build_199 ?_
            refine z_goto (M := M_X12_build) 200 dX12_build_200 204 rfl ?_
            refine z_vV (M := M_X12_build) 204 dX12_build_204 t_X12_edge l_X12_339 (m_rr_of rfl) (rest := []) (c_X12_edgeX h10 x7 (12 + x4) 2 ((2 * x10) + 1) 1 G10 ⟨by omega, by omega⟩ ⟨by omega, by omega⟩ ⟨by omega, by omega⟩ ⟨by omega, by omega⟩ ⟨by omega, by omega⟩ (le_e (eq_ad fx18_0 t_108_21) (by omega))) o_108 rfl rfl rfl (Nat.le_of_ble_eq_true rfl) ⟨rfl, rfl⟩ (fun h11 qx19 => ?_)
            obtain ⟨G11, S11, fx19_0, fx19_1⟩ := qx19
            have R11 := R10.call S11 (by decide +kernel)
            refine z_iincN (M := M_X12_build) 207 dX12_build_207 (ls' := [some (mR 108), some (mI a1), some (mI (l2 + 1)), some (mI x4), some (mI x7), some (mI x7), some (mI x10), some (mI x11), some (mI ((2 * x10) - 1)), some (mI ((2 * x10) + 1)), some (mI 2)]) (by decide) rfl (by (unfold m_32; decide)) (by omega) (by omega) rfl ?_
            refine z_goto (M := M_X12_build) 210 dX12_build_210 7 rfl ?_
            exact z_mask [true, true, true, false, false, false, false, false, false, false, false] rfl (ih.1 (l2 + 1) ((y_108_21 + 1) + 1) h11 G11 R11 (by omega) (by omega) (by omega) (by omega) (by omega) (by omega) (eq_ad fx19_0 (eq_ad fx18_0 t_108_21)) (b_ent2 (by omega) i0 (by omega) (by omega) fx18_1 fx19_1 ((eR_of (by omega) ((R 110 _ rfl).symm.trans fx3) ((R 110 _ rfl).symm.trans fx7) ((R 122 _ rfl).symm.trans ex4) ((R 123 _ rfl).symm.trans ex8) ((R 110 _ rfl).symm.trans fx10) ((R 110 _ rfl).symm.trans fx11)).trans (eOf_yes cx5 (by omega) (by split <;> omega) (by split <;> omega) (by split <;> omega) (by split <;> (try split) <;> omega) (by split <;> omega)))) (by have r0 := R 110 (0 : Int).toNat rfl; omega) (by omega) (by omega))
        · refine z_aload_n (M := M_X12_build) 61 dX12_build_61 rfl ?_
          refine z_iload_n (M := M_X12_build) 62 dX12_build_62 rfl ?_
          refine z_iconst (M := M_X12_build) 63 dX12_build_63 ?_
          refine z_vI (M := M_X12_build) 64 dX12_build_64 t_X12_ofEntry l_X12_195 (m_rr_of rfl) (rest := []) (c_X12_ofEntry h l2 1 G ⟨by omega, by omega⟩ ⟨by omega, by omega⟩) o_108 rfl rfl rfl (Nat.le_of_ble_eq_true rfl) ⟨rfl, rfl⟩ (fun x20 h12 qx20 => ?_)
          obtain ⟨rfl, fx20⟩ := qx20
          have gx20 := gw_e1 G (i := (80 + 5 * l2 + 1)) (e := l2) (by omega) (by omega) (by omega)
          rw [fx20] at gx20
          refine z_aload_n (M := M_X12_build) 67 dX12_build_67 rfl ?_
          refine z_getR (M := M_X12_build) 68 dX12_build_68 f_X12_58 o_108 rfl (g_108_28 G) ?_
          refine z_iload (M := M_X12_build) 71 dX12_build_71 rfl ?_
          refine z_ialdE (M := M_X12_build) 73 dX12_build_73 o_123 (by omega) (by omega) ex8 ?_
          refine z_icmp_lt (M := M_X12_build) 74 dX12_build_74 85 rfl (fun c21 => ?_) (fun c21 => ?_)
          · refine z_iload (M := M_X12_build) 85 dX12_build_85 rfl ?_
            refine z_istore (M := M_X12_build) 87 dX12_build_87 (ls' := [some (mR 108), some (mI a1), some (mI l2), some (mI x4), some (mI x7), some (mI x7), none, none, none, none, none]) (by decide) rfl ?_
            refine z_aload_n (M := M_X12_build) 89 dX12_build_89 rfl ?_
            refine z_iload_n (M := M_X12_build) 90 dX12_build_90 rfl ?_
            refine z_iconst (M := M_X12_build) 91 dX12_build_91 ?_
            refine z_vI (M := M_X12_build) 92 dX12_build_92 t_X12_ofEntry l_X12_195 (m_rr_of rfl) (rest := []) (c_X12_ofEntry h l2 2 G ⟨by omega, by omega⟩ ⟨by omega, by omega⟩) o_108 rfl rfl rfl (Nat.le_of_ble_eq_true rfl) ⟨rfl, rfl⟩ (fun x22 h13 qx22 => ?_)
            obtain ⟨rfl, fx22⟩ := qx22
            have gx22 := gw_e2 G (i := (80 + 5 * l2 + 2)) (e := l2) (by omega) (by omega) (by omega)
            rw [fx22] at gx22
            have nx22 : 1 ≤ x22 := np_at hN R (fun _ => rfl) (by omega) (by omega) ex1 fx22
            refine z_istore (M := M_X12_build) 95 dX12_build_95 (ls' := [some (mR 108), some (mI a1), some (mI l2), some (mI x4), some (mI x7), some (mI x7), some (mI x22), none, none, none, none]) (by decide) rfl ?_
            refine z_aload_n (M := M_X12_build) 97 dX12_build_97 rfl ?_
            refine z_iload_n (M := M_X12_build) 98 dX12_build_98 rfl ?_
            refine z_iconst (M := M_X12_build) 99 dX12_build_99 ?_
            refine z_vI (M := M_X12_build) 100 dX12_build_100 t_X12_ofEntry l_X12_195 (m_rr_of rfl) (rest := []) (c_X12_ofEntry h l2 3 G ⟨by omega, by omega⟩ ⟨by omega, by omega⟩) o_108 rfl rfl rfl (Nat.le_of_ble_eq_true rfl) ⟨rfl, rfl⟩ (fun x23 h14 qx23 => ?_)
            obtain ⟨rfl, fx23⟩ := qx23
            have gx23 := gw_e3 G (i := (80 + 5 * l2 + 3)) (e := l2) (by omega) (by omega) (by omega)
            rw [fx23] at gx23
            refine z_istore (M := M_X12_build) 103 dX12_build_103 (ls' := [some (mR 108), some (mI a1), some (mI l2), some (mI x4), some (mI x7), some (mI x7), some (mI x22), some (mI x23), none, none, none]) (by decide) rfl ?_
            refine z_iload (M := M_X12_build) 105 dX12_build_105 rfl ?_
            refine z_iconst (M := M_X12_build) 107 dX12_build_107 ?_
            refine z_icmp_ne (M := M_X12_build) 108 dX12_build_108 120 rfl (fun c24 => ?_) (fun c24 => ?_)
            · refine z_iload (M := M_X12_build) 120 dX12_build_120 rfl ?_
              refine z_istore (M := M_X12_build) 122 dX12_build_122 (ls' := [some (mR 108), some (mI a1), some (mI l2), some (mI x4), some (mI x7), some (mI x7), some (mI x22), some (mI x23), some (mI x22), none, none]) (by decide) rfl ?_
              refine z_iload (M := M_X12_build) 124 dX12_build_124 rfl ?_
              refine z_if_ne (M := M_X12_build) 126 dX12_build_126 134 rfl (fun c25 => ?_) (fun c25 => ?_)
              · refine z_iload (M := M_X12_build) 134 dX12_build_134 rfl ?_
                refine z_iconst (M := M_X12_build) 136 dX12_build_136 ?_
                refine z_icmp_ne_F (M := M_X12_build) 137 dX12_build_137 147 rfl (by omega) ?_
                refine z_iload (M := M_X12_build) 140 dX12_build_140 rfl ?_
                refine z_iconst (M := M_X12_build) 142 dX12_build_142 ?_
                refine z_iaddN (M := M_X12_build) 143 dX12_build_143 (by omega) (by omega) ?_
                refine z_goto (M := M_X12_build) 144 dX12_build_144 153 rfl ?_
                refine z_istore (M := M_X12_build) 153 dX12_build_153 (ls' := [some (mR 108), some (mI a1), some (mI l2), some (mI x4), some (mI x7), some (mI x7), some (mI x22), some (mI x23), some (mI x22), some (mI (x22 + 1)), none]) (by decide) rfl ?_
                refine z_iload (M := M_X12_build) 155 dX12_build_155 rfl ?_
                refine z_iconst (M := M_X12_build) 157 dX12_build_157 ?_
                refine z_icmp_ne_T (M := M_X12_build) 158 dX12_build_158 165 rfl (by omega) ?_
                refine z_iconst (M := M_X12_build) 165 dX12_build_165 ?_
                refine z_istore (M := M_X12_build) 166 dX12_build_166 (ls' := [some (mR 108), some (mI a1), some (mI l2), some (mI x4), some (mI x7), some (mI x7), some (mI x22), some (mI x23), some (mI x22), some (mI (x22 + 1)), some (mI 1)]) (by decide) rfl ?_
                refine z_aload_n (M := M_X12_build) 168 dX12_build_168 rfl ?_
                refine z_bipush (M := M_X12_build) 169 dX12_build_169 ?_
                refine z_iload_n (M := M_X12_build) 171 dX12_build_171 rfl ?_
                refine z_iaddN (M := M_X12_build) 172 dX12_build_172 (by omega) (by omega) ?_
                refine z_iload (M := M_X12_build) 173 dX12_build_173 rfl ?_
                refine z_iload (M := M_X12_build) 175 dX12_build_175 rfl ?_
                refine z_iload (M := M_X12_build) 177 dX12_build_177 rfl ?_
                refine z_iconst (M := M_X12_build) 179 dX12_build_179 ?_
                refine z_vV (M := M_X12_build) 180 dX12_build_180 t_X12_edge l_X12_339 (m_rr_of rfl) (rest := []) (c_X12_edgeX h (12 + x4) x7 x22 1 0 G ⟨by omega, by omega⟩ ⟨by omega, by omega⟩ ⟨by omega, by omega⟩ ⟨by omega, by omega⟩ ⟨by omega, by omega⟩ (le_e t_108_21 (by omega))) o_108 rfl rfl rfl (Nat.le_of_ble_eq_true rfl) ⟨rfl, rfl⟩ (fun h15 qx26 => ?_)
                obtain ⟨G15, S15, fx26_0, fx26_1⟩ := qx26
                have R15 := R.call S15 (by decide +kernel)
                refine z_aload_n (M := M_X12_build) 183 dX12_build_183 rfl ?_
                refine z_iload (M := M_X12_build) 184 dX12_build_184 rfl ?_
                refine z_bipush (M := M_X12_build) 186 dX12_build_186 ?_
                refine z_iload_n (M := M_X12_build) 188 dX12_build_188 rfl ?_
                refine z_iaddN (M := M_X12_build) 189 dX12_build_189 (by omega) (by omega) ?_
                refine z_iload (M := M_X12_build) 190 dX12_build_190 rfl ?_
                refine z_iload (M := M_X12_build) 192 dX12_build_192 rfl ?_
                refine z_iload (M := M_X12_build) 194 dX12_build_194 rfl ?_
                refine z_if_le_F (M := M_X12_build) 196 dX12_build_196 203 rfl (by omega) ?_
                refine z_iconst (M := M_X12_build) 199 dX12_build_199 ?_
                refine z_goto (M := M_X12_build) 200 dX12_build_200 204 rfl ?_
                refine z_vV (M := M_X12_build) 204 dX12_build_204 t_X12_edge l_X12_339 (m_rr_of rfl) (rest := []) (c_X12_edgeX h15 x7 (12 + x4) 1 (x22 + 1) 1 G15 ⟨by omega, by omega⟩ ⟨by omega, by omega⟩ ⟨by omega, by omega⟩ ⟨by omega, by omega⟩ ⟨by omega, by omega⟩ (le_e (eq_ad fx26_0 t_108_21) (by omega))) o_108 rfl rfl rfl (Nat.le_of_ble_eq_true rfl) ⟨rfl, rfl⟩ (fun h16 qx27 => ?_)
                obtain ⟨G16, S16, fx27_0, fx27_1⟩ := qx27
                have R16 := R15.call S16 (by decide +kernel)
                refine z_iincN (M := M_X12_build) 207 dX12_build_207 (ls' := [some (mR 108), some (mI a1), some (mI (l2 + 1)), some (mI x4), some (mI x7), some (mI x7), some (mI x22), some (mI x23), some (mI x22), some (mI (x22 + 1)), some (mI 1)]) (by decide) rfl (by (unfold m_32; decide)) (by omega) (by omega) rfl ?_
                refine z_goto (M := M_X12_build) 210 dX12_build_210 7 rfl ?_
                exact z_mask [true, true, true, false, false, false, false, false, false, false, false] rfl (ih.1 (l2 + 1) ((y_108_21 + 1) + 1) h16 G16 R16 (by omega) (by omega) (by omega) (by omega) (by omega) (by omega) (eq_ad fx27_0 (eq_ad fx26_0 t_108_21)) (b_ent2 (by omega) i0 (by omega) (by omega) fx26_1 fx27_1 ((eR_of (by omega) ((R 110 _ rfl).symm.trans fx3) ((R 110 _ rfl).symm.trans fx7) ((R 122 _ rfl).symm.trans ex4) ((R 123 _ rfl).symm.trans ex8) ((R 110 _ rfl).symm.trans fx22) ((R 110 _ rfl).symm.trans fx23)).trans (eOf_yes cx5 (by omega) (by split <;> omega) (by split <;> omega) (by split <;> omega) (by split <;> (try split) <;> omega) (by split <;> omega)))) (by have r0 := R 110 (0 : Int).toNat rfl; omega) (by omega) (by omega))
              · refine z_iload (M := M_X12_build) 129 dX12_build_129 rfl ?_
                refine z_goto (M := M_X12_build) 131 dX12_build_131 153 rfl ?_
                refine z_istore (M := M_X12_build) 153 dX12_build_153 (ls' := [some (mR 108), some (mI a1), some (mI l2), some (mI x4), some (mI x7), some (mI x7), some (mI x22), some (mI x23), some (mI x22), some (mI x22), none]) (by decide) rfl ?_
                refine z_iload (M := M_X12_build) 155 dX12_build_155 rfl ?_
                refine z_iconst (M := M_X12_build) 157 dX12_build_157 ?_
                refine z_icmp_ne_T (M := M_X12_build) 158 dX12_build_158 165 rfl (by omega) ?_
                refine z_iconst (M := M_X12_build) 165 dX12_build_165 ?_
                refine z_istore (M := M_X12_build) 166 dX12_build_166 (ls' := [some (mR 108), some (mI a1), some (mI l2), some (mI x4), some (mI x7), some (mI x7), some (mI x22), some (mI x23), some (mI x22), some (mI x22), some (mI 1)]) (by decide) rfl ?_
                refine z_aload_n (M := M_X12_build) 168 dX12_build_168 rfl ?_
                refine z_bipush (M := M_X12_build) 169 dX12_build_169 ?_
                refine z_iload_n (M := M_X12_build) 171 dX12_build_171 rfl ?_
                refine z_iaddN (M := M_X12_build) 172 dX12_build_172 (by omega) (by omega) ?_
                refine z_iload (M := M_X12_build) 173 dX12_build_173 rfl ?_
                refine z_iload (M := M_X12_build) 175 dX12_build_175 rfl ?_
                refine z_iload (M := M_X12_build) 177 dX12_build_177 rfl ?_
                refine z_iconst (M := M_X12_build) 179 dX12_build_179 ?_
                refine z_vV (M := M_X12_build) 180 dX12_build_180 t_X12_edge l_X12_339 (m_rr_of rfl) (rest := []) (c_X12_edgeX h (12 + x4) x7 x22 1 0 G ⟨by omega, by omega⟩ ⟨by omega, by omega⟩ ⟨by omega, by omega⟩ ⟨by omega, by omega⟩ ⟨by omega, by omega⟩ (le_e t_108_21 (by omega))) o_108 rfl rfl rfl (Nat.le_of_ble_eq_true rfl) ⟨rfl, rfl⟩ (fun h17 qx28 => ?_)
                obtain ⟨G17, S17, fx28_0, fx28_1⟩ := qx28
                have R17 := R.call S17 (by decide +kernel)
                refine z_aload_n (M := M_X12_build) 183 dX12_build_183 rfl ?_
                refine z_iload (M := M_X12_build) 184 dX12_build_184 rfl ?_
                refine z_bipush (M := M_X12_build) 186 dX12_build_186 ?_
                refine z_iload_n (M := M_X12_build) 188 dX12_build_188 rfl ?_
                refine z_iaddN (M := M_X12_build) 189 dX12_build_189 (by omega) (by omega) ?_
                refine z_iload (M := M_X12_build) 190 dX12_build_190 rfl ?_
                refine z_iload (M := M_X12_build) 192 dX12_build_192 rfl ?_
                refine z_iload (M := M_X12_build) 194 dX12_build_194 rfl ?_
                refine z_if_le_T (M := M_X12_build) 196 dX12_build_196 203 rfl (by omega) ?_
                refine z_iconst (M := M_X12_build) 203 dX12_build_203 ?_
                refine z_vV (M := M_X12_build) 204 dX12_build_204 t_X12_edge l_X12_339 (m_rr_of rfl) (rest := []) (c_X12_edgeX h17 x7 (12 + x4) 1 x22 0 G17 ⟨by omega, by omega⟩ ⟨by omega, by omega⟩ ⟨by omega, by omega⟩ ⟨by omega, by omega⟩ ⟨by omega, by omega⟩ (le_e (eq_ad fx28_0 t_108_21) (by omega))) o_108 rfl rfl rfl (Nat.le_of_ble_eq_true rfl) ⟨rfl, rfl⟩ (fun h18 qx29 => ?_)
                obtain ⟨G18, S18, fx29_0, fx29_1⟩ := qx29
                have R18 := R17.call S18 (by decide +kernel)
                refine z_iincN (M := M_X12_build) 207 dX12_build_207 (ls' := [some (mR 108), some (mI a1), some (mI (l2 + 1)), some (mI x4), some (mI x7), some (mI x7), some (mI x22), some (mI x23), some (mI x22), some (mI x22), some (mI 1)]) (by decide) rfl (by (unfold m_32; decide)) (by omega) (by omega) rfl ?_
                refine z_goto (M := M_X12_build) 210 dX12_build_210 7 rfl ?_
                exact z_mask [true, true, true, false, false, false, false, false, false, false, false] rfl (ih.1 (l2 + 1) ((y_108_21 + 1) + 1) h18 G18 R18 (by omega) (by omega) (by omega) (by omega) (by omega) (by omega) (eq_ad fx29_0 (eq_ad fx28_0 t_108_21)) (b_ent2 (by omega) i0 (by omega) (by omega) fx28_1 fx29_1 ((eR_of (by omega) ((R 110 _ rfl).symm.trans fx3) ((R 110 _ rfl).symm.trans fx7) ((R 122 _ rfl).symm.trans ex4) ((R 123 _ rfl).symm.trans ex8) ((R 110 _ rfl).symm.trans fx22) ((R 110 _ rfl).symm.trans fx23)).trans (eOf_yes cx5 (by omega) (by split <;> omega) (by split <;> omega) (by split <;> omega) (by split <;> (try split) <;> omega) (by split <;> omega)))) (by have r0 := R 110 (0 : Int).toNat rfl; omega) (by omega) (by omega))
            · refine z_iconst (M := M_X12_build) 111 dX12_build_111 ?_
              refine z_iload (M := M_X12_build) 112 dX12_build_112 rfl ?_
              refine z_imulN (M := M_X12_build) 114 dX12_build_114 (by omega) (by omega) ?_
              refine z_iconst (M := M_X12_build) 115 dX12_build_115 ?_
              refine z_isubN (M := M_X12_build) 116 dX12_build_116 (by omega) (by omega) ?_
              refine z_goto (M := M_X12_build) 117 dX12_build_117 122 rfl ?_
              refine z_istore (M := M_X12_build) 122 dX12_build_122 (ls' := [some (mR 108), some (mI a1), some (mI l2), some (mI x4), some (mI x7), some (mI x7), some (mI x22), some (mI x23), some (mI ((2 * x22) - 1)), none, none]) (by decide) rfl ?_
              refine z_iload (M := M_X12_build) 124 dX12_build_124 rfl ?_
              refine z_if_ne_T (M := M_X12_build) 126 dX12_build_126 134 rfl (by omega) ?_
              refine z_iload (M := M_X12_build) 134 dX12_build_134 rfl ?_
              refine z_iconst (M := M_X12_build) 136 dX12_build_136 ?_
              refine z_icmp_ne_T (M := M_X12_build) 137 dX12_build_137 147 rfl (by omega) ?_
              refine z_iconst (M := M_X12_build) 147 dX12_build_147 ?_
              refine z_iload (M := M_X12_build) 148 dX12_build_148 rfl ?_
              refine z_imulN (M := M_X12_build) 150 dX12_build_150 (by omega) (by omega) ?_
              refine z_iconst (M := M_X12_build) 151 dX12_build_151 ?_
              refine z_iaddN (M := M_X12_build) 152 dX12_build_152 (by omega) (by omega) ?_
              refine z_istore (M := M_X12_build) 153 dX12_build_153 (ls' := [some (mR 108), some (mI a1), some (mI l2), some (mI x4), some (mI x7), some (mI x7), some (mI x22), some (mI x23), some (mI ((2 * x22) - 1)), some (mI ((2 * x22) + 1)), none]) (by decide) rfl ?_
              refine z_iload (M := M_X12_build) 155 dX12_build_155 rfl ?_
              refine z_iconst (M := M_X12_build) 157 dX12_build_157 ?_
              refine z_icmp_ne_F (M := M_X12_build) 158 dX12_build_158 165 rfl (by omega) ?_
              refine z_iconst (M := M_X12_build) 161 dX12_build_161 ?_
              refine z_goto (M := M_X12_build) 162 dX12_build_162 166 rfl ?_
              refine z_istore (M := M_X12_build) 166 dX12_build_166 (ls' := [some (mR 108), some (mI a1), some (mI l2), some (mI x4), some (mI x7), some (mI x7), some (mI x22), some (mI x23), some (mI ((2 * x22) - 1)), some (mI ((2 * x22) + 1)), some (mI 2)]) (by decide) rfl ?_
              refine z_aload_n (M := M_X12_build) 168 dX12_build_168 rfl ?_
              refine z_bipush (M := M_X12_build) 169 dX12_build_169 ?_
              refine z_iload_n (M := M_X12_build) 171 dX12_build_171 rfl ?_
              refine z_iaddN (M := M_X12_build) 172 dX12_build_172 (by omega) (by omega) ?_
              refine z_iload (M := M_X12_build) 173 dX12_build_173 rfl ?_
              refine z_iload (M := M_X12_build) 175 dX12_build_175 rfl ?_
              refine z_iload (M := M_X12_build) 177 dX12_build_177 rfl ?_
              refine z_iconst (M := M_X12_build) 179 dX12_build_179 ?_
              refine z_vV (M := M_X12_build) 180 dX12_build_180 t_X12_edge l_X12_339 (m_rr_of rfl) (rest := []) (c_X12_edgeX h (12 + x4) x7 ((2 * x22) - 1) 2 0 G ⟨by omega, by omega⟩ ⟨by omega, by omega⟩ ⟨by omega, by omega⟩ ⟨by omega, by omega⟩ ⟨by omega, by omega⟩ (le_e t_108_21 (by omega))) o_108 rfl rfl rfl (Nat.le_of_ble_eq_true rfl) ⟨rfl, rfl⟩ (fun h19 qx30 => ?_)
              obtain ⟨G19, S19, fx30_0, fx30_1⟩ := qx30
              have R19 := R.call S19 (by decide +kernel)
              refine z_aload_n (M := M_X12_build) 183 dX12_build_183 rfl ?_
              refine z_iload (M := M_X12_build) 184 dX12_build_184 rfl ?_
              refine z_bipush (M := M_X12_build) 186 dX12_build_186 ?_
              refine z_iload_n (M := M_X12_build) 188 dX12_build_188 rfl ?_
              refine z_iaddN (M := M_X12_build) 189 dX12_build_189 (by omega) (by omega) ?_
              refine z_iload (M := M_X12_build) 190 dX12_build_190 rfl ?_
              refine z_iload (M := M_X12_build) 192 dX12_build_192 rfl ?_
              refine z_iload (M := M_X12_build) 194 dX12_build_194 rfl ?_
              refine z_if_le_F (M := M_X12_build) 196 dX12_build_196 203 rfl (by omega) ?_
              refine z_iconst (M := M_X12_build) 199 dX12_build_199 ?_
              refine z_goto (M := M_X12_build) 200 dX12_build_200 204 rfl ?_
              refine z_vV (M := M_X12_build) 204 dX12_build_204 t_X12_edge l_X12_339 (m_rr_of rfl) (rest := []) (c_X12_edgeX h19 x7 (12 + x4) 2 ((2 * x22) + 1) 1 G19 ⟨by omega, by omega⟩ ⟨by omega, by omega⟩ ⟨by omega, by omega⟩ ⟨by omega, by omega⟩ ⟨by omega, by omega⟩ (le_e (eq_ad fx30_0 t_108_21) (by omega))) o_108 rfl rfl rfl (Nat.le_of_ble_eq_true rfl) ⟨rfl, rfl⟩ (fun h20 qx31 => ?_)
              obtain ⟨G20, S20, fx31_0, fx31_1⟩ := qx31
              have R20 := R19.call S20 (by decide +kernel)
              refine z_iincN (M := M_X12_build) 207 dX12_build_207 (ls' := [some (mR 108), some (mI a1), some (mI (l2 + 1)), some (mI x4), some (mI x7), some (mI x7), some (mI x22), some (mI x23), some (mI ((2 * x22) - 1)), some (mI ((2 * x22) + 1)), some (mI 2)]) (by decide) rfl (by (unfold m_32; decide)) (by omega) (by omega) rfl ?_
              refine z_goto (M := M_X12_build) 210 dX12_build_210 7 rfl ?_
              exact z_mask [true, true, true, false, false, false, false, false, false, false, false] rfl (ih.1 (l2 + 1) ((y_108_21 + 1) + 1) h20 G20 R20 (by omega) (by omega) (by omega) (by omega) (by omega) (by omega) (eq_ad fx31_0 (eq_ad fx30_0 t_108_21)) (b_ent2 (by omega) i0 (by omega) (by omega) fx30_1 fx31_1 ((eR_of (by omega) ((R 110 _ rfl).symm.trans fx3) ((R 110 _ rfl).symm.trans fx7) ((R 122 _ rfl).symm.trans ex4) ((R 123 _ rfl).symm.trans ex8) ((R 110 _ rfl).symm.trans fx22) ((R 110 _ rfl).symm.trans fx23)).trans (eOf_yes cx5 (by omega) (by split <;> omega) (by split <;> omega) (by split <;> omega) (by split <;> (try split) <;> omega) (by split <;> omega)))) (by have r0 := R 110 (0 : Int).toNat rfl; omega) (by omega) (by omega))
          · refine z_bipush (M := M_X12_build) 77 dX12_build_77 ?_
            refine z_iload (M := M_X12_build) 79 dX12_build_79 rfl ?_
            refine z_iaddN (M := M_X12_build) 81 dX12_build_81 (by omega) (by omega) ?_
            refine z_goto (M := M_X12_build) 82 dX12_build_82 87 rfl ?_
            refine z_istore (M := M_X12_build) 87 dX12_build_87 (ls' := [some (mR 108), some (mI a1), some (mI l2), some (mI x4), some (mI x7), some (mI (6 + x7)), none, none, none, none, none]) (by decide) rfl ?_
            refine z_aload_n (M := M_X12_build) 89 dX12_build_89 rfl ?_
            refine z_iload_n (M := M_X12_build) 90 dX12_build_90 rfl ?_
            refine z_iconst (M := M_X12_build) 91 dX12_build_91 ?_
            refine z_vI (M := M_X12_build) 92 dX12_build_92 t_X12_ofEntry l_X12_195 (m_rr_of rfl) (rest := []) (c_X12_ofEntry h l2 2 G ⟨by omega, by omega⟩ ⟨by omega, by omega⟩) o_108 rfl rfl rfl (Nat.le_of_ble_eq_true rfl) ⟨rfl, rfl⟩ (fun x32 h21 qx32 => ?_)
            obtain ⟨rfl, fx32⟩ := qx32
            have gx32 := gw_e2 G (i := (80 + 5 * l2 + 2)) (e := l2) (by omega) (by omega) (by omega)
            rw [fx32] at gx32
            have nx32 : 1 ≤ x32 := np_at hN R (fun _ => rfl) (by omega) (by omega) ex1 fx32
            refine z_istore (M := M_X12_build) 95 dX12_build_95 (ls' := [some (mR 108), some (mI a1), some (mI l2), some (mI x4), some (mI x7), some (mI (6 + x7)), some (mI x32), none, none, none, none]) (by decide) rfl ?_
            refine z_aload_n (M := M_X12_build) 97 dX12_build_97 rfl ?_
            refine z_iload_n (M := M_X12_build) 98 dX12_build_98 rfl ?_
            refine z_iconst (M := M_X12_build) 99 dX12_build_99 ?_
            refine z_vI (M := M_X12_build) 100 dX12_build_100 t_X12_ofEntry l_X12_195 (m_rr_of rfl) (rest := []) (c_X12_ofEntry h l2 3 G ⟨by omega, by omega⟩ ⟨by omega, by omega⟩) o_108 rfl rfl rfl (Nat.le_of_ble_eq_true rfl) ⟨rfl, rfl⟩ (fun x33 h22 qx33 => ?_)
            obtain ⟨rfl, fx33⟩ := qx33
            have gx33 := gw_e3 G (i := (80 + 5 * l2 + 3)) (e := l2) (by omega) (by omega) (by omega)
            rw [fx33] at gx33
            refine z_istore (M := M_X12_build) 103 dX12_build_103 (ls' := [some (mR 108), some (mI a1), some (mI l2), some (mI x4), some (mI x7), some (mI (6 + x7)), some (mI x32), some (mI x33), none, none, none]) (by decide) rfl ?_
            refine z_iload (M := M_X12_build) 105 dX12_build_105 rfl ?_
            refine z_iconst (M := M_X12_build) 107 dX12_build_107 ?_
            refine z_icmp_ne (M := M_X12_build) 108 dX12_build_108 120 rfl (fun c34 => ?_) (fun c34 => ?_)
            · refine z_iload (M := M_X12_build) 120 dX12_build_120 rfl ?_
              refine z_istore (M := M_X12_build) 122 dX12_build_122 (ls' := [some (mR 108), some (mI a1), some (mI l2), some (mI x4), some (mI x7), some (mI (6 + x7)), some (mI x32), some (mI x33), some (mI x32), none, none]) (by decide) rfl ?_
              refine z_iload (M := M_X12_build) 124 dX12_build_124 rfl ?_
              refine z_if_ne (M := M_X12_build) 126 dX12_build_126 134 rfl (fun c35 => ?_) (fun c35 => ?_)
              · refine z_iload (M := M_X12_build) 134 dX12_build_134 rfl ?_
                refine z_iconst (M := M_X12_build) 136 dX12_build_136 ?_
                refine z_icmp_ne_F (M := M_X12_build) 137 dX12_build_137 147 rfl (by omega) ?_
                refine z_iload (M := M_X12_build) 140 dX12_build_140 rfl ?_
                refine z_iconst (M := M_X12_build) 142 dX12_build_142 ?_
                refine z_iaddN (M := M_X12_build) 143 dX12_build_143 (by omega) (by omega) ?_
                refine z_goto (M := M_X12_build) 144 dX12_build_144 153 rfl ?_
                refine z_istore (M := M_X12_build) 153 dX12_build_153 (ls' := [some (mR 108), some (mI a1), some (mI l2), some (mI x4), some (mI x7), some (mI (6 + x7)), some (mI x32), some (mI x33), some (mI x32), some (mI (x32 + 1)), none]) (by decide) rfl ?_
                refine z_iload (M := M_X12_build) 155 dX12_build_155 rfl ?_
                refine z_iconst (M := M_X12_build) 157 dX12_build_157 ?_
                refine z_icmp_ne_T (M := M_X12_build) 158 dX12_build_158 165 rfl (by omega) ?_
                refine z_iconst (M := M_X12_build) 165 dX12_build_165 ?_
                refine z_istore (M := M_X12_build) 166 dX12_build_166 (ls' := [some (mR 108), some (mI a1), some (mI l2), some (mI x4), some (mI x7), some (mI (6 + x7)), some (mI x32), some (mI x33), some (mI x32), some (mI (x32 + 1)), some (mI 1)]) (by decide) rfl ?_
                refine z_aload_n (M := M_X12_build) 168 dX12_build_168 rfl ?_
                refine z_bipush (M := M_X12_build) 169 dX12_build_169 ?_
                refine z_iload_n (M := M_X12_build) 171 dX12_build_171 rfl ?_
                refine z_iaddN (M := M_X12_build) 172 dX12_build_172 (by omega) (by omega) ?_
                refine z_iload (M := M_X12_build) 173 dX12_build_173 rfl ?_
                refine z_iload (M := M_X12_build) 175 dX12_build_175 rfl ?_
                refine z_iload (M := M_X12_build) 177 dX12_build_177 rfl ?_
                refine z_iconst (M := M_X12_build) 179 dX12_build_179 ?_
                refine z_vV (M := M_X12_build) 180 dX12_build_180 t_X12_edge l_X12_339 (m_rr_of rfl) (rest := []) (c_X12_edgeX h (12 + x4) (6 + x7) x32 1 0 G ⟨by omega, by omega⟩ ⟨by omega, by omega⟩ ⟨by omega, by omega⟩ ⟨by omega, by omega⟩ ⟨by omega, by omega⟩ (le_e t_108_21 (by omega))) o_108 rfl rfl rfl (Nat.le_of_ble_eq_true rfl) ⟨rfl, rfl⟩ (fun h23 qx36 => ?_)
                obtain ⟨G23, S23, fx36_0, fx36_1⟩ := qx36
                have R23 := R.call S23 (by decide +kernel)
                refine z_aload_n (M := M_X12_build) 183 dX12_build_183 rfl ?_
                refine z_iload (M := M_X12_build) 184 dX12_build_184 rfl ?_
                refine z_bipush (M := M_X12_build) 186 dX12_build_186 ?_
                refine z_iload_n (M := M_X12_build) 188 dX12_build_188 rfl ?_
                refine z_iaddN (M := M_X12_build) 189 dX12_build_189 (by omega) (by omega) ?_
                refine z_iload (M := M_X12_build) 190 dX12_build_190 rfl ?_
                refine z_iload (M := M_X12_build) 192 dX12_build_192 rfl ?_
                refine z_iload (M := M_X12_build) 194 dX12_build_194 rfl ?_
                refine z_if_le_F (M := M_X12_build) 196 dX12_build_196 203 rfl (by omega) ?_
                refine z_iconst (M := M_X12_build) 199 dX12_build_199 ?_
                refine z_goto (M := M_X12_build) 200 dX12_build_200 204 rfl ?_
                refine z_vV (M := M_X12_build) 204 dX12_build_204 t_X12_edge l_X12_339 (m_rr_of rfl) (rest := []) (c_X12_edgeX h23 (6 + x7) (12 + x4) 1 (x32 + 1) 1 G23 ⟨by omega, by omega⟩ ⟨by omega, by omega⟩ ⟨by omega, by omega⟩ ⟨by omega, by omega⟩ ⟨by omega, by omega⟩ (le_e (eq_ad fx36_0 t_108_21) (by omega))) o_108 rfl rfl rfl (Nat.le_of_ble_eq_true rfl) ⟨rfl, rfl⟩ (fun h24 qx37 => ?_)
                obtain ⟨G24, S24, fx37_0, fx37_1⟩ := qx37
                have R24 := R23.call S24 (by decide +kernel)
                refine z_iincN (M := M_X12_build) 207 dX12_build_207 (ls' := [some (mR 108), some (mI a1), some (mI (l2 + 1)), some (mI x4), some (mI x7), some (mI (6 + x7)), some (mI x32), some (mI x33), some (mI x32), some (mI (x32 + 1)), some (mI 1)]) (by decide) rfl (by (unfold m_32; decide)) (by omega) (by omega) rfl ?_
                refine z_goto (M := M_X12_build) 210 dX12_build_210 7 rfl ?_
                exact z_mask [true, true, true, false, false, false, false, false, false, false, false] rfl (ih.1 (l2 + 1) ((y_108_21 + 1) + 1) h24 G24 R24 (by omega) (by omega) (by omega) (by omega) (by omega) (by omega) (eq_ad fx37_0 (eq_ad fx36_0 t_108_21)) (b_ent2 (by omega) i0 (by omega) (by omega) fx36_1 fx37_1 ((eR_of (by omega) ((R 110 _ rfl).symm.trans fx3) ((R 110 _ rfl).symm.trans fx7) ((R 122 _ rfl).symm.trans ex4) ((R 123 _ rfl).symm.trans ex8) ((R 110 _ rfl).symm.trans fx32) ((R 110 _ rfl).symm.trans fx33)).trans (eOf_yes cx5 (by omega) (by split <;> omega) (by split <;> omega) (by split <;> omega) (by split <;> (try split) <;> omega) (by split <;> omega)))) (by have r0 := R 110 (0 : Int).toNat rfl; omega) (by omega) (by omega))
              · refine z_iload (M := M_X12_build) 129 dX12_build_129 rfl ?_
                refine z_goto (M := M_X12_build) 131 dX12_build_131 153 rfl ?_
                refine z_istore (M := M_X12_build) 153 dX12_build_153 (ls' := [some (mR 108), some (mI a1), some (mI l2), some (mI x4), some (mI x7), some (mI (6 + x7)), some (mI x32), some (mI x33), some (mI x32), some (mI x32), none]) (by decide) rfl ?_
                refine z_iload (M := M_X12_build) 155 dX12_build_155 rfl ?_
                refine z_iconst (M := M_X12_build) 157 dX12_build_157 ?_
                refine z_icmp_ne_T (M := M_X12_build) 158 dX12_build_158 165 rfl (by omega) ?_
                refine z_iconst (M := M_X12_build) 165 dX12_build_165 ?_
                refine z_istore (M := M_X12_build) 166 dX12_build_166 (ls' := [some (mR 108), some (mI a1), some (mI l2), some (mI x4), some (mI x7), some (mI (6 + x7)), some (mI x32), some (mI x33), some (mI x32), some (mI x32), some (mI 1)]) (by decide) rfl ?_
                refine z_aload_n (M := M_X12_build) 168 dX12_build_168 rfl ?_
                refine z_bipush (M := M_X12_build) 169 dX12_build_169 ?_
                refine z_iload_n (M := M_X12_build) 171 dX12_build_171 rfl ?_
                refine z_iaddN (M := M_X12_build) 172 dX12_build_172 (by omega) (by omega) ?_
                refine z_iload (M := M_X12_build) 173 dX12_build_173 rfl ?_
                refine z_iload (M := M_X12_build) 175 dX12_build_175 rfl ?_
                refine z_iload (M := M_X12_build) 177 dX12_build_177 rfl ?_
                refine z_iconst (M := M_X12_build) 179 dX12_build_179 ?_
                refine z_vV (M := M_X12_build) 180 dX12_build_180 t_X12_edge l_X12_339 (m_rr_of rfl) (rest := []) (c_X12_edgeX h (12 + x4) (6 + x7) x32 1 0 G ⟨by omega, by omega⟩ ⟨by omega, by omega⟩ ⟨by omega, by omega⟩ ⟨by omega, by omega⟩ ⟨by omega, by omega⟩ (le_e t_108_21 (by omega))) o_108 rfl rfl rfl (Nat.le_of_ble_eq_true rfl) ⟨rfl, rfl⟩ (fun h25 qx38 => ?_)
                obtain ⟨G25, S25, fx38_0, fx38_1⟩ := qx38
                have R25 := R.call S25 (by decide +kernel)
                refine z_aload_n (M := M_X12_build) 183 dX12_build_183 rfl ?_
                refine z_iload (M := M_X12_build) 184 dX12_build_184 rfl ?_
                refine z_bipush (M := M_X12_build) 186 dX12_build_186 ?_
                refine z_iload_n (M := M_X12_build) 188 dX12_build_188 rfl ?_
                refine z_iaddN (M := M_X12_build) 189 dX12_build_189 (by omega) (by omega) ?_
                refine z_iload (M := M_X12_build) 190 dX12_build_190 rfl ?_
                refine z_iload (M := M_X12_build) 192 dX12_build_192 rfl ?_
                refine z_iload (M := M_X12_build) 194 dX12_build_194 rfl ?_
                refine z_if_le_T (M := M_X12_build) 196 dX12_build_196 203 rfl (by omega) ?_
                refine z_iconst (M := M_X12_build) 203 dX12_build_203 ?_
                refine z_vV (M := M_X12_build) 204 dX12_build_204 t_X12_edge l_X12_339 (m_rr_of rfl) (rest := []) (c_X12_edgeX h25 (6 + x7) (12 + x4) 1 x32 0 G25 ⟨by omega, by omega⟩ ⟨by omega, by omega⟩ ⟨by omega, by omega⟩ ⟨by omega, by omega⟩ ⟨by omega, by omega⟩ (le_e (eq_ad fx38_0 t_108_21) (by omega))) o_108 rfl rfl rfl (Nat.le_of_ble_eq_true rfl) ⟨rfl, rfl⟩ (fun h26 qx39 => ?_)
                obtain ⟨G26, S26, fx39_0, fx39_1⟩ := qx39
                have R26 := R25.call S26 (by decide +kernel)
                refine z_iincN (M := M_X12_build) 207 dX12_build_207 (ls' := [some (mR 108), some (mI a1), some (mI (l2 + 1)), some (mI x4), some (mI x7), some (mI (6 + x7)), some (mI x32), some (mI x33), some (mI x32), some (mI x32), some (mI 1)]) (by decide) rfl (by (unfold m_32; decide)) (by omega) (by omega) rfl ?_
                refine z_goto (M := M_X12_build) 210 dX12_build_210 7 rfl ?_
                exact z_mask [true, true, true, false, false, false, false, false, false, false, false] rfl (ih.1 (l2 + 1) ((y_108_21 + 1) + 1) h26 G26 R26 (by omega) (by omega) (by omega) (by omega) (by omega) (by omega) (eq_ad fx39_0 (eq_ad fx38_0 t_108_21)) (b_ent2 (by omega) i0 (by omega) (by omega) fx38_1 fx39_1 ((eR_of (by omega) ((R 110 _ rfl).symm.trans fx3) ((R 110 _ rfl).symm.trans fx7) ((R 122 _ rfl).symm.trans ex4) ((R 123 _ rfl).symm.trans ex8) ((R 110 _ rfl).symm.trans fx32) ((R 110 _ rfl).symm.trans fx33)).trans (eOf_yes cx5 (by omega) (by split <;> omega) (by split <;> omega) (by split <;> omega) (by split <;> (try split) <;> omega) (by split <;> omega)))) (by have r0 := R 110 (0 : Int).toNat rfl; omega) (by omega) (by omega))
            · refine z_iconst (M := M_X12_build) 111 dX12_build_111 ?_
              refine z_iload (M := M_X12_build) 112 dX12_build_112 rfl ?_
              refine z_imulN (M := M_X12_build) 114 dX12_build_114 (by omega) (by omega) ?_
              refine z_iconst (M := M_X12_build) 115 dX12_build_115 ?_
              refine z_isubN (M := M_X12_build) 116 dX12_build_116 (by omega) (by omega) ?_
              refine z_goto (M := M_X12_build) 117 dX12_build_117 122 rfl ?_
              refine z_istore (M := M_X12_build) 122 dX12_build_122 (ls' := [some (mR 108), some (mI a1), some (mI l2), some (mI x4), some (mI x7), some (mI (6 + x7)), some (mI x32), some (mI x33), some (mI ((2 * x32) - 1)), none, none]) (by decide) rfl ?_
              refine z_iload (M := M_X12_build) 124 dX12_build_124 rfl ?_
              refine z_if_ne_T (M := M_X12_build) 126 dX12_build_126 134 rfl (by omega) ?_
              refine z_iload (M := M_X12_build) 134 dX12_build_134 rfl ?_
              refine z_iconst (M := M_X12_build) 136 dX12_build_136 ?_
              refine z_icmp_ne_T (M := M_X12_build) 137 dX12_build_137 147 rfl (by omega) ?_
              refine z_iconst (M := M_X12_build) 147 dX12_build_147 ?_
              refine z_iload (M := M_X12_build) 148 dX12_build_148 rfl ?_
              refine z_imulN (M := M_X12_build) 150 dX12_build_150 (by omega) (by omega) ?_
              refine z_iconst (M := M_X12_build) 151 dX12_build_151 ?_
              refine z_iaddN (M := M_X12_build) 152 dX12_build_152 (by omega) (by omega) ?_
              refine z_istore (M := M_X12_build) 153 dX12_build_153 (ls' := [some (mR 108), some (mI a1), some (mI l2), some (mI x4), some (mI x7), some (mI (6 + x7)), some (mI x32), some (mI x33), some (mI ((2 * x32) - 1)), some (mI ((2 * x32) + 1)), none]) (by decide) rfl ?_
              refine z_iload (M := M_X12_build) 155 dX12_build_155 rfl ?_
              refine z_iconst (M := M_X12_build) 157 dX12_build_157 ?_
              refine z_icmp_ne_F (M := M_X12_build) 158 dX12_build_158 165 rfl (by omega) ?_
              refine z_iconst (M := M_X12_build) 161 dX12_build_161 ?_
              refine z_goto (M := M_X12_build) 162 dX12_build_162 166 rfl ?_
              refine z_istore (M := M_X12_build) 166 dX12_build_166 (ls' := [some (mR 108), some (mI a1), some (mI l2), some (mI x4), some (mI x7), some (mI (6 + x7)), some (mI x32), some (mI x33), some (mI ((2 * x32) - 1)), some (mI ((2 * x32) + 1)), some (mI 2)]) (by decide) rfl ?_
              refine z_aload_n (M := M_X12_build) 168 dX12_build_168 rfl ?_
              refine z_bipush (M := M_X12_build) 169 dX12_build_169 ?_
              refine z_iload_n (M := M_X12_build) 171 dX12_build_171 rfl ?_
              refine z_iaddN (M := M_X12_build) 172 dX12_build_172 (by omega) (by omega) ?_
              refine z_iload (M := M_X12_build) 173 dX12_build_173 rfl ?_
              refine z_iload (M := M_X12_build) 175 dX12_build_175 rfl ?_
              refine z_iload (M := M_X12_build) 177 dX12_build_177 rfl ?_
              refine z_iconst (M := M_X12_build) 179 dX12_build_179 ?_
              refine z_vV (M := M_X12_build) 180 dX12_build_180 t_X12_edge l_X12_339 (m_rr_of rfl) (rest := []) (c_X12_edgeX h (12 + x4) (6 + x7) ((2 * x32) - 1) 2 0 G ⟨by omega, by omega⟩ ⟨by omega, by omega⟩ ⟨by omega, by omega⟩ ⟨by omega, by omega⟩ ⟨by omega, by omega⟩ (le_e t_108_21 (by omega))) o_108 rfl rfl rfl (Nat.le_of_ble_eq_true rfl) ⟨rfl, rfl⟩ (fun h27 qx40 => ?_)
              obtain ⟨G27, S27, fx40_0, fx40_1⟩ := qx40
              have R27 := R.call S27 (by decide +kernel)
              refine z_aload_n (M := M_X12_build) 183 dX12_build_183 rfl ?_
              refine z_iload (M := M_X12_build) 184 dX12_build_184 rfl ?_
              refine z_bipush (M := M_X12_build) 186 dX12_build_186 ?_
              refine z_iload_n (M := M_X12_build) 188 dX12_build_188 rfl ?_
              refine z_iaddN (M := M_X12_build) 189 dX12_build_189 (by omega) (by omega) ?_
              refine z_iload (M := M_X12_build) 190 dX12_build_190 rfl ?_
              refine z_iload (M := M_X12_build) 192 dX12_build_192 rfl ?_
              refine z_iload (M := M_X12_build) 194 dX12_build_194 rfl ?_
              refine z_if_le_F (M := M_X12_build) 196 dX12_build_196 203 rfl (by omega) ?_
              refine z_iconst (M := M_X12_build) 199 dX12_build_199 ?_
              refine z_goto (M := M_X12_build) 200 dX12_build_200 204 rfl ?_
              refine z_vV (M := M_X12_build) 204 dX12_build_204 t_X12_edge l_X12_339 (m_rr_of rfl) (rest := []) (c_X12_edgeX h27 (6 + x7) (12 + x4) 2 ((2 * x32) + 1) 1 G27 ⟨by omega, by omega⟩ ⟨by omega, by omega⟩ ⟨by omega, by omega⟩ ⟨by omega, by omega⟩ ⟨by omega, by omega⟩ (le_e (eq_ad fx40_0 t_108_21) (by omega))) o_108 rfl rfl rfl (Nat.le_of_ble_eq_true rfl) ⟨rfl, rfl⟩ (fun h28 qx41 => ?_)
              obtain ⟨G28, S28, fx41_0, fx41_1⟩ := qx41
              have R28 := R27.call S28 (by decide +kernel)
              refine z_iincN (M := M_X12_build) 207 dX12_build_207 (ls' := [some (mR 108), some (mI a1), some (mI (l2 + 1)), some (mI x4), some (mI x7), some (mI (6 + x7)), some (mI x32), some (mI x33), some (mI ((2 * x32) - 1)), some (mI ((2 * x32) + 1)), some (mI 2)]) (by decide) rfl (by (unfold m_32; decide)) (by omega) (by omega) rfl ?_
              refine z_goto (M := M_X12_build) 210 dX12_build_210 7 rfl ?_
              exact z_mask [true, true, true, false, false, false, false, false, false, false, false] rfl (ih.1 (l2 + 1) ((y_108_21 + 1) + 1) h28 G28 R28 (by omega) (by omega) (by omega) (by omega) (by omega) (by omega) (eq_ad fx41_0 (eq_ad fx40_0 t_108_21)) (b_ent2 (by omega) i0 (by omega) (by omega) fx40_1 fx41_1 ((eR_of (by omega) ((R 110 _ rfl).symm.trans fx3) ((R 110 _ rfl).symm.trans fx7) ((R 122 _ rfl).symm.trans ex4) ((R 123 _ rfl).symm.trans ex8) ((R 110 _ rfl).symm.trans fx32) ((R 110 _ rfl).symm.trans fx33)).trans (eOf_yes cx5 (by omega) (by split <;> omega) (by split <;> omega) (by split <;> omega) (by split <;> (try split) <;> omega) (by split <;> omega)))) (by have r0 := R 110 (0 : Int).toNat rfl; omega) (by omega) (by omega))
    · refine z_if_eq_T (M := M_X12_build) 34 dX12_build_34 207 rfl (by omega) ?_
      refine z_iincN (M := M_X12_build) 207 dX12_build_207 (ls' := [some (mR 108), some (mI a1), some (mI (l2 + 1)), some (mI x4), none, none, none, none, none, none, none]) (by decide) rfl (by (unfold m_32; decide)) (by omega) (by omega) rfl ?_
      refine z_goto (M := M_X12_build) 210 dX12_build_210 7 rfl ?_
      exact z_mask [true, true, true, false, false, false, false, false, false, false, false] rfl (ih.1 (l2 + 1) y_108_21 h G R (by omega) (by omega) (by omega) (by omega) (by omega) (by omega) t_108_21 (b_ent0 (by omega) i0 (eR_no (by omega) ((R 110 _ rfl).symm.trans fx3) ((R 122 _ rfl).symm.trans ex4) (fun w => cx5 w.1))) (by have r0 := R 110 (0 : Int).toNat rfl; omega) (by omega) (by omega))
set_option maxHeartbeats 4000000 in
set_option maxRecDepth 100000 in
theorem s_X12_build_215 (h0 : m_H) (a1 : Int) (G0 : GI h0) (hN : NP h0) (n : Nat) (ih : q_X12_build h0 a1 n) : ∀ (l2 y_108_21 : Int) (h : m_H), GI h → FR [117, 118, 119, 120, 121] [(108, 21)] h0 h → 0 ≤ l2 → l2 ≤ 6 → 0 ≤ y_108_21 → y_108_21 ≤ 60 → (-2147483648) ≤ a1 → a1 ≤ 2147483647 → (h 108 21 = y_108_21) → (AR h (eA (h0 110) (h0 122) (h0 123) a1 (h0 110 0).toNat ++ sA (h0 110) l2.toNat)) → (l2 ≤ h0 110 (1 : Int).toNat) → (y_108_21 ≤ 48 + l2) → 2 * (6 - l2) + (16) ≤ ((n + 1 : Nat) : Int) → m_Z oF M_X12_build 215 [some (mR 108), none, some (mI l2), none, none, none, none, none, none, none, none] [] h (m_QV (P_X12_build h0 a1)) := by
  intro l2 y_108_21 h G R v0 v1 v2 v3 v4 v5 t_108_21 i0 i1 i2 hr
  refine z_iload_n (M := M_X12_build) 215 dX12_build_215 rfl ?_
  refine z_aload_n (M := M_X12_build) 216 dX12_build_216 rfl ?_
  refine z_getR (M := M_X12_build) 217 dX12_build_217 f_X12_13 o_108 rfl (g_108_3 G) ?_
  refine z_iconst (M := M_X12_build) 220 dX12_build_220 ?_
  refine z_ialdG (M := M_X12_build) 221 dX12_build_221 o_110 (by omega) (by omega) (gw_1 G) (fun x1 ex1 ax1 bx1 => ?_)
  refine z_icmp_ge (M := M_X12_build) 222 dX12_build_222 268 rfl (fun c2 => ?_) (fun c2 => ?_)
  · refine z_iconst (M := M_X12_build) 268 dX12_build_268 ?_
    refine z_istore_n (M := M_X12_build) 269 dX12_build_269 (ls' := [some (mR 108), none, some (mI 0), none, none, none, none, none, none, none, none]) (by decide) rfl ?_
    exact z_mask [true, false, true, false, false, false, false, false, false, false, false] rfl (ih.2.2 0 y_108_21 h G R (by omega) (by omega) (by omega) (by omega) (by omega) (by omega) t_108_21 (b_end2 i0 ((R 110 _ rfl).symm.trans ex1) (by omega) (by have r1 := R 110 (1 : Int).toNat rfl; omega)) (by have r1 := R 110 (1 : Int).toNat rfl; omega) (by omega))
  · refine z_aload_n (M := M_X12_build) 225 dX12_build_225 rfl ?_
    refine z_bipush (M := M_X12_build) 226 dX12_build_226 ?_
    refine z_aload_n (M := M_X12_build) 228 dX12_build_228 rfl ?_
    refine z_getR (M := M_X12_build) 229 dX12_build_229 f_X12_13 o_108 rfl (g_108_3 G) ?_
    refine z_bipush (M := M_X12_build) 232 dX12_build_232 ?_
    refine z_iconst (M := M_X12_build) 234 dX12_build_234 ?_
    refine z_iload_n (M := M_X12_build) 235 dX12_build_235 rfl ?_
    refine z_imulN (M := M_X12_build) 236 dX12_build_236 (by omega) (by omega) ?_
    refine z_iaddN (M := M_X12_build) 237 dX12_build_237 (by omega) (by omega) ?_
    refine z_ialdG (M := M_X12_build) 238 dX12_build_238 o_110 (by omega) (by omega) (gw_s G (by omega) (by omega)) (fun x3 ex3 ax3 bx3 => ?_)
    refine z_iaddN (M := M_X12_build) 239 dX12_build_239 (by omega) (by omega) ?_
    refine z_bipush (M := M_X12_build) 240 dX12_build_240 ?_
    refine z_aload_n (M := M_X12_build) 242 dX12_build_242 rfl ?_
    refine z_getR (M := M_X12_build) 243 dX12_build_243 f_X12_13 o_108 rfl (g_108_3 G) ?_
    refine z_bipush (M := M_X12_build) 246 dX12_build_246 ?_
    refine z_iconst (M := M_X12_build) 248 dX12_build_248 ?_
    refine z_iload_n (M := M_X12_build) 249 dX12_build_249 rfl ?_
    refine z_imulN (M := M_X12_build) 250 dX12_build_250 (by omega) (by omega) ?_
    refine z_iaddN (M := M_X12_build) 251 dX12_build_251 (by omega) (by omega) ?_
    refine z_iconst (M := M_X12_build) 252 dX12_build_252 ?_
    refine z_iaddN (M := M_X12_build) 253 dX12_build_253 (by omega) (by omega) ?_
    refine z_ialdG (M := M_X12_build) 254 dX12_build_254 o_110 (by omega) (by omega) (gw_s G (by omega) (by omega)) (fun x4 ex4 ax4 bx4 => ?_)
    refine z_iaddN (M := M_X12_build) 255 dX12_build_255 (by omega) (by omega) ?_
    refine z_iconst (M := M_X12_build) 256 dX12_build_256 ?_
    refine z_iconst (M := M_X12_build) 257 dX12_build_257 ?_
    refine z_iconst (M := M_X12_build) 258 dX12_build_258 ?_
    refine z_vV (M := M_X12_build) 259 dX12_build_259 t_X12_edge l_X12_339 (m_rr_of rfl) (rest := []) (c_X12_edgeX h (12 + x3) (12 + x4) 1 1 1 G ⟨by omega, by omega⟩ ⟨by omega, by omega⟩ ⟨by omega, by omega⟩ ⟨by omega, by omega⟩ ⟨by omega, by omega⟩ (le_e t_108_21 (by omega))) o_108 rfl rfl rfl (Nat.le_of_ble_eq_true rfl) ⟨rfl, rfl⟩ (fun h1 qx5 => ?_)
    obtain ⟨G1, S1, fx5_0, fx5_1⟩ := qx5
    have R1 := R.call S1 (by decide +kernel)
    refine z_iincN (M := M_X12_build) 262 dX12_build_262 (ls' := [some (mR 108), none, some (mI (l2 + 1)), none, none, none, none, none, none, none, none]) (by decide) rfl (by (unfold m_32; decide)) (by omega) (by omega) rfl ?_
    refine z_goto (M := M_X12_build) 265 dX12_build_265 215 rfl ?_
    exact z_mask [true, false, true, false, false, false, false, false, false, false, false] rfl (ih.2.1 (l2 + 1) (y_108_21 + 1) h1 G1 R1 (by omega) (by omega) (by omega) (by omega) (by omega) (by omega) (eq_ad fx5_0 t_108_21) (b_sh (by omega) i0 ((R 110 _ rfl).symm.trans ex3) ((R 110 _ rfl).symm.trans ex4) (by omega) (by omega) fx5_1) (by have r1 := R 110 (1 : Int).toNat rfl; omega) (by omega) (by omega))
set_option maxHeartbeats 4000000 in
set_option maxRecDepth 100000 in
theorem s_X12_build_270 (h0 : m_H) (a1 : Int) (G0 : GI h0) (hN : NP h0) (n : Nat) (ih : q_X12_build h0 a1 n) : ∀ (l2 y_108_21 : Int) (h : m_H), GI h → FR [117, 118, 119, 120, 121] [(108, 21)] h0 h → 0 ≤ l2 → l2 ≤ 6 → 0 ≤ y_108_21 → y_108_21 ≤ 60 → (-2147483648) ≤ a1 → a1 ≤ 2147483647 → (h 108 21 = y_108_21) → (AR h (eA (h0 110) (h0 122) (h0 123) a1 (h0 110 0).toNat ++ sA (h0 110) (h0 110 1).toNat ++ cA (h0 123) l2.toNat)) → (y_108_21 ≤ 54 + l2) → 2 * (6 - l2) + (1) ≤ ((n + 1 : Nat) : Int) → m_Z oF M_X12_build 270 [some (mR 108), none, some (mI l2), none, none, none, none, none, none, none, none] [] h (m_QV (P_X12_build h0 a1)) := by
  intro l2 y_108_21 h G R v0 v1 v2 v3 v4 v5 t_108_21 i0 i1 hr
  refine z_iload_n (M := M_X12_build) 270 dX12_build_270 rfl ?_
  refine z_bipush (M := M_X12_build) 271 dX12_build_271 ?_
  refine z_icmp_ge (M := M_X12_build) 273 dX12_build_273 304 rfl (fun c1 => ?_) (fun c1 => ?_)
  · exact z_retV (M := M_X12_build) 304 dX12_build_304 rfl ⟨G, R, by have q6 : l2 = 6 := (by omega); rw [q6] at i0; exact i0⟩
  · refine z_aload_n (M := M_X12_build) 276 dX12_build_276 rfl ?_
    refine z_getR (M := M_X12_build) 277 dX12_build_277 f_X12_58 o_108 rfl (g_108_28 G) ?_
    refine z_iload_n (M := M_X12_build) 280 dX12_build_280 rfl ?_
    refine z_ialdG (M := M_X12_build) 281 dX12_build_281 o_123 (by omega) (by omega) (g_123 G (by omega)) (fun x2 ex2 ax2 bx2 => ?_)
    refine z_iconst (M := M_X12_build) 282 dX12_build_282 ?_
    refine z_icmp_eq (M := M_X12_build) 283 dX12_build_283 298 rfl (fun c3 => ?_) (fun c3 => ?_)
    · refine z_iincN (M := M_X12_build) 298 dX12_build_298 (ls' := [some (mR 108), none, some (mI (l2 + 1)), none, none, none, none, none, none, none, none]) (by decide) rfl (by (unfold m_32; decide)) (by omega) (by omega) rfl ?_
      refine z_goto (M := M_X12_build) 301 dX12_build_301 270 rfl ?_
      exact z_mask [true, false, true, false, false, false, false, false, false, false, false] rfl (ih.2.2 (l2 + 1) y_108_21 h G R (by omega) (by omega) (by omega) (by omega) (by omega) (by omega) t_108_21 (b_cut0 (by omega) i0 ((R 123 _ rfl).symm.trans ex2) (by omega)) (by omega) (by omega))
    · refine z_aload_n (M := M_X12_build) 286 dX12_build_286 rfl ?_
      refine z_bipush (M := M_X12_build) 287 dX12_build_287 ?_
      refine z_iload_n (M := M_X12_build) 289 dX12_build_289 rfl ?_
      refine z_iaddN (M := M_X12_build) 290 dX12_build_290 (by omega) (by omega) ?_
      refine z_iload_n (M := M_X12_build) 291 dX12_build_291 rfl ?_
      refine z_iconst (M := M_X12_build) 292 dX12_build_292 ?_
      refine z_iconst (M := M_X12_build) 293 dX12_build_293 ?_
      refine z_iconst (M := M_X12_build) 294 dX12_build_294 ?_
      refine z_vV (M := M_X12_build) 295 dX12_build_295 t_X12_edge l_X12_339 (m_rr_of rfl) (rest := []) (c_X12_edgeX h (6 + l2) l2 1 1 0 G ⟨by omega, by omega⟩ ⟨by omega, by omega⟩ ⟨by omega, by omega⟩ ⟨by omega, by omega⟩ ⟨by omega, by omega⟩ (le_e t_108_21 (by omega))) o_108 rfl rfl rfl (Nat.le_of_ble_eq_true rfl) ⟨rfl, rfl⟩ (fun h1 qx4 => ?_)
      obtain ⟨G1, S1, fx4_0, fx4_1⟩ := qx4
      have R1 := R.call S1 (by decide +kernel)
      refine z_iincN (M := M_X12_build) 298 dX12_build_298 (ls' := [some (mR 108), none, some (mI (l2 + 1)), none, none, none, none, none, none, none, none]) (by decide) rfl (by (unfold m_32; decide)) (by omega) (by omega) rfl ?_
      refine z_goto (M := M_X12_build) 301 dX12_build_301 270 rfl ?_
      exact z_mask [true, false, true, false, false, false, false, false, false, false, false] rfl (ih.2.2 (l2 + 1) (y_108_21 + 1) h1 G1 R1 (by omega) (by omega) (by omega) (by omega) (by omega) (by omega) (eq_ad fx4_0 t_108_21) (b_cut1 (by omega) i0 ((R 123 _ rfl).symm.trans ex2) (by omega) fx4_1) (by omega) (by omega))
theorem a_X12_build (h0 : m_H) (a1 : Int) (G0 : GI h0) (hN : NP h0) : ∀ n, q_X12_build h0 a1 n := by
  intro n
  induction n with
  | zero => unfold q_X12_build; refine ⟨?_, ?_, ?_⟩ <;> (intros; omega)
  | succ n ih => exact ⟨s_X12_build_7 h0 a1 G0 hN n ih, s_X12_build_215 h0 a1 G0 hN n ih, s_X12_build_270 h0 a1 G0 hN n ih⟩
set_option maxHeartbeats 4000000 in
set_option maxRecDepth 100000 in
theorem c_X12_build (h0 : m_H) (a1 : Int) (G0 : GI h0) (hN : NP h0) : m_CV M_X12_build [mR 108, mI a1] h0 (P_X12_build h0 a1) := by
  refine m_CV_of ⟨by decide, rfl, by simp [m_arg, m_isL, M_X12_build], ⟨rfl, rfl⟩, rfl, rfl⟩ (ls := [some (mR 108), some (mI a1), none, none, none, none, none, none, none, none, none]) rfl ?_
  have ih := a_X12_build h0 a1 G0 hN 86
  refine z_ok (fun _ _ ok => ?_)
  have oa1 : m_32 a1 := ok 1 _ rfl
  unfold m_32 at oa1
  refine z_aload_n (M := M_X12_build) 0 dX12_build_0 rfl ?_
  refine z_iconst (M := M_X12_build) 1 dX12_build_1 ?_
  refine z_putIH (M := M_X12_build) 2 dX12_build_2 p_X12_333 o_108 rfl (u_108_21 G0 (by omega) (by omega)) ((FR.rf (cs := [117, 118, 119, 120, 121]) (ss := [(108, 21)]) (h := h0)).up rfl) (fun h1 E1 G1 R1 => ?_)
  refine z_iconst (M := M_X12_build) 5 dX12_build_5 ?_
  refine z_istore_n (M := M_X12_build) 6 dX12_build_6 (ls' := [some (mR 108), some (mI a1), some (mI 0), none, none, none, none, none, none, none, none]) (by decide) rfl ?_
  exact z_mask [true, true, true, false, false, false, false, false, false, false, false] rfl (ih.1 0 0 h1 G1 R1 (by omega) (by omega) (by omega) (by omega) (by omega) (by omega) (upE E1) (AR_nil E1) (gw_0 G0).1 (by omega) (by omega))
abbrev P_X12_round (h0 : m_H) (a1 : Int) (L : List gE) : Int → m_H → Prop := fun x h' => GI h' ∧ FR [115, 116, 124, 125, 126, 127, 128, 129, 130, 131, 132, 133] [] h0 h' ∧ 0 ≤ x ∧ x ≤ 1 ∧ (∀ l, l < 16 → aS h' l = (gi a1 (aS h0) L L.length).1 l) ∧ x = (gi a1 (aS h0) L L.length).2
def q_X12_round (h0 : m_H) (a1 : Int) (L : List gE) (n : Nat) : Prop := (∀ (l2 l3 : Int) (h : m_H), GI h → FR [115, 116, 124, 125, 126, 127, 128, 129, 130, 131, 132, 133] [] h0 h → 0 ≤ l2 → l2 ≤ 1 → 0 ≤ l3 → l3 ≤ 61 → (rdI h0 h L a1 l3.toNat l2) → (l3 ≤ h0 108 21) → 16 * (61 - l3) + (15) ≤ (n : Int) → m_Z oF M_X12_round 9 [some (mR 108), some (mI a1), some (mI l2), some (mI l3), none, none, none, none, none] [] h (m_QI (P_X12_round h0 a1 L))) ∧ (∀ (l2 l3 l5 l6 : Int) (h : m_H), GI h → FR [115, 116, 124, 125, 126, 127, 128, 129, 130, 131, 132, 133] [] h0 h → 0 ≤ l2 → l2 ≤ 1 → 0 ≤ l3 → l3 ≤ 59 → 0 ≤ l5 → l5 ≤ 15 → 0 ≤ l6 → l6 ≤ 1 → (rcI h0 h L a1 l3 l2 l5 l6) → (l3 + 1 ≤ h0 108 21) → 16 * (61 - l3) + (14) ≤ (n : Int) → m_Z oF M_X12_round 117 [some (mR 108), some (mI a1), some (mI l2), some (mI l3), none, some (mI l5), some (mI l6), none, none] [] h (m_QI (P_X12_round h0 a1 L))) ∧ (∀ (l3 l5 l6 l8 : Int) (h : m_H), GI h → FR [115, 116, 124, 125, 126, 127, 128, 129, 130, 131, 132, 133] [] h0 h → 0 ≤ l3 → l3 ≤ 60 → 0 ≤ l5 → l5 ≤ 15 → 0 ≤ l6 → l6 ≤ 1 → 0 ≤ l8 → l8 ≤ 5 → (rkI h0 h L a1 l3 l5 l6 l8) → (l3 + 1 ≤ h0 108 21) → 16 * (61 - l3) + 2 * (5 - l8) + (1) ≤ (n : Int) → m_Z oF M_X12_round 186 [some (mR 108), some (mI a1), none, some (mI l3), none, some (mI l5), some (mI l6), none, some (mI l8)] [] h (m_QI (P_X12_round h0 a1 L)))
set_option maxHeartbeats 4000000 in
set_option maxRecDepth 100000 in
theorem s_X12_round_9 (h0 : m_H) (a1 : Int) (L : List gE) (G0 : GI h0) (pa1 : 0 ≤ a1 ∧ a1 ≤ 1) (hA : AR h0 L) (hE : ∀ q ∈ L, gEo q) (n : Nat) (ih : q_X12_round h0 a1 L n) : ∀ (l2 l3 : Int) (h : m_H), GI h → FR [115, 116, 124, 125, 126, 127, 128, 129, 130, 131, 132, 133] [] h0 h → 0 ≤ l2 → l2 ≤ 1 → 0 ≤ l3 → l3 ≤ 61 → (rdI h0 h L a1 l3.toNat l2) → (l3 ≤ h0 108 21) → 16 * (61 - l3) + (15) ≤ ((n + 1 : Nat) : Int) → m_Z oF M_X12_round 9 [some (mR 108), some (mI a1), some (mI l2), some (mI l3), none, none, none, none, none] [] h (m_QI (P_X12_round h0 a1 L)) := by
  intro l2 l3 h G R v0 v1 v2 v3 i0 i1 hr
  refine z_iload_n (M := M_X12_round) 9 dX12_round_9 rfl ?_
  refine z_aload_n (M := M_X12_round) 10 dX12_round_10 rfl ?_
  refine z_getIG (M := M_X12_round) 11 dX12_round_11 f_X12_333 o_108 (by decide) (g_108_21 G) (fun x1 ex1 ax1 bx1 => ?_)
  refine z_icmp_ge (M := M_X12_round) 14 dX12_round_14 261 rfl (fun c2 => ?_) (fun c2 => ?_)
  · refine z_aload_n (M := M_X12_round) 261 dX12_round_261 rfl ?_
    refine z_iconst (M := M_X12_round) 262 dX12_round_262 ?_
    refine z_vV (M := M_X12_round) 263 dX12_round_263 t_X12_keep l_X12_343 (m_rr_of rfl) (rest := []) (c_X12_keep1 h 1 G ⟨by omega, by omega⟩) o_108 rfl rfl rfl (Nat.le_of_ble_eq_true rfl) ⟨rfl, rfl⟩ (fun h1 qx3 => ?_)
    obtain ⟨G1, S1, fx3_0⟩ := qx3
    have R1 := R.call S1 (by decide +kernel)
    refine z_iload_n (M := M_X12_round) 266 dX12_round_266 rfl ?_
    exact z_retZ (M := M_X12_round) 267 dX12_round_267 rfl (by omega) ⟨G1, R1, by omega, by omega, (rd_end i0 (hA.call R rfl (fun _ => rfl) (fun _ => rfl) (fun _ => rfl) (fun _ => rfl) (fun _ => rfl)) ex1 (by omega) (by have r1 := R 108 21 rfl; omega) fx3_0).1, (rd_end i0 (hA.call R rfl (fun _ => rfl) (fun _ => rfl) (fun _ => rfl) (fun _ => rfl) (fun _ => rfl)) ex1 (by omega) (by have r1 := R 108 21 rfl; omega) fx3_0).2⟩
  · refine z_aload_n (M := M_X12_round) 17 dX12_round_17 rfl ?_
    refine z_getR (M := M_X12_round) 18 dX12_round_18 f_X12_40 o_108 rfl (g_108_22 G) ?_
    refine z_iload_n (M := M_X12_round) 21 dX12_round_21 rfl ?_
    refine z_ialdG (M := M_X12_round) 22 dX12_round_22 o_117 (by omega) (by omega) (g_117 G (by omega)) (fun x4 ex4 ax4 bx4 => ?_)
    refine z_istore (M := M_X12_round) 23 dX12_round_23 (ls' := [some (mR 108), some (mI a1), some (mI l2), some (mI l3), some (mI x4), none, none, none, none]) (by decide) rfl ?_
    refine z_aload_n (M := M_X12_round) 25 dX12_round_25 rfl ?_
    refine z_getR (M := M_X12_round) 26 dX12_round_26 f_X12_43 o_108 rfl (g_108_23 G) ?_
    refine z_iload_n (M := M_X12_round) 29 dX12_round_29 rfl ?_
    refine z_ialdG (M := M_X12_round) 30 dX12_round_30 o_118 (by omega) (by omega) (g_118 G (by omega)) (fun x5 ex5 ax5 bx5 => ?_)
    refine z_istore (M := M_X12_round) 31 dX12_round_31 (ls' := [some (mR 108), some (mI a1), some (mI l2), some (mI l3), some (mI x4), some (mI x5), none, none, none]) (by decide) rfl ?_
    refine z_aload_n (M := M_X12_round) 33 dX12_round_33 rfl ?_
    refine z_getR (M := M_X12_round) 34 dX12_round_34 f_X12_70 o_108 rfl (g_108_32 G) ?_
    refine z_iload (M := M_X12_round) 37 dX12_round_37 rfl ?_
    refine z_zaldG (M := M_X12_round) 39 dX12_round_39 o_127 (by omega) (by omega) (g_127 G (by omega)) (fun x6 ex6 ax6 bx6 => ?_)
    refine z_if_eq (M := M_X12_round) 40 dX12_round_40 255 rfl (fun c7 => ?_) (fun c7 => ?_)
    · refine z_iincN (M := M_X12_round) 255 dX12_round_255 (ls' := [some (mR 108), some (mI a1), some (mI l2), some (mI (l3 + 1)), some (mI x4), some (mI x5), none, none, none]) (by decide) rfl (by (unfold m_32; decide)) (by omega) (by omega) rfl ?_
      refine z_goto (M := M_X12_round) 258 dX12_round_258 9 rfl ?_
      exact z_mask [true, true, true, true, false, false, false, false, false] rfl (ih.1 l2 (l3 + 1) h G R (by omega) (by omega) (by omega) (by omega) (rd_skipA hE (hA.call R rfl (fun _ => rfl) (fun _ => rfl) (fun _ => rfl) (fun _ => rfl) (fun _ => rfl)) (by omega) i0 ex1 (by omega) ex4 ex6 (by omega)) (by have r1 := R 108 21 rfl; omega) (by omega))
    · refine z_aload_n (M := M_X12_round) 43 dX12_round_43 rfl ?_
      refine z_getR (M := M_X12_round) 44 dX12_round_44 f_X12_85 o_108 rfl (g_108_37 G) ?_
      refine z_iconst (M := M_X12_round) 47 dX12_round_47 ?_
      refine z_aload_n (M := M_X12_round) 48 dX12_round_48 rfl ?_
      refine z_getR (M := M_X12_round) 49 dX12_round_49 f_X12_61 o_108 rfl (g_108_29 G) ?_
      refine z_iconst (M := M_X12_round) 52 dX12_round_52 ?_
      refine z_iload (M := M_X12_round) 53 dX12_round_53 rfl ?_
      refine z_imulN (M := M_X12_round) 55 dX12_round_55 (by omega) (by omega) ?_
      refine z_aload_n (M := M_X12_round) 56 dX12_round_56 rfl ?_
      refine z_getR (M := M_X12_round) 57 dX12_round_57 f_X12_46 o_108 rfl (g_108_24 G) ?_
      refine z_iload_n (M := M_X12_round) 60 dX12_round_60 rfl ?_
      refine z_ialdG (M := M_X12_round) 61 dX12_round_61 o_119 (by omega) (by omega) (g_119 G (by omega)) (fun x8 ex8 ax8 bx8 => ?_)
      refine z_sV (M := M_X12_round) 62 dX12_round_62 t_X12_times l_X12_346 (m_rr_of rfl) (rest := []) (c_X12_timesU h 0 (5 * x4) x8 G ⟨by omega, by omega⟩ ⟨by omega, by omega⟩ ⟨by omega, by omega⟩) rfl rfl (Nat.le_of_ble_eq_true rfl) ⟨rfl, rfl⟩ (fun h2 qx9 => ?_)
      obtain ⟨G2, S2, fx9_0⟩ := qx9
      have R2 := R.call S2 (by decide +kernel)
      refine z_aload_n (M := M_X12_round) 65 dX12_round_65 rfl ?_
      refine z_getR (M := M_X12_round) 66 dX12_round_66 f_X12_88 o_108 rfl (g_108_38 G2) ?_
      refine z_iconst (M := M_X12_round) 69 dX12_round_69 ?_
      refine z_aload_n (M := M_X12_round) 70 dX12_round_70 rfl ?_
      refine z_getR (M := M_X12_round) 71 dX12_round_71 f_X12_64 o_108 rfl (g_108_30 G2) ?_
      refine z_iconst (M := M_X12_round) 74 dX12_round_74 ?_
      refine z_iload (M := M_X12_round) 75 dX12_round_75 rfl ?_
      refine z_imulN (M := M_X12_round) 77 dX12_round_77 (by omega) (by omega) ?_
      refine z_aload_n (M := M_X12_round) 78 dX12_round_78 rfl ?_
      refine z_getR (M := M_X12_round) 79 dX12_round_79 f_X12_49 o_108 rfl (g_108_25 G2) ?_
      refine z_iload_n (M := M_X12_round) 82 dX12_round_82 rfl ?_
      refine z_ialdG (M := M_X12_round) 83 dX12_round_83 o_120 (by omega) (by omega) (g_120 G2 (by omega)) (fun x10 ex10 ax10 bx10 => ?_)
      refine z_sV (M := M_X12_round) 84 dX12_round_84 t_X12_times l_X12_346 (m_rr_of rfl) (rest := []) (c_X12_timesL h2 0 (5 * x4) x10 G2 ⟨by omega, by omega⟩ ⟨by omega, by omega⟩ ⟨by omega, by omega⟩) rfl rfl (Nat.le_of_ble_eq_true rfl) ⟨rfl, rfl⟩ (fun h3 qx11 => ?_)
      obtain ⟨G3, S3, fx11_0⟩ := qx11
      have R3 := R2.call S3 (by decide +kernel)
      refine z_iload_n (M := M_X12_round) 87 dX12_round_87 rfl ?_
      refine z_if_eq (M := M_X12_round) 88 dX12_round_88 114 rfl (fun c12 => ?_) (fun c12 => ?_)
      · refine z_iconst (M := M_X12_round) 114 dX12_round_114 ?_
        refine z_istore (M := M_X12_round) 115 dX12_round_115 (ls' := [some (mR 108), some (mI a1), some (mI l2), some (mI l3), some (mI x4), some (mI x5), some (mI 0), none, none]) (by decide) rfl ?_
        exact z_mask [true, true, true, true, false, true, true, false, false] rfl (ih.2.1 l2 l3 x5 0 h3 G3 R3 (by omega) (by omega) (by omega) (by omega) (by omega) (by omega) (by omega) (by omega) (rc_of hE (hA.call R rfl (fun _ => rfl) (fun _ => rfl) (fun _ => rfl) (fun _ => rfl) (fun _ => rfl)) (by omega) i0 ex1 (by omega) ex4 ex5 ex6 (by omega) ex8 S2 fx9_0 ex10 S3 fx11_0 (by have s1 := (S3 126 x4.toNat rfl).trans (S2 126 x4.toNat rfl); have s2 := (S3 121 l3.toNat rfl).trans (S2 121 l3.toNat rfl); split <;> omega)) (by have r1 := R 108 21 rfl; omega) (by omega))
      · refine z_aload_n (M := M_X12_round) 91 dX12_round_91 rfl ?_
        refine z_getR (M := M_X12_round) 92 dX12_round_92 f_X12_67 o_108 rfl (g_108_31 G3) ?_
        refine z_iload (M := M_X12_round) 95 dX12_round_95 rfl ?_
        refine z_zaldG (M := M_X12_round) 97 dX12_round_97 o_126 (by omega) (by omega) (g_126 G3 (by omega)) (fun x13 ex13 ax13 bx13 => ?_)
        refine z_if_ne (M := M_X12_round) 98 dX12_round_98 110 rfl (fun c14 => ?_) (fun c14 => ?_)
        · refine z_iconst (M := M_X12_round) 110 dX12_round_110 ?_
          refine z_goto (M := M_X12_round) 111 dX12_round_111 115 rfl ?_
          refine z_istore (M := M_X12_round) 115 dX12_round_115 (ls' := [some (mR 108), some (mI a1), some (mI l2), some (mI l3), some (mI x4), some (mI x5), some (mI 1), none, none]) (by decide) rfl ?_
          exact z_mask [true, true, true, true, false, true, true, false, false] rfl (ih.2.1 l2 l3 x5 1 h3 G3 R3 (by omega) (by omega) (by omega) (by omega) (by omega) (by omega) (by omega) (by omega) (rc_of hE (hA.call R rfl (fun _ => rfl) (fun _ => rfl) (fun _ => rfl) (fun _ => rfl) (fun _ => rfl)) (by omega) i0 ex1 (by omega) ex4 ex5 ex6 (by omega) ex8 S2 fx9_0 ex10 S3 fx11_0 (by have s1 := (S3 126 x4.toNat rfl).trans (S2 126 x4.toNat rfl); have s2 := (S3 121 l3.toNat rfl).trans (S2 121 l3.toNat rfl); split <;> omega)) (by have r1 := R 108 21 rfl; omega) (by omega))
        · refine z_aload_n (M := M_X12_round) 101 dX12_round_101 rfl ?_
          refine z_getR (M := M_X12_round) 102 dX12_round_102 f_X12_52 o_108 rfl (g_108_26 G3) ?_
          refine z_iload_n (M := M_X12_round) 105 dX12_round_105 rfl ?_
          refine z_zaldG (M := M_X12_round) 106 dX12_round_106 o_121 (by omega) (by omega) (g_121 G3 (by omega)) (fun x15 ex15 ax15 bx15 => ?_)
          refine z_if_eq (M := M_X12_round) 107 dX12_round_107 114 rfl (fun c16 => ?_) (fun c16 => ?_)
          · refine z_iconst (M := M_X12_round) 114 dX12_round_114 ?_
            refine z_istore (M := M_X12_round) 115 dX12_round_115 (ls' := [some (mR 108), some (mI a1), some (mI l2), some (mI l3), some (mI x4), some (mI x5), some (mI 0), none, none]) (by decide) rfl ?_
            exact z_mask [true, true, true, true, false, true, true, false, false] rfl (ih.2.1 l2 l3 x5 0 h3 G3 R3 (by omega) (by omega) (by omega) (by omega) (by omega) (by omega) (by omega) (by omega) (rc_of hE (hA.call R rfl (fun _ => rfl) (fun _ => rfl) (fun _ => rfl) (fun _ => rfl) (fun _ => rfl)) (by omega) i0 ex1 (by omega) ex4 ex5 ex6 (by omega) ex8 S2 fx9_0 ex10 S3 fx11_0 (by have s1 := (S3 126 x4.toNat rfl).trans (S2 126 x4.toNat rfl); have s2 := (S3 121 l3.toNat rfl).trans (S2 121 l3.toNat rfl); split <;> omega)) (by have r1 := R 108 21 rfl; omega) (by omega))
          · refine z_iconst (M := M_X12_round) 110 dX12_round_110 ?_
            refine z_goto (M := M_X12_round) 111 dX12_round_111 115 rfl ?_
            refine z_istore (M := M_X12_round) 115 dX12_round_115 (ls' := [some (mR 108), some (mI a1), some (mI l2), some (mI l3), some (mI x4), some (mI x5), some (mI 1), none, none]) (by decide) rfl ?_
            exact z_mask [true, true, true, true, false, true, true, false, false] rfl (ih.2.1 l2 l3 x5 1 h3 G3 R3 (by omega) (by omega) (by omega) (by omega) (by omega) (by omega) (by omega) (by omega) (rc_of hE (hA.call R rfl (fun _ => rfl) (fun _ => rfl) (fun _ => rfl) (fun _ => rfl) (fun _ => rfl)) (by omega) i0 ex1 (by omega) ex4 ex5 ex6 (by omega) ex8 S2 fx9_0 ex10 S3 fx11_0 (by have s1 := (S3 126 x4.toNat rfl).trans (S2 126 x4.toNat rfl); have s2 := (S3 121 l3.toNat rfl).trans (S2 121 l3.toNat rfl); split <;> omega)) (by have r1 := R 108 21 rfl; omega) (by omega))
set_option maxHeartbeats 4000000 in
set_option maxRecDepth 100000 in
theorem s_X12_round_117 (h0 : m_H) (a1 : Int) (L : List gE) (G0 : GI h0) (pa1 : 0 ≤ a1 ∧ a1 ≤ 1) (hA : AR h0 L) (hE : ∀ q ∈ L, gEo q) (n : Nat) (ih : q_X12_round h0 a1 L n) : ∀ (l2 l3 l5 l6 : Int) (h : m_H), GI h → FR [115, 116, 124, 125, 126, 127, 128, 129, 130, 131, 132, 133] [] h0 h → 0 ≤ l2 → l2 ≤ 1 → 0 ≤ l3 → l3 ≤ 59 → 0 ≤ l5 → l5 ≤ 15 → 0 ≤ l6 → l6 ≤ 1 → (rcI h0 h L a1 l3 l2 l5 l6) → (l3 + 1 ≤ h0 108 21) → 16 * (61 - l3) + (14) ≤ ((n + 1 : Nat) : Int) → m_Z oF M_X12_round 117 [some (mR 108), some (mI a1), some (mI l2), some (mI l3), none, some (mI l5), some (mI l6), none, none] [] h (m_QI (P_X12_round h0 a1 L)) := by
  intro l2 l3 l5 l6 h G R v0 v1 v2 v3 v4 v5 v6 v7 i0 i1 hr
  refine z_aload_n (M := M_X12_round) 117 dX12_round_117 rfl ?_
  refine z_getR (M := M_X12_round) 118 dX12_round_118 f_X12_82 o_108 rfl (g_108_36 G) ?_
  refine z_iload (M := M_X12_round) 121 dX12_round_121 rfl ?_
  refine z_zaldG (M := M_X12_round) 123 dX12_round_123 o_131 (by omega) (by omega) (g_131 G (by omega)) (fun x1 ex1 ax1 bx1 => ?_)
  refine z_if_eq (M := M_X12_round) 124 dX12_round_124 155 rfl (fun c2 => ?_) (fun c2 => ?_)
  · refine z_iconst (M := M_X12_round) 155 dX12_round_155 ?_
    refine z_istore (M := M_X12_round) 156 dX12_round_156 (ls' := [some (mR 108), some (mI a1), some (mI l2), some (mI l3), none, some (mI l5), some (mI l6), some (mI 1), none]) (by decide) rfl ?_
    refine z_iload (M := M_X12_round) 158 dX12_round_158 rfl ?_
    refine z_if_gt_T (M := M_X12_round) 160 dX12_round_160 183 rfl (by omega) ?_
    refine z_iconst (M := M_X12_round) 183 dX12_round_183 ?_
    refine z_istore (M := M_X12_round) 184 dX12_round_184 (ls' := [some (mR 108), some (mI a1), some (mI l2), some (mI l3), none, some (mI l5), some (mI l6), some (mI 1), some (mI 0)]) (by decide) rfl ?_
    exact z_mask [true, true, false, true, false, true, true, false, true] rfl (ih.2.2 l3 l5 l6 0 h G R (by omega) (by omega) (by omega) (by omega) (by omega) (by omega) (by omega) (by omega) (rk_0 i0 (gbH_a ex1 (by omega))) i1 (by omega))
  · refine z_aload_n (M := M_X12_round) 127 dX12_round_127 rfl ?_
    refine z_aload_n (M := M_X12_round) 128 dX12_round_128 rfl ?_
    refine z_getR (M := M_X12_round) 129 dX12_round_129 f_X12_85 o_108 rfl (g_108_37 G) ?_
    refine z_aload_n (M := M_X12_round) 132 dX12_round_132 rfl ?_
    refine z_getR (M := M_X12_round) 133 dX12_round_133 f_X12_88 o_108 rfl (g_108_38 G) ?_
    refine z_iconst (M := M_X12_round) 136 dX12_round_136 ?_
    refine z_aload_n (M := M_X12_round) 137 dX12_round_137 rfl ?_
    refine z_getR (M := M_X12_round) 138 dX12_round_138 f_X12_73 o_108 rfl (g_108_33 G) ?_
    refine z_aload_n (M := M_X12_round) 141 dX12_round_141 rfl ?_
    refine z_getR (M := M_X12_round) 142 dX12_round_142 f_X12_76 o_108 rfl (g_108_34 G) ?_
    refine z_iconst (M := M_X12_round) 145 dX12_round_145 ?_
    refine z_iload (M := M_X12_round) 146 dX12_round_146 rfl ?_
    refine z_imulN (M := M_X12_round) 148 dX12_round_148 (by omega) (by omega) ?_
    refine z_vI (M := M_X12_round) 149 dX12_round_149 t_X12_compare l_X12_350 (m_rr_of rfl) (rest := []) (c_X12_compareA h 0 (5 * l5) G ⟨by omega, by omega⟩ ⟨by omega, by omega⟩) o_108 rfl rfl rfl (Nat.le_of_ble_eq_true rfl) ⟨rfl, rfl⟩ (fun x3 h1 qx3 => ?_)
    obtain ⟨G1, S1, ax3, bx3, fx3_0⟩ := qx3
    have R1 := R.call S1 (by decide +kernel)
    refine z_goto (M := M_X12_round) 152 dX12_round_152 156 rfl ?_
    refine z_istore (M := M_X12_round) 156 dX12_round_156 (ls' := [some (mR 108), some (mI a1), some (mI l2), some (mI l3), none, some (mI l5), some (mI l6), some (mI x3), none]) (by decide) rfl ?_
    refine z_iload (M := M_X12_round) 158 dX12_round_158 rfl ?_
    refine z_if_gt (M := M_X12_round) 160 dX12_round_160 183 rfl (fun c4 => ?_) (fun c4 => ?_)
    · refine z_iconst (M := M_X12_round) 183 dX12_round_183 ?_
      refine z_istore (M := M_X12_round) 184 dX12_round_184 (ls' := [some (mR 108), some (mI a1), some (mI l2), some (mI l3), none, some (mI l5), some (mI l6), some (mI x3), some (mI 0)]) (by decide) rfl ?_
      exact z_mask [true, true, false, true, false, true, true, false, true] rfl (ih.2.2 l3 l5 l6 0 h1 G1 R1 (by omega) (by omega) (by omega) (by omega) (by omega) (by omega) (by omega) (by omega) (rk_0 (i0.call S1) ((gbH_b (by omega) rfl fx3_0 (by omega)).call S1)) i1 (by omega))
    · refine z_iload (M := M_X12_round) 163 dX12_round_163 rfl ?_
      refine z_if_ne (M := M_X12_round) 165 dX12_round_165 255 rfl (fun c5 => ?_) (fun c5 => ?_)
      · refine z_iincN (M := M_X12_round) 255 dX12_round_255 (ls' := [some (mR 108), some (mI a1), some (mI l2), some (mI (l3 + 1)), none, some (mI l5), some (mI l6), some (mI x3), none]) (by decide) rfl (by (unfold m_32; decide)) (by omega) (by omega) rfl ?_
        refine z_goto (M := M_X12_round) 258 dX12_round_258 9 rfl ?_
        exact z_mask [true, true, true, true, false, false, false, false, false] rfl (ih.1 l2 (l3 + 1) h1 G1 R1 (by omega) (by omega) (by omega) (by omega) ((rc_skip (by omega) i0 (ngb_d (by omega) rfl ex1 (by omega) fx3_0 (by omega))).call S1 (fun _ => rfl) (fun _ => rfl) (fun _ => rfl) (fun _ => rfl) (fun _ => rfl) (fun _ => rfl) (fun _ => rfl) (fun _ => rfl)) i1 (by omega))
      · refine z_iload (M := M_X12_round) 168 dX12_round_168 rfl ?_
        refine z_if_eq (M := M_X12_round) 170 dX12_round_170 255 rfl (fun c6 => ?_) (fun c6 => ?_)
        · refine z_iincN (M := M_X12_round) 255 dX12_round_255 (ls' := [some (mR 108), some (mI a1), some (mI l2), some (mI (l3 + 1)), none, some (mI l5), some (mI l6), some (mI x3), none]) (by decide) rfl (by (unfold m_32; decide)) (by omega) (by omega) rfl ?_
          refine z_goto (M := M_X12_round) 258 dX12_round_258 9 rfl ?_
          exact z_mask [true, true, true, true, false, false, false, false, false] rfl (ih.1 l2 (l3 + 1) h1 G1 R1 (by omega) (by omega) (by omega) (by omega) ((rc_skip (by omega) i0 (ngb_e (by omega) rfl ex1 (by omega) fx3_0 (by omega) (Or.inl (by omega)))).call S1 (fun _ => rfl) (fun _ => rfl) (fun _ => rfl) (fun _ => rfl) (fun _ => rfl) (fun _ => rfl) (fun _ => rfl) (fun _ => rfl)) i1 (by omega))
        · refine z_aload_n (M := M_X12_round) 173 dX12_round_173 rfl ?_
          refine z_getR (M := M_X12_round) 174 dX12_round_174 f_X12_79 o_108 rfl (g_108_35 G1) ?_
          refine z_iload (M := M_X12_round) 177 dX12_round_177 rfl ?_
          refine z_zaldG (M := M_X12_round) 179 dX12_round_179 o_130 (by omega) (by omega) (g_130 G1 (by omega)) (fun x7 ex7 ax7 bx7 => ?_)
          refine z_if_ne (M := M_X12_round) 180 dX12_round_180 255 rfl (fun c8 => ?_) (fun c8 => ?_)
          · refine z_iincN (M := M_X12_round) 255 dX12_round_255 (ls' := [some (mR 108), some (mI a1), some (mI l2), some (mI (l3 + 1)), none, some (mI l5), some (mI l6), some (mI x3), none]) (by decide) rfl (by (unfold m_32; decide)) (by omega) (by omega) rfl ?_
            refine z_goto (M := M_X12_round) 258 dX12_round_258 9 rfl ?_
            exact z_mask [true, true, true, true, false, false, false, false, false] rfl (ih.1 l2 (l3 + 1) h1 G1 R1 (by omega) (by omega) (by omega) (by omega) ((rc_skip (by omega) i0 (ngb_e (by omega) rfl ex1 (by omega) fx3_0 (by omega) (Or.inr (((S1 130 _ rfl).symm.trans ex7).trans (by omega))))).call S1 (fun _ => rfl) (fun _ => rfl) (fun _ => rfl) (fun _ => rfl) (fun _ => rfl) (fun _ => rfl) (fun _ => rfl) (fun _ => rfl)) i1 (by omega))
          · refine z_iconst (M := M_X12_round) 183 dX12_round_183 ?_
            refine z_istore (M := M_X12_round) 184 dX12_round_184 (ls' := [some (mR 108), some (mI a1), some (mI l2), some (mI l3), none, some (mI l5), some (mI l6), some (mI x3), some (mI 0)]) (by decide) rfl ?_
            exact z_mask [true, true, false, true, false, true, true, false, true] rfl (ih.2.2 l3 l5 l6 0 h1 G1 R1 (by omega) (by omega) (by omega) (by omega) (by omega) (by omega) (by omega) (by omega) (rk_0 (i0.call S1) ((gbH_c (by omega) rfl fx3_0 (by omega) (by omega) ((S1 130 _ rfl).symm.trans ex7) (by omega)).call S1)) i1 (by omega))
set_option maxHeartbeats 4000000 in
set_option maxRecDepth 100000 in
theorem s_X12_round_186 (h0 : m_H) (a1 : Int) (L : List gE) (G0 : GI h0) (pa1 : 0 ≤ a1 ∧ a1 ≤ 1) (hA : AR h0 L) (hE : ∀ q ∈ L, gEo q) (n : Nat) (ih : q_X12_round h0 a1 L n) : ∀ (l3 l5 l6 l8 : Int) (h : m_H), GI h → FR [115, 116, 124, 125, 126, 127, 128, 129, 130, 131, 132, 133] [] h0 h → 0 ≤ l3 → l3 ≤ 60 → 0 ≤ l5 → l5 ≤ 15 → 0 ≤ l6 → l6 ≤ 1 → 0 ≤ l8 → l8 ≤ 5 → (rkI h0 h L a1 l3 l5 l6 l8) → (l3 + 1 ≤ h0 108 21) → 16 * (61 - l3) + 2 * (5 - l8) + (1) ≤ ((n + 1 : Nat) : Int) → m_Z oF M_X12_round 186 [some (mR 108), some (mI a1), none, some (mI l3), none, some (mI l5), some (mI l6), none, some (mI l8)] [] h (m_QI (P_X12_round h0 a1 L)) := by
  intro l3 l5 l6 l8 h G R v0 v1 v2 v3 v4 v5 v6 v7 i0 i1 hr
  refine z_iload (M := M_X12_round) 186 dX12_round_186 rfl ?_
  refine z_iconst (M := M_X12_round) 188 dX12_round_188 ?_
  refine z_icmp_ge (M := M_X12_round) 189 dX12_round_189 236 rfl (fun c1 => ?_) (fun c1 => ?_)
  · refine z_aload_n (M := M_X12_round) 236 dX12_round_236 rfl ?_
    refine z_getR (M := M_X12_round) 237 dX12_round_237 f_X12_79 o_108 rfl (g_108_35 G) ?_
    refine z_iload (M := M_X12_round) 240 dX12_round_240 rfl ?_
    refine z_iload (M := M_X12_round) 242 dX12_round_242 rfl ?_
    refine z_zastH (M := M_X12_round) 244 dX12_round_244 o_130 (by omega) (by omega) (by omega) (u_130 G (by omega) (by omega)) (R.up rfl) (fun h1 E1 G1 R1 => ?_)
    refine z_aload_n (M := M_X12_round) 245 dX12_round_245 rfl ?_
    refine z_getR (M := M_X12_round) 246 dX12_round_246 f_X12_82 o_108 rfl (g_108_36 G1) ?_
    refine z_iload (M := M_X12_round) 249 dX12_round_249 rfl ?_
    refine z_iconst (M := M_X12_round) 251 dX12_round_251 ?_
    refine z_zastH (M := M_X12_round) 252 dX12_round_252 o_131 (by omega) (by omega) (by omega) (u_131 G1 (by omega) (by omega)) (R1.up rfl) (fun h2 E2 G2 R2 => ?_)
    refine z_iconst (M := M_X12_round) 253 dX12_round_253 ?_
    refine z_istore_n (M := M_X12_round) 254 dX12_round_254 (ls' := [some (mR 108), some (mI a1), some (mI 1), some (mI l3), none, some (mI l5), some (mI l6), none, some (mI l8)]) (by decide) rfl ?_
    refine z_iincN (M := M_X12_round) 255 dX12_round_255 (ls' := [some (mR 108), some (mI a1), some (mI 1), some (mI (l3 + 1)), none, some (mI l5), some (mI l6), none, some (mI l8)]) (by decide) rfl (by (unfold m_32; decide)) (by omega) (by omega) rfl ?_
    refine z_goto (M := M_X12_round) 258 dX12_round_258 9 rfl ?_
    exact z_mask [true, true, true, true, false, false, false, false, false] rfl (ih.1 1 (l3 + 1) h2 G2 R2 (by omega) (by omega) (by omega) (by omega) (rk_end (by omega) (by omega) i0 E1 E2) i1 (by omega))
  · refine z_aload_n (M := M_X12_round) 192 dX12_round_192 rfl ?_
    refine z_getR (M := M_X12_round) 193 dX12_round_193 f_X12_73 o_108 rfl (g_108_33 G) ?_
    refine z_iconst (M := M_X12_round) 196 dX12_round_196 ?_
    refine z_iload (M := M_X12_round) 197 dX12_round_197 rfl ?_
    refine z_imulN (M := M_X12_round) 199 dX12_round_199 (by omega) (by omega) ?_
    refine z_iload (M := M_X12_round) 200 dX12_round_200 rfl ?_
    refine z_iaddN (M := M_X12_round) 202 dX12_round_202 (by omega) (by omega) ?_
    refine z_aload_n (M := M_X12_round) 203 dX12_round_203 rfl ?_
    refine z_getR (M := M_X12_round) 204 dX12_round_204 f_X12_85 o_108 rfl (g_108_37 G) ?_
    refine z_iload (M := M_X12_round) 207 dX12_round_207 rfl ?_
    refine z_laldG (M := M_X12_round) 209 dX12_round_209 o_132 (by omega) (by omega) (g_132 G (by omega)) (fun x2 ex2 ax2 bx2 => ?_)
    refine z_lastH (M := M_X12_round) 210 dX12_round_210 o_128 (by omega) (by omega) (u_128 G (by omega) (by omega)) (R.up rfl) (fun h3 E3 G3 R3 => ?_)
    refine z_aload_n (M := M_X12_round) 211 dX12_round_211 rfl ?_
    refine z_getR (M := M_X12_round) 212 dX12_round_212 f_X12_76 o_108 rfl (g_108_34 G3) ?_
    refine z_iconst (M := M_X12_round) 215 dX12_round_215 ?_
    refine z_iload (M := M_X12_round) 216 dX12_round_216 rfl ?_
    refine z_imulN (M := M_X12_round) 218 dX12_round_218 (by omega) (by omega) ?_
    refine z_iload (M := M_X12_round) 219 dX12_round_219 rfl ?_
    refine z_iaddN (M := M_X12_round) 221 dX12_round_221 (by omega) (by omega) ?_
    refine z_aload_n (M := M_X12_round) 222 dX12_round_222 rfl ?_
    refine z_getR (M := M_X12_round) 223 dX12_round_223 f_X12_88 o_108 rfl (g_108_38 G3) ?_
    refine z_iload (M := M_X12_round) 226 dX12_round_226 rfl ?_
    refine z_laldG (M := M_X12_round) 228 dX12_round_228 o_133 (by omega) (by omega) (g_133 G3 (by omega)) (fun x3 ex3 ax3 bx3 => ?_)
    refine z_lastH (M := M_X12_round) 229 dX12_round_229 o_129 (by omega) (by omega) (u_129 G3 (by omega) (by omega)) (R3.up rfl) (fun h4 E4 G4 R4 => ?_)
    refine z_iincN (M := M_X12_round) 230 dX12_round_230 (ls' := [some (mR 108), some (mI a1), none, some (mI l3), none, some (mI l5), some (mI l6), none, some (mI (l8 + 1))]) (by decide) rfl (by (unfold m_32; decide)) (by omega) (by omega) rfl ?_
    refine z_goto (M := M_X12_round) 233 dX12_round_233 186 rfl ?_
    exact z_mask [true, true, false, true, false, true, true, false, true] rfl (ih.2.2 l3 l5 l6 (l8 + 1) h4 G4 R4 (by omega) (by omega) (by omega) (by omega) (by omega) (by omega) (by omega) (by omega) (rk_step (by omega) (by omega) i0 ex2 E3 ex3 E4) i1 (by omega))
theorem a_X12_round (h0 : m_H) (a1 : Int) (L : List gE) (G0 : GI h0) (pa1 : 0 ≤ a1 ∧ a1 ≤ 1) (hA : AR h0 L) (hE : ∀ q ∈ L, gEo q) : ∀ n, q_X12_round h0 a1 L n := by
  intro n
  induction n with
  | zero => unfold q_X12_round; refine ⟨?_, ?_, ?_⟩ <;> (intros; omega)
  | succ n ih => exact ⟨s_X12_round_9 h0 a1 L G0 pa1 hA hE n ih, s_X12_round_117 h0 a1 L G0 pa1 hA hE n ih, s_X12_round_186 h0 a1 L G0 pa1 hA hE n ih⟩
set_option maxHeartbeats 4000000 in
set_option maxRecDepth 100000 in
theorem c_X12_round (h0 : m_H) (a1 : Int) (L : List gE) (G0 : GI h0) (pa1 : 0 ≤ a1 ∧ a1 ≤ 1) (hA : AR h0 L) (hE : ∀ q ∈ L, gEo q) : m_CI M_X12_round [mR 108, mI a1] h0 (P_X12_round h0 a1 L) := by
  refine m_CI_of ⟨by decide, rfl, by simp [m_arg, m_isL, M_X12_round], ⟨rfl, rfl⟩, rfl, rfl⟩ (ls := [some (mR 108), some (mI a1), none, none, none, none, none, none, none]) rfl ?_
  have ih := a_X12_round h0 a1 L G0 pa1 hA hE 998
  refine z_iconst (M := M_X12_round) 0 dX12_round_0 ?_
  refine z_istore_n (M := M_X12_round) 1 dX12_round_1 (ls' := [some (mR 108), some (mI a1), some (mI 0), none, none, none, none, none, none]) (by decide) rfl ?_
  refine z_aload_n (M := M_X12_round) 2 dX12_round_2 rfl ?_
  refine z_iconst (M := M_X12_round) 3 dX12_round_3 ?_
  refine z_vV (M := M_X12_round) 4 dX12_round_4 t_X12_keep l_X12_343 (m_rr_of rfl) (rest := []) (c_X12_keep0 h0 0 G0 ⟨by omega, by omega⟩) o_108 rfl rfl rfl (Nat.le_of_ble_eq_true rfl) ⟨rfl, rfl⟩ (fun h1 qx1 => ?_)
  obtain ⟨G1, S1, fx1_0⟩ := qx1
  have R1 := (FR.rf (cs := [115, 116, 124, 125, 126, 127, 128, 129, 130, 131, 132, 133]) (ss := []) (h := h0)).call S1 (by decide +kernel)
  refine z_iconst (M := M_X12_round) 7 dX12_round_7 ?_
  refine z_istore_n (M := M_X12_round) 8 dX12_round_8 (ls' := [some (mR 108), some (mI a1), some (mI 0), some (mI 0), none, none, none, none, none]) (by decide) rfl ?_
  exact z_mask [true, true, true, true, false, false, false, false, false] rfl (ih.1 0 0 h1 G1 R1 (by omega) (by omega) (by omega) (by omega) (rd_0 fx1_0) (g_108_21 G0).1 (by omega))
/-! ===== whether it can be ===== -/
def tiP (S : gS) (L : List gE) (e : Int) : Prop := ∃ q, L[e.toNat]? = some q ∧ (gc 0 S q).1.1 * (S q.1.2).1.2 = (S q.1.2).1.1 * (gc 0 S q).1.2
def tiQ (x : Int) (S : gS) (L : List gE) (e : Int) : Prop := x = 1 ↔ tiP S L e
theorem ti_of {h h1 h2 : m_H} {L : List gE} {e n f f2 t u l x z : Int} (hE : ∀ q ∈ L, gEo q) (A : AR h L) (he : 0 ≤ e) (en : h 108 21 = n) (hn : e < n) (ef : h 117 e.toNat = f) (eu : h 119 e.toNat = u) (S1 : FR [132] [] h h1) (T1 : vS (h1 132) 0 5 = (vS (h 124) (5 * f).toNat 5 * u) % gBig) (ef2 : h1 117 e.toNat = f2) (el : h1 120 e.toNat = l) (S2 : FR [133] [] h1 h2) (T2 : vS (h2 133) 0 5 = (vS (h1 125) (5 * f2).toNat 5 * l) % gBig) (et : h2 118 e.toNat = t) (hz : z = 0) (c : cmpQ x (vS (h2 132) z.toNat 5 * vS (h2 125) (5 * t).toNat 5) (vS (h2 124) (5 * t).toNat 5 * vS (h2 133) z.toNat 5)) : x = 0 ↔ tiP (aS h) L e := by
  subst hz
  obtain ⟨q, q1, q2, q3, q4, q5, q6, q7⟩ := AR_at A he en hn
  rw [S1 117 _ rfl] at ef2
  rw [S1 120 _ rfl] at el
  rw [S2 118 _ rfl, S1 118 _ rfl] at et
  have e1 : (5 * f).toNat = 5 * q.1.1 := by omega
  have e2 : (5 * f2).toNat = 5 * q.1.1 := by omega
  have e3 : (5 * t).toNat = 5 * q.1.2 := by omega
  have r1 : h1 125 = h 125 := FR.row S1 (fun _ => rfl)
  have r2 : h2 125 = h 125 := (FR.row S2 (fun _ => rfl)).trans r1
  have r3 : h2 124 = h 124 := (FR.row S2 (fun _ => rfl)).trans (FR.row S1 (fun _ => rfl))
  have r4 : h2 132 = h1 132 := FR.row S2 (fun _ => rfl)
  have n0 : (0 : Int).toNat = 0 := rfl
  rw [n0, r4, T1, T2, r1, r2, r3, e1, e2, e3, ← eu, ← el, q5, q6] at c
  have key : cmpQ x ((gc 0 (aS h) q).1.1 * (aS h q.1.2).1.2) ((aS h q.1.2).1.1 * (gc 0 (aS h) q).1.2) := c
  constructor
  · intro hx
    refine ⟨q, q1, ?_⟩
    rcases key with ⟨a, b⟩ | ⟨a, b⟩ | ⟨a, b⟩
    · omega
    · exact b
    · omega
  · rintro ⟨q', w1, w2⟩
    rw [q1] at w1
    cases w1
    rcases key with ⟨a, b⟩ | ⟨a, b⟩ | ⟨a, b⟩
    · exact absurd w2 (Int.ne_of_lt b)
    · exact a
    · exact absurd w2.symm (Int.ne_of_lt b)
theorem tiQ_1 {x y : Int} {S : gS} {L : List gE} {e : Int} (h : x = 0 ↔ tiP S L e) (hx : x = 0) (hy : y = 1) : tiQ y S L e := ⟨fun _ => h.mp hx, fun _ => hy⟩
theorem tiQ_0 {x y : Int} {S : gS} {L : List gE} {e : Int} (h : x = 0 ↔ tiP S L e) (hx : x ≠ 0) (hy : y = 0) : tiQ y S L e := ⟨fun q => by omega, fun q => absurd (h.mpr q) hx⟩
def gst (S : gS) (L : List gE) : Prop := ∀ e ∈ L, (S e.1.1).1.1 * e.2.1 * (S e.1.2).1.2 ≤ (S e.1.2).1.1 * ((S e.1.1).1.2 * e.2.2.1)
def cbI (h : m_H) (L : List gE) (k m : Int) : Prop := AR h L ∧ gM (199 ^ k.toNat) (aS h) ∧ (m = 0 → gM (199 ^ 16) (aS h) ∧ gst (aS h) L)
theorem p199 {k : Nat} (hk : k ≤ 16) : (199 : Int) ^ k * 199 < gBig ∧ (199 : Int) ^ k ≤ 199 ^ 16 := by
  have h2 : k = 0 ∨ k = 1 ∨ k = 2 ∨ k = 3 ∨ k = 4 ∨ k = 5 ∨ k = 6 ∨ k = 7 ∨ k = 8 ∨ k = 9 ∨ k = 10 ∨ k = 11 ∨ k = 12 ∨ k = 13 ∨ k = 14 ∨ k = 15 ∨ k = 16 := by omega
  rcases h2 with q | q | q | q | q | q | q | q | q | q | q | q | q | q | q | q | q <;> rw [q] <;> decide
theorem cb_0 {h : m_H} {L : List gE} (A : AR h L) (s : ∀ l, l < 16 → aS h l = ((1, 1), (0, if (-1 : Int) = -1 ∨ (l : Int) = -1 then 1 else 0))) : cbI h L 0 1 := by
  refine ⟨A, fun l hl => ?_, fun q => absurd q (by decide)⟩
  rw [s l hl]
  refine ⟨?_, ⟨Int.le_refl _, Int.le_refl _⟩, ⟨Int.le_refl _, Int.le_refl _⟩⟩
  show (if (-1 : Int) = -1 ∨ (l : Int) = -1 then (1 : Int) else 0) = 1
  exact if_pos (Or.inl rfl)
theorem cb_step {h h' : m_H} {L : List gE} {k m x : Int} (hE : ∀ q ∈ L, gEo q) (hk : 0 ≤ k) (hk16 : k ≤ 16) (I : cbI h L k m) (A : AR h' L) (r : ∀ l, l < 16 → aS h' l = (gi 0 (aS h) L L.length).1 l) (ex : x = (gi 0 (aS h) L L.length).2) : cbI h' L (k + 1) x := by
  obtain ⟨-, i2, -⟩ := I
  obtain ⟨p1, p2⟩ := p199 (k := k.toNat) (by omega)
  obtain ⟨s1, s2⟩ := gM_step hE p1 i2
  have n1 : (k + 1).toNat = k.toNat + 1 := by omega
  refine ⟨A, fun l hl => ?_, fun hx => ?_⟩
  · rw [r l hl, n1, Int.pow_succ]; exact s1 l hl
  · obtain ⟨t1, t2⟩ := s2 (ex.symm.trans hx)
    have e1 : ∀ l, l < 16 → aS h' l = aS h l := fun l hl => (r l hl).trans (t1 l)
    refine ⟨fun l hl => ?_, fun e he => ?_⟩
    · rw [e1 l hl]
      obtain ⟨a, b, c⟩ := i2 l hl
      exact ⟨a, ⟨b.1, Int.le_trans b.2 p2⟩, ⟨c.1, Int.le_trans c.2 p2⟩⟩
    · rw [e1 _ (hE e he).1.1, e1 _ (hE e he).1.2]; exact t2 e he
def cbJ (h : m_H) (L : List gE) : Prop := AR h L ∧ gM (199 ^ 16) (aS h) ∧ gst (aS h) L
theorem cbJ_of {h : m_H} {L : List gE} {k m : Int} (I : cbI h L k m) (hm : m = 0) : cbJ h L := ⟨I.1, I.2.2 hm⟩
theorem cbJ.put {h h' : m_H} {L : List gE} {j : Nat} {v : Int} (I : cbJ h L) (E : h' = m_up h 134 j v) : cbJ h' L := by
  unfold cbJ
  rw [aS_same (upo E (by decide)) (upo E (by decide)) (upo E (by decide)) (upo E (by decide))]
  exact ⟨I.1.same (upN E (fun z => absurd z.1 (by decide))) (fun j => upN E (fun z => absurd z.1 (by decide))) (fun j => upN E (fun z => absurd z.1 (by decide))) (fun j => upN E (fun z => absurd z.1 (by decide))) (fun j => upN E (fun z => absurd z.1 (by decide))) (fun j => upN E (fun z => absurd z.1 (by decide))), I.2⟩
theorem aS_ti {h h' : m_H} (S : FR [115, 116, 132, 133] [] h h') : aS h' = aS h := aS_same (FR.row S (fun _ => rfl)) (FR.row S (fun _ => rfl)) (FR.row S (fun _ => rfl)) (FR.row S (fun _ => rfl))
theorem cbJ.ti {h h' : m_H} {L : List gE} (I : cbJ h L) (S : FR [115, 116, 132, 133] [] h h') : cbJ h' L := by
  unfold cbJ
  rw [aS_ti S]
  exact ⟨I.1.call S rfl (fun _ => rfl) (fun _ => rfl) (fun _ => rfl) (fun _ => rfl) (fun _ => rfl), I.2⟩
/-- tight, as numbers -/
theorem ti_iff {h : m_H} {L : List gE} {q : gE} {e : Int} (hE : ∀ q ∈ L, gEo q) (I : cbJ h L) (hq : L[e.toNat]? = some q) : tiP (aS h) L e ↔ gti (fun l => (aS h l).1.1) (fun l => (aS h l).1.2) q := by
  have hm := List.mem_of_getElem? hq
  obtain ⟨p1, -⟩ := p199 (k := 16) (Nat.le_refl _)
  obtain ⟨⟨c1, c2⟩, -⟩ := gc_ex (z := 0) p1 (hE q hm) (I.2.1 _ (hE q hm).1.1).2.1 (I.2.1 _ (hE q hm).1.1).2.2
  unfold gti
  constructor
  · rintro ⟨q', w1, w2⟩
    rw [hq] at w1
    cases w1
    rw [c1, c2] at w2
    exact w2
  · intro w
    exact ⟨q, hq, by rw [c1, c2]; exact w⟩
/-! the ways round -/
def tR (τ : Nat → Int) (n : Int) : Prop := ∀ i : Nat, i < 16 → ((17 * i : Nat) : Int) < n → τ (17 * i) = 1
def tE (S : gS) (L : List gE) (τ : Nat → Int) (n : Nat) : Prop := ∀ (j : Nat) (q : gE), j < n → L[j]? = some q → gti (fun l => (S l).1.1) (fun l => (S l).1.2) q → τ (16 * q.1.1 + q.1.2) = 1
def tW (τ : Nat → Int) (m : Nat) : Prop := ∀ j a b : Nat, j < m → a < 16 → b < 16 → τ (16 * a + j) = 1 → τ (16 * j + b) = 1 → τ (16 * a + b) = 1
def tO (S : gS) (L : List gE) (τ : Nat → Int) (n : Nat) : Prop := ∀ (j : Nat) (q : gE), j < n → L[j]? = some q → q.2.2.2 = 1 → gti (fun l => (S l).1.1) (fun l => (S l).1.2) q → τ (16 * q.1.2 + q.1.1) ≠ 1
theorem tR_step {h h' : m_H} {l v : Int} (hl : 0 ≤ l) (I : tR (h 134) l) (hv : l / 16 = l % 16 → v = 1) (E : h' = m_up h 134 l.toNat v) : tR (h' 134) (l + 1) := by
  intro i hi hn
  by_cases q : ((17 * i : Nat) : Int) = l
  · have e1 : l.toNat = 17 * i := by omega
    rw [e1] at E
    rw [upE E]; exact hv (by omega)
  · rw [upN E (fun z => by have := z.2; omega)]; exact I i hi (by omega)
theorem tE_step {h h1 h' : m_H} {L : List gE} {e n f t v : Int} (hE : ∀ q ∈ L, gEo q) (J : cbJ h L) (he : 0 ≤ e) (I : tR (h 134) 256) (K : tE (aS h) L (h 134) e.toNat) (en : h 108 21 = n) (hn : e < n) (ef : h 117 e.toNat = f) (et : h 118 e.toNat = t) (e1 : h1 134 = h 134) (e2 : aS h1 = aS h) (hv : tiP (aS h) L e → v = 1) (hm : v = 1 ∨ h 134 (16 * f + t).toNat ≠ 1) (E : h' = m_up h1 134 (16 * f + t).toNat v) : tR (h' 134) 256 ∧ tE (aS h') L (h' 134) (e + 1).toNat := by
  obtain ⟨q, q1, q2, q3, q4, -⟩ := AR_at J.1 he en hn
  have n1 : (16 * f + t).toNat = 16 * q.1.1 + q.1.2 := by omega
  have n2 : (e + 1).toNat = e.toNat + 1 := by omega
  rw [n1] at E hm
  have s1 : aS h' = aS h := (aS_same (upo E (by decide)) (upo E (by decide)) (upo E (by decide)) (upo E (by decide))).trans e2
  have mono : ∀ j, h 134 j = 1 → h' 134 j = 1 := by
    intro j hj
    by_cases w : j = 16 * q.1.1 + q.1.2
    · rw [w, upE E]
      rcases hm with g | g
      · exact g
      · rw [w] at hj; exact absurd hj g
    · rw [upN E (fun z => w z.2), e1]; exact hj
  refine ⟨fun i hi hn => mono _ (I i hi hn), fun j q' hj hq' ht => ?_⟩
  rw [s1] at ht
  by_cases w : j = e.toNat
  · rw [w] at hq'
    have h2 := (ti_iff hE J hq').mpr ht
    rw [q1] at hq'
    cases hq'
    rw [upE E]; exact hv h2
  · exact mono _ (K j q' (by omega) hq' ht)
def tA (h : m_H) (L : List gE) (m : Nat) : Prop := tR (h 134) 256 ∧ tE (aS h) L (h 134) L.length ∧ tW (h 134) m
theorem tA_0 {h : m_H} {L : List gE} {e n : Int} (J : cbJ h L) (I : tR (h 134) 256) (K : tE (aS h) L (h 134) e.toNat) (en : h 108 21 = n) (hn : n ≤ e) : tA h L (0 : Int).toNat :=
  ⟨I, fun j q hj => K j q (by have := J.1.1; omega), fun j a b hj => absurd hj (Nat.not_lt_zero _)⟩
def sg (τ : Nat → Int) (m i : Nat) : Int := if τ i = 1 ∨ (τ (16 * (i / 16) + m) = 1 ∧ τ (16 * m + i % 16) = 1) then 1 else 0
def tS (h : m_H) (L : List gE) (m n : Int) : Prop := ∃ τ : Nat → Int, (tR τ 256 ∧ tE (aS h) L τ L.length ∧ tW τ m.toNat) ∧ (∀ i, i < 256 → τ i = 0 ∨ τ i = 1) ∧ ∀ i : Nat, i < 256 → ((i : Int) < n → h 134 i = sg τ m.toNat i) ∧ (n ≤ i → h 134 i = τ i)
theorem tS_0 {h : m_H} {L : List gE} {m : Int} (G : GI h) (I : tA h L m.toNat) : tS h L m (16 * 0) :=
  ⟨h 134, I, fun i hi => by have := g_134 G hi; omega, fun i hi => ⟨fun z => by omega, fun _ => rfl⟩⟩
theorem sg_col {τ : Nat → Int} {m a : Nat} (hm : m < 16) (b : ∀ i, i < 256 → τ i = 0 ∨ τ i = 1) (ha : a < 16) : sg τ m (16 * a + m) = τ (16 * a + m) := by
  unfold sg
  rw [show (16 * a + m) / 16 = a by omega]
  rcases b (16 * a + m) (by omega) with q | q
  · rw [q, if_neg (by omega)]
  · rw [q, if_pos (Or.inl rfl)]
theorem sg_row {τ : Nat → Int} {m c : Nat} (hm : m < 16) (b : ∀ i, i < 256 → τ i = 0 ∨ τ i = 1) (hc : c < 16) : sg τ m (16 * m + c) = τ (16 * m + c) := by
  unfold sg
  rw [show (16 * m + c) % 16 = c by omega]
  rcases b (16 * m + c) (by omega) with q | q
  · rw [q, if_neg (by omega)]
  · rw [q, if_pos (Or.inl rfl)]
theorem tS_step {h h' : m_H} {L : List gE} {m i k v : Int} (hm0 : 0 ≤ m) (hm : m ≤ 15) (hi0 : 0 ≤ i) (hi : i ≤ 15) (hk0 : 0 ≤ k) (hk : k ≤ 15) (I : tS h L m (16 * i + k)) (hv : (v = 1 ∧ (h 134 (16 * i + k).toNat = 1 ∨ (h 134 (16 * i + m).toNat = 1 ∧ h 134 (16 * m + k).toNat = 1))) ∨ (v = 0 ∧ h 134 (16 * i + k).toNat ≠ 1 ∧ (h 134 (16 * i + m).toNat ≠ 1 ∨ h 134 (16 * m + k).toNat ≠ 1))) (E : h' = m_up h 134 (16 * i + k).toNat v) : tS h' L m (16 * i + (k + 1)) := by
  obtain ⟨τ, t1, t2, t3⟩ := I
  have s1 : aS h' = aS h := aS_same (upo E (by decide)) (upo E (by decide)) (upo E (by decide)) (upo E (by decide))
  have n1 : (16 * i + k).toNat = 16 * i.toNat + k.toNat := by omega
  have n2 : (16 * i + m).toNat = 16 * i.toNat + m.toNat := by omega
  have n3 : (16 * m + k).toNat = 16 * m.toNat + k.toNat := by omega
  rw [n1] at E; rw [n1, n2, n3] at hv
  have a1 : h 134 (16 * i.toNat + k.toNat) = τ (16 * i.toNat + k.toNat) := (t3 _ (by omega)).2 (by omega)
  have a2 : h 134 (16 * i.toNat + m.toNat) = τ (16 * i.toNat + m.toNat) := by
    by_cases w : m < k
    · rw [(t3 _ (by omega)).1 (by omega)]; exact sg_col (by omega) t2 (by omega)
    · exact (t3 _ (by omega)).2 (by omega)
  have a3 : h 134 (16 * m.toNat + k.toNat) = τ (16 * m.toNat + k.toNat) := by
    by_cases w : m < i
    · rw [(t3 _ (by omega)).1 (by omega)]; exact sg_row (by omega) t2 (by omega)
    · exact (t3 _ (by omega)).2 (by omega)
  rw [a1, a2, a3] at hv
  have key : v = sg τ m.toNat (16 * i.toNat + k.toNat) := by
    unfold sg
    rw [show (16 * i.toNat + k.toNat) / 16 = i.toNat by omega, show (16 * i.toNat + k.toNat) % 16 = k.toNat by omega]
    rcases hv with ⟨v1, v2⟩ | ⟨v1, v2, v3⟩
    · rw [if_pos v2]; exact v1
    · rw [if_neg (by omega)]; exact v1
  refine ⟨τ, ⟨t1.1, by rw [s1]; exact t1.2.1, t1.2.2⟩, t2, fun j hj => ?_⟩
  by_cases w : j = 16 * i.toNat + k.toNat
  · refine ⟨fun _ => ?_, fun z => by omega⟩
    rw [w, upE E]; exact key
  · rw [upN E (fun z => w z.2)]
    exact ⟨fun z => (t3 j hj).1 (by omega), fun z => (t3 j hj).2 (by omega)⟩
theorem tS_end {h : m_H} {L : List gE} {m n : Int} (hE : ∀ q ∈ L, gEo q) (hm0 : 0 ≤ m) (hm : m ≤ 15) (hn : 256 ≤ n) (I : tS h L m n) : tA h L (m + 1).toNat := by
  obtain ⟨τ, ⟨r, e, w⟩, t2, t3⟩ := I
  have n1 : (m + 1).toNat = m.toNat + 1 := by omega
  have g : ∀ i, i < 256 → h 134 i = sg τ m.toNat i := fun i hi => (t3 i hi).1 (by omega)
  have up : ∀ i, i < 256 → τ i = 1 → h 134 i = 1 := fun i hi z => by rw [g i hi]; unfold sg; rw [if_pos (Or.inl z)]
  refine ⟨fun i hi hn => up _ (by omega) (r i hi hn), fun j q hj hq ht => ?_, ?_⟩
  · have := (hE q (List.mem_of_getElem? hq)).1
    exact up _ (by omega) (e j q hj hq ht)
  · rw [n1]
    intro j a b hj ha hb h1 h2
    rw [g _ (by omega)] at h1 h2 ⊢
    unfold sg at h1 h2 ⊢
    rw [show (16 * a + j) / 16 = a by omega, show (16 * a + j) % 16 = j by omega] at h1
    rw [show (16 * j + b) / 16 = j by omega, show (16 * j + b) % 16 = b by omega] at h2
    rw [show (16 * a + b) / 16 = a by omega, show (16 * a + b) % 16 = b by omega]
    have c1 : τ (16 * a + j) = 1 ∨ (τ (16 * a + m.toNat) = 1 ∧ τ (16 * m.toNat + j) = 1) := by
      by_cases z : τ (16 * a + j) = 1 ∨ (τ (16 * a + m.toNat) = 1 ∧ τ (16 * m.toNat + j) = 1)
      · exact z
      · rw [if_neg z] at h1; exact absurd h1 (by decide)
    have c2 : τ (16 * j + b) = 1 ∨ (τ (16 * j + m.toNat) = 1 ∧ τ (16 * m.toNat + b) = 1) := by
      by_cases z : τ (16 * j + b) = 1 ∨ (τ (16 * j + m.toNat) = 1 ∧ τ (16 * m.toNat + b) = 1)
      · exact z
      · rw [if_neg z] at h2; exact absurd h2 (by decide)
    refine if_pos ?_
    have hm16 : m.toNat < 16 := by omega
    by_cases q : j = m.toNat
    · rw [q] at c1 c2
      have d1 : τ (16 * a + m.toNat) = 1 := by rcases c1 with z | z; exact z; exact z.1
      have d2 : τ (16 * m.toNat + b) = 1 := by rcases c2 with z | z; exact z; exact z.2
      exact Or.inr ⟨d1, d2⟩
    · have hj2 : j < m.toNat := by omega
      rcases c1 with z1 | ⟨z1, z2⟩
      · rcases c2 with y1 | ⟨y1, y2⟩
        · exact Or.inl (w j a b hj2 ha hb z1 y1)
        · exact Or.inr ⟨w j a m.toNat hj2 ha hm16 z1 y1, y2⟩
      · rcases c2 with y1 | ⟨y1, y2⟩
        · exact Or.inr ⟨z1, w j m.toNat b hj2 hm16 hb z2 y1⟩
        · exact Or.inr ⟨z1, y2⟩
theorem tA.ti {h h' : m_H} {L : List gE} {m : Nat} (I : tA h L m) (S : FR [115, 116, 132, 133] [] h h') : tA h' L m := by
  unfold tA
  rw [aS_ti S, FR.row S (c := 134) (fun _ => rfl)]
  exact I
theorem tO_next {h : m_H} {L : List gE} {e : Int} (he : 0 ≤ e) (I : tO (aS h) L (h 134) e.toNat) (H : ∀ q, L[e.toNat]? = some q → q.2.2.2 = 1 → gti (fun l => (aS h l).1.1) (fun l => (aS h l).1.2) q → h 134 (16 * q.1.2 + q.1.1) ≠ 1) : tO (aS h) L (h 134) (e + 1).toNat := by
  have n2 : (e + 1).toNat = e.toNat + 1 := by omega
  intro j q hj hq
  by_cases w : j = e.toNat
  · rw [w] at hq; exact H q hq
  · exact I j q (by omega) hq
theorem tO_a {h : m_H} {L : List gE} {e n x : Int} (J : cbJ h L) (he : 0 ≤ e) (I : tO (aS h) L (h 134) e.toNat) (en : h 108 21 = n) (hn : e < n) (ex : h 121 e.toNat = x) (hx : x ≠ 1) : tO (aS h) L (h 134) (e + 1).toNat := by
  obtain ⟨q, q1, q2, q3, q4, q5, q6, q7⟩ := AR_at J.1 he en hn
  refine tO_next he I (fun q' hq' ho => ?_)
  rw [q1] at hq'
  cases hq'
  exact absurd (ex.symm.trans (q7.trans ho)) hx
theorem tO_b {h h' : m_H} {L : List gE} {e x : Int} (hE : ∀ q ∈ L, gEo q) (J : cbJ h L) (he : 0 ≤ e) (I : tO (aS h) L (h 134) e.toNat) (S : FR [115, 116, 132, 133] [] h h') (t : tiQ x (aS h) L e) (hx : x ≠ 1) : tO (aS h') L (h' 134) (e + 1).toNat := by
  rw [aS_ti S, FR.row S (c := 134) (fun _ => rfl)]
  refine tO_next he I (fun q' hq' ho ht => ?_)
  exact absurd (t.mpr ((ti_iff hE J hq').mpr ht)) hx
theorem tO_c {h h' : m_H} {L : List gE} {e n f t x : Int} (J : cbJ h L) (he : 0 ≤ e) (I : tO (aS h) L (h 134) e.toNat) (S : FR [115, 116, 132, 133] [] h h') (en : h 108 21 = n) (hn : e < n) (et : h' 118 e.toNat = t) (ef : h' 117 e.toNat = f) (ex : h' 134 (16 * t + f).toNat = x) (hx : x ≠ 1) : tO (aS h') L (h' 134) (e + 1).toNat := by
  rw [S 118 _ rfl] at et
  rw [S 117 _ rfl] at ef
  rw [S 134 _ rfl] at ex
  rw [aS_ti S, FR.row S (c := 134) (fun _ => rfl)]
  obtain ⟨q, q1, q2, q3, q4, -⟩ := AR_at J.1 he en hn
  have n1 : (16 * t + f).toNat = 16 * q.1.2 + q.1.1 := by omega
  rw [n1] at ex
  refine tO_next he I (fun q' hq' ho ht => ?_)
  rw [q1] at hq'
  cases hq'
  rw [ex]; exact hx
def cbQ (x : Int) (L : List gE) : Prop := x = 1 → gG L
theorem cbQ_0 {L : List gE} : cbQ 0 L := fun q => absurd q (by decide)
theorem cb_end {h : m_H} {L : List gE} {e n : Int} (hE : ∀ q ∈ L, gEo q) (J : cbJ h L) (A : tA h L 16) (O : tO (aS h) L (h 134) e.toNat) (en : h 108 21 = n) (hn : n ≤ e) : cbQ 1 L := by
  intro _
  obtain ⟨a1, a2, a3⟩ := A
  refine ⟨fun l => (aS h l).1.1, fun l => (aS h l).1.2, fun a b => h 134 (16 * a + b) = 1, fun l hl => ?_, J.2.2, fun a ha => ?_, fun a b c ha hb hc h1 h2 => a3 b a c hb ha hc h1 h2, fun q hq ht => ?_, fun q hq ho ht => ?_⟩
  · have := J.2.1 l hl
    show 0 < (aS h l).1.1 ∧ 0 < (aS h l).1.2
    exact ⟨by omega, by omega⟩
  · have := a1 a ha (by omega)
    show h 134 (16 * a + a) = 1
    rw [show 16 * a + a = 17 * a by omega]; exact this
  · obtain ⟨j, hj⟩ := List.getElem?_of_mem hq
    exact a2 j q (List.getElem?_eq_some_iff.mp hj).1 hj ht
  · obtain ⟨j, hj⟩ := List.getElem?_of_mem hq
    exact O j q (by have := (List.getElem?_eq_some_iff.mp hj).1; have := J.1.1; omega) hj ho ht
theorem bR_eq {h0 h : m_H} {en : Int} (G0 : GI h0) (e0 : ∀ j, h 110 j = h0 110 j) (K : asQ h0 h 32 6) (ec : en = cF (h0 110)) : bL (h 110) (h 122) (h 123) en = bR (h0 110) := by
  have e1 : h 110 = h0 110 := funext e0
  rw [e1]
  unfold bR
  rw [← ec, ← bL_cg (h := h0) (kp := h 122) (ct := h 123) G0 (fun j hj => K.1 j (by omega)) (fun j hj => K.2 j (by omega))]
/-! from one length on -/
def gfI (h : m_H) (L : List gE) (k m : Int) : Prop := AR h L ∧ (∃ (PU PL : Nat → Int) (TT : Nat → Nat → Prop) (I : Nat → Prop), gP L PU PL TT ∧ gJ L PU PL TT k.toNat (aS h) I) ∧ (m ≠ 0 → k ≤ 15)
def goQ (h : m_H) : Prop := ∀ l, l < 16 → ga (aS h l)
theorem gJ_cg {L : List gE} {PU PL : Nat → Int} {TT : Nat → Nat → Prop} {k : Nat} {S S' : gS} {I I' : Nat → Prop} (hE : ∀ q ∈ L, gEo q) (e : ∀ l, l < 16 → S' l = S l) (i : ∀ l, l < 16 → (I' l ↔ I l)) (J : gJ L PU PL TT k S I) : gJ L PU PL TT k S' I' := by
  obtain ⟨ja, jb, jc⟩ := J
  refine ⟨fun l hl => by rw [e l hl]; exact ja l hl, fun l hl hi => ?_, fun q hq ht hi => ?_⟩
  · obtain ⟨t, -, P, pl, pn, pb, pw, pq⟩ := jb l hl ((i l hl).mp hi)
    refine ⟨by rw [e l hl]; exact t, hl, P, pl, pn, pb, by rw [e l hl]; exact pw, fun u hu => ?_⟩
    have := pq u hu
    unfold gq nX nY at this ⊢
    rw [e l hl, e u (pb u hu)]
    exact this
  · have h1 := (hE q hq).1
    rw [e _ h1.1] at ht
    have e1 : gc 1 S' q = gc 1 S q := by unfold gc; rw [e _ h1.1]
    rw [e1, e _ h1.2]
    exact jc q hq ht (fun z => hi ((i _ h1.1).mpr z))
theorem gf_0 {h : m_H} {L : List gE} {a : Int} (hE : ∀ q ∈ L, gEo q) (g : gG L) (A : AR h L) (ha : 0 ≤ a) (ha15 : a ≤ 15) (s : ∀ l, l < 16 → aS h l = ((1, 1), (0, if a = -1 ∨ (l : Int) = a then 1 else 0))) : gfI h L 0 1 := by
  obtain ⟨PU, PL, TT, hP⟩ := g
  refine ⟨A, ⟨PU, PL, TT, fun l => l = a.toNat, hP, ?_⟩, fun _ => by decide⟩
  refine gJ_0 hP hE (by omega) (fun l hl => ?_)
  rw [s l hl]
  congr 2
  by_cases q : l = a.toNat
  · rw [if_pos q, if_pos (by omega)]
  · rw [if_neg q, if_neg (by omega)]
theorem gf_step {h h' : m_H} {L : List gE} {k m x : Int} (hE : ∀ q ∈ L, gEo q) (hk : 0 ≤ k) (I : gfI h L k m) (A : AR h' L) (r : ∀ l, l < 16 → aS h' l = (gi 1 (aS h) L L.length).1 l) (ex : x = (gi 1 (aS h) L L.length).2) : gfI h' L (k + 1) x := by
  obtain ⟨-, ⟨PU, PL, TT, I, hP, J⟩, -⟩ := I
  have n1 : (k + 1).toNat = k.toNat + 1 := by omega
  refine ⟨A, ⟨PU, PL, TT, _, hP, by rw [n1]; exact gJ_cg hE r (fun l hl => Iff.rfl) (gJ_step hP hE J)⟩, fun hx => ?_⟩
  have := gJ_end hP hE J (by rw [← ex]; exact hx)
  omega
theorem gf_end {h : m_H} {L : List gE} {k m : Int} (I : gfI h L k m) : goQ h := by
  obtain ⟨-, ⟨PU, PL, TT, I, hP, J⟩, -⟩ := I
  exact J.1
theorem gf_k {h : m_H} {L : List gE} {k m : Int} (I : gfI h L k m) (hm : m ≠ 0) : k ≤ 15 := I.2.2 hm
