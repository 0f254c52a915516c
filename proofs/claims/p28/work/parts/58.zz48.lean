/-! wrong: fewer entries gain less -/
theorem wk_mono {L M : List gE} (s : ∀ e ∈ L, e ∈ M) : ∀ (w : List gE) (a b : Nat), wk L w a b → wk M w a b
  | [], _, _, h => h
  | e :: w, _, b, h => ⟨⟨s e h.1.1, h.1.2⟩, wk_mono s w _ b h.2⟩
theorem gain_mono {L M : List gE} (s : ∀ e ∈ L, e ∈ M) (g : gain L) : gain M := by
  obtain ⟨a, w, h1, h2⟩ := g
  exact ⟨a, w, wk_mono s w a a h1, h2⟩
def sbB (s t : Int) : Prop := ∀ e : Nat, e < 32 → bt s e = true → bt t e = true
theorem eA_mono {r K C : Nat → Int} {s t : Int} (b : sbB s t) : ∀ n : Nat, n ≤ 32 → ∀ q ∈ eA r K C s n, q ∈ eA r K C t n
  | 0, _, _, h => h
  | n + 1, hn, q, h => by
    rcases List.mem_append.mp h with h | h
    · exact List.mem_append.mpr (Or.inl (eA_mono b n (by omega) q h))
    · refine List.mem_append.mpr (Or.inr ?_)
      unfold eR eOf at h ⊢
      by_cases y : m_and (m_shr s (n : Int)) 1 = 1 ∧ K (r (5 * n + 81)).toNat ≠ -1
      · rw [if_pos y] at h
        rw [if_pos ⟨(hasBit_iff (by omega)).mpr (b n (by omega) ((hasBit_iff (by omega)).mp y.1)), y.2⟩]; exact h
      · rw [if_neg y] at h; cases h
theorem gnP_mono {r K C : Nat → Int} {s t : Int} (r0 : r 0 ≤ 24) (b : sbB s t) (g : gnP r K C s) : gnP r K C t := gain_mono (fun q hq => by
  rcases List.mem_append.mp hq with h | h
  · rcases List.mem_append.mp h with h | h
    · exact List.mem_append.mpr (Or.inl (List.mem_append.mpr (Or.inl (eA_mono b _ (by omega) q h))))
    · exact List.mem_append.mpr (Or.inl (List.mem_append.mpr (Or.inr h)))
  · exact List.mem_append.mpr (Or.inr h)) g
def sx (s m : Int) : Int := m_and s (m_xor m (-1))
theorem bt_sx {s m : Int} {j : Nat} (hj : j < 32) : bt (sx s m) j = (bt s j && !bt m j) := by
  unfold sx bt m_and m_xor
  rw [Int32.ofInt_toInt, Int32.ofInt_toInt, Int32.toBitVec_and, Int32.toBitVec_xor, BitVec.getLsbD_and, BitVec.getLsbD_xor, ones_b ⟨j, hj⟩, Bool.xor_true]
theorem bt_shl {e j : Nat} (he : e < 32) (hj : j < 32) : bt (m_shl 1 e) j = decide (j = e) := by
  unfold bt m_shl
  rw [Int32.ofInt_toInt, Int32.toBitVec_shiftLeft, sh_am ⟨e, he⟩]
  exact one_sh he hj
theorem bt_or2 {a b : Int} {j : Nat} : bt (m_or a b) j = (bt a j || bt b j) := by
  unfold bt m_or
  rw [Int32.ofInt_toInt, Int32.toBitVec_or, BitVec.getLsbD_or]
theorem sx_0 {s m : Int} : sx s m = 0 ↔ sbB s m := by
  constructor
  · intro h j hj hs
    have z := bt_sx (s := s) (m := m) hj
    rw [h, show bt 0 j = false from bt_00 ⟨j, hj⟩, hs] at z
    cases q : bt m j with
    | true => rfl
    | false => rw [q] at z; exact absurd z (by decide)
  · intro h
    refine bits_eq (m_32t _) (by unfold m_32; omega) (fun j hj => ?_)
    rw [bt_sx hj, show bt 0 j = false from bt_00 ⟨j, hj⟩]
    cases q : bt s j with
    | false => rfl
    | true => rw [h j hj q]; rfl
def wst (a b : Nat) : Int := m_or (m_shl 1 (a : Int)) (m_shl 1 (b : Int))
theorem wst_c (a b : Nat) : wst a b = wst b a := bits_eq (m_32t _) (m_32t _) (fun j _ => by unfold wst; rw [bt_or2, bt_or2, Bool.or_comm])
theorem shl_n : ∀ e : Fin 24, m_shl 1 (e.1 : Int) = ((2 ^ e.1 : Nat) : Int) := by decide +kernel
theorem wst_n : ∀ a b : Fin 24, a.1 ≠ b.1 → wst a.1 b.1 = ((2 ^ a.1 + 2 ^ b.1 : Nat) : Int) := by decide +kernel
theorem sb_shl {b : Nat} {al : Int} (hb : b < 32) : sbB (m_shl 1 b) al ↔ bt al b = true := by
  constructor
  · exact fun h => h b hb (by rw [bt_shl hb hb]; exact decide_eq_true rfl)
  · intro h j hj z
    rw [bt_shl hb hj, decide_eq_true_iff] at z
    rw [z]; exact h
theorem sb_wst {a b : Nat} {al : Int} (ha : a < 32) (hb : b < 32) : sbB (wst a b) al ↔ bt al a = true ∧ bt al b = true := by
  unfold wst
  constructor
  · intro h
    refine ⟨h a ha ?_, h b hb ?_⟩
    · rw [bt_or2, bt_shl ha ha, Bool.or_eq_true]; exact Or.inl (decide_eq_true rfl)
    · rw [bt_or2, bt_shl hb hb, Bool.or_eq_true]; exact Or.inr (decide_eq_true rfl)
  · rintro ⟨h1, h2⟩ j hj z
    rw [bt_or2, Bool.or_eq_true, bt_shl ha hj, bt_shl hb hj, decide_eq_true_iff, decide_eq_true_iff] at z
    rcases z with z | z
    · rw [z]; exact h1
    · rw [z]; exact h2
/-! counting sets in their order -/
def wgS (s a b : Nat) : Int := if s = 0 then 0 else if s = 1 then m_shl 1 (b : Int) else wst a b
def wgM (s b : Nat) : Nat := if s < 2 then 1 else b
def wgB (s : Nat) : Nat := if s = 0 then 1 else 24
def wgP (F : Int → Prop) (al : Int) (s a b : Nat) : Prop := sx (wgS s a b) al = 0 ∧ ¬ F (sx al (wgS s a b))
noncomputable def wgW (P : Nat → Nat → Prop) (lim : Nat → Nat) : Nat → Int
  | 0 => 0
  | b + 1 => wgW P lim b + vwN (fun a => P a b) (lim b)
def wgV (lim : Nat → Nat) (b a a' b' : Nat) : Prop := (b' < b ∧ a' < lim b') ∨ (b' = b ∧ a' < a)
def wgI (P : Nat → Nat → Prop) (S : Nat → Nat → Int) (lim : Nat → Nat) (b a : Nat) (w x : Int) : Prop := (w = wgW P lim b + vwN (fun a' => P a' b) a ∧ w ≤ 24 * (b : Int) + (a : Int)) ∧ ((w = 0 ∧ x = 0 ∧ ∀ a' b', wgV lim b a a' b' → ¬ P a' b') ∨ (0 < w ∧ ∃ a1 b1, wgV lim b a a1 b1 ∧ P a1 b1 ∧ x = S a1 b1 ∧ ∀ a' b', wgV lim b a a' b' → P a' b' → S a1 b1 ≤ S a' b'))
theorem wgV_s {lim : Nat → Nat} {b a a' b' : Nat} : wgV lim b (a + 1) a' b' ↔ (wgV lim b a a' b' ∨ (b' = b ∧ a' = a)) := by
  unfold wgV
  constructor
  · rintro (h | ⟨h1, h2⟩)
    · exact Or.inl (Or.inl h)
    · by_cases g : a' = a
      · exact Or.inr ⟨h1, g⟩
      · exact Or.inl (Or.inr ⟨h1, by omega⟩)
  · rintro ((h | ⟨h1, h2⟩) | ⟨h1, h2⟩)
    · exact Or.inl h
    · exact Or.inr ⟨h1, by omega⟩
    · exact Or.inr ⟨h1, by omega⟩
theorem wgV_r {lim : Nat → Nat} {b a' b' : Nat} : wgV lim (b + 1) 0 a' b' ↔ wgV lim b (lim b) a' b' := by
  unfold wgV
  constructor
  · rintro (⟨h1, h2⟩ | ⟨_, h2⟩)
    · by_cases g : b' = b
      · subst g; exact Or.inr ⟨rfl, h2⟩
      · exact Or.inl ⟨by omega, h2⟩
    · omega
  · rintro (⟨h1, h2⟩ | ⟨h1, h2⟩)
    · exact Or.inl ⟨by omega, h2⟩
    · subst h1; exact Or.inl ⟨by omega, h2⟩
theorem wgW_0 {P : Nat → Nat → Prop} {lim : Nat → Nat} : ∀ b, 0 ≤ wgW P lim b
  | 0 => Int.le_refl _
  | b + 1 => by
    have i := wgW_0 (P := P) (lim := lim) b
    have j := (vwN_b (P := fun a => P a b) (lim b)).1
    show 0 ≤ wgW P lim b + vwN (fun a => P a b) (lim b)
    omega
theorem wgI_0 {P : Nat → Nat → Prop} {S : Nat → Nat → Int} {lim : Nat → Nat} : wgI P S lim 0 0 0 0 := ⟨⟨rfl, by decide⟩, Or.inl ⟨rfl, rfl, fun a' b' h => by rcases h with ⟨h1, _⟩ | ⟨_, h2⟩ <;> omega⟩⟩
theorem wgI_n {P : Nat → Nat → Prop} {S : Nat → Nat → Int} {lim : Nat → Nat} {b a : Nat} {w x : Int} (I : wgI P S lim b a w x) (n : ¬ P a b) : wgI P S lim b (a + 1) w x := by
  obtain ⟨⟨i1, i2⟩, i3⟩ := I
  refine ⟨⟨by rw [vwN_n (P := fun a' => P a' b) n]; exact i1, by omega⟩, ?_⟩
  rcases i3 with ⟨u1, u2, u3⟩ | ⟨u1, a1, b1, u2, u3, u4, u5⟩
  · refine Or.inl ⟨u1, u2, fun a' b' h => ?_⟩
    rcases wgV_s.mp h with h | ⟨h1, h2⟩
    · exact u3 a' b' h
    · subst h1; subst h2; exact n
  · refine Or.inr ⟨u1, a1, b1, wgV_s.mpr (Or.inl u2), u3, u4, fun a' b' h p => ?_⟩
    rcases wgV_s.mp h with h | ⟨h1, h2⟩
    · exact u5 a' b' h p
    · subst h1; subst h2; exact absurd p n
theorem wgI_a {P : Nat → Nat → Prop} {S : Nat → Nat → Int} {lim : Nat → Nat} {b a : Nat} {w x : Int} (I : wgI P S lim b a w x) (y : P a b) (e : w = 0) : wgI P S lim b (a + 1) (w + 1) (S a b) := by
  obtain ⟨⟨i1, i2⟩, i3⟩ := I
  refine ⟨⟨by rw [vwN_y (P := fun a' => P a' b) y]; omega, by omega⟩, ?_⟩
  rcases i3 with ⟨u1, u2, u3⟩ | ⟨u1, _⟩
  · refine Or.inr ⟨by omega, a, b, wgV_s.mpr (Or.inr ⟨rfl, rfl⟩), y, rfl, fun a' b' h p => ?_⟩
    rcases wgV_s.mp h with h | ⟨h1, h2⟩
    · exact absurd p (u3 a' b' h)
    · subst h1; subst h2; exact Int.le_refl _
  · omega
theorem wgI_b {P : Nat → Nat → Prop} {S : Nat → Nat → Int} {lim : Nat → Nat} {b a : Nat} {w x : Int} (I : wgI P S lim b a w x) (y : P a b) (e : w ≠ 0) (m : ∀ a' b', wgV lim b a a' b' → S a' b' ≤ S a b) : wgI P S lim b (a + 1) (w + 1) x := by
  obtain ⟨⟨i1, i2⟩, i3⟩ := I
  refine ⟨⟨by rw [vwN_y (P := fun a' => P a' b) y]; omega, by omega⟩, ?_⟩
  rcases i3 with ⟨u1, _⟩ | ⟨u1, a1, b1, u2, u3, u4, u5⟩
  · exact absurd u1 e
  · refine Or.inr ⟨by omega, a1, b1, wgV_s.mpr (Or.inl u2), u3, u4, fun a' b' h p => ?_⟩
    rcases wgV_s.mp h with h | ⟨h1, h2⟩
    · exact u5 a' b' h p
    · subst h1; subst h2; exact m a1 b1 u2
theorem wgI_r {P : Nat → Nat → Prop} {S : Nat → Nat → Int} {lim : Nat → Nat} {b a : Nat} {w x : Int} (I : wgI P S lim b a w x) (h : a = lim b) (hl : lim b ≤ 24) : wgI P S lim (b + 1) 0 w x := by
  subst h
  obtain ⟨⟨i1, i2⟩, i3⟩ := I
  refine ⟨⟨?_, by omega⟩, ?_⟩
  · show w = wgW P lim b + vwN (fun a => P a b) (lim b) + 0
    rw [Int.add_zero]; exact i1
  · rcases i3 with ⟨u1, u2, u3⟩ | ⟨u1, a1, b1, u2, u3, u4, u5⟩
    · exact Or.inl ⟨u1, u2, fun a' b' h => u3 a' b' (wgV_r.mp h)⟩
    · exact Or.inr ⟨u1, a1, b1, wgV_r.mpr u2, u3, u4, fun a' b' h => u5 a' b' (wgV_r.mp h)⟩
theorem wgI_k {P : Nat → Nat → Prop} {S : Nat → Nat → Int} {lim : Nat → Nat} {b : Nat} {w x : Int} (hl : lim b ≤ 24) (n : ∀ a, a < lim b → ¬ P a b) : ∀ a : Nat, a ≤ lim b → wgI P S lim b 0 w x → wgI P S lim b a w x
  | 0, _, I => I
  | a + 1, h, I => wgI_n (wgI_k hl n a (by omega) I) (n a (by omega))
theorem wgI_x {P : Nat → Nat → Prop} {S : Nat → Nat → Int} {lim : Nat → Nat} {b : Nat} {w x : Int} (I : wgI P S lim b 0 w x) (hl : ∀ c, lim c ≤ 24 ∨ 24 ≤ c) (n : ∀ a c, b ≤ c → c < 24 → a < lim c → ¬ P a c) : ∀ m : Nat, b + m ≤ 24 → wgI P S lim (b + m) 0 w x
  | 0, _ => I
  | m + 1, h => by
    have i := wgI_x I hl n m (by omega)
    have l : lim (b + m) ≤ 24 := (hl (b + m)).elim id (fun z => by omega)
    exact wgI_r (wgI_k l (fun a ha => n a (b + m) (by omega) (by omega) ha) (lim (b + m)) (Nat.le_refl _) i) rfl l
theorem wgM_b (s c : Nat) : wgM s c ≤ 24 ∨ 24 ≤ c := by
  unfold wgM
  split <;> omega
/-- what comes later is no less -/
theorem wgS_m {s a b a' b' : Nat} (hb : b < 24) (ha : a < wgM s b) (h : wgV (wgM s) b a a' b') : wgS s a' b' ≤ wgS s a b := by
  unfold wgS
  by_cases s0 : s = 0
  · rw [if_pos s0, if_pos s0]; exact Int.le_refl _
  · rw [if_neg s0, if_neg s0]
    by_cases s1 : s = 1
    · rw [if_pos s1, if_pos s1]
      have e1 : m_shl 1 (b : Int) = ((2 ^ b : Nat) : Int) := shl_n ⟨b, hb⟩
      have hb' : b' ≤ b := by rcases h with ⟨h, _⟩ | ⟨h, _⟩ <;> omega
      have e2 : m_shl 1 (b' : Int) = ((2 ^ b' : Nat) : Int) := shl_n ⟨b', by omega⟩
      rw [e1, e2]
      exact Int.ofNat_le.mpr (Nat.pow_le_pow_right (by decide) hb')
    · rw [if_neg s1, if_neg s1]
      have l : ∀ c, wgM s c = c := fun c => if_neg (by omega)
      rw [l] at ha
      unfold wgV at h
      have h' : b' ≤ b ∧ a' < b' ∧ (b' = b → a' < a) := by
        rcases h with ⟨h1, h2⟩ | ⟨h1, h2⟩
        · rw [l] at h2; exact ⟨by omega, h2, fun z => by omega⟩
        · exact ⟨by omega, by omega, fun _ => h2⟩
      have e1 : wst a b = ((2 ^ a + 2 ^ b : Nat) : Int) := wst_n ⟨a, by omega⟩ ⟨b, hb⟩ (by show a ≠ b; omega)
      have e2 : wst a' b' = ((2 ^ a' + 2 ^ b' : Nat) : Int) := wst_n ⟨a', by omega⟩ ⟨b', by omega⟩ (by show a' ≠ b'; omega)
      rw [e1, e2]
      refine Int.ofNat_le.mpr ?_
      by_cases g : b' = b
      · subst g
        have := Nat.pow_le_pow_right (show 0 < 2 by decide) (show a' ≤ a by have := h'.2.2 rfl; omega)
        omega
      · have p1 : 2 ^ (a' + 1) ≤ 2 ^ b' := Nat.pow_le_pow_right (by decide) h'.2.1
        have p2 : 2 ^ (b' + 1) ≤ 2 ^ b := Nat.pow_le_pow_right (by decide) (by omega)
        have p3 : 2 ^ (b' + 1) = 2 ^ b' * 2 := Nat.pow_succ ..
        have p4 : 2 ^ (a' + 1) = 2 ^ a' * 2 := Nat.pow_succ ..
        have p5 : 0 < 2 ^ a := Nat.two_pow_pos a
        omega
/-! what is asked of wrong -/
def wgF (r : Nat → Int) (s : Int) : Prop := gnP r (fun j => r (10 + j)) (fun j => r (42 + j)) s
def wgJ (r : Nat → Int) (s b a : Nat) (w x : Int) : Prop := wgI (wgP (wgF r) (cF r) s) (wgS s) (wgM s) b a w x
noncomputable def wgZ (r : Nat → Int) (s : Nat) : Int := wgW (wgP (wgF r) (cF r) s) (wgM s) (wgB s)
theorem wgJ_w {r : Nat → Int} {s : Nat} {w x : Int} (J : wgJ r s (wgB s) 0 w x) : w = wgZ r s := by
  have z := J.1.1
  have z' : w = wgW (wgP (wgF r) (cF r) s) (wgM s) (wgB s) + 0 := z
  rw [Int.add_zero] at z'
  exact z'
def wgO (r : Nat → Int) (s : Nat) (w x : Int) : Prop := s < 3 ∧ (∀ t, t < s → wgZ r t = 0) ∧ 0 < w ∧ wgJ r s (wgB s) 0 w x
theorem wgO_eq {r : Nat → Int} {s t : Nat} {w x v y : Int} (h : wgO r s w x) (k : wgO r t v y) : s = t ∧ w = v ∧ x = y := by
  obtain ⟨h1, h2, h3, h4⟩ := h
  obtain ⟨k1, k2, k3, k4⟩ := k
  have a := wgJ_w h4
  have b := wgJ_w k4
  have e : s = t := by
    rcases Nat.lt_trichotomy s t with z | z | z
    · have := k2 s z; omega
    · exact z
    · have := h2 t z; omega
  subst e
  refine ⟨rfl, by omega, ?_⟩
  rcases h4.2 with ⟨z, _⟩ | ⟨_, a1, b1, u1, u2, u3, u4⟩
  · omega
  · rcases k4.2 with ⟨z, _⟩ | ⟨_, a2, b2, v1, v2, v3, v4⟩
    · omega
    · have q1 := u4 a2 b2 v1 v2
      have q2 := v4 a1 b1 u1 u2
      omega
def wgQ (r : Nat → Int) (a x : Int) : Prop := (¬ (0 ≤ a ∧ a ≤ 2) ∧ x = -1) ∨ ((0 ≤ a ∧ a ≤ 2) ∧ (((∀ s, s < 3 → wgZ r s = 0) ∧ x = -1) ∨ ∃ (s : Nat) (w l : Int), wgO r s w l ∧ ((a = 0 ∧ x = (s : Int)) ∨ (a = 1 ∧ x = w) ∨ (a = 2 ∧ x = l))))
theorem wgO_z {r : Nat → Int} {s : Nat} {w l : Int} (h : wgO r s w l) (z : ∀ s, s < 3 → wgZ r s = 0) : False := by
  have a := wgJ_w h.2.2.2
  have b := z s h.1
  have := h.2.2.1
  omega
theorem wg_eq {r : Nat → Int} {a x y : Int} (h : wgQ r a x) (k : wgQ r a y) : x = y := by
  rcases h with ⟨n, e⟩ | ⟨n, ⟨z, e⟩ | ⟨s, w, l, o, c⟩⟩ <;> rcases k with ⟨n', e'⟩ | ⟨n', ⟨z', e'⟩ | ⟨s', w', l', o', c'⟩⟩
  · omega
  · exact absurd n' n
  · exact absurd n' n
  · exact absurd n n'
  · omega
  · exact (wgO_z o' z).elim
  · exact absurd n n'
  · exact (wgO_z o z').elim
  · obtain ⟨e1, e2, e3⟩ := wgO_eq o o'
    subst e1; subst e2; subst e3
    omega
theorem LX.wrong {h h1 : m_H} {a x y : Int} {cs : List Nat} {ss : List (Nat × Nat)} (G : GI h) (N : NP h) (S1 : FR cs ss h h1) (A : wgQ (h 110) a x) (B : wgQ (h1 110) a y) (o : out 110 110 cs ss = true) : x = y := by
  rw [rowz S1 (fr_out o (by decide) (by decide))] at B
  exact wg_eq A B
theorem cF_no {r : Nat → Int} (b : RB r) {j : Nat} (h : r 0 ≤ (j : Int)) (h2 : j < 32) : bt (cF r) j ≠ true := fun z => by
  obtain ⟨b1, b2, b3, b4⟩ := b
  have y := (cS_bt (r := r) (r 0).toNat j (by omega) h2).mp z
  omega
/-- past the last entry there is nothing to strike -/
theorem wgP_no {r : Nat → Int} (b : RB r) {s a c : Nat} (hs : s ≠ 0) (h : r 0 ≤ (c : Int)) (h2 : c < 24) (ha : a < wgM s c) : ¬ wgP (wgF r) (cF r) s a c := by
  rintro ⟨z, _⟩
  have z := sx_0.mp z
  unfold wgS at z
  rw [if_neg hs] at z
  by_cases s1 : s = 1
  · rw [if_pos s1] at z
    exact cF_no b h (by omega) ((sb_shl (by omega)).mp z)
  · rw [if_neg s1] at z
    have l : wgM s c = c := if_neg (by omega)
    exact cF_no b h (by omega) ((sb_wst (by omega) (by omega)).mp z).2
def wgX (h0 h : m_H) (l2 l3 : Int) : Prop := RX (h0 110) (fun j => h0 110 (10 + j)) (fun j => h0 110 (42 + j)) h ∧ l2 = cF (h0 110) ∧ l3 = h0 110 0
def wgE (s : Int) (n : Int) : Int := if s = 0 then 1 else n
theorem wg_full {r : Nat → Int} (b : RB r) {s l3 l7 : Int} {w x : Int} (J : wgJ r s.toNat l7.toNat 0 w x) (e : l3 = r 0) (hs : 0 ≤ s) (h : l7 = wgE s l3) : wgJ r s.toNat (wgB s.toNat) 0 w x := by
  obtain ⟨b1, b2, b3, b4⟩ := b
  unfold wgE at h
  by_cases g : s = 0
  · rw [if_pos g] at h
    subst g
    subst h
    exact J
  · rw [if_neg g] at h
    have eb : wgB s.toNat = 24 := if_neg (by omega)
    rw [eb]
    have z := wgI_x J (wgM_b s.toNat) (fun a c h1 h2 h3 => wgP_no ⟨b1, b2, b3, b4⟩ (by omega) (by omega) h2 h3) (24 - l7.toNat) (by omega)
    rw [show l7.toNat + (24 - l7.toNat) = 24 by omega] at z
    exact z
theorem wg_st2 {a b x3 x4 x5 : Int} {s : Int} (hs : 2 ≤ s) (ha : 0 ≤ a) (hb : 0 ≤ b) (e3 : m_shl 1 a = x3) (e4 : m_shl 1 b = x4) (e5 : m_or x3 x4 = x5) : wgS s.toNat a.toNat b.toNat = x5 := by
  unfold wgS wst
  rw [if_neg (by omega), if_neg (by omega), show ((a.toNat : Nat) : Int) = a by omega, show ((b.toNat : Nat) : Int) = b by omega, e3, e4, e5]
theorem wg_st1 {a b x : Int} {s : Int} (hs : s = 1) (hb : 0 ≤ b) (e : m_shl 1 b = x) : wgS s.toNat a.toNat b.toNat = x := by
  subst hs
  show (if (1 : Nat) = 0 then (0 : Int) else if (1 : Nat) = 1 then m_shl 1 ((b.toNat : Nat) : Int) else wst a.toNat b.toNat) = x
  rw [if_neg (by decide), if_pos rfl, show ((b.toNat : Nat) : Int) = b by omega, e]
theorem wg_st0 {a b : Int} {s : Int} (hs : s = 0) : wgS s.toNat a.toNat b.toNat = 0 := by
  subst hs; rfl
theorem wg_no {r : Nat → Int} {s a b l2 x5 x6 x7 : Int} (el : l2 = cF r) (es : wgS s.toNat a.toNat b.toNat = x5) (e6 : m_xor l2 (-1) = x6) (e7 : m_and x5 x6 = x7) (c : x7 ≠ 0) : ¬ wgP (wgF r) (cF r) s.toNat a.toNat b.toNat := fun z => c (by
  have y := z.1
  unfold sx at y
  rw [es, ← el, e6, e7] at y
  exact y)
theorem wg_iff {r : Nat → Int} {s a b l2 x5 x6 x7 x9 x10 x : Int} (el : l2 = cF r) (es : wgS s.toNat a.toNat b.toNat = x5) (e6 : m_xor l2 (-1) = x6) (e7 : m_and x5 x6 = x7) (c : x7 = 0) (e9 : m_xor x5 (-1) = x9) (e10 : m_and l2 x9 = x10) (f : x = 1 ↔ ¬ gnP r (fun j => r (10 + j)) (fun j => r (42 + j)) x10) : x = 1 ↔ wgP (wgF r) (cF r) s.toNat a.toNat b.toNat := by
  rw [f]
  unfold wgP wgF sx
  rw [es, ← el, e6, e7, e9, e10]
  exact ⟨fun z => ⟨by omega, z⟩, fun z => z.2⟩
def wgJ' (r : Nat → Int) (s b a w x : Int) : Prop := wgJ r s.toNat b.toNat a.toNat w x
theorem wj_n {r : Nat → Int} {s b a w x : Int} (h0 : 0 ≤ a) (J : wgJ' r s b a w x) (n : ¬ wgP (wgF r) (cF r) s.toNat a.toNat b.toNat) : wgJ' r s b (a + 1) (w + 0) x := by
  unfold wgJ'
  rw [Int.add_zero, show (a + 1).toNat = a.toNat + 1 by omega]
  exact wgI_n J n
theorem wj_a {r : Nat → Int} {s b a w x y : Int} (h0 : 0 ≤ a) (J : wgJ' r s b a w x) (n : wgP (wgF r) (cF r) s.toNat a.toNat b.toNat) (e : w = 0) (es : wgS s.toNat a.toNat b.toNat = y) : wgJ' r s b (a + 1) (w + 1) y := by
  unfold wgJ'
  rw [show (a + 1).toNat = a.toNat + 1 by omega, ← es]
  exact wgI_a J n e
theorem wj_b {r : Nat → Int} {s b a w x : Int} (h0 : 0 ≤ a) (J : wgJ' r s b a w x) (n : wgP (wgF r) (cF r) s.toNat a.toNat b.toNat) (e : w ≠ 0) (hb : b ≤ 23) (ha : a.toNat < wgM s.toNat b.toNat) : wgJ' r s b (a + 1) (w + 1) x := by
  unfold wgJ'
  rw [show (a + 1).toNat = a.toNat + 1 by omega]
  exact wgI_b J n e (fun a' b' h => wgS_m (by omega) ha h)
theorem wj_r {r : Nat → Int} {s b a w x : Int} (h0 : 0 ≤ b) (h1 : b ≤ 23) (J : wgJ' r s b a w x) (h : a.toNat = wgM s.toNat b.toNat) : wgJ' r s (b + 1) 0 w x := by
  unfold wgJ'
  rw [show (b + 1).toNat = b.toNat + 1 by omega]
  exact wgI_r J h ((wgM_b s.toNat b.toNat).elim id (fun z => by omega))
theorem wj_bd {r : Nat → Int} {s b a w x : Int} (h0 : 0 ≤ b) (h1 : b ≤ 24) (a0 : 0 ≤ a) (a1 : a ≤ 24) (J : wgJ' r s b a w x) : 0 ≤ w ∧ w ≤ 1000 := by
  have z := J.1.2
  have u := wgW_0 (P := wgP (wgF r) (cF r) s.toNat) (lim := wgM s.toNat) b.toNat
  have v := (vwN_b (P := fun a' => wgP (wgF r) (cF r) s.toNat a' b.toNat) a.toNat).1
  have e := J.1.1
  omega
theorem wj_m2 {s b : Int} (h : 2 ≤ s) : wgM s.toNat b.toNat = b.toNat := if_neg (by omega)
theorem wj_m1 {s b : Int} (h0 : 0 ≤ s) (h : s < 2) : wgM s.toNat b.toNat = 1 := if_pos (by omega)
theorem wg_O {r : Nat → Int} (b : RB r) {s l3 l7 w x : Int} (J : wgJ' r s l7 0 w x) (e : l3 = r 0) (hs : 0 ≤ s) (hs2 : s ≤ 2) (h : l7 = wgE s l3) (z : ∀ t : Nat, (t : Int) < s → wgZ r t = 0) (hw : 0 < w) : wgO r s.toNat w x := ⟨by omega, fun t ht => z t (by omega), hw, wg_full b J e hs h⟩
theorem wg_Z {r : Nat → Int} (b : RB r) {s l3 l7 w x : Int} (J : wgJ' r s l7 0 w x) (e : l3 = r 0) (hs : 0 ≤ s) (h : l7 = wgE s l3) (z : ∀ t : Nat, (t : Int) < s → wgZ r t = 0) (hw : w ≤ 0) : ∀ t : Nat, (t : Int) < s + 1 → wgZ r t = 0 := fun t ht => by
  by_cases g : t = s.toNat
  · have k := wgJ_w (wg_full b J e hs h)
    have k0 := wgW_0 (P := wgP (wgF r) (cF r) s.toNat) (lim := wgM s.toNat) (wgB s.toNat)
    rw [g]
    have k1 : 0 ≤ wgZ r s.toNat := k0
    omega
  · exact z t (by omega)
theorem RB_of {h : m_H} (G : GI h) : RB (h 110) := by
  have a := gw_0 G
  have b := gw_1 G
  exact ⟨a.1, a.2, b.1, b.2⟩
abbrev P_X12_wrong3 (h0 : m_H) (a1 : Int) : Int → m_H → Prop := fun x h' => GI h' ∧ FR [115, 116, 117, 118, 119, 120, 121, 122, 123, 124, 125, 126, 127, 128, 129, 130, 131, 132, 133, 134] [(108, 0), (108, 21)] h0 h' ∧ wgQ (h0 110) a1 x
def q_X12_wrong3 (h0 : m_H) (a1 : Int) (n : Nat) : Prop := (∀ (l2 l3 l4 : Int) (h : m_H), GI h → FR [115, 116, 117, 118, 119, 120, 121, 122, 123, 124, 125, 126, 127, 128, 129, 130, 131, 132, 133, 134] [(108, 0), (108, 21)] h0 h → 0 ≤ l3 → l3 ≤ 24 → 0 ≤ l4 → l4 ≤ 3 → 0 ≤ a1 → a1 ≤ 2 → (wgX h0 h l2 l3 ∧ (∀ t : Nat, (t : Int) < l4 → wgZ (h0 110) t = 0)) → 2478 * (3 - l4) + (2477) ≤ (n : Int) → m_Z oF M_X12_wrong 38 [some (mR 108), some (mI a1), some (mI l2), some (mI l3), some (mI l4), none, none, none, none, none, none] [] h (m_QI (P_X12_wrong3 h0 a1))) ∧ (∀ (l2 l3 l4 l5 l6 l7 : Int) (h : m_H), GI h → FR [115, 116, 117, 118, 119, 120, 121, 122, 123, 124, 125, 126, 127, 128, 129, 130, 131, 132, 133, 134] [(108, 0), (108, 21)] h0 h → 0 ≤ l3 → l3 ≤ 24 → 0 ≤ l4 → l4 ≤ 2 → 0 ≤ l7 → l7 ≤ 24 → 0 ≤ a1 → a1 ≤ 2 → (wgX h0 h l2 l3 ∧ (∀ t : Nat, (t : Int) < l4 → wgZ (h0 110) t = 0) ∧ wgJ' (h0 110) l4 l7 0 l5 l6 ∧ l7 ≤ wgE l4 l3) → 2478 * (3 - l4) + 99 * (24 - l7) + (98) ≤ (n : Int) → m_Z oF M_X12_wrong 53 [some (mR 108), some (mI a1), some (mI l2), some (mI l3), some (mI l4), some (mI l5), some (mI l6), some (mI l7), none, none, none] [] h (m_QI (P_X12_wrong3 h0 a1))) ∧ (∀ (l2 l3 l4 l5 l6 l7 l8 : Int) (h : m_H), GI h → FR [115, 116, 117, 118, 119, 120, 121, 122, 123, 124, 125, 126, 127, 128, 129, 130, 131, 132, 133, 134] [(108, 0), (108, 21)] h0 h → 0 ≤ l3 → l3 ≤ 24 → 0 ≤ l4 → l4 ≤ 2 → 0 ≤ l7 → l7 ≤ 23 → 0 ≤ l8 → l8 ≤ 23 → 0 ≤ a1 → a1 ≤ 2 → (wgX h0 h l2 l3 ∧ (∀ t : Nat, (t : Int) < l4 → wgZ (h0 110) t = 0) ∧ wgJ' (h0 110) l4 l7 l8 l5 l6 ∧ l7 < wgE l4 l3 ∧ l8.toNat ≤ wgM l4.toNat l7.toNat) → 2478 * (3 - l4) + 99 * (24 - l7) + 4 * (23 - l8) + (3) ≤ (n : Int) → m_Z oF M_X12_wrong 71 [some (mR 108), some (mI a1), some (mI l2), some (mI l3), some (mI l4), some (mI l5), some (mI l6), some (mI l7), some (mI l8), none, none] [] h (m_QI (P_X12_wrong3 h0 a1))) ∧ (∀ (l2 l3 l4 l5 l6 l7 l8 l10 : Int) (h : m_H), GI h → FR [115, 116, 117, 118, 119, 120, 121, 122, 123, 124, 125, 126, 127, 128, 129, 130, 131, 132, 133, 134] [(108, 0), (108, 21)] h0 h → 0 ≤ l3 → l3 ≤ 24 → 0 ≤ l4 → l4 ≤ 2 → 0 ≤ l7 → l7 ≤ 23 → 0 ≤ l8 → l8 ≤ 22 → 0 ≤ l10 → l10 ≤ 1 → 0 ≤ a1 → a1 ≤ 2 → (wgX h0 h l2 l3 ∧ (∀ t : Nat, (t : Int) < l4 → wgZ (h0 110) t = 0) ∧ wgJ' (h0 110) l4 l7 (l8 + 1) (l5 + l10) l6 ∧ l7 < wgE l4 l3 ∧ l8.toNat < wgM l4.toNat l7.toNat) → 2478 * (3 - l4) + 99 * (24 - l7) + 4 * (23 - l8) + (2) ≤ (n : Int) → m_Z oF M_X12_wrong 165 [some (mR 108), some (mI a1), some (mI l2), some (mI l3), some (mI l4), some (mI l5), some (mI l6), some (mI l7), some (mI l8), none, some (mI l10)] [] h (m_QI (P_X12_wrong3 h0 a1))) ∧ (∀ (l2 l3 l4 l6 l7 l8 k0 k1 : Int) (h : m_H), GI h → FR [115, 116, 117, 118, 119, 120, 121, 122, 123, 124, 125, 126, 127, 128, 129, 130, 131, 132, 133, 134] [(108, 0), (108, 21)] h0 h → 0 ≤ l3 → l3 ≤ 24 → 0 ≤ l4 → l4 ≤ 2 → 0 ≤ l7 → l7 ≤ 23 → 0 ≤ l8 → l8 ≤ 22 → 0 ≤ k1 → k1 ≤ 1 → 0 ≤ a1 → a1 ≤ 2 → (wgX h0 h l2 l3 ∧ (∀ t : Nat, (t : Int) < l4 → wgZ (h0 110) t = 0) ∧ wgJ' (h0 110) l4 l7 (l8 + 1) (k0 + k1) l6 ∧ l7 < wgE l4 l3 ∧ l8.toNat < wgM l4.toNat l7.toNat) → 2478 * (3 - l4) + 99 * (24 - l7) + 4 * (23 - l8) + (1) ≤ (n : Int) → m_Z oF M_X12_wrong 181 [some (mR 108), some (mI a1), some (mI l2), some (mI l3), some (mI l4), none, some (mI l6), some (mI l7), some (mI l8), none, none] [mI k1, mI k0] h (m_QI (P_X12_wrong3 h0 a1)))
set_option maxHeartbeats 4000000 in
set_option maxRecDepth 100000 in
theorem s_X12_wrong3_38 (h0 : m_H) (a1 : Int) (G0 : GI h0) (hN : NP h0) (n : Nat) (ih : q_X12_wrong3 h0 a1 n) : ∀ (l2 l3 l4 : Int) (h : m_H), GI h → FR [115, 116, 117, 118, 119, 120, 121, 122, 123, 124, 125, 126, 127, 128, 129, 130, 131, 132, 133, 134] [(108, 0), (108, 21)] h0 h → 0 ≤ l3 → l3 ≤ 24 → 0 ≤ l4 → l4 ≤ 3 → 0 ≤ a1 → a1 ≤ 2 → (wgX h0 h l2 l3 ∧ (∀ t : Nat, (t : Int) < l4 → wgZ (h0 110) t = 0)) → 2478 * (3 - l4) + (2477) ≤ ((n + 1 : Nat) : Int) → m_Z oF M_X12_wrong 38 [some (mR 108), some (mI a1), some (mI l2), some (mI l3), some (mI l4), none, none, none, none, none, none] [] h (m_QI (P_X12_wrong3 h0 a1)) := by
  intro l2 l3 l4 h G R v0 v1 v2 v3 v4 v5 i1 hr
  refine z_ok (fun ostk _ olocs => ?_)
  have ol2 : m_32 l2 := olocs 2 _ rfl
  unfold m_32 at ol2
  refine z_iload (M := M_X12_wrong) 38 dX12_wrong_38 rfl ?_
  refine z_iconst (M := M_X12_wrong) 40 dX12_wrong_40 ?_
  refine z_icmp_gt (M := M_X12_wrong) 41 dX12_wrong_41 229 rfl (fun c1 => ?_) (fun c1 => ?_)
  · refine z_iconst (M := M_X12_wrong) 229 dX12_wrong_229 ?_
    exact z_retI (M := M_X12_wrong) 230 dX12_wrong_230 rfl ⟨G, R, Or.inr ⟨⟨by omega, by omega⟩, Or.inl ⟨fun s hs => i1.2 s (by omega), rfl⟩⟩⟩
  · refine z_iconst (M := M_X12_wrong) 44 dX12_wrong_44 ?_
    refine z_istore (M := M_X12_wrong) 45 dX12_wrong_45 (ls' := [some (mR 108), some (mI a1), some (mI l2), some (mI l3), some (mI l4), some (mI 0), none, none, none, none, none]) (by decide) rfl ?_
    refine z_iconst (M := M_X12_wrong) 47 dX12_wrong_47 ?_
    refine z_istore (M := M_X12_wrong) 48 dX12_wrong_48 (ls' := [some (mR 108), some (mI a1), some (mI l2), some (mI l3), some (mI l4), some (mI 0), some (mI 0), none, none, none, none]) (by decide) rfl ?_
    refine z_iconst (M := M_X12_wrong) 50 dX12_wrong_50 ?_
    refine z_istore (M := M_X12_wrong) 51 dX12_wrong_51 (ls' := [some (mR 108), some (mI a1), some (mI l2), some (mI l3), some (mI l4), some (mI 0), some (mI 0), some (mI 0), none, none, none]) (by decide) rfl ?_
    exact z_mask [true, true, true, true, true, true, true, true, false, false, false] rfl (ih.2.1 l2 l3 l4 0 0 0 h G R (by omega) (by omega) (by omega) (by omega) (by omega) (by omega) (by omega) (by omega) ⟨i1.1, i1.2, (show wgJ' (h0 110) l4 0 0 0 0 from wgI_0), (by unfold wgE; have z := (gw_0 G0).1; have y := i1.1.2.2; split <;> omega)⟩ (by omega))
set_option maxHeartbeats 4000000 in
set_option maxRecDepth 100000 in
theorem s_X12_wrong3_53 (h0 : m_H) (a1 : Int) (G0 : GI h0) (hN : NP h0) (n : Nat) (ih : q_X12_wrong3 h0 a1 n) : ∀ (l2 l3 l4 l5 l6 l7 : Int) (h : m_H), GI h → FR [115, 116, 117, 118, 119, 120, 121, 122, 123, 124, 125, 126, 127, 128, 129, 130, 131, 132, 133, 134] [(108, 0), (108, 21)] h0 h → 0 ≤ l3 → l3 ≤ 24 → 0 ≤ l4 → l4 ≤ 2 → 0 ≤ l7 → l7 ≤ 24 → 0 ≤ a1 → a1 ≤ 2 → (wgX h0 h l2 l3 ∧ (∀ t : Nat, (t : Int) < l4 → wgZ (h0 110) t = 0) ∧ wgJ' (h0 110) l4 l7 0 l5 l6 ∧ l7 ≤ wgE l4 l3) → 2478 * (3 - l4) + 99 * (24 - l7) + (98) ≤ ((n + 1 : Nat) : Int) → m_Z oF M_X12_wrong 53 [some (mR 108), some (mI a1), some (mI l2), some (mI l3), some (mI l4), some (mI l5), some (mI l6), some (mI l7), none, none, none] [] h (m_QI (P_X12_wrong3 h0 a1)) := by
  intro l2 l3 l4 l5 l6 l7 h G R v0 v1 v2 v3 v4 v5 v6 v7 i1 hr
  have b_ := RB_of G0
  have e3_ : l3 = h0 110 0 := i1.1.2.2
  refine z_ok (fun ostk _ olocs => ?_)
  have ol2 : m_32 l2 := olocs 2 _ rfl
  unfold m_32 at ol2
  have ol5 : m_32 l5 := olocs 5 _ rfl
  unfold m_32 at ol5
  have ol6 : m_32 l6 := olocs 6 _ rfl
  unfold m_32 at ol6
  refine z_iload (M := M_X12_wrong) 53 dX12_wrong_53 rfl ?_
  refine z_iload (M := M_X12_wrong) 55 dX12_wrong_55 rfl ?_
  refine z_if_ne (M := M_X12_wrong) 57 dX12_wrong_57 64 rfl (fun c1 => ?_) (fun c1 => ?_)
  · refine z_iload_n (M := M_X12_wrong) 64 dX12_wrong_64 rfl ?_
    refine z_icmp_ge (M := M_X12_wrong) 65 dX12_wrong_65 196 rfl (fun c2 => ?_) (fun c2 => ?_)
    · refine z_iload (M := M_X12_wrong) 196 dX12_wrong_196 rfl ?_
      refine z_if_le (M := M_X12_wrong) 198 dX12_wrong_198 223 rfl (fun c3 => ?_) (fun c3 => ?_)
      · refine z_iincN (M := M_X12_wrong) 223 dX12_wrong_223 (ls' := [some (mR 108), some (mI a1), some (mI l2), some (mI l3), some (mI (l4 + 1)), some (mI l5), some (mI l6), some (mI l7), none, none, none]) (by decide) rfl (by (unfold m_32; decide)) (by omega) (by omega) rfl ?_
        refine z_goto (M := M_X12_wrong) 226 dX12_wrong_226 38 rfl ?_
        exact z_mask [true, true, true, true, true, false, false, false, false, false, false] rfl (ih.1 l2 l3 (l4 + 1) h G R (by omega) (by omega) (by omega) (by omega) (by omega) (by omega) ⟨i1.1, wg_Z b_ i1.2.2.1 e3_ (by omega) (by have q := i1.2.2.2; unfold wgE at q ⊢; rw [if_neg (by omega)] at q ⊢; omega) i1.2.1 c3⟩ (by omega))
      · refine z_iload_n (M := M_X12_wrong) 201 dX12_wrong_201 rfl ?_
        refine z_if_ne (M := M_X12_wrong) 202 dX12_wrong_202 210 rfl (fun c4 => ?_) (fun c4 => ?_)
        · refine z_iload_n (M := M_X12_wrong) 210 dX12_wrong_210 rfl ?_
          refine z_iconst (M := M_X12_wrong) 211 dX12_wrong_211 ?_
          refine z_icmp_ne (M := M_X12_wrong) 212 dX12_wrong_212 220 rfl (fun c5 => ?_) (fun c5 => ?_)
          · refine z_iload (M := M_X12_wrong) 220 dX12_wrong_220 rfl ?_
            exact z_retI (M := M_X12_wrong) 222 dX12_wrong_222 rfl ⟨G, R, Or.inr ⟨⟨by omega, by omega⟩, Or.inr ⟨l4.toNat, l5, l6, wg_O b_ i1.2.2.1 e3_ (by omega) (by omega) (by have q := i1.2.2.2; unfold wgE at q ⊢; rw [if_neg (by omega)] at q ⊢; omega) i1.2.1 (by omega), Or.inr (Or.inr ⟨by omega, rfl⟩)⟩⟩⟩
          · refine z_iload (M := M_X12_wrong) 215 dX12_wrong_215 rfl ?_
            refine z_goto (M := M_X12_wrong) 217 dX12_wrong_217 222 rfl ?_
            exact z_retI (M := M_X12_wrong) 222 dX12_wrong_222 rfl ⟨G, R, Or.inr ⟨⟨by omega, by omega⟩, Or.inr ⟨l4.toNat, l5, l6, wg_O b_ i1.2.2.1 e3_ (by omega) (by omega) (by have q := i1.2.2.2; unfold wgE at q ⊢; rw [if_neg (by omega)] at q ⊢; omega) i1.2.1 (by omega), Or.inr (Or.inl ⟨by omega, rfl⟩)⟩⟩⟩
        · refine z_iload (M := M_X12_wrong) 205 dX12_wrong_205 rfl ?_
          refine z_goto (M := M_X12_wrong) 207 dX12_wrong_207 222 rfl ?_
          exact z_retI (M := M_X12_wrong) 222 dX12_wrong_222 rfl ⟨G, R, Or.inr ⟨⟨by omega, by omega⟩, Or.inr ⟨l4.toNat, l5, l6, wg_O b_ i1.2.2.1 e3_ (by omega) (by omega) (by have q := i1.2.2.2; unfold wgE at q ⊢; rw [if_neg (by omega)] at q ⊢; omega) i1.2.1 (by omega), Or.inl ⟨by omega, by omega⟩⟩⟩⟩
    · refine z_iconst (M := M_X12_wrong) 68 dX12_wrong_68 ?_
      refine z_istore (M := M_X12_wrong) 69 dX12_wrong_69 (ls' := [some (mR 108), some (mI a1), some (mI l2), some (mI l3), some (mI l4), some (mI l5), some (mI l6), some (mI l7), some (mI 0), none, none]) (by decide) rfl ?_
      exact z_mask [true, true, true, true, true, true, true, true, true, false, false] rfl (ih.2.2.1 l2 l3 l4 l5 l6 l7 0 h G R (by omega) (by omega) (by omega) (by omega) (by omega) (by omega) (by omega) (by omega) (by omega) (by omega) ⟨i1.1, i1.2.1, i1.2.2.1, (by unfold wgE; rw [if_neg (by omega)]; omega), (by show 0 ≤ _; omega)⟩ (by omega))
  · refine z_iconst (M := M_X12_wrong) 60 dX12_wrong_60 ?_
    refine z_goto (M := M_X12_wrong) 61 dX12_wrong_61 65 rfl ?_
    refine z_icmp_ge (M := M_X12_wrong) 65 dX12_wrong_65 196 rfl (fun c6 => ?_) (fun c6 => ?_)
    · refine z_iload (M := M_X12_wrong) 196 dX12_wrong_196 rfl ?_
      refine z_if_le (M := M_X12_wrong) 198 dX12_wrong_198 223 rfl (fun c7 => ?_) (fun c7 => ?_)
      · refine z_iincN (M := M_X12_wrong) 223 dX12_wrong_223 (ls' := [some (mR 108), some (mI a1), some (mI l2), some (mI l3), some (mI (l4 + 1)), some (mI l5), some (mI l6), some (mI l7), none, none, none]) (by decide) rfl (by (unfold m_32; decide)) (by omega) (by omega) rfl ?_
        refine z_goto (M := M_X12_wrong) 226 dX12_wrong_226 38 rfl ?_
        exact z_mask [true, true, true, true, true, false, false, false, false, false, false] rfl (ih.1 l2 l3 (l4 + 1) h G R (by omega) (by omega) (by omega) (by omega) (by omega) (by omega) ⟨i1.1, wg_Z b_ i1.2.2.1 e3_ (by omega) (by have q := i1.2.2.2; unfold wgE at q ⊢; rw [if_pos (by omega)] at q ⊢; omega) i1.2.1 c7⟩ (by omega))
      · refine z_iload_n (M := M_X12_wrong) 201 dX12_wrong_201 rfl ?_
        refine z_if_ne (M := M_X12_wrong) 202 dX12_wrong_202 210 rfl (fun c8 => ?_) (fun c8 => ?_)
        · refine z_iload_n (M := M_X12_wrong) 210 dX12_wrong_210 rfl ?_
          refine z_iconst (M := M_X12_wrong) 211 dX12_wrong_211 ?_
          refine z_icmp_ne (M := M_X12_wrong) 212 dX12_wrong_212 220 rfl (fun c9 => ?_) (fun c9 => ?_)
          · refine z_iload (M := M_X12_wrong) 220 dX12_wrong_220 rfl ?_
            exact z_retI (M := M_X12_wrong) 222 dX12_wrong_222 rfl ⟨G, R, Or.inr ⟨⟨by omega, by omega⟩, Or.inr ⟨l4.toNat, l5, l6, wg_O b_ i1.2.2.1 e3_ (by omega) (by omega) (by have q := i1.2.2.2; unfold wgE at q ⊢; rw [if_pos (by omega)] at q ⊢; omega) i1.2.1 (by omega), Or.inr (Or.inr ⟨by omega, rfl⟩)⟩⟩⟩
          · refine z_iload (M := M_X12_wrong) 215 dX12_wrong_215 rfl ?_
            refine z_goto (M := M_X12_wrong) 217 dX12_wrong_217 222 rfl ?_
            exact z_retI (M := M_X12_wrong) 222 dX12_wrong_222 rfl ⟨G, R, Or.inr ⟨⟨by omega, by omega⟩, Or.inr ⟨l4.toNat, l5, l6, wg_O b_ i1.2.2.1 e3_ (by omega) (by omega) (by have q := i1.2.2.2; unfold wgE at q ⊢; rw [if_pos (by omega)] at q ⊢; omega) i1.2.1 (by omega), Or.inr (Or.inl ⟨by omega, rfl⟩)⟩⟩⟩
        · refine z_iload (M := M_X12_wrong) 205 dX12_wrong_205 rfl ?_
          refine z_goto (M := M_X12_wrong) 207 dX12_wrong_207 222 rfl ?_
          exact z_retI (M := M_X12_wrong) 222 dX12_wrong_222 rfl ⟨G, R, Or.inr ⟨⟨by omega, by omega⟩, Or.inr ⟨l4.toNat, l5, l6, wg_O b_ i1.2.2.1 e3_ (by omega) (by omega) (by have q := i1.2.2.2; unfold wgE at q ⊢; rw [if_pos (by omega)] at q ⊢; omega) i1.2.1 (by omega), Or.inl ⟨by omega, by omega⟩⟩⟩⟩
    · refine z_iconst (M := M_X12_wrong) 68 dX12_wrong_68 ?_
      refine z_istore (M := M_X12_wrong) 69 dX12_wrong_69 (ls' := [some (mR 108), some (mI a1), some (mI l2), some (mI l3), some (mI l4), some (mI l5), some (mI l6), some (mI l7), some (mI 0), none, none]) (by decide) rfl ?_
      exact z_mask [true, true, true, true, true, true, true, true, true, false, false] rfl (ih.2.2.1 l2 l3 l4 l5 l6 l7 0 h G R (by omega) (by omega) (by omega) (by omega) (by omega) (by omega) (by omega) (by omega) (by omega) (by omega) ⟨i1.1, i1.2.1, i1.2.2.1, (by unfold wgE; rw [if_pos (by omega)]; omega), (by show 0 ≤ _; omega)⟩ (by omega))
set_option maxHeartbeats 4000000 in
set_option maxRecDepth 100000 in
theorem s_X12_wrong3_71 (h0 : m_H) (a1 : Int) (G0 : GI h0) (hN : NP h0) (n : Nat) (ih : q_X12_wrong3 h0 a1 n) : ∀ (l2 l3 l4 l5 l6 l7 l8 : Int) (h : m_H), GI h → FR [115, 116, 117, 118, 119, 120, 121, 122, 123, 124, 125, 126, 127, 128, 129, 130, 131, 132, 133, 134] [(108, 0), (108, 21)] h0 h → 0 ≤ l3 → l3 ≤ 24 → 0 ≤ l4 → l4 ≤ 2 → 0 ≤ l7 → l7 ≤ 23 → 0 ≤ l8 → l8 ≤ 23 → 0 ≤ a1 → a1 ≤ 2 → (wgX h0 h l2 l3 ∧ (∀ t : Nat, (t : Int) < l4 → wgZ (h0 110) t = 0) ∧ wgJ' (h0 110) l4 l7 l8 l5 l6 ∧ l7 < wgE l4 l3 ∧ l8.toNat ≤ wgM l4.toNat l7.toNat) → 2478 * (3 - l4) + 99 * (24 - l7) + 4 * (23 - l8) + (3) ≤ ((n + 1 : Nat) : Int) → m_Z oF M_X12_wrong 71 [some (mR 108), some (mI a1), some (mI l2), some (mI l3), some (mI l4), some (mI l5), some (mI l6), some (mI l7), some (mI l8), none, none] [] h (m_QI (P_X12_wrong3 h0 a1)) := by
  intro l2 l3 l4 l5 l6 l7 l8 h G R v0 v1 v2 v3 v4 v5 v6 v7 v8 v9 i1 hr
  have n_ := NP.call hN R (fun _ => rfl) (fun _ => rfl) (fun _ => rfl)
  have el_ := i1.1.2.1
  refine z_ok (fun ostk _ olocs => ?_)
  have ol2 : m_32 l2 := olocs 2 _ rfl
  unfold m_32 at ol2
  have ol5 : m_32 l5 := olocs 5 _ rfl
  unfold m_32 at ol5
  have ol6 : m_32 l6 := olocs 6 _ rfl
  unfold m_32 at ol6
  refine z_iload (M := M_X12_wrong) 71 dX12_wrong_71 rfl ?_
  refine z_iload (M := M_X12_wrong) 73 dX12_wrong_73 rfl ?_
  refine z_iconst (M := M_X12_wrong) 75 dX12_wrong_75 ?_
  refine z_icmp_ge (M := M_X12_wrong) 76 dX12_wrong_76 83 rfl (fun c1 => ?_) (fun c1 => ?_)
  · refine z_iload (M := M_X12_wrong) 83 dX12_wrong_83 rfl ?_
    refine z_icmp_ge (M := M_X12_wrong) 85 dX12_wrong_85 190 rfl (fun c2 => ?_) (fun c2 => ?_)
    · refine z_iincN (M := M_X12_wrong) 190 dX12_wrong_190 (ls' := [some (mR 108), some (mI a1), some (mI l2), some (mI l3), some (mI l4), some (mI l5), some (mI l6), some (mI (l7 + 1)), some (mI l8), none, none]) (by decide) rfl (by (unfold m_32; decide)) (by omega) (by omega) rfl ?_
      refine z_goto (M := M_X12_wrong) 193 dX12_wrong_193 53 rfl ?_
      exact z_mask [true, true, true, true, true, true, true, true, false, false, false] rfl (ih.2.1 l2 l3 l4 l5 l6 (l7 + 1) h G R (by omega) (by omega) (by omega) (by omega) (by omega) (by omega) (by omega) (by omega) ⟨i1.1, i1.2.1, wj_r (by omega) (by omega) i1.2.2.1 (by have q := i1.2.2.2.2; rw [wj_m2 (by omega)] at q ⊢; omega), (by omega)⟩ (by omega))
    · refine z_iload (M := M_X12_wrong) 88 dX12_wrong_88 rfl ?_
      refine z_if_ne_T (M := M_X12_wrong) 90 dX12_wrong_90 97 rfl (by omega) ?_
      refine z_iload (M := M_X12_wrong) 97 dX12_wrong_97 rfl ?_
      refine z_iconst (M := M_X12_wrong) 99 dX12_wrong_99 ?_
      refine z_icmp_ne_T (M := M_X12_wrong) 100 dX12_wrong_100 110 rfl (by omega) ?_
      refine z_iconst (M := M_X12_wrong) 110 dX12_wrong_110 ?_
      refine z_iload (M := M_X12_wrong) 111 dX12_wrong_111 rfl ?_
      refine z_ishl (M := M_X12_wrong) 113 dX12_wrong_113 ?_
      refine z_topm (fun x3 ex3 ox3 => ?_)
      unfold m_32 at ox3
      refine z_iconst (M := M_X12_wrong) 114 dX12_wrong_114 ?_
      refine z_iload (M := M_X12_wrong) 115 dX12_wrong_115 rfl ?_
      refine z_ishl (M := M_X12_wrong) 117 dX12_wrong_117 ?_
      refine z_topm (fun x4 ex4 ox4 => ?_)
      unfold m_32 at ox4
      refine z_ior (M := M_X12_wrong) 118 dX12_wrong_118 ?_
      refine z_topm (fun x5 ex5 ox5 => ?_)
      unfold m_32 at ox5
      refine z_istore (M := M_X12_wrong) 119 dX12_wrong_119 (ls' := [some (mR 108), some (mI a1), some (mI l2), some (mI l3), some (mI l4), some (mI l5), some (mI l6), some (mI l7), some (mI l8), some (mI x5), none]) (by decide) rfl ?_
      refine z_iload (M := M_X12_wrong) 121 dX12_wrong_121 rfl ?_
      refine z_iload_n (M := M_X12_wrong) 123 dX12_wrong_123 rfl ?_
      refine z_iconst (M := M_X12_wrong) 124 dX12_wrong_124 ?_
      refine z_ixor (M := M_X12_wrong) 125 dX12_wrong_125 ?_
      refine z_topm (fun x6 ex6 ox6 => ?_)
      unfold m_32 at ox6
      refine z_iand (M := M_X12_wrong) 126 dX12_wrong_126 ?_
      refine z_topm (fun x7 ex7 ox7 => ?_)
      unfold m_32 at ox7
      refine z_if_ne (M := M_X12_wrong) 127 dX12_wrong_127 147 rfl (fun c8 => ?_) (fun c8 => ?_)
      · refine z_iconst (M := M_X12_wrong) 147 dX12_wrong_147 ?_
        refine z_istore (M := M_X12_wrong) 148 dX12_wrong_148 (ls' := [some (mR 108), some (mI a1), some (mI l2), some (mI l3), some (mI l4), some (mI l5), some (mI l6), some (mI l7), some (mI l8), some (mI x5), some (mI 0)]) (by decide) rfl ?_
        refine z_iload (M := M_X12_wrong) 150 dX12_wrong_150 rfl ?_
        refine z_if_eq_T (M := M_X12_wrong) 152 dX12_wrong_152 165 rfl (by omega) ?_
        exact z_mask [true, true, true, true, true, true, true, true, true, false, true] rfl (ih.2.2.2.1 l2 l3 l4 l5 l6 l7 l8 0 h G R (by omega) (by omega) (by omega) (by omega) (by omega) (by omega) (by omega) (by omega) (by omega) (by omega) (by omega) (by omega) ⟨i1.1, i1.2.1, wj_n (by omega) i1.2.2.1 (wg_no el_ (wg_st2 (s := l4) (by omega) (by omega) (by omega) ex3 ex4 ex5) ex6 ex7 c8), i1.2.2.2.1, (by rw [wj_m2 (by omega)]; omega)⟩ (by omega))
      · refine z_aload_n (M := M_X12_wrong) 130 dX12_wrong_130 rfl ?_
        refine z_iload_n (M := M_X12_wrong) 131 dX12_wrong_131 rfl ?_
        refine z_iload (M := M_X12_wrong) 132 dX12_wrong_132 rfl ?_
        refine z_iconst (M := M_X12_wrong) 134 dX12_wrong_134 ?_
        refine z_ixor (M := M_X12_wrong) 135 dX12_wrong_135 ?_
        refine z_topm (fun x9 ex9 ox9 => ?_)
        unfold m_32 at ox9
        refine z_iand (M := M_X12_wrong) 136 dX12_wrong_136 ?_
        refine z_topm (fun x10 ex10 ox10 => ?_)
        unfold m_32 at ox10
        refine z_vI (M := M_X12_wrong) 137 dX12_wrong_137 t_X12_canBe l_X12_374 (m_rr_of rfl) (rest := []) (c_X12_canBe2 h x10 G (NP.call hN R (fun _ => rfl) (fun _ => rfl) (fun _ => rfl))) o_108 rfl rfl rfl (Nat.le_of_ble_eq_true rfl) ⟨rfl, rfl⟩ (fun x11 h1 qx11 => ?_)
        obtain ⟨G1, S1, ax11, bx11, fx11_0, fx11_1⟩ := qx11
        have g_ := gn_iff i1.1.1 G n_ ax11 bx11 fx11_0 fx11_1
        have st_ := wg_st2 (s := l4) (by omega) (by omega) (by omega) ex3 ex4 ex5
        have p_ := wg_iff el_ st_ ex6 ex7 c8 ex9 ex10 g_
        have x_ : wgX h0 h1 l2 l3 := ⟨i1.1.1.to (FR.row S1 (fun _ => rfl)) (FR.row S1 (fun _ => rfl)) (FR.row S1 (fun _ => rfl)), i1.1.2⟩
        have R1 := R.call S1 (by decide +kernel)
        refine z_if_eq (M := M_X12_wrong) 140 dX12_wrong_140 147 rfl (fun c12 => ?_) (fun c12 => ?_)
        · refine z_iconst (M := M_X12_wrong) 147 dX12_wrong_147 ?_
          refine z_istore (M := M_X12_wrong) 148 dX12_wrong_148 (ls' := [some (mR 108), some (mI a1), some (mI l2), some (mI l3), some (mI l4), some (mI l5), some (mI l6), some (mI l7), some (mI l8), some (mI x5), some (mI 0)]) (by decide) rfl ?_
          refine z_iload (M := M_X12_wrong) 150 dX12_wrong_150 rfl ?_
          refine z_if_eq_T (M := M_X12_wrong) 152 dX12_wrong_152 165 rfl (by omega) ?_
          exact z_mask [true, true, true, true, true, true, true, true, true, false, true] rfl (ih.2.2.2.1 l2 l3 l4 l5 l6 l7 l8 0 h1 G1 R1 (by omega) (by omega) (by omega) (by omega) (by omega) (by omega) (by omega) (by omega) (by omega) (by omega) (by omega) (by omega) ⟨x_, i1.2.1, wj_n (by omega) i1.2.2.1 (fun z => absurd (p_.mpr z) (by omega)), i1.2.2.2.1, (by rw [wj_m2 (by omega)]; omega)⟩ (by omega))
        · refine z_iconst (M := M_X12_wrong) 143 dX12_wrong_143 ?_
          refine z_goto (M := M_X12_wrong) 144 dX12_wrong_144 148 rfl ?_
          refine z_istore (M := M_X12_wrong) 148 dX12_wrong_148 (ls' := [some (mR 108), some (mI a1), some (mI l2), some (mI l3), some (mI l4), some (mI l5), some (mI l6), some (mI l7), some (mI l8), some (mI x5), some (mI 1)]) (by decide) rfl ?_
          refine z_iload (M := M_X12_wrong) 150 dX12_wrong_150 rfl ?_
          refine z_if_eq_F (M := M_X12_wrong) 152 dX12_wrong_152 165 rfl (by omega) ?_
          refine z_iload (M := M_X12_wrong) 155 dX12_wrong_155 rfl ?_
          refine z_if_ne (M := M_X12_wrong) 157 dX12_wrong_157 165 rfl (fun c13 => ?_) (fun c13 => ?_)
          · exact z_mask [true, true, true, true, true, true, true, true, true, false, true] rfl (ih.2.2.2.1 l2 l3 l4 l5 l6 l7 l8 1 h1 G1 R1 (by omega) (by omega) (by omega) (by omega) (by omega) (by omega) (by omega) (by omega) (by omega) (by omega) (by omega) (by omega) ⟨x_, i1.2.1, wj_b (by omega) i1.2.2.1 (p_.mp (by omega)) (by omega) (by omega) (by rw [wj_m2 (by omega)]; omega), i1.2.2.2.1, (by rw [wj_m2 (by omega)]; omega)⟩ (by omega))
          · refine z_iload (M := M_X12_wrong) 160 dX12_wrong_160 rfl ?_
            refine z_goto (M := M_X12_wrong) 162 dX12_wrong_162 167 rfl ?_
            refine z_istore (M := M_X12_wrong) 167 dX12_wrong_167 (ls' := [some (mR 108), some (mI a1), some (mI l2), some (mI l3), some (mI l4), some (mI l5), some (mI x5), some (mI l7), some (mI l8), some (mI x5), some (mI 1)]) (by decide) rfl ?_
            refine z_iload (M := M_X12_wrong) 169 dX12_wrong_169 rfl ?_
            refine z_iload (M := M_X12_wrong) 171 dX12_wrong_171 rfl ?_
            refine z_if_eq_F (M := M_X12_wrong) 173 dX12_wrong_173 180 rfl (by omega) ?_
            refine z_iconst (M := M_X12_wrong) 176 dX12_wrong_176 ?_
            refine z_goto (M := M_X12_wrong) 177 dX12_wrong_177 181 rfl ?_
            exact z_mask [true, true, true, true, true, false, true, true, true, false, false] rfl (ih.2.2.2.2 l2 l3 l4 x5 l7 l8 l5 1 h1 G1 R1 (by omega) (by omega) (by omega) (by omega) (by omega) (by omega) (by omega) (by omega) (by omega) (by omega) (by omega) (by omega) ⟨x_, i1.2.1, wj_a (by omega) i1.2.2.1 (p_.mp (by omega)) (by omega) st_, i1.2.2.2.1, (by rw [wj_m2 (by omega)]; omega)⟩ (by omega))
  · refine z_iconst (M := M_X12_wrong) 79 dX12_wrong_79 ?_
    refine z_goto (M := M_X12_wrong) 80 dX12_wrong_80 85 rfl ?_
    refine z_icmp_ge (M := M_X12_wrong) 85 dX12_wrong_85 190 rfl (fun c14 => ?_) (fun c14 => ?_)
    · refine z_iincN (M := M_X12_wrong) 190 dX12_wrong_190 (ls' := [some (mR 108), some (mI a1), some (mI l2), some (mI l3), some (mI l4), some (mI l5), some (mI l6), some (mI (l7 + 1)), some (mI l8), none, none]) (by decide) rfl (by (unfold m_32; decide)) (by omega) (by omega) rfl ?_
      refine z_goto (M := M_X12_wrong) 193 dX12_wrong_193 53 rfl ?_
      exact z_mask [true, true, true, true, true, true, true, true, false, false, false] rfl (ih.2.1 l2 l3 l4 l5 l6 (l7 + 1) h G R (by omega) (by omega) (by omega) (by omega) (by omega) (by omega) (by omega) (by omega) ⟨i1.1, i1.2.1, wj_r (by omega) (by omega) i1.2.2.1 (by have q := i1.2.2.2.2; rw [wj_m1 (by omega) (by omega)] at q ⊢; omega), (by omega)⟩ (by omega))
    · refine z_iload (M := M_X12_wrong) 88 dX12_wrong_88 rfl ?_
      refine z_if_ne (M := M_X12_wrong) 90 dX12_wrong_90 97 rfl (fun c15 => ?_) (fun c15 => ?_)
      · refine z_iload (M := M_X12_wrong) 97 dX12_wrong_97 rfl ?_
        refine z_iconst (M := M_X12_wrong) 99 dX12_wrong_99 ?_
        refine z_icmp_ne_F (M := M_X12_wrong) 100 dX12_wrong_100 110 rfl (by omega) ?_
        refine z_iconst (M := M_X12_wrong) 103 dX12_wrong_103 ?_
        refine z_iload (M := M_X12_wrong) 104 dX12_wrong_104 rfl ?_
        refine z_ishl (M := M_X12_wrong) 106 dX12_wrong_106 ?_
        refine z_topm (fun x16 ex16 ox16 => ?_)
        unfold m_32 at ox16
        refine z_goto (M := M_X12_wrong) 107 dX12_wrong_107 119 rfl ?_
        refine z_istore (M := M_X12_wrong) 119 dX12_wrong_119 (ls' := [some (mR 108), some (mI a1), some (mI l2), some (mI l3), some (mI l4), some (mI l5), some (mI l6), some (mI l7), some (mI l8), some (mI x16), none]) (by decide) rfl ?_
        refine z_iload (M := M_X12_wrong) 121 dX12_wrong_121 rfl ?_
        refine z_iload_n (M := M_X12_wrong) 123 dX12_wrong_123 rfl ?_
        refine z_iconst (M := M_X12_wrong) 124 dX12_wrong_124 ?_
        refine z_ixor (M := M_X12_wrong) 125 dX12_wrong_125 ?_
        refine z_topm (fun x17 ex17 ox17 => ?_)
        unfold m_32 at ox17
        refine z_iand (M := M_X12_wrong) 126 dX12_wrong_126 ?_
        refine z_topm (fun x18 ex18 ox18 => ?_)
        unfold m_32 at ox18
        refine z_if_ne (M := M_X12_wrong) 127 dX12_wrong_127 147 rfl (fun c19 => ?_) (fun c19 => ?_)
        · refine z_iconst (M := M_X12_wrong) 147 dX12_wrong_147 ?_
          refine z_istore (M := M_X12_wrong) 148 dX12_wrong_148 (ls' := [some (mR 108), some (mI a1), some (mI l2), some (mI l3), some (mI l4), some (mI l5), some (mI l6), some (mI l7), some (mI l8), some (mI x16), some (mI 0)]) (by decide) rfl ?_
          refine z_iload (M := M_X12_wrong) 150 dX12_wrong_150 rfl ?_
          refine z_if_eq_T (M := M_X12_wrong) 152 dX12_wrong_152 165 rfl (by omega) ?_
          exact z_mask [true, true, true, true, true, true, true, true, true, false, true] rfl (ih.2.2.2.1 l2 l3 l4 l5 l6 l7 l8 0 h G R (by omega) (by omega) (by omega) (by omega) (by omega) (by omega) (by omega) (by omega) (by omega) (by omega) (by omega) (by omega) ⟨i1.1, i1.2.1, wj_n (by omega) i1.2.2.1 (wg_no el_ (wg_st1 (s := l4) (a := l8) (by omega) (by omega) ex16) ex17 ex18 c19), i1.2.2.2.1, (by rw [wj_m1 (by omega) (by omega)]; omega)⟩ (by omega))
        · refine z_aload_n (M := M_X12_wrong) 130 dX12_wrong_130 rfl ?_
          refine z_iload_n (M := M_X12_wrong) 131 dX12_wrong_131 rfl ?_
          refine z_iload (M := M_X12_wrong) 132 dX12_wrong_132 rfl ?_
          refine z_iconst (M := M_X12_wrong) 134 dX12_wrong_134 ?_
          refine z_ixor (M := M_X12_wrong) 135 dX12_wrong_135 ?_
          refine z_topm (fun x20 ex20 ox20 => ?_)
          unfold m_32 at ox20
          refine z_iand (M := M_X12_wrong) 136 dX12_wrong_136 ?_
          refine z_topm (fun x21 ex21 ox21 => ?_)
          unfold m_32 at ox21
          refine z_vI (M := M_X12_wrong) 137 dX12_wrong_137 t_X12_canBe l_X12_374 (m_rr_of rfl) (rest := []) (c_X12_canBe2 h x21 G (NP.call hN R (fun _ => rfl) (fun _ => rfl) (fun _ => rfl))) o_108 rfl rfl rfl (Nat.le_of_ble_eq_true rfl) ⟨rfl, rfl⟩ (fun x22 h2 qx22 => ?_)
          obtain ⟨G2, S2, ax22, bx22, fx22_0, fx22_1⟩ := qx22
          have g_ := gn_iff i1.1.1 G n_ ax22 bx22 fx22_0 fx22_1
          have st_ := wg_st1 (s := l4) (a := l8) (by omega) (by omega) ex16
          have p_ := wg_iff el_ st_ ex17 ex18 c19 ex20 ex21 g_
          have x_ : wgX h0 h2 l2 l3 := ⟨i1.1.1.to (FR.row S2 (fun _ => rfl)) (FR.row S2 (fun _ => rfl)) (FR.row S2 (fun _ => rfl)), i1.1.2⟩
          have R2 := R.call S2 (by decide +kernel)
          refine z_if_eq (M := M_X12_wrong) 140 dX12_wrong_140 147 rfl (fun c23 => ?_) (fun c23 => ?_)
          · refine z_iconst (M := M_X12_wrong) 147 dX12_wrong_147 ?_
            refine z_istore (M := M_X12_wrong) 148 dX12_wrong_148 (ls' := [some (mR 108), some (mI a1), some (mI l2), some (mI l3), some (mI l4), some (mI l5), some (mI l6), some (mI l7), some (mI l8), some (mI x16), some (mI 0)]) (by decide) rfl ?_
            refine z_iload (M := M_X12_wrong) 150 dX12_wrong_150 rfl ?_
            refine z_if_eq_T (M := M_X12_wrong) 152 dX12_wrong_152 165 rfl (by omega) ?_
            exact z_mask [true, true, true, true, true, true, true, true, true, false, true] rfl (ih.2.2.2.1 l2 l3 l4 l5 l6 l7 l8 0 h2 G2 R2 (by omega) (by omega) (by omega) (by omega) (by omega) (by omega) (by omega) (by omega) (by omega) (by omega) (by omega) (by omega) ⟨x_, i1.2.1, wj_n (by omega) i1.2.2.1 (fun z => absurd (p_.mpr z) (by omega)), i1.2.2.2.1, (by rw [wj_m1 (by omega) (by omega)]; omega)⟩ (by omega))
          · refine z_iconst (M := M_X12_wrong) 143 dX12_wrong_143 ?_
            refine z_goto (M := M_X12_wrong) 144 dX12_wrong_144 148 rfl ?_
            refine z_istore (M := M_X12_wrong) 148 dX12_wrong_148 (ls' := [some (mR 108), some (mI a1), some (mI l2), some (mI l3), some (mI l4), some (mI l5), some (mI l6), some (mI l7), some (mI l8), some (mI x16), some (mI 1)]) (by decide) rfl ?_
            refine z_iload (M := M_X12_wrong) 150 dX12_wrong_150 rfl ?_
            refine z_if_eq_F (M := M_X12_wrong) 152 dX12_wrong_152 165 rfl (by omega) ?_
            refine z_iload (M := M_X12_wrong) 155 dX12_wrong_155 rfl ?_
            refine z_if_ne (M := M_X12_wrong) 157 dX12_wrong_157 165 rfl (fun c24 => ?_) (fun c24 => ?_)
            · exact z_mask [true, true, true, true, true, true, true, true, true, false, true] rfl (ih.2.2.2.1 l2 l3 l4 l5 l6 l7 l8 1 h2 G2 R2 (by omega) (by omega) (by omega) (by omega) (by omega) (by omega) (by omega) (by omega) (by omega) (by omega) (by omega) (by omega) ⟨x_, i1.2.1, wj_b (by omega) i1.2.2.1 (p_.mp (by omega)) (by omega) (by omega) (by rw [wj_m1 (by omega) (by omega)]; omega), i1.2.2.2.1, (by rw [wj_m1 (by omega) (by omega)]; omega)⟩ (by omega))
            · refine z_iload (M := M_X12_wrong) 160 dX12_wrong_160 rfl ?_
              refine z_goto (M := M_X12_wrong) 162 dX12_wrong_162 167 rfl ?_
              refine z_istore (M := M_X12_wrong) 167 dX12_wrong_167 (ls' := [some (mR 108), some (mI a1), some (mI l2), some (mI l3), some (mI l4), some (mI l5), some (mI x16), some (mI l7), some (mI l8), some (mI x16), some (mI 1)]) (by decide) rfl ?_
              refine z_iload (M := M_X12_wrong) 169 dX12_wrong_169 rfl ?_
              refine z_iload (M := M_X12_wrong) 171 dX12_wrong_171 rfl ?_
              refine z_if_eq_F (M := M_X12_wrong) 173 dX12_wrong_173 180 rfl (by omega) ?_
              refine z_iconst (M := M_X12_wrong) 176 dX12_wrong_176 ?_
              refine z_goto (M := M_X12_wrong) 177 dX12_wrong_177 181 rfl ?_
              exact z_mask [true, true, true, true, true, false, true, true, true, false, false] rfl (ih.2.2.2.2 l2 l3 l4 x16 l7 l8 l5 1 h2 G2 R2 (by omega) (by omega) (by omega) (by omega) (by omega) (by omega) (by omega) (by omega) (by omega) (by omega) (by omega) (by omega) ⟨x_, i1.2.1, wj_a (by omega) i1.2.2.1 (p_.mp (by omega)) (by omega) st_, i1.2.2.2.1, (by rw [wj_m1 (by omega) (by omega)]; omega)⟩ (by omega))
      · refine z_iconst (M := M_X12_wrong) 93 dX12_wrong_93 ?_
        refine z_goto (M := M_X12_wrong) 94 dX12_wrong_94 119 rfl ?_
        refine z_istore (M := M_X12_wrong) 119 dX12_wrong_119 (ls' := [some (mR 108), some (mI a1), some (mI l2), some (mI l3), some (mI l4), some (mI l5), some (mI l6), some (mI l7), some (mI l8), some (mI 0), none]) (by decide) rfl ?_
        refine z_iload (M := M_X12_wrong) 121 dX12_wrong_121 rfl ?_
        refine z_iload_n (M := M_X12_wrong) 123 dX12_wrong_123 rfl ?_
        refine z_iconst (M := M_X12_wrong) 124 dX12_wrong_124 ?_
        refine z_ixor (M := M_X12_wrong) 125 dX12_wrong_125 ?_
        refine z_topm (fun x25 ex25 ox25 => ?_)
        unfold m_32 at ox25
        refine z_iand (M := M_X12_wrong) 126 dX12_wrong_126 ?_
        refine z_topm (fun x26 ex26 ox26 => ?_)
        unfold m_32 at ox26
        refine z_if_ne (M := M_X12_wrong) 127 dX12_wrong_127 147 rfl (fun c27 => ?_) (fun c27 => ?_)
        · refine z_iconst (M := M_X12_wrong) 147 dX12_wrong_147 ?_
          refine z_istore (M := M_X12_wrong) 148 dX12_wrong_148 (ls' := [some (mR 108), some (mI a1), some (mI l2), some (mI l3), some (mI l4), some (mI l5), some (mI l6), some (mI l7), some (mI l8), some (mI 0), some (mI 0)]) (by decide) rfl ?_
          refine z_iload (M := M_X12_wrong) 150 dX12_wrong_150 rfl ?_
          refine z_if_eq_T (M := M_X12_wrong) 152 dX12_wrong_152 165 rfl (by omega) ?_
          exact z_mask [true, true, true, true, true, true, true, true, true, false, true] rfl (ih.2.2.2.1 l2 l3 l4 l5 l6 l7 l8 0 h G R (by omega) (by omega) (by omega) (by omega) (by omega) (by omega) (by omega) (by omega) (by omega) (by omega) (by omega) (by omega) ⟨i1.1, i1.2.1, wj_n (by omega) i1.2.2.1 (wg_no el_ (wg_st0 (s := l4) (a := l8) (b := l7) (by omega)) ex25 ex26 c27), i1.2.2.2.1, (by rw [wj_m1 (by omega) (by omega)]; omega)⟩ (by omega))
        · refine z_aload_n (M := M_X12_wrong) 130 dX12_wrong_130 rfl ?_
          refine z_iload_n (M := M_X12_wrong) 131 dX12_wrong_131 rfl ?_
          refine z_iload (M := M_X12_wrong) 132 dX12_wrong_132 rfl ?_
          refine z_iconst (M := M_X12_wrong) 134 dX12_wrong_134 ?_
          refine z_ixor (M := M_X12_wrong) 135 dX12_wrong_135 ?_
          refine z_topm (fun x28 ex28 ox28 => ?_)
          unfold m_32 at ox28
          refine z_iand (M := M_X12_wrong) 136 dX12_wrong_136 ?_
          refine z_topm (fun x29 ex29 ox29 => ?_)
          unfold m_32 at ox29
          refine z_vI (M := M_X12_wrong) 137 dX12_wrong_137 t_X12_canBe l_X12_374 (m_rr_of rfl) (rest := []) (c_X12_canBe2 h x29 G (NP.call hN R (fun _ => rfl) (fun _ => rfl) (fun _ => rfl))) o_108 rfl rfl rfl (Nat.le_of_ble_eq_true rfl) ⟨rfl, rfl⟩ (fun x30 h3 qx30 => ?_)
          obtain ⟨G3, S3, ax30, bx30, fx30_0, fx30_1⟩ := qx30
          have g_ := gn_iff i1.1.1 G n_ ax30 bx30 fx30_0 fx30_1
          have st_ := wg_st0 (s := l4) (a := l8) (b := l7) (by omega)
          have p_ := wg_iff el_ st_ ex25 ex26 c27 ex28 ex29 g_
          have x_ : wgX h0 h3 l2 l3 := ⟨i1.1.1.to (FR.row S3 (fun _ => rfl)) (FR.row S3 (fun _ => rfl)) (FR.row S3 (fun _ => rfl)), i1.1.2⟩
          have R3 := R.call S3 (by decide +kernel)
          refine z_if_eq (M := M_X12_wrong) 140 dX12_wrong_140 147 rfl (fun c31 => ?_) (fun c31 => ?_)
          · refine z_iconst (M := M_X12_wrong) 147 dX12_wrong_147 ?_
            refine z_istore (M := M_X12_wrong) 148 dX12_wrong_148 (ls' := [some (mR 108), some (mI a1), some (mI l2), some (mI l3), some (mI l4), some (mI l5), some (mI l6), some (mI l7), some (mI l8), some (mI 0), some (mI 0)]) (by decide) rfl ?_
            refine z_iload (M := M_X12_wrong) 150 dX12_wrong_150 rfl ?_
            refine z_if_eq_T (M := M_X12_wrong) 152 dX12_wrong_152 165 rfl (by omega) ?_
            exact z_mask [true, true, true, true, true, true, true, true, true, false, true] rfl (ih.2.2.2.1 l2 l3 l4 l5 l6 l7 l8 0 h3 G3 R3 (by omega) (by omega) (by omega) (by omega) (by omega) (by omega) (by omega) (by omega) (by omega) (by omega) (by omega) (by omega) ⟨x_, i1.2.1, wj_n (by omega) i1.2.2.1 (fun z => absurd (p_.mpr z) (by omega)), i1.2.2.2.1, (by rw [wj_m1 (by omega) (by omega)]; omega)⟩ (by omega))
          · refine z_iconst (M := M_X12_wrong) 143 dX12_wrong_143 ?_
            refine z_goto (M := M_X12_wrong) 144 dX12_wrong_144 148 rfl ?_
            refine z_istore (M := M_X12_wrong) 148 dX12_wrong_148 (ls' := [some (mR 108), some (mI a1), some (mI l2), some (mI l3), some (mI l4), some (mI l5), some (mI l6), some (mI l7), some (mI l8), some (mI 0), some (mI 1)]) (by decide) rfl ?_
            refine z_iload (M := M_X12_wrong) 150 dX12_wrong_150 rfl ?_
            refine z_if_eq_F (M := M_X12_wrong) 152 dX12_wrong_152 165 rfl (by omega) ?_
            refine z_iload (M := M_X12_wrong) 155 dX12_wrong_155 rfl ?_
            refine z_if_ne (M := M_X12_wrong) 157 dX12_wrong_157 165 rfl (fun c32 => ?_) (fun c32 => ?_)
            · exact z_mask [true, true, true, true, true, true, true, true, true, false, true] rfl (ih.2.2.2.1 l2 l3 l4 l5 l6 l7 l8 1 h3 G3 R3 (by omega) (by omega) (by omega) (by omega) (by omega) (by omega) (by omega) (by omega) (by omega) (by omega) (by omega) (by omega) ⟨x_, i1.2.1, wj_b (by omega) i1.2.2.1 (p_.mp (by omega)) (by omega) (by omega) (by rw [wj_m1 (by omega) (by omega)]; omega), i1.2.2.2.1, (by rw [wj_m1 (by omega) (by omega)]; omega)⟩ (by omega))
            · refine z_iload (M := M_X12_wrong) 160 dX12_wrong_160 rfl ?_
              refine z_goto (M := M_X12_wrong) 162 dX12_wrong_162 167 rfl ?_
              refine z_istore (M := M_X12_wrong) 167 dX12_wrong_167 (ls' := [some (mR 108), some (mI a1), some (mI l2), some (mI l3), some (mI l4), some (mI l5), some (mI 0), some (mI l7), some (mI l8), some (mI 0), some (mI 1)]) (by decide) rfl ?_
              refine z_iload (M := M_X12_wrong) 169 dX12_wrong_169 rfl ?_
              refine z_iload (M := M_X12_wrong) 171 dX12_wrong_171 rfl ?_
              refine z_if_eq_F (M := M_X12_wrong) 173 dX12_wrong_173 180 rfl (by omega) ?_
              refine z_iconst (M := M_X12_wrong) 176 dX12_wrong_176 ?_
              refine z_goto (M := M_X12_wrong) 177 dX12_wrong_177 181 rfl ?_
              exact z_mask [true, true, true, true, true, false, true, true, true, false, false] rfl (ih.2.2.2.2 l2 l3 l4 0 l7 l8 l5 1 h3 G3 R3 (by omega) (by omega) (by omega) (by omega) (by omega) (by omega) (by omega) (by omega) (by omega) (by omega) (by omega) (by omega) ⟨x_, i1.2.1, wj_a (by omega) i1.2.2.1 (p_.mp (by omega)) (by omega) st_, i1.2.2.2.1, (by rw [wj_m1 (by omega) (by omega)]; omega)⟩ (by omega))
set_option maxHeartbeats 4000000 in
set_option maxRecDepth 100000 in
theorem s_X12_wrong3_165 (h0 : m_H) (a1 : Int) (G0 : GI h0) (hN : NP h0) (n : Nat) (ih : q_X12_wrong3 h0 a1 n) : ∀ (l2 l3 l4 l5 l6 l7 l8 l10 : Int) (h : m_H), GI h → FR [115, 116, 117, 118, 119, 120, 121, 122, 123, 124, 125, 126, 127, 128, 129, 130, 131, 132, 133, 134] [(108, 0), (108, 21)] h0 h → 0 ≤ l3 → l3 ≤ 24 → 0 ≤ l4 → l4 ≤ 2 → 0 ≤ l7 → l7 ≤ 23 → 0 ≤ l8 → l8 ≤ 22 → 0 ≤ l10 → l10 ≤ 1 → 0 ≤ a1 → a1 ≤ 2 → (wgX h0 h l2 l3 ∧ (∀ t : Nat, (t : Int) < l4 → wgZ (h0 110) t = 0) ∧ wgJ' (h0 110) l4 l7 (l8 + 1) (l5 + l10) l6 ∧ l7 < wgE l4 l3 ∧ l8.toNat < wgM l4.toNat l7.toNat) → 2478 * (3 - l4) + 99 * (24 - l7) + 4 * (23 - l8) + (2) ≤ ((n + 1 : Nat) : Int) → m_Z oF M_X12_wrong 165 [some (mR 108), some (mI a1), some (mI l2), some (mI l3), some (mI l4), some (mI l5), some (mI l6), some (mI l7), some (mI l8), none, some (mI l10)] [] h (m_QI (P_X12_wrong3 h0 a1)) := by
  intro l2 l3 l4 l5 l6 l7 l8 l10 h G R v0 v1 v2 v3 v4 v5 v6 v7 v8 v9 v10 v11 i1 hr
  refine z_ok (fun ostk _ olocs => ?_)
  have ol2 : m_32 l2 := olocs 2 _ rfl
  unfold m_32 at ol2
  have ol5 : m_32 l5 := olocs 5 _ rfl
  unfold m_32 at ol5
  have ol6 : m_32 l6 := olocs 6 _ rfl
  unfold m_32 at ol6
  refine z_iload (M := M_X12_wrong) 165 dX12_wrong_165 rfl ?_
  refine z_istore (M := M_X12_wrong) 167 dX12_wrong_167 (ls' := [some (mR 108), some (mI a1), some (mI l2), some (mI l3), some (mI l4), some (mI l5), some (mI l6), some (mI l7), some (mI l8), none, some (mI l10)]) (by decide) rfl ?_
  refine z_iload (M := M_X12_wrong) 169 dX12_wrong_169 rfl ?_
  refine z_iload (M := M_X12_wrong) 171 dX12_wrong_171 rfl ?_
  refine z_if_eq (M := M_X12_wrong) 173 dX12_wrong_173 180 rfl (fun c1 => ?_) (fun c1 => ?_)
  · refine z_iconst (M := M_X12_wrong) 180 dX12_wrong_180 ?_
    exact z_mask [true, true, true, true, true, false, true, true, true, false, false] rfl (ih.2.2.2.2 l2 l3 l4 l6 l7 l8 l5 0 h G R (by omega) (by omega) (by omega) (by omega) (by omega) (by omega) (by omega) (by omega) (by omega) (by omega) (by omega) (by omega) ⟨i1.1, i1.2.1, (by have z := i1.2.2.1; rw [show l10 = 0 by omega] at z; exact z), i1.2.2.2⟩ (by omega))
  · refine z_iconst (M := M_X12_wrong) 176 dX12_wrong_176 ?_
    refine z_goto (M := M_X12_wrong) 177 dX12_wrong_177 181 rfl ?_
    exact z_mask [true, true, true, true, true, false, true, true, true, false, false] rfl (ih.2.2.2.2 l2 l3 l4 l6 l7 l8 l5 1 h G R (by omega) (by omega) (by omega) (by omega) (by omega) (by omega) (by omega) (by omega) (by omega) (by omega) (by omega) (by omega) ⟨i1.1, i1.2.1, (by have z := i1.2.2.1; rw [show l10 = 1 by omega] at z; exact z), i1.2.2.2⟩ (by omega))
set_option maxHeartbeats 4000000 in
set_option maxRecDepth 100000 in
theorem s_X12_wrong3_181 (h0 : m_H) (a1 : Int) (G0 : GI h0) (hN : NP h0) (n : Nat) (ih : q_X12_wrong3 h0 a1 n) : ∀ (l2 l3 l4 l6 l7 l8 k0 k1 : Int) (h : m_H), GI h → FR [115, 116, 117, 118, 119, 120, 121, 122, 123, 124, 125, 126, 127, 128, 129, 130, 131, 132, 133, 134] [(108, 0), (108, 21)] h0 h → 0 ≤ l3 → l3 ≤ 24 → 0 ≤ l4 → l4 ≤ 2 → 0 ≤ l7 → l7 ≤ 23 → 0 ≤ l8 → l8 ≤ 22 → 0 ≤ k1 → k1 ≤ 1 → 0 ≤ a1 → a1 ≤ 2 → (wgX h0 h l2 l3 ∧ (∀ t : Nat, (t : Int) < l4 → wgZ (h0 110) t = 0) ∧ wgJ' (h0 110) l4 l7 (l8 + 1) (k0 + k1) l6 ∧ l7 < wgE l4 l3 ∧ l8.toNat < wgM l4.toNat l7.toNat) → 2478 * (3 - l4) + 99 * (24 - l7) + 4 * (23 - l8) + (1) ≤ ((n + 1 : Nat) : Int) → m_Z oF M_X12_wrong 181 [some (mR 108), some (mI a1), some (mI l2), some (mI l3), some (mI l4), none, some (mI l6), some (mI l7), some (mI l8), none, none] [mI k1, mI k0] h (m_QI (P_X12_wrong3 h0 a1)) := by
  intro l2 l3 l4 l6 l7 l8 k0 k1 h G R v0 v1 v2 v3 v4 v5 v6 v7 v8 v9 v10 v11 i1 hr
  have wb_ := wj_bd (by omega) (by omega) (by omega) (by omega) i1.2.2.1
  refine z_ok (fun ostk _ olocs => ?_)
  have ol2 : m_32 l2 := olocs 2 _ rfl
  unfold m_32 at ol2
  have ol6 : m_32 l6 := olocs 6 _ rfl
  unfold m_32 at ol6
  have ok0 : m_32 k0 := ostk.2.1
  unfold m_32 at ok0
  refine z_iaddN (M := M_X12_wrong) 181 dX12_wrong_181 (by omega) (by omega) ?_
  refine z_istore (M := M_X12_wrong) 182 dX12_wrong_182 (ls' := [some (mR 108), some (mI a1), some (mI l2), some (mI l3), some (mI l4), some (mI (k0 + k1)), some (mI l6), some (mI l7), some (mI l8), none, none]) (by decide) rfl ?_
  refine z_iincN (M := M_X12_wrong) 184 dX12_wrong_184 (ls' := [some (mR 108), some (mI a1), some (mI l2), some (mI l3), some (mI l4), some (mI (k0 + k1)), some (mI l6), some (mI l7), some (mI (l8 + 1)), none, none]) (by decide) rfl (by (unfold m_32; decide)) (by omega) (by omega) rfl ?_
  refine z_goto (M := M_X12_wrong) 187 dX12_wrong_187 71 rfl ?_
  exact z_mask [true, true, true, true, true, true, true, true, true, false, false] rfl (ih.2.2.1 l2 l3 l4 (k0 + k1) l6 l7 (l8 + 1) h G R (by omega) (by omega) (by omega) (by omega) (by omega) (by omega) (by omega) (by omega) (by omega) (by omega) ⟨i1.1, i1.2.1, i1.2.2.1, i1.2.2.2.1, (by have q := i1.2.2.2.2; omega)⟩ (by omega))
theorem a_X12_wrong3 (h0 : m_H) (a1 : Int) (G0 : GI h0) (hN : NP h0) : ∀ n, q_X12_wrong3 h0 a1 n := by
  intro n
  induction n with
  | zero => unfold q_X12_wrong3; refine ⟨?_, ?_, ?_, ?_, ?_⟩ <;> (intros; omega)
  | succ n ih => exact ⟨s_X12_wrong3_38 h0 a1 G0 hN n ih, s_X12_wrong3_53 h0 a1 G0 hN n ih, s_X12_wrong3_71 h0 a1 G0 hN n ih, s_X12_wrong3_165 h0 a1 G0 hN n ih, s_X12_wrong3_181 h0 a1 G0 hN n ih⟩
set_option maxHeartbeats 4000000 in
set_option maxRecDepth 100000 in
theorem c_X12_wrong3 (h0 : m_H) (a1 : Int) (G0 : GI h0) (hN : NP h0) : m_CI M_X12_wrong [mR 108, mI a1] h0 (P_X12_wrong3 h0 a1) := by
  refine m_CI_of ⟨by decide, rfl, by simp [m_arg, m_isL, M_X12_wrong], ⟨rfl, rfl⟩, rfl, rfl⟩ (ls := [some (mR 108), some (mI a1), none, none, none, none, none, none, none, none, none]) rfl ?_
  have ih := a_X12_wrong3 h0 a1 G0 hN 9918
  refine z_ok (fun _ _ ok => ?_)
  have oa1 : m_32 a1 := ok 1 _ rfl
  unfold m_32 at oa1
  refine z_aload_n (M := M_X12_wrong) 0 dX12_wrong_0 rfl ?_
  refine z_iconst (M := M_X12_wrong) 1 dX12_wrong_1 ?_
  refine z_putIH (M := M_X12_wrong) 2 dX12_wrong_2 p_X12_133 o_108 rfl (u_108_0 G0) ((FR.rf (cs := [115, 116, 117, 118, 119, 120, 121, 122, 123, 124, 125, 126, 127, 128, 129, 130, 131, 132, 133, 134]) (ss := [(108, 0), (108, 21)]) (h := h0)).up rfl) (fun h1 E1 G1 R1 => ?_)
  refine z_iload_n (M := M_X12_wrong) 5 dX12_wrong_5 rfl ?_
  refine z_i2l (M := M_X12_wrong) 6 dX12_wrong_6 ?_
  refine z_lconst (M := M_X12_wrong) 7 dX12_wrong_7 (v := 0) ?_
  refine z_ldc2 (M := M_X12_wrong) 8 dX12_wrong_8 k_X12_182 ?_
  refine z_sI (M := M_X12_wrong) 11 dX12_wrong_11 t_X12_in l_X12_143 (m_rr_of rfl) (rest := []) (c_X12_in h1 a1 0 2 G1) rfl rfl (Nat.le_of_ble_eq_true rfl) ⟨rfl, rfl⟩ (fun x1 h2 qx1 => ?_)
  obtain ⟨rfl, ⟨rfl, cx1⟩ | ⟨rfl, cx1⟩⟩ := qx1
  · refine z_if_ne_T (M := M_X12_wrong) 14 dX12_wrong_14 19 rfl (by omega) ?_
    refine z_aload_n (M := M_X12_wrong) 19 dX12_wrong_19 rfl ?_
    refine z_vV (M := M_X12_wrong) 20 dX12_wrong_20 t_X12_asIs l_X12_367 (m_rr_of rfl) (rest := []) (c_X12_asIsX h1 G1) o_108 rfl rfl rfl (Nat.le_of_ble_eq_true rfl) ⟨rfl, rfl⟩ (fun h3 qx2 => ?_)
    obtain ⟨G3, S3, fx2_0⟩ := qx2
    have R3 := R1.call S3 (by decide +kernel)
    refine z_aload_n (M := M_X12_wrong) 23 dX12_wrong_23 rfl ?_
    refine z_vI (M := M_X12_wrong) 24 dX12_wrong_24 t_X12_counting l_X12_370 (m_rr_of rfl) (rest := []) (c_X12_countingX h3 G3) o_108 rfl rfl rfl (Nat.le_of_ble_eq_true rfl) ⟨rfl, rfl⟩ (fun x3 h4 qx3 => ?_)
    obtain ⟨G4, S4, fx3_0⟩ := qx3
    have R4 := R3.call S4 (by decide +kernel)
    refine z_ok (fun ox3 _ _ => ?_)
    have ox3 := ox3.1; unfold m_ok m_32 at ox3
    refine z_istore_n (M := M_X12_wrong) 27 dX12_wrong_27 (ls' := [some (mR 108), some (mI a1), some (mI x3), none, none, none, none, none, none, none, none]) (by decide) rfl ?_
    refine z_aload_n (M := M_X12_wrong) 28 dX12_wrong_28 rfl ?_
    refine z_getR (M := M_X12_wrong) 29 dX12_wrong_29 f_X12_13 o_108 rfl (g_108_3 G4) ?_
    refine z_iconst (M := M_X12_wrong) 32 dX12_wrong_32 ?_
    refine z_ialdG (M := M_X12_wrong) 33 dX12_wrong_33 o_110 (by omega) (by omega) (gw_0 G4) (fun x4 ex4 ax4 bx4 => ?_)
    refine z_istore_n (M := M_X12_wrong) 34 dX12_wrong_34 (ls' := [some (mR 108), some (mI a1), some (mI x3), some (mI x4), none, none, none, none, none, none, none]) (by decide) rfl ?_
    refine z_iconst (M := M_X12_wrong) 35 dX12_wrong_35 ?_
    refine z_istore (M := M_X12_wrong) 36 dX12_wrong_36 (ls' := [some (mR 108), some (mI a1), some (mI x3), some (mI x4), some (mI 0), none, none, none, none, none, none]) (by decide) rfl ?_
    exact z_mask [true, true, true, true, true, false, false, false, false, false, false] rfl (ih.1 x3 x4 0 h4 G4 R4 (by omega) (by omega) (by omega) (by omega) (by omega) (by omega) ⟨⟨(by have z := RX_0 (h0 := h1) (h := h3) (FR.row S3 (fun _ => rfl)) fx2_0; rw [FR.row (c := 110) R1 (fun _ => rfl)] at z; exact z.to (FR.row S4 (fun _ => rfl)) (FR.row S4 (fun _ => rfl)) (FR.row S4 (fun _ => rfl))), fx3_0.trans (congrArg cF (FR.row R3 (fun _ => rfl))), ex4.symm.trans (R4 110 0 rfl)⟩, fun t ht => by omega⟩ (by omega))
  · refine z_if_ne_F (M := M_X12_wrong) 14 dX12_wrong_14 19 rfl (by omega) ?_
    refine z_iconst (M := M_X12_wrong) 17 dX12_wrong_17 ?_
    exact z_retI (M := M_X12_wrong) 18 dX12_wrong_18 rfl ⟨G1, R1, Or.inl ⟨cx1, rfl⟩⟩
