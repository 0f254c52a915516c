/-! the acts that a book drafts -/
theorem m_w_or {y x : Int} (e : m_w y = x) : y < 0 ∨ 1000 < y ∨ x = y := by
  by_cases h : 0 ≤ y ∧ y ≤ 1000
  · rw [m_w_id (by omega) (by omega)] at e; omega
  · omega
def okA (k a b c d : Int) : Prop := (k = 0 ∧ (0 ≤ a ∧ a ≤ 31) ∧ (0 ≤ b ∧ b ≤ 31) ∧ (-1 ≤ c ∧ c ≤ 3)) ∨ (k = 1 ∧ (0 ≤ a ∧ a ≤ 3) ∧ (0 ≤ b ∧ b ≤ 3)) ∨ (k = 2 ∧ (0 ≤ a ∧ a ≤ 5) ∧ (-1 ≤ b ∧ b ≤ 31)) ∨ (k = 3 ∧ (0 ≤ a ∧ a ≤ 5) ∧ (0 ≤ b ∧ b ≤ 31) ∧ (1 ≤ c ∧ c ≤ 99) ∧ (0 ≤ d ∧ d ≤ 2))
def aK (h : m_H) (k : Nat) : Prop := okA (h 114 (5 * k)) (h 114 (5 * k + 1)) (h 114 (5 * k + 2)) (h 114 (5 * k + 3)) (h 114 (5 * k + 4))
def cN (kd : Int) (h : m_H) : Nat → Int
  | 0 => 0
  | n + 1 => cN kd h n + (if h 114 (5 * n) = kd then 1 else 0)
theorem cN_same {kd : Int} {h h' : m_H} : ∀ {n : Nat}, (∀ j, j < 5 * n → h' 114 j = h 114 j) → cN kd h' n = cN kd h n
  | 0, _ => rfl
  | n + 1, e => by
    simp only [cN]
    rw [cN_same (fun j hj => e j (by omega)), e (5 * n) (by omega)]
theorem cN_mono {kd : Int} {h : m_H} : ∀ {m n : Nat}, m ≤ n → cN kd h m ≤ cN kd h n := by
  intro m n hmn
  induction hmn with
  | refl => exact Int.le_refl _
  | step _ ih => simp only [cN]; split <;> omega
def AI (h : m_H) : Prop := (∀ k : Nat, (k : Int) < h 108 16 → aK h k) ∧ cN 3 h (h 108 16).toNat = h 108 17 ∧ cN 1 h (h 108 16).toNat = h 108 18 ∧ h 110 0 + h 108 17 ≤ 24 ∧ h 110 1 + h 108 18 ≤ 6
theorem AI.same {h h' : m_H} (A : AI h) (e1 : ∀ j, h' 114 j = h 114 j) (e2 : h' 108 16 = h 108 16) (e3 : h' 108 17 = h 108 17) (e4 : h' 108 18 = h 108 18) (e5 : h' 110 0 = h 110 0) (e6 : h' 110 1 = h 110 1) : AI h' := by
  obtain ⟨a1, a2, a3, a4, a5⟩ := A
  refine ⟨fun k hk => ?_, ?_, ?_, by rw [e5, e3]; exact a4, by rw [e6, e4]; exact a5⟩
  · rw [e2] at hk
    have := a1 k hk
    unfold aK at this ⊢
    rw [e1, e1, e1, e1, e1]; exact this
  · rw [e2, e3, cN_same (fun j _ => e1 j)]; exact a2
  · rw [e2, e4, cN_same (fun j _ => e1 j)]; exact a3
theorem AI.fr {h h' : m_H} {cs : List Nat} {ss : List (Nat × Nat)} (A : AI h) (S : FR cs ss h h') (e1 : ∀ j, fr cs ss 114 j = false) (e2 : fr cs ss 108 16 = false) (e3 : fr cs ss 108 17 = false) (e4 : fr cs ss 108 18 = false) (e5 : fr cs ss 110 0 = false) (e6 : fr cs ss 110 1 = false) : AI h' :=
  A.same (fun j => S 114 j (e1 j)) (S _ _ e2) (S _ _ e3) (S _ _ e4) (S _ _ e5) (S _ _ e6)
/-- what act does -/
def actQ (h h' : m_H) (k a b c d : Int) : Prop := (h 108 14 ≠ 0 ∧ h = h') ∨ (h 108 14 = 0 ∧ h' 108 16 = h 108 16 + 1 ∧ (h' 114 (5 * (h 108 16).toNat) = k ∧ h' 114 (5 * (h 108 16).toNat + 1) = a ∧ h' 114 (5 * (h 108 16).toNat + 2) = b ∧ h' 114 (5 * (h 108 16).toNat + 3) = c ∧ h' 114 (5 * (h 108 16).toNat + 4) = d) ∧ (∀ j, j < 5 * (h 108 16).toNat → h' 114 j = h 114 j) ∧ h' 108 17 = h 108 17 ∧ h' 108 18 = h 108 18 ∧ h' 110 0 = h 110 0 ∧ h' 110 1 = h 110 1)
theorem actQ_of {h h1 h2 h3 h4 h5 h6 : m_H} {y k a b c d : Int} (hb : h 108 14 = 0) (ey : h 108 16 = y) (h0 : 0 ≤ y) (E1 : h1 = m_up h 114 (5 * y).toNat k) (E2 : h2 = m_up h1 114 (5 * y + 1).toNat a) (E3 : h3 = m_up h2 114 (5 * y + 2).toNat b) (E4 : h4 = m_up h3 114 (5 * y + 3).toNat c) (E5 : h5 = m_up h4 114 (5 * y + 4).toNat d) (E6 : h6 = m_up h5 108 16 (y + 1)) : actQ h h6 k a b c d := by
  have n0 : (5 * y).toNat = 5 * y.toNat := by omega
  have n1 : (5 * y + 1).toNat = 5 * y.toNat + 1 := by omega
  have n2 : (5 * y + 2).toNat = 5 * y.toNat + 2 := by omega
  have n3 : (5 * y + 3).toNat = 5 * y.toNat + 3 := by omega
  have n4 : (5 * y + 4).toNat = 5 * y.toNat + 4 := by omega
  subst ey
  rw [n0] at E1; rw [n1] at E2; rw [n2] at E3; rw [n3] at E4; rw [n4] at E5
  unfold actQ
  refine Or.inr ⟨hb, by rw [E6, m_up_eq], ?_⟩
  generalize (h 108 16).toNat = n at E1 E2 E3 E4 E5 ⊢
  subst E6; subst E5; subst E4; subst E3; subst E2; subst E1
  refine ⟨?_, fun j hj => ?_, ?_, ?_, ?_, ?_⟩
  · refine ⟨?_, ?_, ?_, ?_, ?_⟩ <;> simp [m_up]
  · have q0 : j ≠ 5 * n := by omega
    have q1 : j ≠ 5 * n + 1 := by omega
    have q2 : j ≠ 5 * n + 2 := by omega
    have q3 : j ≠ 5 * n + 3 := by omega
    have q4 : j ≠ 5 * n + 4 := by omega
    simp [m_up, q0, q1, q2, q3, q4]
  · simp [m_up]
  · simp [m_up]
  · simp [m_up]
  · simp [m_up]
/-- an act more: the drafts stay in order -/
theorem AI_push {h h' : m_H} {k a b c d : Int} {e s : Int} (h0 : 0 ≤ h 108 16) (a1 : ∀ k : Nat, (k : Int) < h 108 16 → aK h k) (a2 : cN 3 h (h 108 16).toNat = e) (a3 : cN 1 h (h 108 16).toNat = s)
    (p1 : h' 108 16 = h 108 16 + 1) (p2 : h' 114 (5 * (h 108 16).toNat) = k ∧ h' 114 (5 * (h 108 16).toNat + 1) = a ∧ h' 114 (5 * (h 108 16).toNat + 2) = b ∧ h' 114 (5 * (h 108 16).toNat + 3) = c ∧ h' 114 (5 * (h 108 16).toNat + 4) = d) (p3 : ∀ j, j < 5 * (h 108 16).toNat → h' 114 j = h 114 j) (ok : okA k a b c d) :
    (∀ k : Nat, (k : Int) < h' 108 16 → aK h' k) ∧ cN 3 h' (h' 108 16).toNat = e + (if k = 3 then 1 else 0) ∧ cN 1 h' (h' 108 16).toNat = s + (if k = 1 then 1 else 0) := by
  have hn : (h' 108 16).toNat = (h 108 16).toNat + 1 := by omega
  obtain ⟨b0, b1, b2, b3, b4⟩ := p2
  refine ⟨fun q hq => ?_, ?_, ?_⟩
  · by_cases hql : (q : Int) < h 108 16
    · have h1 := a1 q hql
      unfold aK at h1 ⊢
      rw [p3 _ (by omega), p3 _ (by omega), p3 _ (by omega), p3 _ (by omega), p3 _ (by omega)]
      exact h1
    · have e1 : q = (h 108 16).toNat := by omega
      subst e1
      unfold aK
      rw [b0, b1, b2, b3, b4]
      exact ok
  · rw [hn]; simp only [cN]; rw [cN_same p3, a2, b0]
  · rw [hn]; simp only [cN]; rw [cN_same p3, a3, b0]
/-- an act of kind 0 or 2 -/
theorem AI_act {h h' : m_H} {k a b c d : Int} (A : AI h) (h0 : 0 ≤ h 108 16) (p : actQ h h' k a b c d) (hk : k = 0 ∨ k = 2) (ok : h 108 14 = 0 → okA k a b c d) : AI h' := by
  rcases p with ⟨-, rfl⟩ | ⟨hb, p1, p2, p3, p4, p5, p6, p7⟩
  · exact A
  · obtain ⟨a1, a2, a3, a4, a5⟩ := A
    obtain ⟨q1, q2, q3⟩ := AI_push h0 a1 a2 a3 p1 p2 p3 (ok hb)
    rw [if_neg (by omega)] at q2 q3
    exact ⟨q1, by rw [p4]; omega, by rw [p5]; omega, by rw [p6, p4]; exact a4, by rw [p7, p5]; exact a5⟩
/-- the number of entries, then an act of kind 3 -/
theorem AI_act3 {h h1 h' : m_H} {a b c d y : Int} (A : AI h) (h0 : 0 ≤ h 108 16) (E : h1 = m_up h 108 17 (y + 1)) (ey : h 108 17 = y) (hb : h 108 14 = 0) (hy : h 110 0 + (y + 1) ≤ 24) (p : actQ h1 h' 3 a b c d) (ok : okA 3 a b c d) : AI h' := by
  have e16 : h1 108 16 = h 108 16 := upN E (by decide)
  have e14 : h1 108 14 = h 108 14 := upN E (by decide)
  have e18 : h1 108 18 = h 108 18 := upN E (by decide)
  have e17 : h1 108 17 = y + 1 := upE E
  have r0 : h1 110 0 = h 110 0 := upN E (by decide)
  have r1 : h1 110 1 = h 110 1 := upN E (by decide)
  have ea : ∀ j, h1 114 j = h 114 j := fun j => upN E (fun q => absurd q.1 (by decide))
  rcases p with ⟨hn, -⟩ | ⟨-, p1, p2, p3, p4, p5, p6, p7⟩
  · exact absurd (e14.trans hb) hn
  · obtain ⟨a1, a2, a3, a4, a5⟩ := A
    obtain ⟨q1, q2, q3⟩ := AI_push (h := h1) (e := y) (s := h 108 18) (by rw [e16]; exact h0) (fun k hk => by
      rw [e16] at hk
      have := a1 k hk
      unfold aK at this ⊢
      rw [ea, ea, ea, ea, ea]; exact this) (by rw [e16, cN_same (fun j _ => ea j), a2, ey]) (by rw [e16, cN_same (fun j _ => ea j), a3]) p1 p2 p3 ok
    rw [if_pos rfl] at q2
    rw [if_neg (by decide)] at q3
    exact ⟨q1, by rw [p4, e17]; exact q2, by rw [p5, e18]; omega, by rw [p6, p4, e17, r0]; exact hy, by rw [p7, p5, e18, r1]; exact a5⟩
/-- the number of shorters, then an act of kind 1 -/
theorem AI_act1 {h h1 h' : m_H} {a b c d y : Int} (A : AI h) (h0 : 0 ≤ h 108 16) (E : h1 = m_up h 108 18 (y + 1)) (ey : h 108 18 = y) (hb : h 108 14 = 0) (hy : h 110 1 + (y + 1) ≤ 6) (p : actQ h1 h' 1 a b c d) (ok : okA 1 a b c d) : AI h' := by
  have e16 : h1 108 16 = h 108 16 := upN E (by decide)
  have e14 : h1 108 14 = h 108 14 := upN E (by decide)
  have e17 : h1 108 17 = h 108 17 := upN E (by decide)
  have e18 : h1 108 18 = y + 1 := upE E
  have r0 : h1 110 0 = h 110 0 := upN E (by decide)
  have r1 : h1 110 1 = h 110 1 := upN E (by decide)
  have ea : ∀ j, h1 114 j = h 114 j := fun j => upN E (fun q => absurd q.1 (by decide))
  rcases p with ⟨hn, -⟩ | ⟨-, p1, p2, p3, p4, p5, p6, p7⟩
  · exact absurd (e14.trans hb) hn
  · obtain ⟨a1, a2, a3, a4, a5⟩ := A
    obtain ⟨q1, q2, q3⟩ := AI_push (h := h1) (e := h 108 17) (s := y) (by rw [e16]; exact h0) (fun k hk => by
      rw [e16] at hk
      have := a1 k hk
      unfold aK at this ⊢
      rw [ea, ea, ea, ea, ea]; exact this) (by rw [e16, cN_same (fun j _ => ea j), a2]) (by rw [e16, cN_same (fun j _ => ea j), a3, ey]) p1 p2 p3 ok
    rw [if_neg (by decide)] at q2
    rw [if_pos rfl] at q3
    exact ⟨q1, by rw [p4, e17]; omega, by rw [p5, e18]; exact q3, by rw [p6, p4, e17, r0]; exact a4, by rw [p7, p5, e18, r1]; exact hy⟩
theorem AI_0 {h : m_H} (h1 : h 108 16 = 0) (h2 : h 108 17 = 0) (h3 : h 108 18 = 0) (h4 : h 110 0 ≤ 24) (h5 : h 110 1 ≤ 6) : AI h := by
  refine ⟨fun k hk => by omega, ?_, ?_, by omega, by omega⟩
  · rw [h1, h2]; rfl
  · rw [h1, h3]; rfl
/-- what is left to do from act k on has room -/
def DI (h : m_H) (k : Nat) : Prop := (∀ j : Nat, (j : Int) < h 108 16 → aK h j) ∧ h 110 0 + (cN 3 h (h 108 16).toNat - cN 3 h k) ≤ 24 ∧ h 110 1 + (cN 1 h (h 108 16).toNat - cN 1 h k) ≤ 6
theorem DI_0 {h : m_H} (A : AI h) : DI h 0 := by
  obtain ⟨a1, a2, a3, a4, a5⟩ := A
  refine ⟨a1, ?_, ?_⟩
  · rw [a2]; show _ + (_ - 0) ≤ _; omega
  · rw [a3]; show _ + (_ - 0) ≤ _; omega
theorem DI_here {h : m_H} {k : Nat} (D : DI h k) (hk : (k : Int) < h 108 16) : aK h k ∧ (h 114 (5 * k) = 3 → h 110 0 ≤ 23) ∧ (h 114 (5 * k) = 1 → h 110 1 ≤ 5) := by
  obtain ⟨d1, d2, d3⟩ := D
  have m3 := cN_mono (kd := 3) (h := h) (show k + 1 ≤ (h 108 16).toNat by omega)
  have m1 := cN_mono (kd := 1) (h := h) (show k + 1 ≤ (h 108 16).toNat by omega)
  refine ⟨d1 k hk, fun e => ?_, fun e => ?_⟩
  · simp only [cN] at m3; rw [if_pos e] at m3; omega
  · simp only [cN] at m1; rw [if_pos e] at m1; omega
theorem DI_next {h h' : m_H} {k : Nat} (D : DI h k) (hk : (k : Int) < h 108 16) (e1 : ∀ j, h' 114 j = h 114 j) (e2 : h' 108 16 = h 108 16) (r0 : h' 110 0 = h 110 0 + (if h 114 (5 * k) = 3 then 1 else 0)) (r1 : h' 110 1 = h 110 1 + (if h 114 (5 * k) = 1 then 1 else 0)) : DI h' (k + 1) := by
  obtain ⟨d1, d2, d3⟩ := D
  refine ⟨fun j hj => ?_, ?_, ?_⟩
  · rw [e2] at hj
    have := d1 j hj
    unfold aK at this ⊢
    rw [e1, e1, e1, e1, e1]; exact this
  · rw [e2, cN_same (fun j _ => e1 j), cN_same (fun j _ => e1 j), r0]; simp only [cN]; split <;> simp_all <;> omega
  · rw [e2, cN_same (fun j _ => e1 j), cN_same (fun j _ => e1 j), r1]; simp only [cN]; split <;> simp_all <;> omega
theorem actQ_n {h h' : m_H} {k a b c d : Int} (p : actQ h h' k a b c d) : (h 108 14 ≠ 0 ∧ h' 108 16 = h 108 16) ∨ (h 108 14 = 0 ∧ h' 108 16 = h 108 16 + 1) := by
  rcases p with ⟨q1, q2⟩ | ⟨q1, q2, _⟩
  · exact Or.inl ⟨q1, by rw [← q2]⟩
  · exact Or.inr ⟨q1, q2⟩
theorem actQ_bad {h h' : m_H} {k a b c d : Int} (p : actQ h h' k a b c d) (q : h 108 14 ≠ 0) (A : AI h) : AI h' := by
  rcases p with ⟨_, q2⟩ | ⟨q1, _⟩
  · exact q2 ▸ A
  · exact absurd q1 q
theorem AI.rooms {h : m_H} (A : AI h) : h 110 0 + h 108 17 ≤ 24 ∧ h 110 1 + h 108 18 ≤ 6 := ⟨A.2.2.2.1, A.2.2.2.2⟩
theorem DI_args {h : m_H} {k : Int} (D : DI h k.toNat) (h0 : 0 ≤ k) (hk : k < h 108 16) : okA (h 114 (5 * k).toNat) (h 114 (5 * k + 1).toNat) (h 114 (5 * k + 2).toNat) (h 114 (5 * k + 3).toNat) (h 114 (5 * k + 4).toNat) ∧ (h 114 (5 * k).toNat ≠ 3 ∨ h 110 0 ≤ 23) ∧ (h 114 (5 * k).toNat ≠ 1 ∨ h 110 1 ≤ 5) := by
  obtain ⟨q1, q2, q3⟩ := DI_here D (by omega)
  have n0 : (5 * k).toNat = 5 * k.toNat := by omega
  have n1 : (5 * k + 1).toNat = 5 * k.toNat + 1 := by omega
  have n2 : (5 * k + 2).toNat = 5 * k.toNat + 2 := by omega
  have n3 : (5 * k + 3).toNat = 5 * k.toNat + 3 := by omega
  have n4 : (5 * k + 4).toNat = 5 * k.toNat + 4 := by omega
  rw [n0, n1, n2, n3, n4]
  refine ⟨q1, ?_, ?_⟩
  · by_cases e : h 114 (5 * k.toNat) = 3
    · exact Or.inr (q2 e)
    · exact Or.inl e
  · by_cases e : h 114 (5 * k.toNat) = 1
    · exact Or.inr (q3 e)
    · exact Or.inl e
theorem DI_nx {h h' : m_H} {cs : List Nat} {ss : List (Nat × Nat)} {k : Int} (D : DI h k.toNat) (h0 : 0 ≤ k) (hk : k < h 108 16) (S : FR cs ss h h') (e1 : ∀ j, fr cs ss 114 j = false) (e2 : fr cs ss 108 16 = false) (f0 : (h 114 (5 * k).toNat = 3 ∧ h' 110 0 = h 110 0 + 1) ∨ (h 114 (5 * k).toNat ≠ 3 ∧ h' 110 0 = h 110 0)) (f1 : (h 114 (5 * k).toNat = 1 ∧ h' 110 1 = h 110 1 + 1) ∨ (h 114 (5 * k).toNat ≠ 1 ∧ h' 110 1 = h 110 1)) : DI h' (k + 1).toNat := by
  have n0 : (5 * k).toNat = 5 * k.toNat := by omega
  rw [n0] at f0 f1
  rw [show (k + 1).toNat = k.toNat + 1 by omega]
  refine DI_next D (by omega) (fun j => S 114 j (e1 j)) (S _ _ e2) ?_ ?_
  · rcases f0 with ⟨a, b⟩ | ⟨a, b⟩
    · rw [if_pos a]; exact b
    · rw [if_neg a, b]; omega
  · rcases f1 with ⟨a, b⟩ | ⟨a, b⟩
    · rw [if_pos a]; exact b
    · rw [if_neg a, b]; omega
