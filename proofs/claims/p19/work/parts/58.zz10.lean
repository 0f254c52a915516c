/-! the lesser of two limits -/
def lsB (b c : Int × Int × Int) : Int × Int × Int := if c.1 * b.2.1 < b.1 * c.2.1 ∨ (c.1 * b.2.1 = b.1 * c.2.1 ∧ c.2.2 = 1) then c else b
theorem lsB_1 {b c : Int × Int × Int} {P Q : Int} {s : Prop} (h : lb b.1 b.2.1 b.2.2 P Q s) (hc : 0 < c.1 ∧ 0 < c.2.1) (hP : 0 < P ∧ 0 < Q) : lb (lsB b c).1 (lsB b c).2.1 (lsB b c).2.2 P Q s := by
  unfold lsB
  by_cases k : c.1 * b.2.1 < b.1 * c.2.1 ∨ (c.1 * b.2.1 = b.1 * c.2.1 ∧ c.2.2 = 1)
  · rw [if_pos k]
    refine ⟨hc, ?_⟩
    have e1 : b.1 * P ≤ Q * b.2.1 := by rw [Int.mul_comm Q]; exact lb_le h
    rcases k with k | ⟨k, o⟩
    · -- c < b, b no more than Q / P
      have z := fr_trl (a := c.1) (x := c.2.1) (b := b.1) (y := b.2.1) (c := Q) (z := P) (Int.le_of_lt hc.2) h.1.2 hP.1 k e1
      exact Or.inl (by rw [Int.mul_comm c.2.1]; exact z)
    · have z := fr_tr (a := c.1) (x := c.2.1) (b := b.1) (y := b.2.1) (c := Q) (z := P) (Int.le_of_lt hc.2) h.1.2 (Int.le_of_lt hP.1) (Int.le_of_eq k) e1
      rw [Int.mul_comm Q] at z
      rcases Int.lt_or_eq_of_le z with y | y
      · exact Or.inl y
      · exact Or.inr ⟨y, fun _ => o⟩
  · rw [if_neg k]; exact h
theorem lsB_2 {b c : Int × Int × Int} {P Q : Int} {s : Prop} (h : lb c.1 c.2.1 c.2.2 P Q s) (hb : 0 < b.1 ∧ 0 ≤ b.2.1) (hP : 0 < P ∧ 0 < Q) : lb (lsB b c).1 (lsB b c).2.1 (lsB b c).2.2 P Q s := by
  unfold lsB
  by_cases k : c.1 * b.2.1 < b.1 * c.2.1 ∨ (c.1 * b.2.1 = b.1 * c.2.1 ∧ c.2.2 = 1)
  · rw [if_pos k]; exact h
  · rw [if_neg k]
    have le : b.1 * c.2.1 ≤ c.1 * b.2.1 := by
      rcases Int.lt_or_le (c.1 * b.2.1) (b.1 * c.2.1) with y | y
      · exact absurd (Or.inl y) k
      · exact y
    have pb : 0 < b.2.1 := by
      rcases Int.lt_or_eq_of_le hb.2 with y | y
      · exact y
      · rw [← y, Int.mul_zero] at le
        have := Int.mul_pos hb.1 h.1.2
        omega
    refine ⟨⟨hb.1, pb⟩, ?_⟩
    have e1 : c.1 * P ≤ Q * c.2.1 := by rw [Int.mul_comm Q]; exact lb_le h
    have z := fr_tr (a := b.1) (x := b.2.1) (b := c.1) (y := c.2.1) (c := Q) (z := P) (Int.le_of_lt pb) h.1.2 (Int.le_of_lt hP.1) le e1
    rw [Int.mul_comm Q] at z
    rcases Int.lt_or_eq_of_le z with y | y
    · exact Or.inl y
    · refine Or.inr ⟨y, fun hs => ?_⟩
      exfalso
      have eq1 : b.1 * c.2.1 = c.1 * b.2.1 := by
        rcases Int.lt_or_eq_of_le le with q | q
        · have := fr_trl (a := b.1) (x := b.2.1) (b := c.1) (y := c.2.1) (c := Q) (z := P) (Int.le_of_lt pb) h.1.2 hP.1 q e1
          rw [Int.mul_comm Q] at this
          omega
        · exact q
      have eq2 : c.1 * P = Q * c.2.1 := by
        rcases Int.lt_or_eq_of_le e1 with q | q
        · have := fr_ltr (a := b.1) (x := b.2.1) (b := c.1) (y := c.2.1) (c := Q) (z := P) pb h.1.2 (Int.le_of_lt hP.1) le q
          rw [Int.mul_comm Q] at this
          omega
        · exact q
      rcases h.2 with q | ⟨_, q⟩
      · rw [Int.mul_comm Q] at eq2; omega
      · exact k (Or.inr ⟨eq1.symm, q hs⟩)
