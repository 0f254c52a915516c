/-! each limit that stands is a walk -/
def rl (L : List gE) (B : Int × Int × Int) (a b : Nat) : Prop := B.2.1 ≠ 0 → ∃ w, wk L w a b ∧ B.1 * wp w = B.2.1 * wq w ∧ (B.2.2 = 1 → ws w)
theorem rl_ls {L : List gE} {b c : Int × Int × Int} {i j : Nat} (h : rl L b i j) (k : rl L c i j) : rl L (lsB b c) i j := by
  unfold lsB
  split
  · exact k
  · exact h
theorem rl_ml {L : List gE} {x y : Int × Int × Int} {a k b : Nat} (h : rl L x a k) (h' : rl L y k b) : rl L (mlB x y) a b := by
  intro n
  have n' : x.2.1 * y.2.1 ≠ 0 := n
  obtain ⟨w, w1, w2, w3⟩ := h (fun z => n' (by rw [z, Int.zero_mul]))
  obtain ⟨v, v1, v2, v3⟩ := h' (fun z => n' (by rw [z, Int.mul_zero]))
  refine ⟨w ++ v, wk_app w v a k b w1 v1, ?_, fun o => ?_⟩
  · show x.1 * y.1 * wp (w ++ v) = x.2.1 * y.2.1 * wq (w ++ v)
    rw [wp_app, wq_app]
    have k1 : x.1 * y.1 * (wp w * wp v) = (x.1 * wp w) * (y.1 * wp v) := by ac_rfl
    have k2 : x.2.1 * y.2.1 * (wq w * wq v) = (x.2.1 * wq w) * (y.2.1 * wq v) := by ac_rfl
    rw [k1, k2, w2, v2]
  · rw [ws_app]
    by_cases c : x.2.2 = 1 ∨ y.2.2 = 1
    · rcases c with c | c
      · exact Or.inl (w3 c)
      · exact Or.inr (v3 c)
    · have o' : (if x.2.2 = 1 ∨ y.2.2 = 1 then (1 : Int) else 0) = 1 := o
      rw [if_neg c] at o'; exact absurd o' (by decide)
theorem rl_go {L : List gE} {wy st : Nat → Nat → Int × Int × Int} {a b : Nat} (hw : ∀ k, rl L (wy a k) a k) (hs : ∀ k, rl L (st k b) k b) : ∀ (ks : List Nat) (x : Int × Int × Int), rl L x a b → rl L (goL wy st a b ks x) a b
  | [], x, h => h
  | k :: ks, x, h => by
    refine rl_go hw hs ks _ ?_
    split
    · exact rl_ls h (rl_ml (hw k) (hs k))
    · exact h
/-- a limit of a foot through itself that is below one -/
theorem rl_gain {L : List gE} (hE : ∀ e ∈ L, gEo e) {B : Int × Int × Int} {a : Nat} (h : rl L B a a) (p : 0 < B.1 ∧ 0 ≤ B.2.1) (g : B.1 < B.2.1 ∨ (B.1 = B.2.1 ∧ B.2.2 = 1)) : gain L := by
  have n : 0 < B.2.1 := by omega
  obtain ⟨w, w1, w2, w3⟩ := h (Int.ne_of_gt n)
  have pw := wp_pos hE w a a w1
  refine ⟨a, w, w1, ?_⟩
  rcases g with g | ⟨g, o⟩
  · refine Or.inl ?_
    rcases Int.lt_or_le (wq w) (wp w) with y | y
    · exact y
    · have m1 := Int.mul_lt_mul_of_pos_right g pw.1.1
      have m2 := Int.mul_le_mul_of_nonneg_left y (Int.le_of_lt n)
      omega
  · rw [g] at w2
    exact Or.inr ⟨(Int.eq_of_mul_eq_mul_left (Int.ne_of_gt n) w2).symm, w3 o⟩
/-- two limits that contradict each other -/
theorem rl_contra {L : List gE} (hE : ∀ e ∈ L, gEo e) {x y : Int × Int × Int} {a b : Nat} (h : rl L x a b) (k : rl L y b a) (px : pB x) (py : pB y) (g : x.1 * y.1 < x.2.1 * y.2.1 ∨ (x.1 * y.1 = x.2.1 * y.2.1 ∧ (x.2.2 = 1 ∨ y.2.2 = 1))) : gain L := by
  refine rl_gain hE (rl_ml h k) ⟨Int.mul_pos px.1 py.1, Int.mul_nonneg px.2 py.2⟩ ?_
  rcases g with g | ⟨g, o⟩
  · exact Or.inl g
  · exact Or.inr ⟨g, if_pos o⟩
