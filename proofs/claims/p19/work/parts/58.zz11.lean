/-! one step more -/
def mlB (x y : Int × Int × Int) : Int × Int × Int := (x.1 * y.1, x.2.1 * y.2.1, if x.2.2 = 1 ∨ y.2.2 = 1 then 1 else 0)
def pB (x : Int × Int × Int) : Prop := 0 < x.1 ∧ 0 ≤ x.2.1
def goL (wy st : Nat → Nat → Int × Int × Int) (a b : Nat) : List Nat → Int × Int × Int → Int × Int × Int
  | [], x => x
  | k :: ks, x => goL wy st a b ks (if k ≠ a ∧ k ≠ b ∧ (wy a k).2.1 ≠ 0 ∧ (st k b).2.1 ≠ 0 then lsB x (mlB (wy a k) (st k b)) else x)
theorem lsB_p {x c : Int × Int × Int} (hx : pB x) (hc : pB c) : pB (lsB x c) := by
  unfold lsB
  split
  · exact hc
  · exact hx
theorem mlB_p {x y : Int × Int × Int} (hx : pB x) (hy : pB y) (h1 : x.2.1 ≠ 0) (h2 : y.2.1 ≠ 0) : 0 < (mlB x y).1 ∧ 0 < (mlB x y).2.1 := by
  unfold pB at hx hy
  exact ⟨Int.mul_pos hx.1 hy.1, Int.mul_pos (by omega) (by omega)⟩
theorem gl_keep {wy st : Nat → Nat → Int × Int × Int} {a b : Nat} {P Q : Int} {s : Prop} (hw : ∀ i j, pB (wy i j)) (hs : ∀ i j, pB (st i j)) (hP : 0 < P ∧ 0 < Q) : ∀ (ks : List Nat) (x : Int × Int × Int), lb x.1 x.2.1 x.2.2 P Q s → lb (goL wy st a b ks x).1 (goL wy st a b ks x).2.1 (goL wy st a b ks x).2.2 P Q s
  | [], x, h => h
  | k :: ks, x, h => by
    refine gl_keep hw hs hP ks _ ?_
    by_cases c : k ≠ a ∧ k ≠ b ∧ (wy a k).2.1 ≠ 0 ∧ (st k b).2.1 ≠ 0
    · rw [if_pos c]; exact lsB_1 h (mlB_p (hw a k) (hs k b) c.2.2.1 c.2.2.2) hP
    · rw [if_neg c]; exact h
theorem gl_take {wy st : Nat → Nat → Int × Int × Int} {a b k : Nat} {P Q P' Q' : Int} {s s' : Prop} (hw : ∀ i j, pB (wy i j)) (hs : ∀ i j, pB (st i j)) (hP : 0 < P ∧ 0 < Q) (hP' : 0 < P' ∧ 0 < Q') (ka : k ≠ a) (kb : k ≠ b) (h1 : lb (wy a k).1 (wy a k).2.1 (wy a k).2.2 P Q s) (h2 : lb (st k b).1 (st k b).2.1 (st k b).2.2 P' Q' s') : ∀ (ks : List Nat) (x : Int × Int × Int), k ∈ ks → pB x → lb (goL wy st a b ks x).1 (goL wy st a b ks x).2.1 (goL wy st a b ks x).2.2 (P * P') (Q * Q') (s ∨ s')
  | [], x, hk, _ => by cases hk
  | j :: ks, x, hk, hx => by
    have pp : 0 < P * P' ∧ 0 < Q * Q' := ⟨Int.mul_pos hP.1 hP'.1, Int.mul_pos hP.2 hP'.2⟩
    rcases List.mem_cons.mp hk with e | hk
    · subst e
      refine gl_keep hw hs pp ks _ ?_
      rw [if_pos ⟨ka, kb, Int.ne_of_gt h1.1.2, Int.ne_of_gt h2.1.2⟩]
      exact lsB_2 (lb_mul h1 h2 hP hP' (fun z => if_pos z)) hx pp
    · refine gl_take hw hs hP hP' ka kb h1 h2 ks _ hk ?_
      by_cases c : j ≠ a ∧ j ≠ b ∧ (wy a j).2.1 ≠ 0 ∧ (st j b).2.1 ≠ 0
      · rw [if_pos c]
        have m := mlB_p (hw a j) (hs j b) c.2.2.1 c.2.2.2
        exact lsB_p hx ⟨m.1, Int.le_of_lt m.2⟩
      · rw [if_neg c]; exact hx
