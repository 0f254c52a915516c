/-! the start: an empty ledger is an empty row -/
theorem LR_0 {h : m_H} {r : Nat → Int} (hr : ∀ j, r j = rwF 32 6 16 j) (k : ∀ j, j < 32 → h 2 j = (-1)) (c : ∀ j, j < 6 → h 3 j = (-1)) (w : ∀ j, j < 16 → h 8 j = 100) (n : h 1 7 = 0) (cb : h 1 8 = 0) (sb : h 1 9 = 0) : LR 1 h r := by
  have r0 : r 0 = 0 := (hr 0).trans rfl
  have r1 : r 1 = 0 := (hr 1).trans rfl
  have b0 : ∀ e, bt 0 e = false := fun e => by
    have z := bt_div (x := 0) (by decide) (p := e)
    rw [Nat.zero_div] at z
    exact z
  refine ⟨⟨by omega, by omega, by omega, by omega⟩, fun j hj => ?_, fun j hj => ?_, fun j hj => ?_, by rw [r0]; exact n, fun e he => by omega, fun e he => ?_, ?_⟩
  · rw [hr]; unfold rwF; rw [if_pos (by omega)]; exact k j hj
  · rw [hr]; unfold rwF; rw [if_neg (by omega), if_pos (by omega)]; exact c j hj
  · rw [hr]; unfold rwF; rw [if_neg (by omega), if_neg (by omega), if_pos (by omega)]; exact w j hj
  · rw [cb, b0]
    exact ⟨fun z => absurd z (by decide), fun z => by have := z.1; omega⟩
  · rw [sb]
    refine ⟨Int.le_refl _, by decide, ?_, fun p hp => ?_⟩
    · rw [r1]; decide
    · rw [b0]
      exact ⟨fun z => absurd z (by decide), fun ⟨k', z, _⟩ => by omega⟩
