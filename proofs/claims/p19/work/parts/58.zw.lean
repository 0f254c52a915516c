/-! an entry by the told world, exact in both -/
theorem frE {h h' : m_H} (R : FR [] [] h h') : h' = h := funext fun c => funext fun j => R c j rfl
def soV (l f n k : Int) : Prop := if k = 0 then l = n * f else if k = 1 then n * f ≤ l ∧ l < (n + 1) * f else (2 * n - 1) * f ≤ 2 * l ∧ 2 * l < (2 * n + 1) * f
def hvL (n k : Int) : Int := 2 * n - (if k = 2 then 1 else 0)
def hvE (n k : Int) : Int := if k = 0 then 2 * n else hvL n k + 2
theorem mul_b {a b : Int} (h1 : 0 ≤ a) (h2 : a ≤ 99) (h3 : 1 ≤ b) (h4 : b ≤ 9999) : 0 ≤ a * b ∧ a * b ≤ 989901 := by
  refine ⟨Int.mul_nonneg h1 (by omega), ?_⟩
  have z := Int.mul_le_mul h2 h4 (by omega) (by omega)
  omega
theorem so_0 {l f n k : Int} (h1 : 0 ≤ n) (h2 : n ≤ 99) (h3 : 1 ≤ f) (h4 : f ≤ 9999) (hk : k = 0) : soV l f n k ↔ l = m_w (n * f) := by
  have b := mul_b h1 h2 h3 h4
  unfold soV
  rw [if_pos hk, m_w_id (by omega) (by omega)]
theorem so_1 {l f n k : Int} (h1 : 0 ≤ n) (h2 : n ≤ 99) (h3 : 1 ≤ f) (h4 : f ≤ 9999) (hk : k = 1) : soV l f n k ↔ m_w (n * f) ≤ l ∧ l < m_w ((n + 1) * f) := by
  have b := mul_b h1 h2 h3 h4
  have e : (n + 1) * f = n * f + f := by rw [Int.add_mul, Int.one_mul]
  unfold soV
  rw [if_neg (by omega), if_pos hk, m_w_id (by omega) (by omega), e, m_w_id (by omega) (by omega)]
theorem so_2 {l f n k : Int} (h1 : 0 ≤ n) (h2 : n ≤ 99) (h3 : 1 ≤ f) (h4 : f ≤ 9999) (hk : ¬ k = 0) (hk1 : ¬ k = 1) : soV l f n k ↔ m_w ((2 * n - 1) * f) ≤ 2 * l ∧ 2 * l < m_w ((2 * n + 1) * f) := by
  have b := mul_b h1 h2 h3 h4
  have e1 : (2 * n - 1) * f = 2 * (n * f) - f := by rw [Int.sub_mul, Int.one_mul, Int.mul_assoc]
  have e2 : (2 * n + 1) * f = 2 * (n * f) + f := by rw [Int.add_mul, Int.one_mul, Int.mul_assoc]
  unfold soV
  rw [if_neg hk, if_neg hk1, e1, e2, m_w_id (by omega) (by omega), m_w_id (by omega) (by omega)]
theorem so_C {l f n k lo en x7 x9 : Int} (h1 : 0 ≤ n) (h2 : n ≤ 99) (h3 : 1 ≤ f) (h4 : f ≤ 9999) (k0 : 0 ≤ k) (k2 : k ≤ 2) (el : hvL n k = lo) (ee : hvE n k = en) (e7 : m_w (lo * f) = x7) (e9 : m_w (en * f) = x9) : soV l f n k ↔ (if k = 0 then 2 * l = x9 else x7 ≤ 2 * l ∧ 2 * l < x9) := by
  have b := mul_b h1 h2 h3 h4
  have e1 : (2 * n) * f = 2 * (n * f) := Int.mul_assoc _ _ _
  unfold hvE at ee
  unfold hvL at el ee
  unfold soV
  by_cases c0 : k = 0
  · rw [if_pos c0] at ee ⊢
    rw [if_pos c0, ← e9, ← ee, e1, m_w_id (by omega) (by omega)]; omega
  rw [if_neg c0] at ee ⊢
  rw [if_neg c0]
  by_cases c1 : k = 1
  · rw [if_neg (by omega)] at el ee
    rw [if_pos c1]
    have e2 : (2 * n - 0) * f = 2 * (n * f) := by rw [show 2 * n - 0 = 2 * n by omega, e1]
    have e3 : (2 * n - 0 + 2) * f = 2 * (n * f) + 2 * f := by rw [show 2 * n - 0 + 2 = 2 * n + 2 by omega, Int.add_mul, e1]
    have e4 : (n + 1) * f = n * f + f := by rw [Int.add_mul, Int.one_mul]
    rw [← e7, ← e9, ← el, ← ee, e2, e3, e4, m_w_id (by omega) (by omega), m_w_id (by omega) (by omega)]; omega
  · rw [if_pos (show k = 2 by omega)] at el ee
    rw [if_neg c1]
    have e2 : (2 * n - 1) * f = 2 * (n * f) - f := by rw [Int.sub_mul, Int.one_mul, e1]
    have e3 : (2 * n - 1 + 2) * f = 2 * (n * f) + f := by rw [show 2 * n - 1 + 2 = 2 * n + 1 by omega, Int.add_mul, Int.one_mul, e1]
    have e4 : (2 * n + 1) * f = 2 * (n * f) + f := by rw [Int.add_mul, Int.one_mul, e1]
    rw [← e7, ← e9, ← el, ← ee, e2, e3, e4, m_w_id (by omega) (by omega), m_w_id (by omega) (by omega)]
def soC (h : m_H) (L : Nat) (e : Int) : Prop := h (L + 1) (h (L + 4) e.toNat).toNat = -1 ∨ soV (h (L + 7) (lnV (h (L + 2) (h (L + 3) e.toNat).toNat) (h (L + 3) e.toNat) (h (L + 4) e.toNat)).toNat) (h (L + 7) (12 + h (L + 1) (h (L + 4) e.toNat).toNat).toNat) (h (L + 5) e.toNat) (h (L + 6) e.toNat)
def soM (r : Nat → Int) (e : Int) : Prop := soV (r (60 + lnV (r (42 + r (5 * e.toNat + 80)).toNat) (r (5 * e.toNat + 80)) (r (5 * e.toNat + 81))).toNat) (r (72 + r (10 + r (5 * e.toNat + 81)).toNat).toNat) (r (5 * e.toNat + 82)) (r (5 * e.toNat + 83))
abbrev P_X4_keeperOf2 (h0 : m_H) (L : Nat) (a1 : Int) : Int → m_H → Prop := fun x h' => GI h' ∧ FR [] [] h0 h' ∧ (-1) ≤ x ∧ x ≤ 3 ∧ h0 (L + 1) (h0 (L + 4) a1.toNat).toNat = x
set_option maxHeartbeats 4000000 in
set_option maxRecDepth 100000 in
theorem c_X4_keeperOf2 (h0 : m_H) (L : Nat) (a1 : Int) (hL : isL L) (G0 : GI h0) (pa1 : 0 ≤ a1 ∧ a1 ≤ 23) : m_CI M_X4_keeperOf [mR L, mI a1] h0 (P_X4_keeperOf2 h0 L a1) := by
  refine m_CI_of ⟨by decide, rfl, by simp [m_arg, m_isL, M_X4_keeperOf], ⟨rfl, rfl⟩, rfl, rfl⟩ (ls := [some (mR L), some (mI a1)]) rfl ?_
  refine z_aload_n (M := M_X4_keeperOf) 0 dX4_keeperOf_0 rfl ?_
  refine z_getR (M := M_X4_keeperOf) 1 dX4_keeperOf_1 f_X4_9 (oL hL) rfl (rL_0 hL G0) ?_
  refine z_aload_n (M := M_X4_keeperOf) 4 dX4_keeperOf_4 rfl ?_
  refine z_getR (M := M_X4_keeperOf) 5 dX4_keeperOf_5 f_X4_21 (oL hL) rfl (rL_3 hL G0) ?_
  refine z_iload_n (M := M_X4_keeperOf) 8 dX4_keeperOf_8 rfl ?_
  refine z_ialdG (M := M_X4_keeperOf) 9 dX4_keeperOf_9 (oL_4 hL) (by omega) (by omega) (gL_4 hL G0 (by omega)) (fun x1 ex1 ax1 bx1 => ?_)
  refine z_ialdG (M := M_X4_keeperOf) 10 dX4_keeperOf_10 (oL_1 hL) (by omega) (by omega) (gL_1 hL G0 (by omega)) (fun x2 ex2 ax2 bx2 => ?_)
  exact z_retI (M := M_X4_keeperOf) 11 dX4_keeperOf_11 rfl ⟨G0, (FR.rf (cs := []) (ss := []) (h := h0)), by omega, by omega, by rw [ex1]; exact ex2⟩
abbrev P_X4_leastHalves2 (h0 : m_H) (L : Nat) (a1 : Int) : Int → m_H → Prop := fun x h' => GI h' ∧ FR [] [] h0 h' ∧ (-1) ≤ x ∧ x ≤ 198 ∧ hvL (h0 (L + 5) a1.toNat) (h0 (L + 6) a1.toNat) = x
set_option maxHeartbeats 4000000 in
set_option maxRecDepth 100000 in
theorem c_X4_leastHalves2 (h0 : m_H) (L : Nat) (a1 : Int) (hL : isL L) (G0 : GI h0) (pa1 : 0 ≤ a1 ∧ a1 ≤ 23) : m_CI M_X4_leastHalves [mR L, mI a1] h0 (P_X4_leastHalves2 h0 L a1) := by
  refine m_CI_of ⟨by decide, rfl, by simp [m_arg, m_isL, M_X4_leastHalves], ⟨rfl, rfl⟩, rfl, rfl⟩ (ls := [some (mR L), some (mI a1)]) rfl ?_
  refine z_iconst (M := M_X4_leastHalves) 0 dX4_leastHalves_0 ?_
  refine z_aload_n (M := M_X4_leastHalves) 1 dX4_leastHalves_1 rfl ?_
  refine z_getR (M := M_X4_leastHalves) 2 dX4_leastHalves_2 f_X4_24 (oL hL) rfl (rL_4 hL G0) ?_
  refine z_iload_n (M := M_X4_leastHalves) 5 dX4_leastHalves_5 rfl ?_
  refine z_ialdG (M := M_X4_leastHalves) 6 dX4_leastHalves_6 (oL_5 hL) (by omega) (by omega) (gL_5 hL G0 (by omega)) (fun x1 ex1 ax1 bx1 => ?_)
  refine z_imulN (M := M_X4_leastHalves) 7 dX4_leastHalves_7 (by omega) (by omega) ?_
  refine z_aload_n (M := M_X4_leastHalves) 8 dX4_leastHalves_8 rfl ?_
  refine z_getR (M := M_X4_leastHalves) 9 dX4_leastHalves_9 f_X4_27 (oL hL) rfl (rL_5 hL G0) ?_
  refine z_iload_n (M := M_X4_leastHalves) 12 dX4_leastHalves_12 rfl ?_
  refine z_ialdG (M := M_X4_leastHalves) 13 dX4_leastHalves_13 (oL_6 hL) (by omega) (by omega) (gL_6 hL G0 (by omega)) (fun x2 ex2 ax2 bx2 => ?_)
  refine z_iconst (M := M_X4_leastHalves) 14 dX4_leastHalves_14 ?_
  refine z_icmp_ne (M := M_X4_leastHalves) 15 dX4_leastHalves_15 22 rfl (fun c3 => ?_) (fun c3 => ?_)
  · refine z_iconst (M := M_X4_leastHalves) 22 dX4_leastHalves_22 ?_
    refine z_isubN (M := M_X4_leastHalves) 23 dX4_leastHalves_23 (by omega) (by omega) ?_
    exact z_retI (M := M_X4_leastHalves) 24 dX4_leastHalves_24 rfl ⟨G0, (FR.rf (cs := []) (ss := []) (h := h0)), by omega, by omega, by rw [ex1, ex2]; unfold hvL; rw [if_neg (by omega)]⟩
  · refine z_iconst (M := M_X4_leastHalves) 18 dX4_leastHalves_18 ?_
    refine z_goto (M := M_X4_leastHalves) 19 dX4_leastHalves_19 23 rfl ?_
    refine z_isubN (M := M_X4_leastHalves) 23 dX4_leastHalves_23 (by omega) (by omega) ?_
    exact z_retI (M := M_X4_leastHalves) 24 dX4_leastHalves_24 rfl ⟨G0, (FR.rf (cs := []) (ss := []) (h := h0)), by omega, by omega, by rw [ex1, ex2]; unfold hvL; rw [if_pos (by omega)]⟩
abbrev P_X4_endHalves2 (h0 : m_H) (L : Nat) (a1 : Int) : Int → m_H → Prop := fun x h' => GI h' ∧ FR [] [] h0 h' ∧ 0 ≤ x ∧ x ≤ 200 ∧ hvE (h0 (L + 5) a1.toNat) (h0 (L + 6) a1.toNat) = x
set_option maxHeartbeats 4000000 in
set_option maxRecDepth 100000 in
theorem c_X4_endHalves2 (h0 : m_H) (L : Nat) (a1 : Int) (hL : isL L) (G0 : GI h0) (pa1 : 0 ≤ a1 ∧ a1 ≤ 23) : m_CI M_X4_endHalves [mR L, mI a1] h0 (P_X4_endHalves2 h0 L a1) := by
  refine m_CI_of ⟨by decide, rfl, by simp [m_arg, m_isL, M_X4_endHalves], ⟨rfl, rfl⟩, rfl, rfl⟩ (ls := [some (mR L), some (mI a1)]) rfl ?_
  refine z_aload_n (M := M_X4_endHalves) 0 dX4_endHalves_0 rfl ?_
  refine z_getR (M := M_X4_endHalves) 1 dX4_endHalves_1 f_X4_27 (oL hL) rfl (rL_5 hL G0) ?_
  refine z_iload_n (M := M_X4_endHalves) 4 dX4_endHalves_4 rfl ?_
  refine z_ialdG (M := M_X4_endHalves) 5 dX4_endHalves_5 (oL_6 hL) (by omega) (by omega) (gL_6 hL G0 (by omega)) (fun x1 ex1 ax1 bx1 => ?_)
  refine z_if_ne (M := M_X4_endHalves) 6 dX4_endHalves_6 18 rfl (fun c2 => ?_) (fun c2 => ?_)
  · refine z_aload_n (M := M_X4_endHalves) 18 dX4_endHalves_18 rfl ?_
    refine z_iload_n (M := M_X4_endHalves) 19 dX4_endHalves_19 rfl ?_
    refine z_vI (M := M_X4_endHalves) 20 dX4_endHalves_20 t_X4_leastHalves l_X4_81 (m_rr_of rfl) (rest := []) (c_X4_leastHalves2 h0 L a1 hL G0 ⟨by omega, by omega⟩) (oL hL) rfl rfl rfl (Nat.le_of_ble_eq_true rfl) ⟨rfl, rfl⟩ (fun x3 h1 qx3 => ?_)
    obtain ⟨G1, S1, ax3, bx3, fx3⟩ := qx3
    have R1 := (FR.rf (cs := []) (ss := []) (h := h0)).call S1 (by decide +kernel)
    refine z_iconst (M := M_X4_endHalves) 23 dX4_endHalves_23 ?_
    refine z_iaddN (M := M_X4_endHalves) 24 dX4_endHalves_24 (by omega) (by omega) ?_
    exact z_retI (M := M_X4_endHalves) 25 dX4_endHalves_25 rfl ⟨G1, R1, by omega, by omega, by rw [← fx3]; unfold hvE; rw [if_neg (by omega)]⟩
  · refine z_iconst (M := M_X4_endHalves) 9 dX4_endHalves_9 ?_
    refine z_aload_n (M := M_X4_endHalves) 10 dX4_endHalves_10 rfl ?_
    refine z_getR (M := M_X4_endHalves) 11 dX4_endHalves_11 f_X4_24 (oL hL) rfl (rL_4 hL G0) ?_
    refine z_iload_n (M := M_X4_endHalves) 14 dX4_endHalves_14 rfl ?_
    refine z_ialdG (M := M_X4_endHalves) 15 dX4_endHalves_15 (oL_5 hL) (by omega) (by omega) (gL_5 hL G0 (by omega)) (fun x4 ex4 ax4 bx4 => ?_)
    refine z_imulN (M := M_X4_endHalves) 16 dX4_endHalves_16 (by omega) (by omega) ?_
    exact z_retI (M := M_X4_endHalves) 17 dX4_endHalves_17 rfl ⟨G0, (FR.rf (cs := []) (ss := []) (h := h0)), by omega, by omega, by unfold hvE; rw [if_pos (by omega), ex4]⟩
abbrev P_X4_isSoByWorld2 (h0 : m_H) (L : Nat) (a1 : Int) : Int → m_H → Prop := fun x h' => GI h' ∧ FR [] [] h0 h' ∧ 0 ≤ x ∧ x ≤ 1 ∧ (x = 1 ↔ soC h0 L a1)
set_option maxHeartbeats 4000000 in
set_option maxRecDepth 100000 in
theorem c_X4_isSoByWorld2 (h0 : m_H) (L : Nat) (a1 : Int) (hL : isL L) (G0 : GI h0) (pa1 : 0 ≤ a1 ∧ a1 ≤ 23) : m_CI M_X4_isSoByWorld [mR L, mI a1] h0 (P_X4_isSoByWorld2 h0 L a1) := by
  refine m_CI_of ⟨by decide, rfl, by simp [m_arg, m_isL, M_X4_isSoByWorld], ⟨rfl, rfl⟩, rfl, rfl⟩ (ls := [some (mR L), some (mI a1), none, none, none, none, none]) rfl ?_
  refine z_aload_n (M := M_X4_isSoByWorld) 0 dX4_isSoByWorld_0 rfl ?_
  refine z_iload_n (M := M_X4_isSoByWorld) 1 dX4_isSoByWorld_1 rfl ?_
  refine z_vI (M := M_X4_isSoByWorld) 2 dX4_isSoByWorld_2 t_X4_keeperOf l_X4_88 (m_rr_of rfl) (rest := []) (c_X4_keeperOf2 h0 L a1 hL G0 ⟨by omega, by omega⟩) (oL hL) rfl rfl rfl (Nat.le_of_ble_eq_true rfl) ⟨rfl, rfl⟩ (fun x1 h1 qx1 => ?_)
  obtain ⟨G1, S1, ax1, bx1, fx1⟩ := qx1
  have R1 := (FR.rf (cs := []) (ss := []) (h := h0)).call S1 (by decide +kernel)
  refine z_istore_n (M := M_X4_isSoByWorld) 5 dX4_isSoByWorld_5 (ls' := [some (mR L), some (mI a1), some (mI x1), none, none, none, none]) (by decide) rfl ?_
  refine z_iload_n (M := M_X4_isSoByWorld) 6 dX4_isSoByWorld_6 rfl ?_
  refine z_iconst (M := M_X4_isSoByWorld) 7 dX4_isSoByWorld_7 ?_
  refine z_icmp_ne (M := M_X4_isSoByWorld) 8 dX4_isSoByWorld_8 13 rfl (fun c2 => ?_) (fun c2 => ?_)
  · refine z_aload_n (M := M_X4_isSoByWorld) 13 dX4_isSoByWorld_13 rfl ?_
    refine z_getR (M := M_X4_isSoByWorld) 14 dX4_isSoByWorld_14 f_X4_30 (oL hL) rfl (rL_6 hL G1) ?_
    refine z_bipush (M := M_X4_isSoByWorld) 17 dX4_isSoByWorld_17 ?_
    refine z_iload_n (M := M_X4_isSoByWorld) 19 dX4_isSoByWorld_19 rfl ?_
    refine z_iaddN (M := M_X4_isSoByWorld) 20 dX4_isSoByWorld_20 (by omega) (by omega) ?_
    refine z_ialdG (M := M_X4_isSoByWorld) 21 dX4_isSoByWorld_21 (oL_7 hL) (by omega) (by omega) (gL_7 hL G1 (by omega)) (fun x3 ex3 ax3 bx3 => ?_)
    refine z_istore_n (M := M_X4_isSoByWorld) 22 dX4_isSoByWorld_22 (ls' := [some (mR L), some (mI a1), some (mI x1), some (mI x3), none, none, none]) (by decide) rfl ?_
    refine z_iconst (M := M_X4_isSoByWorld) 23 dX4_isSoByWorld_23 ?_
    refine z_aload_n (M := M_X4_isSoByWorld) 24 dX4_isSoByWorld_24 rfl ?_
    refine z_getR (M := M_X4_isSoByWorld) 25 dX4_isSoByWorld_25 f_X4_30 (oL hL) rfl (rL_6 hL G1) ?_
    refine z_aload_n (M := M_X4_isSoByWorld) 28 dX4_isSoByWorld_28 rfl ?_
    refine z_iload_n (M := M_X4_isSoByWorld) 29 dX4_isSoByWorld_29 rfl ?_
    refine z_vI (M := M_X4_isSoByWorld) 30 dX4_isSoByWorld_30 t_X4_lengthOf l_X4_91 (m_rr_of rfl) (rest := [mR (L + 7), mI 2]) (c_X4_lengthOf2 h1 L a1 hL G1 ⟨by omega, by omega⟩) (oL hL) rfl rfl rfl (Nat.le_of_ble_eq_true rfl) ⟨rfl, rfl⟩ (fun x4 h2 qx4 => ?_)
    obtain ⟨G2, S2, ax4, bx4, fx4⟩ := qx4
    have R2 := R1.call S2 (by decide +kernel)
    refine z_ialdG (M := M_X4_isSoByWorld) 33 dX4_isSoByWorld_33 (oL_7 hL) (by omega) (by omega) (gL_7 hL G2 (by omega)) (fun x5 ex5 ax5 bx5 => ?_)
    refine z_imulN (M := M_X4_isSoByWorld) 34 dX4_isSoByWorld_34 (by omega) (by omega) ?_
    refine z_istore (M := M_X4_isSoByWorld) 35 dX4_isSoByWorld_35 (ls' := [some (mR L), some (mI a1), some (mI x1), some (mI x3), some (mI (2 * x5)), none, none]) (by decide) rfl ?_
    refine z_aload_n (M := M_X4_isSoByWorld) 37 dX4_isSoByWorld_37 rfl ?_
    refine z_iload_n (M := M_X4_isSoByWorld) 38 dX4_isSoByWorld_38 rfl ?_
    refine z_vI (M := M_X4_isSoByWorld) 39 dX4_isSoByWorld_39 t_X4_leastHalves l_X4_81 (m_rr_of rfl) (rest := []) (c_X4_leastHalves2 h2 L a1 hL G2 ⟨by omega, by omega⟩) (oL hL) rfl rfl rfl (Nat.le_of_ble_eq_true rfl) ⟨rfl, rfl⟩ (fun x6 h3 qx6 => ?_)
    obtain ⟨G3, S3, ax6, bx6, fx6⟩ := qx6
    have R3 := R2.call S3 (by decide +kernel)
    refine z_iload_n (M := M_X4_isSoByWorld) 42 dX4_isSoByWorld_42 rfl ?_
    refine z_imul (M := M_X4_isSoByWorld) 43 dX4_isSoByWorld_43 ?_
    refine z_topm (fun x7 ex7 ox7 => ?_)
    unfold m_32 at ox7
    refine z_istore (M := M_X4_isSoByWorld) 44 dX4_isSoByWorld_44 (ls' := [some (mR L), some (mI a1), some (mI x1), some (mI x3), some (mI (2 * x5)), some (mI x7), none]) (by decide) rfl ?_
    refine z_aload_n (M := M_X4_isSoByWorld) 46 dX4_isSoByWorld_46 rfl ?_
    refine z_iload_n (M := M_X4_isSoByWorld) 47 dX4_isSoByWorld_47 rfl ?_
    refine z_vI (M := M_X4_isSoByWorld) 48 dX4_isSoByWorld_48 t_X4_endHalves l_X4_94 (m_rr_of rfl) (rest := []) (c_X4_endHalves2 h3 L a1 hL G3 ⟨by omega, by omega⟩) (oL hL) rfl rfl rfl (Nat.le_of_ble_eq_true rfl) ⟨rfl, rfl⟩ (fun x8 h4 qx8 => ?_)
    obtain ⟨G4, S4, ax8, bx8, fx8⟩ := qx8
    have R4 := R3.call S4 (by decide +kernel)
    refine z_iload_n (M := M_X4_isSoByWorld) 51 dX4_isSoByWorld_51 rfl ?_
    refine z_imul (M := M_X4_isSoByWorld) 52 dX4_isSoByWorld_52 ?_
    refine z_topm (fun x9 ex9 ox9 => ?_)
    unfold m_32 at ox9
    refine z_istore (M := M_X4_isSoByWorld) 53 dX4_isSoByWorld_53 (ls' := [some (mR L), some (mI a1), some (mI x1), some (mI x3), some (mI (2 * x5)), some (mI x7), some (mI x9)]) (by decide) rfl ?_
    refine z_aload_n (M := M_X4_isSoByWorld) 55 dX4_isSoByWorld_55 rfl ?_
    refine z_getR (M := M_X4_isSoByWorld) 56 dX4_isSoByWorld_56 f_X4_27 (oL hL) rfl (rL_5 hL G4) ?_
    refine z_iload_n (M := M_X4_isSoByWorld) 59 dX4_isSoByWorld_59 rfl ?_
    refine z_ialdG (M := M_X4_isSoByWorld) 60 dX4_isSoByWorld_60 (oL_6 hL) (by omega) (by omega) (gL_6 hL G4 (by omega)) (fun x10 ex10 ax10 bx10 => ?_)
    have so_ : soC h0 L a1 ↔ (if x10 = 0 then 2 * x5 = x9 else x7 ≤ 2 * x5 ∧ 2 * x5 < x9) := by
      rw [frE R1] at ex3 fx4
      rw [frE R2] at ex5 fx6
      rw [frE R3] at fx8
      rw [frE R4] at ex10
      rw [ex10] at fx6 fx8
      have gn := gL_5 hL G0 (j := a1.toNat) (by omega)
      unfold soC
      rw [fx1, fx4, ex5, ex3, ex10, or_iff_right (by omega)]
      exact so_C (by omega) (by omega) (by omega) (by omega) (by omega) (by omega) fx6 fx8 ex7 ex9
    refine z_if_ne (M := M_X4_isSoByWorld) 61 dX4_isSoByWorld_61 79 rfl (fun c11 => ?_) (fun c11 => ?_)
    · refine z_iload (M := M_X4_isSoByWorld) 79 dX4_isSoByWorld_79 rfl ?_
      refine z_iload (M := M_X4_isSoByWorld) 81 dX4_isSoByWorld_81 rfl ?_
      refine z_icmp_lt (M := M_X4_isSoByWorld) 83 dX4_isSoByWorld_83 97 rfl (fun c12 => ?_) (fun c12 => ?_)
      · refine z_iconst (M := M_X4_isSoByWorld) 97 dX4_isSoByWorld_97 ?_
        exact z_retZ (M := M_X4_isSoByWorld) 98 dX4_isSoByWorld_98 rfl (by omega) ⟨G4, R4, by omega, by omega, ⟨fun z => absurd z (by decide), fun z => by have y := so_.mp z; rw [if_neg (by omega)] at y; omega⟩⟩
      · refine z_iload (M := M_X4_isSoByWorld) 86 dX4_isSoByWorld_86 rfl ?_
        refine z_iload (M := M_X4_isSoByWorld) 88 dX4_isSoByWorld_88 rfl ?_
        refine z_icmp_ge (M := M_X4_isSoByWorld) 90 dX4_isSoByWorld_90 97 rfl (fun c13 => ?_) (fun c13 => ?_)
        · refine z_iconst (M := M_X4_isSoByWorld) 97 dX4_isSoByWorld_97 ?_
          exact z_retZ (M := M_X4_isSoByWorld) 98 dX4_isSoByWorld_98 rfl (by omega) ⟨G4, R4, by omega, by omega, ⟨fun z => absurd z (by decide), fun z => by have y := so_.mp z; rw [if_neg (by omega)] at y; omega⟩⟩
        · refine z_iconst (M := M_X4_isSoByWorld) 93 dX4_isSoByWorld_93 ?_
          refine z_goto (M := M_X4_isSoByWorld) 94 dX4_isSoByWorld_94 98 rfl ?_
          exact z_retZ (M := M_X4_isSoByWorld) 98 dX4_isSoByWorld_98 rfl (by omega) ⟨G4, R4, by omega, by omega, ⟨fun _ => so_.mpr (by rw [if_neg (by omega)]; omega), fun _ => rfl⟩⟩
    · refine z_iload (M := M_X4_isSoByWorld) 64 dX4_isSoByWorld_64 rfl ?_
      refine z_iload (M := M_X4_isSoByWorld) 66 dX4_isSoByWorld_66 rfl ?_
      refine z_icmp_ne (M := M_X4_isSoByWorld) 68 dX4_isSoByWorld_68 75 rfl (fun c14 => ?_) (fun c14 => ?_)
      · refine z_iconst (M := M_X4_isSoByWorld) 75 dX4_isSoByWorld_75 ?_
        refine z_goto (M := M_X4_isSoByWorld) 76 dX4_isSoByWorld_76 98 rfl ?_
        exact z_retZ (M := M_X4_isSoByWorld) 98 dX4_isSoByWorld_98 rfl (by omega) ⟨G4, R4, by omega, by omega, ⟨fun z => absurd z (by decide), fun z => by have y := so_.mp z; rw [if_pos (by omega)] at y; omega⟩⟩
      · refine z_iconst (M := M_X4_isSoByWorld) 71 dX4_isSoByWorld_71 ?_
        refine z_goto (M := M_X4_isSoByWorld) 72 dX4_isSoByWorld_72 98 rfl ?_
        exact z_retZ (M := M_X4_isSoByWorld) 98 dX4_isSoByWorld_98 rfl (by omega) ⟨G4, R4, by omega, by omega, ⟨fun _ => so_.mpr (by rw [if_pos (by omega)]; omega), fun _ => rfl⟩⟩
  · refine z_iconst (M := M_X4_isSoByWorld) 11 dX4_isSoByWorld_11 ?_
    exact z_retZ (M := M_X4_isSoByWorld) 12 dX4_isSoByWorld_12 rfl (by omega) ⟨G1, R1, by omega, by omega, ⟨fun _ => Or.inl (by omega), fun _ => rfl⟩⟩
abbrev P_X12_isSo2 (h0 : m_H) (a1 : Int) : Int → m_H → Prop := fun x h' => GI h' ∧ FR [] [] h0 h' ∧ 0 ≤ x ∧ x ≤ 1 ∧ (x = 1 ↔ soM (h0 110) a1)
set_option maxHeartbeats 4000000 in
set_option maxRecDepth 100000 in
theorem c_X12_isSo2 (h0 : m_H) (a1 : Int) (G0 : GI h0) (pa1 : 0 ≤ a1 ∧ a1 ≤ 23) : m_CI M_X12_isSo [mR 108, mI a1] h0 (P_X12_isSo2 h0 a1) := by
  refine m_CI_of ⟨by decide, rfl, by simp [m_arg, m_isL, M_X12_isSo], ⟨rfl, rfl⟩, rfl, rfl⟩ (ls := [some (mR 108), some (mI a1), none, none, none]) rfl ?_
  refine z_aload_n (M := M_X12_isSo) 0 dX12_isSo_0 rfl ?_
  refine z_getR (M := M_X12_isSo) 1 dX12_isSo_1 f_X12_13 o_108 rfl (g_108_3 G0) ?_
  refine z_bipush (M := M_X12_isSo) 4 dX12_isSo_4 ?_
  refine z_aload_n (M := M_X12_isSo) 6 dX12_isSo_6 rfl ?_
  refine z_iload_n (M := M_X12_isSo) 7 dX12_isSo_7 rfl ?_
  refine z_vI (M := M_X12_isSo) 8 dX12_isSo_8 t_X12_lengthOf l_X12_198 (m_rr_of rfl) (rest := [mI 60, mR 110]) (c_X12_lengthOf2 h0 a1 G0 ⟨by omega, by omega⟩) o_108 rfl rfl rfl (Nat.le_of_ble_eq_true rfl) ⟨rfl, rfl⟩ (fun x1 h1 qx1 => ?_)
  obtain ⟨G1, S1, ax1, bx1, fx1⟩ := qx1
  have R1 := (FR.rf (cs := []) (ss := []) (h := h0)).call S1 (by decide +kernel)
  refine z_iaddN (M := M_X12_isSo) 11 dX12_isSo_11 (by omega) (by omega) ?_
  refine z_ialdG (M := M_X12_isSo) 12 dX12_isSo_12 o_110 (by omega) (by omega) (gw_l G1 (by omega) (by omega)) (fun x2 ex2 ax2 bx2 => ?_)
  refine z_istore_n (M := M_X12_isSo) 13 dX12_isSo_13 (ls' := [some (mR 108), some (mI a1), some (mI x2), none, none]) (by decide) rfl ?_
  refine z_aload_n (M := M_X12_isSo) 14 dX12_isSo_14 rfl ?_
  refine z_getR (M := M_X12_isSo) 15 dX12_isSo_15 f_X12_13 o_108 rfl (g_108_3 G1) ?_
  refine z_bipush (M := M_X12_isSo) 18 dX12_isSo_18 ?_
  refine z_aload_n (M := M_X12_isSo) 20 dX12_isSo_20 rfl ?_
  refine z_getR (M := M_X12_isSo) 21 dX12_isSo_21 f_X12_13 o_108 rfl (g_108_3 G1) ?_
  refine z_bipush (M := M_X12_isSo) 24 dX12_isSo_24 ?_
  refine z_aload_n (M := M_X12_isSo) 26 dX12_isSo_26 rfl ?_
  refine z_iload_n (M := M_X12_isSo) 27 dX12_isSo_27 rfl ?_
  refine z_iconst (M := M_X12_isSo) 28 dX12_isSo_28 ?_
  refine z_vI (M := M_X12_isSo) 29 dX12_isSo_29 t_X12_ofEntry l_X12_195 (m_rr_of rfl) (rest := [mI 10, mR 110, mI 72, mR 110]) (c_X12_ofEntry h1 a1 1 G1 ⟨by omega, by omega⟩ ⟨by omega, by omega⟩) o_108 rfl rfl rfl (Nat.le_of_ble_eq_true rfl) ⟨rfl, rfl⟩ (fun x3 h2 qx3 => ?_)
  obtain ⟨rfl, fx3⟩ := qx3
  have gx3 := gw_e1 G1 (i := (80 + 5 * a1 + 1)) (e := a1) (by omega) (by omega) (by omega)
  rw [fx3] at gx3
  refine z_iaddN (M := M_X12_isSo) 32 dX12_isSo_32 (by omega) (by omega) ?_
  refine z_ialdG (M := M_X12_isSo) 33 dX12_isSo_33 o_110 (by omega) (by omega) (gw_w G1 (by omega) (by omega)) (fun x4 ex4 ax4 bx4 => ?_)
  refine z_iaddN (M := M_X12_isSo) 34 dX12_isSo_34 (by omega) (by omega) ?_
  refine z_ialdG (M := M_X12_isSo) 35 dX12_isSo_35 o_110 (by omega) (by omega) (gw_l G1 (by omega) (by omega)) (fun x5 ex5 ax5 bx5 => ?_)
  refine z_istore_n (M := M_X12_isSo) 36 dX12_isSo_36 (ls' := [some (mR 108), some (mI a1), some (mI x2), some (mI x5), none]) (by decide) rfl ?_
  refine z_aload_n (M := M_X12_isSo) 37 dX12_isSo_37 rfl ?_
  refine z_iload_n (M := M_X12_isSo) 38 dX12_isSo_38 rfl ?_
  refine z_iconst (M := M_X12_isSo) 39 dX12_isSo_39 ?_
  refine z_vI (M := M_X12_isSo) 40 dX12_isSo_40 t_X12_ofEntry l_X12_195 (m_rr_of rfl) (rest := []) (c_X12_ofEntry h1 a1 2 G1 ⟨by omega, by omega⟩ ⟨by omega, by omega⟩) o_108 rfl rfl rfl (Nat.le_of_ble_eq_true rfl) ⟨rfl, rfl⟩ (fun x6 h3 qx6 => ?_)
  obtain ⟨rfl, fx6⟩ := qx6
  have gx6 := gw_e2 G1 (i := (80 + 5 * a1 + 2)) (e := a1) (by omega) (by omega) (by omega)
  rw [fx6] at gx6
  refine z_istore (M := M_X12_isSo) 43 dX12_isSo_43 (ls' := [some (mR 108), some (mI a1), some (mI x2), some (mI x5), some (mI x6)]) (by decide) rfl ?_
  refine z_aload_n (M := M_X12_isSo) 45 dX12_isSo_45 rfl ?_
  refine z_iload_n (M := M_X12_isSo) 46 dX12_isSo_46 rfl ?_
  refine z_iconst (M := M_X12_isSo) 47 dX12_isSo_47 ?_
  refine z_vI (M := M_X12_isSo) 48 dX12_isSo_48 t_X12_ofEntry l_X12_195 (m_rr_of rfl) (rest := []) (c_X12_ofEntry h1 a1 3 G1 ⟨by omega, by omega⟩ ⟨by omega, by omega⟩) o_108 rfl rfl rfl (Nat.le_of_ble_eq_true rfl) ⟨rfl, rfl⟩ (fun x7 h4 qx7 => ?_)
  obtain ⟨rfl, fx7⟩ := qx7
  have gx7 := gw_e3 G1 (i := (80 + 5 * a1 + 3)) (e := a1) (by omega) (by omega) (by omega)
  rw [fx7] at gx7
  have so_ : soM (h0 110) a1 ↔ soV x2 x5 x6 x7 := by
    have i1 : (80 + 5 * a1 + 1).toNat = 5 * a1.toNat + 81 := by omega
    have i2 : (80 + 5 * a1 + 2).toNat = 5 * a1.toNat + 82 := by omega
    have i3 : (80 + 5 * a1 + 3).toNat = 5 * a1.toNat + 83 := by omega
    rw [frE R1] at ex2 ex4 ex5 fx3 fx6 fx7
    rw [i1] at fx3
    rw [i2] at fx6
    rw [i3] at fx7
    unfold soM
    rw [fx1, ex2, fx3, ex4, ex5, fx6, fx7]
  by_cases c8 : x7 = 0 ∨ x7 = 1
  · rcases c8 with c8_0 | c8_1
    · refine z_lookup (M := M_X12_isSo) 51 dX12_isSo_51 (off := 25) 76 (by decide) (by rw [c8_0]; rfl) rfl ?_
      refine z_iload_n (M := M_X12_isSo) 76 dX12_isSo_76 rfl ?_
      refine z_iload (M := M_X12_isSo) 77 dX12_isSo_77 rfl ?_
      refine z_iload_n (M := M_X12_isSo) 79 dX12_isSo_79 rfl ?_
      refine z_imul (M := M_X12_isSo) 80 dX12_isSo_80 ?_
      refine z_topm (fun x9 ex9 ox9 => ?_)
      unfold m_32 at ox9
      refine z_icmp_ne (M := M_X12_isSo) 81 dX12_isSo_81 88 rfl (fun c10 => ?_) (fun c10 => ?_)
      · refine z_iconst (M := M_X12_isSo) 88 dX12_isSo_88 ?_
        exact z_retZ (M := M_X12_isSo) 89 dX12_isSo_89 rfl (by omega) ⟨G1, R1, by omega, by omega, ⟨fun z => absurd z (by decide), fun z => by have y := (so_0 (by omega) (by omega) (by omega) (by omega) c8_0).mp (so_.mp z); rw [ex9] at y; omega⟩⟩
      · refine z_iconst (M := M_X12_isSo) 84 dX12_isSo_84 ?_
        refine z_goto (M := M_X12_isSo) 85 dX12_isSo_85 89 rfl ?_
        exact z_retZ (M := M_X12_isSo) 89 dX12_isSo_89 rfl (by omega) ⟨G1, R1, by omega, by omega, ⟨fun _ => so_.mpr ((so_0 (by omega) (by omega) (by omega) (by omega) c8_0).mpr (by rw [ex9]; omega)), fun _ => rfl⟩⟩
    · refine z_lookup (M := M_X12_isSo) 51 dX12_isSo_51 (off := 39) 90 (by decide) (by rw [c8_1]; rfl) rfl ?_
      refine z_iload_n (M := M_X12_isSo) 90 dX12_isSo_90 rfl ?_
      refine z_iload (M := M_X12_isSo) 91 dX12_isSo_91 rfl ?_
      refine z_iload_n (M := M_X12_isSo) 93 dX12_isSo_93 rfl ?_
      refine z_imul (M := M_X12_isSo) 94 dX12_isSo_94 ?_
      refine z_topm (fun x11 ex11 ox11 => ?_)
      unfold m_32 at ox11
      refine z_icmp_lt (M := M_X12_isSo) 95 dX12_isSo_95 112 rfl (fun c12 => ?_) (fun c12 => ?_)
      · refine z_iconst (M := M_X12_isSo) 112 dX12_isSo_112 ?_
        exact z_retZ (M := M_X12_isSo) 113 dX12_isSo_113 rfl (by omega) ⟨G1, R1, by omega, by omega, ⟨fun z => absurd z (by decide), fun z => by have y := (so_1 (by omega) (by omega) (by omega) (by omega) c8_1).mp (so_.mp z); rw [ex11] at y; omega⟩⟩
      · refine z_iload_n (M := M_X12_isSo) 98 dX12_isSo_98 rfl ?_
        refine z_iload (M := M_X12_isSo) 99 dX12_isSo_99 rfl ?_
        refine z_iconst (M := M_X12_isSo) 101 dX12_isSo_101 ?_
        refine z_iaddN (M := M_X12_isSo) 102 dX12_isSo_102 (by omega) (by omega) ?_
        refine z_iload_n (M := M_X12_isSo) 103 dX12_isSo_103 rfl ?_
        refine z_imul (M := M_X12_isSo) 104 dX12_isSo_104 ?_
        refine z_topm (fun x13 ex13 ox13 => ?_)
        unfold m_32 at ox13
        refine z_icmp_ge (M := M_X12_isSo) 105 dX12_isSo_105 112 rfl (fun c14 => ?_) (fun c14 => ?_)
        · refine z_iconst (M := M_X12_isSo) 112 dX12_isSo_112 ?_
          exact z_retZ (M := M_X12_isSo) 113 dX12_isSo_113 rfl (by omega) ⟨G1, R1, by omega, by omega, ⟨fun z => absurd z (by decide), fun z => by have y := (so_1 (by omega) (by omega) (by omega) (by omega) c8_1).mp (so_.mp z); rw [ex11, ex13] at y; omega⟩⟩
        · refine z_iconst (M := M_X12_isSo) 108 dX12_isSo_108 ?_
          refine z_goto (M := M_X12_isSo) 109 dX12_isSo_109 113 rfl ?_
          exact z_retZ (M := M_X12_isSo) 113 dX12_isSo_113 rfl (by omega) ⟨G1, R1, by omega, by omega, ⟨fun _ => so_.mpr ((so_1 (by omega) (by omega) (by omega) (by omega) c8_1).mpr (by rw [ex11, ex13]; omega)), fun _ => rfl⟩⟩
  · refine z_lookup (M := M_X12_isSo) 51 dX12_isSo_51 (off := 63) 114 (by decide) (by simp only [Op.lookupswitch.offset]; split <;> (try omega) <;> (split <;> omega)) rfl ?_
    refine z_iconst (M := M_X12_isSo) 114 dX12_isSo_114 ?_
    refine z_iload_n (M := M_X12_isSo) 115 dX12_isSo_115 rfl ?_
    refine z_imulN (M := M_X12_isSo) 116 dX12_isSo_116 (by omega) (by omega) ?_
    refine z_iconst (M := M_X12_isSo) 117 dX12_isSo_117 ?_
    refine z_iload (M := M_X12_isSo) 118 dX12_isSo_118 rfl ?_
    refine z_imulN (M := M_X12_isSo) 120 dX12_isSo_120 (by omega) (by omega) ?_
    refine z_iconst (M := M_X12_isSo) 121 dX12_isSo_121 ?_
    refine z_isubN (M := M_X12_isSo) 122 dX12_isSo_122 (by omega) (by omega) ?_
    refine z_iload_n (M := M_X12_isSo) 123 dX12_isSo_123 rfl ?_
    refine z_imul (M := M_X12_isSo) 124 dX12_isSo_124 ?_
    refine z_topm (fun x15 ex15 ox15 => ?_)
    unfold m_32 at ox15
    refine z_icmp_lt (M := M_X12_isSo) 125 dX12_isSo_125 146 rfl (fun c16 => ?_) (fun c16 => ?_)
    · refine z_iconst (M := M_X12_isSo) 146 dX12_isSo_146 ?_
      exact z_retZ (M := M_X12_isSo) 147 dX12_isSo_147 rfl (by omega) ⟨G1, R1, by omega, by omega, ⟨fun z => absurd z (by decide), fun z => by have y := (so_2 (by omega) (by omega) (by omega) (by omega) (by omega) (by omega)).mp (so_.mp z); rw [ex15] at y; omega⟩⟩
    · refine z_iconst (M := M_X12_isSo) 128 dX12_isSo_128 ?_
      refine z_iload_n (M := M_X12_isSo) 129 dX12_isSo_129 rfl ?_
      refine z_imulN (M := M_X12_isSo) 130 dX12_isSo_130 (by omega) (by omega) ?_
      refine z_iconst (M := M_X12_isSo) 131 dX12_isSo_131 ?_
      refine z_iload (M := M_X12_isSo) 132 dX12_isSo_132 rfl ?_
      refine z_imulN (M := M_X12_isSo) 134 dX12_isSo_134 (by omega) (by omega) ?_
      refine z_iconst (M := M_X12_isSo) 135 dX12_isSo_135 ?_
      refine z_iaddN (M := M_X12_isSo) 136 dX12_isSo_136 (by omega) (by omega) ?_
      refine z_iload_n (M := M_X12_isSo) 137 dX12_isSo_137 rfl ?_
      refine z_imul (M := M_X12_isSo) 138 dX12_isSo_138 ?_
      refine z_topm (fun x17 ex17 ox17 => ?_)
      unfold m_32 at ox17
      refine z_icmp_ge (M := M_X12_isSo) 139 dX12_isSo_139 146 rfl (fun c18 => ?_) (fun c18 => ?_)
      · refine z_iconst (M := M_X12_isSo) 146 dX12_isSo_146 ?_
        exact z_retZ (M := M_X12_isSo) 147 dX12_isSo_147 rfl (by omega) ⟨G1, R1, by omega, by omega, ⟨fun z => absurd z (by decide), fun z => by have y := (so_2 (by omega) (by omega) (by omega) (by omega) (by omega) (by omega)).mp (so_.mp z); rw [ex15, ex17] at y; omega⟩⟩
      · refine z_iconst (M := M_X12_isSo) 142 dX12_isSo_142 ?_
        refine z_goto (M := M_X12_isSo) 143 dX12_isSo_143 147 rfl ?_
        exact z_retZ (M := M_X12_isSo) 147 dX12_isSo_147 rfl (by omega) ⟨G1, R1, by omega, by omega, ⟨fun _ => so_.mpr ((so_2 (by omega) (by omega) (by omega) (by omega) (by omega) (by omega)).mpr (by rw [ex15, ex17]; omega)), fun _ => rfl⟩⟩
theorem so_eq {h : m_H} {e : Int} (R : LR 1 h (h 110)) (G : GI h) (h0 : 0 ≤ e) (h1 : e < h 110 0) : ¬ soC h 1 e ↔ (h 110 (10 + h 110 (5 * e.toNat + 81)).toNat ≠ -1 ∧ ¬ soM (h 110) e) := by
  obtain ⟨b, k, c, wd, n, q, cb, sb⟩ := R
  obtain ⟨b1, b2, b3, b4⟩ := b
  obtain ⟨q1, q2, q3, q4⟩ := q e.toNat (by omega)
  have q1' : h (1 + 3) e.toNat = h 110 (5 * e.toNat + 80) := q1
  have q2' : h (1 + 4) e.toNat = h 110 (5 * e.toNat + 81) := q2
  have q3' : h (1 + 5) e.toNat = h 110 (5 * e.toNat + 82) := q3
  have q4' : h (1 + 6) e.toNat = h 110 (5 * e.toNat + 83) := q4
  have gn := gw_n G (e := e.toNat) (by omega)
  obtain ⟨⟨g1, g2⟩, ⟨g3, g4⟩, _⟩ := gn
  have kk := k (h 110 (5 * e.toNat + 81)).toNat (by omega)
  have cc := c (h 110 (5 * e.toNat + 80)).toNat (by omega)
  have ik : (10 + h 110 (5 * e.toNat + 81)).toNat = 10 + (h 110 (5 * e.toNat + 81)).toNat := by omega
  have ic : (42 + h 110 (5 * e.toNat + 80)).toNat = 42 + (h 110 (5 * e.toNat + 80)).toNat := by omega
  unfold soC soM
  rw [q1', q2', q3', q4', kk, cc, ik, ic]
  generalize hv : lnV (h 110 (42 + (h 110 (5 * e.toNat + 80)).toNat)) (h 110 (5 * e.toNat + 80)) (h 110 (5 * e.toNat + 81)) = v
  have hb : 0 ≤ v ∧ v ≤ 11 := by
    rw [← hv]; unfold lnV; split <;> omega
  have gk := gw_w G (i := 10 + h 110 (5 * e.toNat + 81)) (by omega) (by omega)
  rw [ik] at gk
  generalize h 110 (10 + (h 110 (5 * e.toNat + 81)).toNat) = kp at gk ⊢
  by_cases g : kp = -1
  · exact ⟨fun z => absurd (Or.inl g) z, fun z => absurd g z.1⟩
  · have w1 := wd v.toNat (by omega)
    have w2 := wd (12 + kp).toNat (by omega)
    rw [w1, w2, show (60 + v).toNat = 60 + v.toNat by omega, show (72 + kp).toNat = 60 + (12 + kp).toNat by omega, or_iff_right g]
    exact ⟨fun z => ⟨g, z⟩, fun z => z.2⟩
