abbrev P_X1_stands (h0 : m_H) (w : Nat) : Int → m_H → Prop := fun x h' => GI h' ∧ FR [] [] h0 h' ∧ 0 ≤ x ∧ x ≤ 1
def q_X1_stands (h0 : m_H) (w : Nat) (n : Nat) : Prop := (∀ (l2 y_37_1 y_37_2 : Int) (h : m_H), GI h → FR [] [] h0 h → 0 ≤ l2 → l2 ≤ 6 → 0 ≤ y_37_1 → y_37_1 ≤ 400 → 0 ≤ y_37_2 → y_37_2 ≤ 400 → (h 37 1 = y_37_1) → (h 37 2 = y_37_2) → (y_37_2 - y_37_1 = slen w) → 2 * (6 - l2) + (1) ≤ (n : Int) → m_Z oF M_X1_stands 20 [some (mR 37), some (mO w), some (mI l2)] [] h (m_QI (P_X1_stands h0 w)))
set_option maxHeartbeats 4000000 in
set_option maxRecDepth 100000 in
theorem s_X1_stands_20 (h0 : m_H) (w : Nat) (hw : w < 16) (G0 : GI h0) (n : Nat) (ih : q_X1_stands h0 w n) : ∀ (l2 y_37_1 y_37_2 : Int) (h : m_H), GI h → FR [] [] h0 h → 0 ≤ l2 → l2 ≤ 6 → 0 ≤ y_37_1 → y_37_1 ≤ 400 → 0 ≤ y_37_2 → y_37_2 ≤ 400 → (h 37 1 = y_37_1) → (h 37 2 = y_37_2) → (y_37_2 - y_37_1 = slen w) → 2 * (6 - l2) + (1) ≤ ((n + 1 : Nat) : Int) → m_Z oF M_X1_stands 20 [some (mR 37), some (mO w), some (mI l2)] [] h (m_QI (P_X1_stands h0 w)) := by
  intro l2 y_37_1 y_37_2 h G R v0 v1 v2 v3 v4 v5 t_37_1 t_37_2 i0 hr
  refine z_iload_n (M := M_X1_stands) 20 dX1_stands_20 rfl ?_
  refine z_aload_nO (M := M_X1_stands) 21 dX1_stands_21 rfl ?_
  refine z_vIO (M := M_X1_stands) 22 dX1_stands_22 t_J0_length_8abf5 l_X1_124 (m_rr_of rfl) (rest := [mI l2]) (c_J0_length_8abf5 h w hw) hw rfl rfl rfl (Nat.le_of_ble_eq_true rfl) ⟨rfl, rfl⟩ (fun x1 h1 qx1 => ?_)
  obtain ⟨rfl, ex1⟩ := qx1
  have bx1 := slen_b w
  refine z_icmp_ge (M := M_X1_stands) 25 dX1_stands_25 58 rfl (fun c2 => ?_) (fun c2 => ?_)
  · refine z_iconst (M := M_X1_stands) 58 dX1_stands_58 ?_
    exact z_retZ (M := M_X1_stands) 59 dX1_stands_59 rfl (by omega) ⟨G, R, by omega, by omega⟩
  · refine z_aload_n (M := M_X1_stands) 28 dX1_stands_28 rfl ?_
    refine z_getR (M := M_X1_stands) 29 dX1_stands_29 f_X1_9 o_37 rfl (g_37_0 G) ?_
    refine z_getR (M := M_X1_stands) 32 dX1_stands_32 f_X1_128 o_35 rfl (g_35_0 G) ?_
    refine z_aload_n (M := M_X1_stands) 35 dX1_stands_35 rfl ?_
    refine z_getIE (M := M_X1_stands) 36 dX1_stands_36 f_X1_43 o_37 (by decide) t_37_1 ?_
    refine z_iload_n (M := M_X1_stands) 39 dX1_stands_39 rfl ?_
    refine z_iaddN (M := M_X1_stands) 40 dX1_stands_40 (by omega) (by omega) ?_
    refine z_ialdG (M := M_X1_stands) 41 dX1_stands_41 o_36 (by omega) (by omega) (g_36 G (by omega)) (fun x3 ex3 ax3 bx3 => ?_)
    refine z_aload_nO (M := M_X1_stands) 42 dX1_stands_42 rfl ?_
    refine z_iload_n (M := M_X1_stands) 43 dX1_stands_43 rfl ?_
    refine z_vIO (M := M_X1_stands) 44 dX1_stands_44 t_J0_charAt_5068e l_X1_131 (m_rr_of rfl) (rest := [mI x3]) (c_J0_charAt_5068e h w l2 hw (by omega) (by omega)) hw rfl rfl rfl (Nat.le_of_ble_eq_true rfl) ⟨rfl, rfl⟩ (fun x4 h2 qx4 => ?_)
    obtain ⟨rfl, ex4⟩ := qx4
    have bx4 := (sch_ok (i := w) (a := l2) hw (by omega) (by omega)).1
    refine z_icmp_eq (M := M_X1_stands) 47 dX1_stands_47 52 rfl (fun c5 => ?_) (fun c5 => ?_)
    · refine z_iincN (M := M_X1_stands) 52 dX1_stands_52 (ls' := [some (mR 37), some (mO w), some (mI (l2 + 1))]) (by decide) rfl (by (unfold m_32; decide)) (by omega) (by omega) rfl ?_
      refine z_goto (M := M_X1_stands) 55 dX1_stands_55 20 rfl ?_
      exact z_mask [true, true, true] rfl (ih (l2 + 1) y_37_1 y_37_2 h G R (by omega) (by omega) (by omega) (by omega) (by omega) (by omega) t_37_1 t_37_2 (by omega) (by omega))
    · refine z_iconst (M := M_X1_stands) 50 dX1_stands_50 ?_
      exact z_retZ (M := M_X1_stands) 51 dX1_stands_51 rfl (by omega) ⟨G, R, by omega, by omega⟩
theorem a_X1_stands (h0 : m_H) (w : Nat) (hw : w < 16) (G0 : GI h0) : ∀ n, q_X1_stands h0 w n := by
  intro n
  induction n with
  | zero => unfold q_X1_stands; intros; omega
  | succ n ih => exact s_X1_stands_20 h0 w hw G0 n ih
set_option maxHeartbeats 4000000 in
set_option maxRecDepth 100000 in
theorem c_X1_stands (h0 : m_H) (w : Nat) (hw : w < 16) (G0 : GI h0) : m_CI M_X1_stands [mR 37, mO w] h0 (P_X1_stands h0 w) := by
  refine m_CI_of ⟨by decide, rfl, by simp [m_arg, m_isL, M_X1_stands], ⟨rfl, rfl⟩, rfl, rfl⟩ (ls := [some (mR 37), some (mO w), none]) rfl ?_
  have ih := a_X1_stands h0 w hw G0 20
  obtain ⟨x1, ex1⟩ : ∃ y : Int, h0 37 1 = y := ⟨_, rfl⟩
  have bx1 : 0 ≤ x1 ∧ x1 ≤ 400 := ex1 ▸ g_37_1 G0
  obtain ⟨x2, ex2⟩ : ∃ y : Int, h0 37 2 = y := ⟨_, rfl⟩
  have bx2 : 0 ≤ x2 ∧ x2 ≤ 400 := ex2 ▸ g_37_2 G0
  refine z_aload_n (M := M_X1_stands) 0 dX1_stands_0 rfl ?_
  refine z_getIE (M := M_X1_stands) 1 dX1_stands_1 f_X1_19 o_37 (by decide) ex2 ?_
  refine z_aload_n (M := M_X1_stands) 4 dX1_stands_4 rfl ?_
  refine z_getIE (M := M_X1_stands) 5 dX1_stands_5 f_X1_43 o_37 (by decide) ex1 ?_
  refine z_isubN (M := M_X1_stands) 8 dX1_stands_8 (by omega) (by omega) ?_
  refine z_aload_nO (M := M_X1_stands) 9 dX1_stands_9 rfl ?_
  refine z_vIO (M := M_X1_stands) 10 dX1_stands_10 t_J0_length_8abf5 l_X1_124 (m_rr_of rfl) (rest := [mI (x2 - x1)]) (c_J0_length_8abf5 h0 w hw) hw rfl rfl rfl (Nat.le_of_ble_eq_true rfl) ⟨rfl, rfl⟩ (fun x3 h1 qx3 => ?_)
  obtain ⟨rfl, ex3⟩ := qx3
  have bx3 := slen_b w
  refine z_icmp_eq (M := M_X1_stands) 13 dX1_stands_13 18 rfl (fun c4 => ?_) (fun c4 => ?_)
  · refine z_iconst (M := M_X1_stands) 18 dX1_stands_18 ?_
    refine z_istore_n (M := M_X1_stands) 19 dX1_stands_19 (ls' := [some (mR 37), some (mO w), some (mI 0)]) (by decide) rfl ?_
    exact z_mask [true, true, true] rfl (ih 0 x1 x2 h0 G0 (FR.rf (cs := []) (ss := []) (h := h0)) (by omega) (by omega) (by omega) (by omega) (by omega) (by omega) ex1 ex2 (by omega) (by omega))
  · refine z_iconst (M := M_X1_stands) 16 dX1_stands_16 ?_
    exact z_retZ (M := M_X1_stands) 17 dX1_stands_17 rfl (by omega) ⟨G0, (FR.rf (cs := []) (ss := []) (h := h0)), by omega, by omega⟩
abbrev P_X1_take (h0 : m_H) (w : Nat) : Int → m_H → Prop := fun x h' => GI h' ∧ FR [] [(37, 1), (37, 2)] h0 h' ∧ 0 ≤ x ∧ x ≤ 1
set_option maxHeartbeats 4000000 in
set_option maxRecDepth 100000 in
theorem c_X1_take (h0 : m_H) (w : Nat) (hw : w < 16) (G0 : GI h0) : m_CI M_X1_take [mR 37, mO w] h0 (P_X1_take h0 w) := by
  refine m_CI_of ⟨by decide, rfl, by simp [m_arg, m_isL, M_X1_take], ⟨rfl, rfl⟩, rfl, rfl⟩ (ls := [some (mR 37), some (mO w)]) rfl ?_
  refine z_aload_n (M := M_X1_take) 0 dX1_take_0 rfl ?_
  refine z_aload_nO (M := M_X1_take) 1 dX1_take_1 rfl ?_
  refine z_vI (M := M_X1_take) 2 dX1_take_2 t_X1_stands l_X1_121 (m_rr_of rfl) (rest := []) (c_X1_stands h0 w hw G0) o_37 rfl rfl rfl (Nat.le_of_ble_eq_true rfl) ⟨rfl, rfl⟩ (fun x1 h1 qx1 => ?_)
  obtain ⟨G1, S1, ax1, bx1⟩ := qx1
  have R1 := (FR.rf (cs := []) (ss := [(37, 1), (37, 2)]) (h := h0)).call S1 (by decide +kernel)
  refine z_if_ne (M := M_X1_take) 5 dX1_take_5 10 rfl (fun c2 => ?_) (fun c2 => ?_)
  · refine z_aload_n (M := M_X1_take) 10 dX1_take_10 rfl ?_
    refine z_vV (M := M_X1_take) 11 dX1_take_11 t_X1_advance l_X1_22 (m_rr_of rfl) (rest := []) (c_X1_advance h1 G1) o_37 rfl rfl rfl (Nat.le_of_ble_eq_true rfl) ⟨rfl, rfl⟩ (fun h2 qx3 => ?_)
    obtain ⟨G2, S2⟩ := qx3
    have R2 := R1.call S2 (by decide +kernel)
    refine z_iconst (M := M_X1_take) 14 dX1_take_14 ?_
    exact z_retZ (M := M_X1_take) 15 dX1_take_15 rfl (by omega) ⟨G2, R2, by omega, by omega⟩
  · refine z_iconst (M := M_X1_take) 8 dX1_take_8 ?_
    exact z_retZ (M := M_X1_take) 9 dX1_take_9 rfl (by omega) ⟨G1, R1, by omega, by omega⟩
abbrev P_X1_readCut (h0 : m_H) (L : Nat) (a2 : Int) : Int → m_H → Prop := fun x h' => GI h' ∧ FR [(L + 2)] [(37, 1), (37, 2)] h0 h' ∧ 0 ≤ x ∧ x ≤ 1
set_option maxHeartbeats 4000000 in
set_option maxRecDepth 100000 in
theorem c_X1_readCut (h0 : m_H) (L : Nat) (a2 : Int) (hL : isL L) (G0 : GI h0) (pa2 : 0 ≤ a2 ∧ a2 ≤ 5) : m_CI M_X1_readCut [mR 37, mR L, mI a2] h0 (P_X1_readCut h0 L a2) := by
  refine m_CI_of ⟨by decide, rfl, by simp [m_arg, m_isL, M_X1_readCut], ⟨rfl, rfl⟩, rfl, rfl⟩ (ls := [some (mR 37), some (mR L), some (mI a2), none]) rfl ?_
  refine z_aload_n (M := M_X1_readCut) 0 dX1_readCut_0 rfl ?_
  refine z_ldcS (M := M_X1_readCut) 1 dX1_readCut_1 (i := 6) rfl rfl rfl ?_
  refine z_vI (M := M_X1_readCut) 3 dX1_readCut_3 t_X1_take l_X1_27 (m_rr_of rfl) (rest := []) (c_X1_take h0 6 (by decide) G0) o_37 rfl rfl rfl (Nat.le_of_ble_eq_true rfl) ⟨rfl, rfl⟩ (fun x1 h1 qx1 => ?_)
  obtain ⟨G1, S1, ax1, bx1⟩ := qx1
  have R1 := (FR.rf (cs := [(L + 2)]) (ss := [(37, 1), (37, 2)]) (h := h0)).call S1 (by simp [fsub, fr, csB])
  refine z_if_eq (M := M_X1_readCut) 6 dX1_readCut_6 18 rfl (fun c2 => ?_) (fun c2 => ?_)
  · refine z_aload_n (M := M_X1_readCut) 18 dX1_readCut_18 rfl ?_
    refine z_ldcS (M := M_X1_readCut) 19 dX1_readCut_19 (i := 7) rfl rfl rfl ?_
    refine z_vI (M := M_X1_readCut) 21 dX1_readCut_21 t_X1_take l_X1_27 (m_rr_of rfl) (rest := []) (c_X1_take h1 7 (by decide) G1) o_37 rfl rfl rfl (Nat.le_of_ble_eq_true rfl) ⟨rfl, rfl⟩ (fun x3 h2 qx3 => ?_)
    obtain ⟨G2, S2, ax3, bx3⟩ := qx3
    have R2 := R1.call S2 (by simp [fsub, fr, csB])
    refine z_if_eq (M := M_X1_readCut) 24 dX1_readCut_24 37 rfl (fun c4 => ?_) (fun c4 => ?_)
    · refine z_iconst (M := M_X1_readCut) 37 dX1_readCut_37 ?_
      refine z_istore_n (M := M_X1_readCut) 38 dX1_readCut_38 (ls' := [some (mR 37), some (mR L), some (mI a2), some (mI (-1))]) (by decide) rfl ?_
      refine z_iload_n (M := M_X1_readCut) 39 dX1_readCut_39 rfl ?_
      refine z_iconst (M := M_X1_readCut) 40 dX1_readCut_40 ?_
      refine z_icmp_ne_F (M := M_X1_readCut) 41 dX1_readCut_41 46 rfl (by omega) ?_
      refine z_iconst (M := M_X1_readCut) 44 dX1_readCut_44 ?_
      exact z_retZ (M := M_X1_readCut) 45 dX1_readCut_45 rfl (by omega) ⟨G2, R2, by omega, by omega⟩
    · refine z_aload_n (M := M_X1_readCut) 27 dX1_readCut_27 rfl ?_
      refine z_iconst (M := M_X1_readCut) 28 dX1_readCut_28 ?_
      refine z_bipush (M := M_X1_readCut) 29 dX1_readCut_29 ?_
      refine z_vI (M := M_X1_readCut) 31 dX1_readCut_31 t_X1_takeNumber l_X1_53 (m_rr_of rfl) (rest := []) (c_X1_takeNumber h2 1 31 G2 ⟨by omega, by omega⟩ ⟨by omega, by omega⟩) o_37 rfl rfl rfl (Nat.le_of_ble_eq_true rfl) ⟨rfl, rfl⟩ (fun x5 h3 qx5 => ?_)
      obtain ⟨G3, S3, fx5_0, fx5_1, fx5_2⟩ := qx5
      have R3 := R2.call S3 (by simp [fsub, fr, csB])
      refine z_ok (fun ox5 _ _ => ?_)
      have ox5 := ox5.1; unfold m_ok m_32 at ox5
      refine z_goto (M := M_X1_readCut) 34 dX1_readCut_34 38 rfl ?_
      refine z_istore_n (M := M_X1_readCut) 38 dX1_readCut_38 (ls' := [some (mR 37), some (mR L), some (mI a2), some (mI x5)]) (by decide) rfl ?_
      refine z_iload_n (M := M_X1_readCut) 39 dX1_readCut_39 rfl ?_
      refine z_iconst (M := M_X1_readCut) 40 dX1_readCut_40 ?_
      refine z_icmp_ne (M := M_X1_readCut) 41 dX1_readCut_41 46 rfl (fun c6 => ?_) (fun c6 => ?_)
      · refine z_aload_n (M := M_X1_readCut) 46 dX1_readCut_46 rfl ?_
        refine z_getR (M := M_X1_readCut) 47 dX1_readCut_47 f_X1_101 (oL hL) rfl (rL_1 hL G3) ?_
        refine z_iload_n (M := M_X1_readCut) 50 dX1_readCut_50 rfl ?_
        refine z_iload_n (M := M_X1_readCut) 51 dX1_readCut_51 rfl ?_
        refine z_iastH (M := M_X1_readCut) 52 dX1_readCut_52 (oL_2 hL) (by omega) (by omega) (uL_2 hL G3 (by omega) (by omega)) (R3.up (by simp [fr])) (fun h4 E4 G4 R4 => ?_)
        refine z_iconst (M := M_X1_readCut) 53 dX1_readCut_53 ?_
        exact z_retZ (M := M_X1_readCut) 54 dX1_readCut_54 rfl (by omega) ⟨G4, R4, by omega, by omega⟩
      · refine z_iconst (M := M_X1_readCut) 44 dX1_readCut_44 ?_
        exact z_retZ (M := M_X1_readCut) 45 dX1_readCut_45 rfl (by omega) ⟨G3, R3, by omega, by omega⟩
  · refine z_aload_n (M := M_X1_readCut) 9 dX1_readCut_9 rfl ?_
    refine z_getR (M := M_X1_readCut) 10 dX1_readCut_10 f_X1_101 (oL hL) rfl (rL_1 hL G1) ?_
    refine z_iload_n (M := M_X1_readCut) 13 dX1_readCut_13 rfl ?_
    refine z_iconst (M := M_X1_readCut) 14 dX1_readCut_14 ?_
    refine z_iastH (M := M_X1_readCut) 15 dX1_readCut_15 (oL_2 hL) (by omega) (by omega) (uL_2 hL G1 (by omega) (by omega)) (R1.up (by simp [fr])) (fun h5 E5 G5 R5 => ?_)
    refine z_iconst (M := M_X1_readCut) 16 dX1_readCut_16 ?_
    exact z_retZ (M := M_X1_readCut) 17 dX1_readCut_17 rfl (by omega) ⟨G5, R5, by omega, by omega⟩
abbrev P_X1_readMeasure (h0 : m_H) (L : Nat) (a2 : Int) : Int → m_H → Prop := fun x h' => GI h' ∧ FR [(L + 3), (L + 4), (L + 5), (L + 6)] [(37, 1), (37, 2), (L, 7), (L, 8)] h0 h' ∧ 0 ≤ x ∧ x ≤ 1
set_option maxHeartbeats 4000000 in
set_option maxRecDepth 100000 in
theorem c_X1_readMeasure (h0 : m_H) (L : Nat) (a2 : Int) (hL : isL L) (G0 : GI h0) (pa2 : 0 ≤ a2 ∧ a2 ≤ 5) : m_CI M_X1_readMeasure [mR 37, mR L, mI a2] h0 (P_X1_readMeasure h0 L a2) := by
  refine m_CI_of ⟨by decide, rfl, by simp [m_arg, m_isL, M_X1_readMeasure], ⟨rfl, rfl⟩, rfl, rfl⟩ (ls := [some (mR 37), some (mR L), some (mI a2), none, none, none]) rfl ?_
  refine z_aload_n (M := M_X1_readMeasure) 0 dX1_readMeasure_0 rfl ?_
  refine z_vI (M := M_X1_readMeasure) 1 dX1_readMeasure_1 t_X4_hasRoom l_X1_106 (m_rr_of rfl) (rest := []) (c_X4_hasRoom h0 L hL G0) (oL hL) rfl rfl rfl (Nat.le_of_ble_eq_true rfl) ⟨rfl, rfl⟩ (fun x1 h1 qx1 => ?_)
  obtain ⟨rfl, ⟨rfl, cx1⟩ | ⟨rfl, cx1⟩⟩ := qx1
  · refine z_if_eq_F (M := M_X1_readMeasure) 4 dX1_readMeasure_4 16 rfl (by omega) ?_
    refine z_aload_n (M := M_X1_readMeasure) 7 dX1_readMeasure_7 rfl ?_
    refine z_ldcS (M := M_X1_readMeasure) 8 dX1_readMeasure_8 (i := 7) rfl rfl rfl ?_
    refine z_vI (M := M_X1_readMeasure) 10 dX1_readMeasure_10 t_X1_take l_X1_27 (m_rr_of rfl) (rest := []) (c_X1_take h0 7 (by decide) G0) o_37 rfl rfl rfl (Nat.le_of_ble_eq_true rfl) ⟨rfl, rfl⟩ (fun x2 h2 qx2 => ?_)
    obtain ⟨G2, S2, ax2, bx2⟩ := qx2
    have R2 := (FR.rf (cs := [(L + 3), (L + 4), (L + 5), (L + 6)]) (ss := [(37, 1), (37, 2), (L, 7), (L, 8)]) (h := h0)).call S2 (by simp [fsub, fr, csB])
    refine z_if_ne (M := M_X1_readMeasure) 13 dX1_readMeasure_13 18 rfl (fun c3 => ?_) (fun c3 => ?_)
    · refine z_aload_n (M := M_X1_readMeasure) 18 dX1_readMeasure_18 rfl ?_
      refine z_iconst (M := M_X1_readMeasure) 19 dX1_readMeasure_19 ?_
      refine z_bipush (M := M_X1_readMeasure) 20 dX1_readMeasure_20 ?_
      refine z_vI (M := M_X1_readMeasure) 22 dX1_readMeasure_22 t_X1_takeNumber l_X1_53 (m_rr_of rfl) (rest := []) (c_X1_takeNumber h2 0 31 G2 ⟨by omega, by omega⟩ ⟨by omega, by omega⟩) o_37 rfl rfl rfl (Nat.le_of_ble_eq_true rfl) ⟨rfl, rfl⟩ (fun x4 h3 qx4 => ?_)
      obtain ⟨G3, S3, fx4_0, fx4_1, fx4_2⟩ := qx4
      have R3 := R2.call S3 (by simp [fsub, fr, csB])
      refine z_ok (fun ox4 _ _ => ?_)
      have ox4 := ox4.1; unfold m_ok m_32 at ox4
      refine z_istore_n (M := M_X1_readMeasure) 25 dX1_readMeasure_25 (ls' := [some (mR 37), some (mR L), some (mI a2), some (mI x4), none, none]) (by decide) rfl ?_
      refine z_iload_n (M := M_X1_readMeasure) 26 dX1_readMeasure_26 rfl ?_
      refine z_iconst (M := M_X1_readMeasure) 27 dX1_readMeasure_27 ?_
      refine z_icmp_eq (M := M_X1_readMeasure) 28 dX1_readMeasure_28 40 rfl (fun c5 => ?_) (fun c5 => ?_)
      · refine z_iconst (M := M_X1_readMeasure) 40 dX1_readMeasure_40 ?_
        exact z_retZ (M := M_X1_readMeasure) 41 dX1_readMeasure_41 rfl (by omega) ⟨G3, R3, by omega, by omega⟩
      · refine z_aload_n (M := M_X1_readMeasure) 31 dX1_readMeasure_31 rfl ?_
        refine z_ldcS (M := M_X1_readMeasure) 32 dX1_readMeasure_32 (i := 8) rfl rfl rfl ?_
        refine z_vI (M := M_X1_readMeasure) 34 dX1_readMeasure_34 t_X1_take l_X1_27 (m_rr_of rfl) (rest := []) (c_X1_take h3 8 (by decide) G3) o_37 rfl rfl rfl (Nat.le_of_ble_eq_true rfl) ⟨rfl, rfl⟩ (fun x6 h4 qx6 => ?_)
        obtain ⟨G4, S4, ax6, bx6⟩ := qx6
        have R4 := R3.call S4 (by simp [fsub, fr, csB])
        refine z_if_ne (M := M_X1_readMeasure) 37 dX1_readMeasure_37 42 rfl (fun c7 => ?_) (fun c7 => ?_)
        · refine z_aload_n (M := M_X1_readMeasure) 42 dX1_readMeasure_42 rfl ?_
          refine z_iconst (M := M_X1_readMeasure) 43 dX1_readMeasure_43 ?_
          refine z_bipush (M := M_X1_readMeasure) 44 dX1_readMeasure_44 ?_
          refine z_vI (M := M_X1_readMeasure) 46 dX1_readMeasure_46 t_X1_takeNumber l_X1_53 (m_rr_of rfl) (rest := []) (c_X1_takeNumber h4 1 99 G4 ⟨by omega, by omega⟩ ⟨by omega, by omega⟩) o_37 rfl rfl rfl (Nat.le_of_ble_eq_true rfl) ⟨rfl, rfl⟩ (fun x8 h5 qx8 => ?_)
          obtain ⟨G5, S5, fx8_0, fx8_1, fx8_2⟩ := qx8
          have R5 := R4.call S5 (by simp [fsub, fr, csB])
          refine z_ok (fun ox8 _ _ => ?_)
          have ox8 := ox8.1; unfold m_ok m_32 at ox8
          refine z_istore (M := M_X1_readMeasure) 49 dX1_readMeasure_49 (ls' := [some (mR 37), some (mR L), some (mI a2), some (mI x4), some (mI x8), none]) (by decide) rfl ?_
          refine z_iload (M := M_X1_readMeasure) 51 dX1_readMeasure_51 rfl ?_
          refine z_iconst (M := M_X1_readMeasure) 53 dX1_readMeasure_53 ?_
          refine z_icmp_ne (M := M_X1_readMeasure) 54 dX1_readMeasure_54 59 rfl (fun c9 => ?_) (fun c9 => ?_)
          · refine z_iconst (M := M_X1_readMeasure) 59 dX1_readMeasure_59 ?_
            refine z_istore (M := M_X1_readMeasure) 60 dX1_readMeasure_60 (ls' := [some (mR 37), some (mR L), some (mI a2), some (mI x4), some (mI x8), some (mI 0)]) (by decide) rfl ?_
            refine z_aload_n (M := M_X1_readMeasure) 62 dX1_readMeasure_62 rfl ?_
            refine z_ldcS (M := M_X1_readMeasure) 63 dX1_readMeasure_63 (i := 9) rfl rfl rfl ?_
            refine z_vI (M := M_X1_readMeasure) 65 dX1_readMeasure_65 t_X1_take l_X1_27 (m_rr_of rfl) (rest := []) (c_X1_take h5 9 (by decide) G5) o_37 rfl rfl rfl (Nat.le_of_ble_eq_true rfl) ⟨rfl, rfl⟩ (fun x10 h6 qx10 => ?_)
            obtain ⟨G6, S6, ax10, bx10⟩ := qx10
            have R6 := R5.call S6 (by simp [fsub, fr, csB])
            refine z_if_eq (M := M_X1_readMeasure) 68 dX1_readMeasure_68 77 rfl (fun c11 => ?_) (fun c11 => ?_)
            · refine z_aload_n (M := M_X1_readMeasure) 77 dX1_readMeasure_77 rfl ?_
              refine z_ldcS (M := M_X1_readMeasure) 78 dX1_readMeasure_78 (i := 10) rfl rfl rfl ?_
              refine z_vI (M := M_X1_readMeasure) 80 dX1_readMeasure_80 t_X1_take l_X1_27 (m_rr_of rfl) (rest := []) (c_X1_take h6 10 (by decide) G6) o_37 rfl rfl rfl (Nat.le_of_ble_eq_true rfl) ⟨rfl, rfl⟩ (fun x12 h7 qx12 => ?_)
              obtain ⟨G7, S7, ax12, bx12⟩ := qx12
              have R7 := R6.call S7 (by simp [fsub, fr, csB])
              refine z_if_eq (M := M_X1_readMeasure) 83 dX1_readMeasure_83 92 rfl (fun c13 => ?_) (fun c13 => ?_)
              · refine z_aload_n (M := M_X1_readMeasure) 92 dX1_readMeasure_92 rfl ?_
                refine z_ldcS (M := M_X1_readMeasure) 93 dX1_readMeasure_93 (i := 11) rfl rfl rfl ?_
                refine z_vI (M := M_X1_readMeasure) 95 dX1_readMeasure_95 t_X1_take l_X1_27 (m_rr_of rfl) (rest := []) (c_X1_take h7 11 (by decide) G7) o_37 rfl rfl rfl (Nat.le_of_ble_eq_true rfl) ⟨rfl, rfl⟩ (fun x14 h8 qx14 => ?_)
                obtain ⟨G8, S8, ax14, bx14⟩ := qx14
                have R8 := R7.call S8 (by simp [fsub, fr, csB])
                refine z_pop (M := M_X1_readMeasure) 98 dX1_readMeasure_98 rfl ?_
                refine z_aload_n (M := M_X1_readMeasure) 99 dX1_readMeasure_99 rfl ?_
                refine z_iload_n (M := M_X1_readMeasure) 100 dX1_readMeasure_100 rfl ?_
                refine z_iload_n (M := M_X1_readMeasure) 101 dX1_readMeasure_101 rfl ?_
                refine z_iload (M := M_X1_readMeasure) 102 dX1_readMeasure_102 rfl ?_
                refine z_iload (M := M_X1_readMeasure) 104 dX1_readMeasure_104 rfl ?_
                refine z_vV (M := M_X1_readMeasure) 106 dX1_readMeasure_106 t_X4_addEntry l_X1_117 (m_rr_of rfl) (rest := []) (c_X4_addEntry h8 L a2 x4 x8 0 hL G8 ⟨by omega, by omega⟩ ⟨by omega, by omega⟩ ⟨by omega, by omega⟩ ⟨by omega, by omega⟩) (oL hL) rfl rfl rfl (Nat.le_of_ble_eq_true rfl) ⟨rfl, rfl⟩ (fun h9 qx15 => ?_)
                obtain ⟨G9, S9⟩ := qx15
                have R9 := R8.call S9 (by simp [fsub, fr, csB])
                refine z_iconst (M := M_X1_readMeasure) 109 dX1_readMeasure_109 ?_
                exact z_retZ (M := M_X1_readMeasure) 110 dX1_readMeasure_110 rfl (by omega) ⟨G9, R9, by omega, by omega⟩
              · refine z_iconst (M := M_X1_readMeasure) 86 dX1_readMeasure_86 ?_
                refine z_istore (M := M_X1_readMeasure) 87 dX1_readMeasure_87 (ls' := [some (mR 37), some (mR L), some (mI a2), some (mI x4), some (mI x8), some (mI 2)]) (by decide) rfl ?_
                refine z_goto (M := M_X1_readMeasure) 89 dX1_readMeasure_89 99 rfl ?_
                refine z_aload_n (M := M_X1_readMeasure) 99 dX1_readMeasure_99 rfl ?_
                refine z_iload_n (M := M_X1_readMeasure) 100 dX1_readMeasure_100 rfl ?_
                refine z_iload_n (M := M_X1_readMeasure) 101 dX1_readMeasure_101 rfl ?_
                refine z_iload (M := M_X1_readMeasure) 102 dX1_readMeasure_102 rfl ?_
                refine z_iload (M := M_X1_readMeasure) 104 dX1_readMeasure_104 rfl ?_
                refine z_vV (M := M_X1_readMeasure) 106 dX1_readMeasure_106 t_X4_addEntry l_X1_117 (m_rr_of rfl) (rest := []) (c_X4_addEntry h7 L a2 x4 x8 2 hL G7 ⟨by omega, by omega⟩ ⟨by omega, by omega⟩ ⟨by omega, by omega⟩ ⟨by omega, by omega⟩) (oL hL) rfl rfl rfl (Nat.le_of_ble_eq_true rfl) ⟨rfl, rfl⟩ (fun h10 qx16 => ?_)
                obtain ⟨G10, S10⟩ := qx16
                have R10 := R7.call S10 (by simp [fsub, fr, csB])
                refine z_iconst (M := M_X1_readMeasure) 109 dX1_readMeasure_109 ?_
                exact z_retZ (M := M_X1_readMeasure) 110 dX1_readMeasure_110 rfl (by omega) ⟨G10, R10, by omega, by omega⟩
            · refine z_iconst (M := M_X1_readMeasure) 71 dX1_readMeasure_71 ?_
              refine z_istore (M := M_X1_readMeasure) 72 dX1_readMeasure_72 (ls' := [some (mR 37), some (mR L), some (mI a2), some (mI x4), some (mI x8), some (mI 1)]) (by decide) rfl ?_
              refine z_goto (M := M_X1_readMeasure) 74 dX1_readMeasure_74 99 rfl ?_
              refine z_aload_n (M := M_X1_readMeasure) 99 dX1_readMeasure_99 rfl ?_
              refine z_iload_n (M := M_X1_readMeasure) 100 dX1_readMeasure_100 rfl ?_
              refine z_iload_n (M := M_X1_readMeasure) 101 dX1_readMeasure_101 rfl ?_
              refine z_iload (M := M_X1_readMeasure) 102 dX1_readMeasure_102 rfl ?_
              refine z_iload (M := M_X1_readMeasure) 104 dX1_readMeasure_104 rfl ?_
              refine z_vV (M := M_X1_readMeasure) 106 dX1_readMeasure_106 t_X4_addEntry l_X1_117 (m_rr_of rfl) (rest := []) (c_X4_addEntry h6 L a2 x4 x8 1 hL G6 ⟨by omega, by omega⟩ ⟨by omega, by omega⟩ ⟨by omega, by omega⟩ ⟨by omega, by omega⟩) (oL hL) rfl rfl rfl (Nat.le_of_ble_eq_true rfl) ⟨rfl, rfl⟩ (fun h11 qx17 => ?_)
              obtain ⟨G11, S11⟩ := qx17
              have R11 := R6.call S11 (by simp [fsub, fr, csB])
              refine z_iconst (M := M_X1_readMeasure) 109 dX1_readMeasure_109 ?_
              exact z_retZ (M := M_X1_readMeasure) 110 dX1_readMeasure_110 rfl (by omega) ⟨G11, R11, by omega, by omega⟩
          · refine z_iconst (M := M_X1_readMeasure) 57 dX1_readMeasure_57 ?_
            exact z_retZ (M := M_X1_readMeasure) 58 dX1_readMeasure_58 rfl (by omega) ⟨G5, R5, by omega, by omega⟩
        · refine z_iconst (M := M_X1_readMeasure) 40 dX1_readMeasure_40 ?_
          exact z_retZ (M := M_X1_readMeasure) 41 dX1_readMeasure_41 rfl (by omega) ⟨G4, R4, by omega, by omega⟩
    · refine z_iconst (M := M_X1_readMeasure) 16 dX1_readMeasure_16 ?_
      exact z_retZ (M := M_X1_readMeasure) 17 dX1_readMeasure_17 rfl (by omega) ⟨G2, R2, by omega, by omega⟩
  · refine z_if_eq_T (M := M_X1_readMeasure) 4 dX1_readMeasure_4 16 rfl (by omega) ?_
    refine z_iconst (M := M_X1_readMeasure) 16 dX1_readMeasure_16 ?_
    exact z_retZ (M := M_X1_readMeasure) 17 dX1_readMeasure_17 rfl (by omega) ⟨G0, (FR.rf (cs := [(L + 3), (L + 4), (L + 5), (L + 6)]) (ss := [(37, 1), (37, 2), (L, 7), (L, 8)]) (h := h0)), by omega, by omega⟩
abbrev P_X1_readThing (h0 : m_H) (L : Nat) : Int → m_H → Prop := fun x h' => GI h' ∧ FR [(L + 2), (L + 3), (L + 4), (L + 5), (L + 6)] [(37, 1), (37, 2), (L, 7), (L, 8)] h0 h' ∧ 0 ≤ x ∧ x ≤ 1
def q_X1_readThing (h0 : m_H) (L : Nat) (n : Nat) : Prop := (∀ (l2 l3 : Int) (h : m_H), GI h → FR [(L + 2), (L + 3), (L + 4), (L + 5), (L + 6)] [(37, 1), (37, 2), (L, 7), (L, 8)] h0 h → 0 ≤ l2 → l2 ≤ 5 → 0 ≤ l3 → l3 ≤ 25 → 2 * (25 - l3) + (1) ≤ (n : Int) → m_Z oF M_X1_readThing 32 [some (mR 37), some (mR L), some (mI l2), some (mI l3)] [] h (m_QI (P_X1_readThing h0 L)))
set_option maxHeartbeats 4000000 in
set_option maxRecDepth 100000 in
theorem s_X1_readThing_32 (h0 : m_H) (L : Nat) (hL : isL L) (G0 : GI h0) (n : Nat) (ih : q_X1_readThing h0 L n) : ∀ (l2 l3 : Int) (h : m_H), GI h → FR [(L + 2), (L + 3), (L + 4), (L + 5), (L + 6)] [(37, 1), (37, 2), (L, 7), (L, 8)] h0 h → 0 ≤ l2 → l2 ≤ 5 → 0 ≤ l3 → l3 ≤ 25 → 2 * (25 - l3) + (1) ≤ ((n + 1 : Nat) : Int) → m_Z oF M_X1_readThing 32 [some (mR 37), some (mR L), some (mI l2), some (mI l3)] [] h (m_QI (P_X1_readThing h0 L)) := by
  intro l2 l3 h G R v0 v1 v2 v3 hr
  refine z_iload_n (M := M_X1_readThing) 32 dX1_readThing_32 rfl ?_
  refine z_bipush (M := M_X1_readThing) 33 dX1_readThing_33 ?_
  refine z_icmp_gt (M := M_X1_readThing) 35 dX1_readThing_35 66 rfl (fun c1 => ?_) (fun c1 => ?_)
  · refine z_iconst (M := M_X1_readThing) 66 dX1_readThing_66 ?_
    exact z_retZ (M := M_X1_readThing) 67 dX1_readThing_67 rfl (by omega) ⟨G, R, by omega, by omega⟩
  · refine z_aload_n (M := M_X1_readThing) 38 dX1_readThing_38 rfl ?_
    refine z_aload_n (M := M_X1_readThing) 39 dX1_readThing_39 rfl ?_
    refine z_iload_n (M := M_X1_readThing) 40 dX1_readThing_40 rfl ?_
    refine z_vI (M := M_X1_readThing) 41 dX1_readThing_41 t_X1_readMeasure l_X1_94 (m_rr_of rfl) (rest := []) (c_X1_readMeasure h L l2 hL G ⟨by omega, by omega⟩) o_37 rfl rfl rfl (Nat.le_of_ble_eq_true rfl) ⟨rfl, rfl⟩ (fun x2 h1 qx2 => ?_)
    obtain ⟨G1, S1, ax2, bx2⟩ := qx2
    have R1 := R.call S1 (by simp [fsub, fr, csB])
    refine z_if_ne (M := M_X1_readThing) 44 dX1_readThing_44 49 rfl (fun c3 => ?_) (fun c3 => ?_)
    · refine z_aload_n (M := M_X1_readThing) 49 dX1_readThing_49 rfl ?_
      refine z_ldcS (M := M_X1_readThing) 50 dX1_readThing_50 (i := 12) rfl rfl rfl ?_
      refine z_vI (M := M_X1_readThing) 52 dX1_readThing_52 t_X1_take l_X1_27 (m_rr_of rfl) (rest := []) (c_X1_take h1 12 (by decide) G1) o_37 rfl rfl rfl (Nat.le_of_ble_eq_true rfl) ⟨rfl, rfl⟩ (fun x4 h2 qx4 => ?_)
      obtain ⟨G2, S2, ax4, bx4⟩ := qx4
      have R2 := R1.call S2 (by simp [fsub, fr, csB])
      refine z_if_ne (M := M_X1_readThing) 55 dX1_readThing_55 60 rfl (fun c5 => ?_) (fun c5 => ?_)
      · refine z_iincN (M := M_X1_readThing) 60 dX1_readThing_60 (ls' := [some (mR 37), some (mR L), some (mI l2), some (mI (l3 + 1))]) (by decide) rfl (by (unfold m_32; decide)) (by omega) (by omega) rfl ?_
        refine z_goto (M := M_X1_readThing) 63 dX1_readThing_63 32 rfl ?_
        exact z_mask [true, true, true, true] rfl (ih l2 (l3 + 1) h2 G2 R2 (by omega) (by omega) (by omega) (by omega) (by omega))
      · refine z_iconst (M := M_X1_readThing) 58 dX1_readThing_58 ?_
        exact z_retZ (M := M_X1_readThing) 59 dX1_readThing_59 rfl (by omega) ⟨G2, R2, by omega, by omega⟩
    · refine z_iconst (M := M_X1_readThing) 47 dX1_readThing_47 ?_
      exact z_retZ (M := M_X1_readThing) 48 dX1_readThing_48 rfl (by omega) ⟨G1, R1, by omega, by omega⟩
theorem a_X1_readThing (h0 : m_H) (L : Nat) (hL : isL L) (G0 : GI h0) : ∀ n, q_X1_readThing h0 L n := by
  intro n
  induction n with
  | zero => unfold q_X1_readThing; intros; omega
  | succ n ih => exact s_X1_readThing_32 h0 L hL G0 n ih
set_option maxHeartbeats 4000000 in
set_option maxRecDepth 100000 in
theorem c_X1_readThing (h0 : m_H) (L : Nat) (hL : isL L) (G0 : GI h0) : m_CI M_X1_readThing [mR 37, mR L] h0 (P_X1_readThing h0 L) := by
  refine m_CI_of ⟨by decide, rfl, by simp [m_arg, m_isL, M_X1_readThing], ⟨rfl, rfl⟩, rfl, rfl⟩ (ls := [some (mR 37), some (mR L), none, none]) rfl ?_
  have ih := a_X1_readThing h0 L hL G0 58
  refine z_aload_n (M := M_X1_readThing) 0 dX1_readThing_0 rfl ?_
  refine z_iconst (M := M_X1_readThing) 1 dX1_readThing_1 ?_
  refine z_iconst (M := M_X1_readThing) 2 dX1_readThing_2 ?_
  refine z_vI (M := M_X1_readThing) 3 dX1_readThing_3 t_X1_takeNumber l_X1_53 (m_rr_of rfl) (rest := []) (c_X1_takeNumber h0 0 5 G0 ⟨by omega, by omega⟩ ⟨by omega, by omega⟩) o_37 rfl rfl rfl (Nat.le_of_ble_eq_true rfl) ⟨rfl, rfl⟩ (fun x1 h1 qx1 => ?_)
  obtain ⟨G1, S1, fx1_0, fx1_1, fx1_2⟩ := qx1
  have R1 := (FR.rf (cs := [(L + 2), (L + 3), (L + 4), (L + 5), (L + 6)]) (ss := [(37, 1), (37, 2), (L, 7), (L, 8)]) (h := h0)).call S1 (by simp [fsub, fr, csB])
  refine z_ok (fun ox1 _ _ => ?_)
  have ox1 := ox1.1; unfold m_ok m_32 at ox1
  refine z_istore_n (M := M_X1_readThing) 6 dX1_readThing_6 (ls' := [some (mR 37), some (mR L), some (mI x1), none]) (by decide) rfl ?_
  refine z_iload_n (M := M_X1_readThing) 7 dX1_readThing_7 rfl ?_
  refine z_iconst (M := M_X1_readThing) 8 dX1_readThing_8 ?_
  refine z_icmp_ne (M := M_X1_readThing) 9 dX1_readThing_9 14 rfl (fun c2 => ?_) (fun c2 => ?_)
  · refine z_aload_n (M := M_X1_readThing) 14 dX1_readThing_14 rfl ?_
    refine z_ldcS (M := M_X1_readThing) 15 dX1_readThing_15 (i := 5) rfl rfl rfl ?_
    refine z_vI (M := M_X1_readThing) 17 dX1_readThing_17 t_X1_take l_X1_27 (m_rr_of rfl) (rest := []) (c_X1_take h1 5 (by decide) G1) o_37 rfl rfl rfl (Nat.le_of_ble_eq_true rfl) ⟨rfl, rfl⟩ (fun x3 h2 qx3 => ?_)
    obtain ⟨G2, S2, ax3, bx3⟩ := qx3
    have R2 := R1.call S2 (by simp [fsub, fr, csB])
    refine z_if_eq (M := M_X1_readThing) 20 dX1_readThing_20 30 rfl (fun c4 => ?_) (fun c4 => ?_)
    · refine z_iconst (M := M_X1_readThing) 30 dX1_readThing_30 ?_
      refine z_istore_n (M := M_X1_readThing) 31 dX1_readThing_31 (ls' := [some (mR 37), some (mR L), some (mI x1), some (mI 0)]) (by decide) rfl ?_
      exact z_mask [true, true, true, true] rfl (ih x1 0 h2 G2 R2 (by omega) (by omega) (by omega) (by omega) (by omega))
    · refine z_aload_n (M := M_X1_readThing) 23 dX1_readThing_23 rfl ?_
      refine z_aload_n (M := M_X1_readThing) 24 dX1_readThing_24 rfl ?_
      refine z_iload_n (M := M_X1_readThing) 25 dX1_readThing_25 rfl ?_
      refine z_vI (M := M_X1_readThing) 26 dX1_readThing_26 t_X1_readCut l_X1_90 (m_rr_of rfl) (rest := []) (c_X1_readCut h2 L x1 hL G2 ⟨by omega, by omega⟩) o_37 rfl rfl rfl (Nat.le_of_ble_eq_true rfl) ⟨rfl, rfl⟩ (fun x5 h3 qx5 => ?_)
      obtain ⟨G3, S3, ax5, bx5⟩ := qx5
      have R3 := R2.call S3 (by simp [fsub, fr, csB])
      exact z_retZ (M := M_X1_readThing) 29 dX1_readThing_29 rfl (by omega) ⟨G3, R3, by omega, by omega⟩
  · refine z_iconst (M := M_X1_readThing) 12 dX1_readThing_12 ?_
    exact z_retZ (M := M_X1_readThing) 13 dX1_readThing_13 rfl (by omega) ⟨G1, R1, by omega, by omega⟩
abbrev P_X1_readShorter (h0 : m_H) (L : Nat) : Int → m_H → Prop := fun x h' => GI h' ∧ FR [] [(37, 1), (37, 2), (37, 3), (L, 9)] h0 h' ∧ 0 ≤ x ∧ x ≤ 1
set_option maxHeartbeats 4000000 in
set_option maxRecDepth 100000 in
theorem c_X1_readShorter (h0 : m_H) (L : Nat) (hL : isL L) (G0 : GI h0) : m_CI M_X1_readShorter [mR 37, mR L] h0 (P_X1_readShorter h0 L) := by
  refine m_CI_of ⟨by decide, rfl, by simp [m_arg, m_isL, M_X1_readShorter], ⟨rfl, rfl⟩, rfl, rfl⟩ (ls := [some (mR 37), some (mR L), none, none, none]) rfl ?_
  refine z_aload_n (M := M_X1_readShorter) 0 dX1_readShorter_0 rfl ?_
  refine z_getIG (M := M_X1_readShorter) 1 dX1_readShorter_1 f_X1_43 o_37 (by decide) (g_37_1 G0) (fun x1 ex1 ax1 bx1 => ?_)
  refine z_istore_n (M := M_X1_readShorter) 4 dX1_readShorter_4 (ls' := [some (mR 37), some (mR L), some (mI x1), none, none]) (by decide) rfl ?_
  refine z_aload_n (M := M_X1_readShorter) 5 dX1_readShorter_5 rfl ?_
  refine z_ldcS (M := M_X1_readShorter) 6 dX1_readShorter_6 (i := 13) rfl rfl rfl ?_
  refine z_vI (M := M_X1_readShorter) 8 dX1_readShorter_8 t_X1_take l_X1_27 (m_rr_of rfl) (rest := []) (c_X1_take h0 13 (by decide) G0) o_37 rfl rfl rfl (Nat.le_of_ble_eq_true rfl) ⟨rfl, rfl⟩ (fun x2 h1 qx2 => ?_)
  obtain ⟨G1, S1, ax2, bx2⟩ := qx2
  have R1 := (FR.rf (cs := []) (ss := [(37, 1), (37, 2), (37, 3), (L, 9)]) (h := h0)).call S1 (by simp [fsub, fr, csB])
  refine z_if_eq (M := M_X1_readShorter) 11 dX1_readShorter_11 23 rfl (fun c3 => ?_) (fun c3 => ?_)
  · refine z_iconst (M := M_X1_readShorter) 23 dX1_readShorter_23 ?_
    refine z_istore_n (M := M_X1_readShorter) 24 dX1_readShorter_24 (ls' := [some (mR 37), some (mR L), some (mI x1), some (mI (-1)), none]) (by decide) rfl ?_
    refine z_iload_n (M := M_X1_readShorter) 25 dX1_readShorter_25 rfl ?_
    refine z_iconst (M := M_X1_readShorter) 26 dX1_readShorter_26 ?_
    refine z_icmp_eq_T (M := M_X1_readShorter) 27 dX1_readShorter_27 47 rfl (by omega) ?_
    refine z_iconst (M := M_X1_readShorter) 47 dX1_readShorter_47 ?_
    exact z_retZ (M := M_X1_readShorter) 48 dX1_readShorter_48 rfl (by omega) ⟨G1, R1, by omega, by omega⟩
  · refine z_aload_n (M := M_X1_readShorter) 14 dX1_readShorter_14 rfl ?_
    refine z_iconst (M := M_X1_readShorter) 15 dX1_readShorter_15 ?_
    refine z_iconst (M := M_X1_readShorter) 16 dX1_readShorter_16 ?_
    refine z_vI (M := M_X1_readShorter) 17 dX1_readShorter_17 t_X1_takeNumber l_X1_53 (m_rr_of rfl) (rest := []) (c_X1_takeNumber h1 0 3 G1 ⟨by omega, by omega⟩ ⟨by omega, by omega⟩) o_37 rfl rfl rfl (Nat.le_of_ble_eq_true rfl) ⟨rfl, rfl⟩ (fun x4 h2 qx4 => ?_)
    obtain ⟨G2, S2, fx4_0, fx4_1, fx4_2⟩ := qx4
    have R2 := R1.call S2 (by simp [fsub, fr, csB])
    refine z_ok (fun ox4 _ _ => ?_)
    have ox4 := ox4.1; unfold m_ok m_32 at ox4
    refine z_goto (M := M_X1_readShorter) 20 dX1_readShorter_20 24 rfl ?_
    refine z_istore_n (M := M_X1_readShorter) 24 dX1_readShorter_24 (ls' := [some (mR 37), some (mR L), some (mI x1), some (mI x4), none]) (by decide) rfl ?_
    refine z_iload_n (M := M_X1_readShorter) 25 dX1_readShorter_25 rfl ?_
    refine z_iconst (M := M_X1_readShorter) 26 dX1_readShorter_26 ?_
    refine z_icmp_eq (M := M_X1_readShorter) 27 dX1_readShorter_27 47 rfl (fun c5 => ?_) (fun c5 => ?_)
    · refine z_iconst (M := M_X1_readShorter) 47 dX1_readShorter_47 ?_
      exact z_retZ (M := M_X1_readShorter) 48 dX1_readShorter_48 rfl (by omega) ⟨G2, R2, by omega, by omega⟩
    · refine z_aload_n (M := M_X1_readShorter) 30 dX1_readShorter_30 rfl ?_
      refine z_ldcS (M := M_X1_readShorter) 31 dX1_readShorter_31 (i := 14) rfl rfl rfl ?_
      refine z_vI (M := M_X1_readShorter) 33 dX1_readShorter_33 t_X1_take l_X1_27 (m_rr_of rfl) (rest := []) (c_X1_take h2 14 (by decide) G2) o_37 rfl rfl rfl (Nat.le_of_ble_eq_true rfl) ⟨rfl, rfl⟩ (fun x6 h3 qx6 => ?_)
      obtain ⟨G3, S3, ax6, bx6⟩ := qx6
      have R3 := R2.call S3 (by simp [fsub, fr, csB])
      refine z_if_eq (M := M_X1_readShorter) 36 dX1_readShorter_36 47 rfl (fun c7 => ?_) (fun c7 => ?_)
      · refine z_iconst (M := M_X1_readShorter) 47 dX1_readShorter_47 ?_
        exact z_retZ (M := M_X1_readShorter) 48 dX1_readShorter_48 rfl (by omega) ⟨G3, R3, by omega, by omega⟩
      · refine z_aload_n (M := M_X1_readShorter) 39 dX1_readShorter_39 rfl ?_
        refine z_vI (M := M_X1_readShorter) 40 dX1_readShorter_40 t_X1_value l_X1_72 (m_rr_of rfl) (rest := []) (c_X1_value h3 G3) o_37 rfl rfl rfl (Nat.le_of_ble_eq_true rfl) ⟨rfl, rfl⟩ (fun x8 h4 qx8 => ?_)
        obtain ⟨G4, S4, ax8, bx8⟩ := qx8
        have R4 := R3.call S4 (by simp [fsub, fr, csB])
        refine z_iload_n (M := M_X1_readShorter) 43 dX1_readShorter_43 rfl ?_
        refine z_icmp_ne (M := M_X1_readShorter) 44 dX1_readShorter_44 49 rfl (fun c9 => ?_) (fun c9 => ?_)
        · refine z_aload_n (M := M_X1_readShorter) 49 dX1_readShorter_49 rfl ?_
          refine z_iconst (M := M_X1_readShorter) 50 dX1_readShorter_50 ?_
          refine z_iconst (M := M_X1_readShorter) 51 dX1_readShorter_51 ?_
          refine z_vI (M := M_X1_readShorter) 52 dX1_readShorter_52 t_X1_takeNumber l_X1_53 (m_rr_of rfl) (rest := []) (c_X1_takeNumber h4 0 3 G4 ⟨by omega, by omega⟩ ⟨by omega, by omega⟩) o_37 rfl rfl rfl (Nat.le_of_ble_eq_true rfl) ⟨rfl, rfl⟩ (fun x10 h5 qx10 => ?_)
          obtain ⟨G5, S5, fx10_0, fx10_1, fx10_2⟩ := qx10
          have R5 := R4.call S5 (by simp [fsub, fr, csB])
          refine z_ok (fun ox10 _ _ => ?_)
          have ox10 := ox10.1; unfold m_ok m_32 at ox10
          refine z_istore (M := M_X1_readShorter) 55 dX1_readShorter_55 (ls' := [some (mR 37), some (mR L), some (mI x1), some (mI x4), some (mI x10)]) (by decide) rfl ?_
          refine z_iload (M := M_X1_readShorter) 57 dX1_readShorter_57 rfl ?_
          refine z_iconst (M := M_X1_readShorter) 59 dX1_readShorter_59 ?_
          refine z_icmp_ne (M := M_X1_readShorter) 60 dX1_readShorter_60 65 rfl (fun c11 => ?_) (fun c11 => ?_)
          · refine z_aload_n (M := M_X1_readShorter) 65 dX1_readShorter_65 rfl ?_
            refine z_iload_n (M := M_X1_readShorter) 66 dX1_readShorter_66 rfl ?_
            refine z_iload (M := M_X1_readShorter) 67 dX1_readShorter_67 rfl ?_
            refine z_vI (M := M_X1_readShorter) 69 dX1_readShorter_69 t_X4_isShorter l_X1_76 (m_rr_of rfl) (rest := []) (c_X4_isShorter h5 L x4 x10 hL G5) (oL hL) rfl rfl rfl (Nat.le_of_ble_eq_true rfl) ⟨rfl, rfl⟩ (fun x12 h6 qx12 => ?_)
            obtain ⟨G6, S6, ax12, bx12⟩ := qx12
            have R6 := R5.call S6 (by simp [fsub, fr, csB])
            refine z_if_eq (M := M_X1_readShorter) 72 dX1_readShorter_72 77 rfl (fun c13 => ?_) (fun c13 => ?_)
            · refine z_aload_n (M := M_X1_readShorter) 77 dX1_readShorter_77 rfl ?_
              refine z_vI (M := M_X1_readShorter) 78 dX1_readShorter_78 t_X4_hasRoomForShorter l_X1_80 (m_rr_of rfl) (rest := []) (c_X4_hasRoomForShorter h6 L hL G6) (oL hL) rfl rfl rfl (Nat.le_of_ble_eq_true rfl) ⟨rfl, rfl⟩ (fun x14 h7 qx14 => ?_)
              obtain ⟨G7, S7, ax14, bx14⟩ := qx14
              have R7 := R6.call S7 (by simp [fsub, fr, csB])
              refine z_if_ne (M := M_X1_readShorter) 81 dX1_readShorter_81 91 rfl (fun c15 => ?_) (fun c15 => ?_)
              · refine z_aload_n (M := M_X1_readShorter) 91 dX1_readShorter_91 rfl ?_
                refine z_iload_n (M := M_X1_readShorter) 92 dX1_readShorter_92 rfl ?_
                refine z_iload (M := M_X1_readShorter) 93 dX1_readShorter_93 rfl ?_
                refine z_vV (M := M_X1_readShorter) 95 dX1_readShorter_95 t_X4_addShorter l_X1_84 (m_rr_of rfl) (rest := []) (c_X4_addShorter h7 L x4 x10 hL G7 ⟨by omega, by omega⟩ ⟨by omega, by omega⟩) (oL hL) rfl rfl rfl (Nat.le_of_ble_eq_true rfl) ⟨rfl, rfl⟩ (fun h8 qx16 => ?_)
                obtain ⟨G8, S8⟩ := qx16
                have R8 := R7.call S8 (by simp [fsub, fr, csB])
                refine z_iconst (M := M_X1_readShorter) 98 dX1_readShorter_98 ?_
                exact z_retZ (M := M_X1_readShorter) 99 dX1_readShorter_99 rfl (by omega) ⟨G8, R8, by omega, by omega⟩
              · refine z_aload_n (M := M_X1_readShorter) 84 dX1_readShorter_84 rfl ?_
                refine z_iload_n (M := M_X1_readShorter) 85 dX1_readShorter_85 rfl ?_
                refine z_putIH (M := M_X1_readShorter) 86 dX1_readShorter_86 p_X1_15 o_37 rfl (u_37_3 G7) (R7.up (by simp [fr, csB])) (fun h9 E9 G9 R9 => ?_)
                refine z_iconst (M := M_X1_readShorter) 89 dX1_readShorter_89 ?_
                exact z_retZ (M := M_X1_readShorter) 90 dX1_readShorter_90 rfl (by omega) ⟨G9, R9, by omega, by omega⟩
            · refine z_iconst (M := M_X1_readShorter) 75 dX1_readShorter_75 ?_
              exact z_retZ (M := M_X1_readShorter) 76 dX1_readShorter_76 rfl (by omega) ⟨G6, R6, by omega, by omega⟩
          · refine z_iconst (M := M_X1_readShorter) 63 dX1_readShorter_63 ?_
            exact z_retZ (M := M_X1_readShorter) 64 dX1_readShorter_64 rfl (by omega) ⟨G5, R5, by omega, by omega⟩
        · refine z_iconst (M := M_X1_readShorter) 47 dX1_readShorter_47 ?_
          exact z_retZ (M := M_X1_readShorter) 48 dX1_readShorter_48 rfl (by omega) ⟨G4, R4, by omega, by omega⟩
abbrev P_X1_readWeeks (h0 : m_H) (L : Nat) : Int → m_H → Prop := fun x h' => GI h' ∧ FR [(L + 1)] [(37, 1), (37, 2)] h0 h' ∧ 0 ≤ x ∧ x ≤ 1
def q_X1_readWeeks (h0 : m_H) (L : Nat) (n : Nat) : Prop := (∀ (l3 l5 l6 : Int) (h : m_H), GI h → FR [(L + 1)] [(37, 1), (37, 2)] h0 h → 0 ≤ l3 → l3 ≤ 31 → (-1) ≤ l5 → l5 ≤ 3 → 0 ≤ l6 → l6 ≤ 32 → 2 * (32 - l6) + (1) ≤ (n : Int) → m_Z oF M_X1_readWeeks 93 [none, some (mR L), none, some (mI l3), none, some (mI l5), some (mI l6)] [] h (m_QI (P_X1_readWeeks h0 L)))
set_option maxHeartbeats 4000000 in
set_option maxRecDepth 100000 in
theorem s_X1_readWeeks_93 (h0 : m_H) (L : Nat) (hL : isL L) (G0 : GI h0) (n : Nat) (ih : q_X1_readWeeks h0 L n) : ∀ (l3 l5 l6 : Int) (h : m_H), GI h → FR [(L + 1)] [(37, 1), (37, 2)] h0 h → 0 ≤ l3 → l3 ≤ 31 → (-1) ≤ l5 → l5 ≤ 3 → 0 ≤ l6 → l6 ≤ 32 → 2 * (32 - l6) + (1) ≤ ((n + 1 : Nat) : Int) → m_Z oF M_X1_readWeeks 93 [none, some (mR L), none, some (mI l3), none, some (mI l5), some (mI l6)] [] h (m_QI (P_X1_readWeeks h0 L)) := by
  intro l3 l5 l6 h G R v0 v1 v2 v3 v4 v5 hr
  refine z_iload (M := M_X1_readWeeks) 93 dX1_readWeeks_93 rfl ?_
  refine z_iload_n (M := M_X1_readWeeks) 95 dX1_readWeeks_95 rfl ?_
  refine z_icmp_gt (M := M_X1_readWeeks) 96 dX1_readWeeks_96 114 rfl (fun c1 => ?_) (fun c1 => ?_)
  · refine z_iconst (M := M_X1_readWeeks) 114 dX1_readWeeks_114 ?_
    exact z_retZ (M := M_X1_readWeeks) 115 dX1_readWeeks_115 rfl (by omega) ⟨G, R, by omega, by omega⟩
  · refine z_aload_n (M := M_X1_readWeeks) 99 dX1_readWeeks_99 rfl ?_
    refine z_getR (M := M_X1_readWeeks) 100 dX1_readWeeks_100 f_X1_63 (oL hL) rfl (rL_0 hL G) ?_
    refine z_iload (M := M_X1_readWeeks) 103 dX1_readWeeks_103 rfl ?_
    refine z_iload (M := M_X1_readWeeks) 105 dX1_readWeeks_105 rfl ?_
    refine z_iastH (M := M_X1_readWeeks) 107 dX1_readWeeks_107 (oL_1 hL) (by omega) (by omega) (uL_1 hL G (by omega) (by omega)) (R.up (by simp [fr])) (fun h1 E1 G1 R1 => ?_)
    refine z_iincN (M := M_X1_readWeeks) 108 dX1_readWeeks_108 (ls' := [none, some (mR L), none, some (mI l3), none, some (mI l5), some (mI (l6 + 1))]) (by decide) rfl (by (unfold m_32; decide)) (by omega) (by omega) rfl ?_
    refine z_goto (M := M_X1_readWeeks) 111 dX1_readWeeks_111 93 rfl ?_
    exact z_mask [false, true, false, true, false, true, true] rfl (ih l3 l5 (l6 + 1) h1 G1 R1 (by omega) (by omega) (by omega) (by omega) (by omega) (by omega) (by omega))
theorem a_X1_readWeeks (h0 : m_H) (L : Nat) (hL : isL L) (G0 : GI h0) : ∀ n, q_X1_readWeeks h0 L n := by
  intro n
  induction n with
  | zero => unfold q_X1_readWeeks; intros; omega
  | succ n ih => exact s_X1_readWeeks_93 h0 L hL G0 n ih
set_option maxHeartbeats 4000000 in
set_option maxRecDepth 100000 in
theorem c_X1_readWeeks (h0 : m_H) (L : Nat) (hL : isL L) (G0 : GI h0) : m_CI M_X1_readWeeks [mR 37, mR L] h0 (P_X1_readWeeks h0 L) := by
  refine m_CI_of ⟨by decide, rfl, by simp [m_arg, m_isL, M_X1_readWeeks], ⟨rfl, rfl⟩, rfl, rfl⟩ (ls := [some (mR 37), some (mR L), none, none, none, none, none]) rfl ?_
  have ih := a_X1_readWeeks h0 L hL G0 72
  refine z_aload_n (M := M_X1_readWeeks) 0 dX1_readWeeks_0 rfl ?_
  refine z_iconst (M := M_X1_readWeeks) 1 dX1_readWeeks_1 ?_
  refine z_bipush (M := M_X1_readWeeks) 2 dX1_readWeeks_2 ?_
  refine z_vI (M := M_X1_readWeeks) 4 dX1_readWeeks_4 t_X1_takeNumber l_X1_53 (m_rr_of rfl) (rest := []) (c_X1_takeNumber h0 0 31 G0 ⟨by omega, by omega⟩ ⟨by omega, by omega⟩) o_37 rfl rfl rfl (Nat.le_of_ble_eq_true rfl) ⟨rfl, rfl⟩ (fun x1 h1 qx1 => ?_)
  obtain ⟨G1, S1, fx1_0, fx1_1, fx1_2⟩ := qx1
  have R1 := (FR.rf (cs := [(L + 1)]) (ss := [(37, 1), (37, 2)]) (h := h0)).call S1 (by simp [fsub, fr, csB])
  refine z_ok (fun ox1 _ _ => ?_)
  have ox1 := ox1.1; unfold m_ok m_32 at ox1
  refine z_istore_n (M := M_X1_readWeeks) 7 dX1_readWeeks_7 (ls' := [some (mR 37), some (mR L), some (mI x1), none, none, none, none]) (by decide) rfl ?_
  refine z_iload_n (M := M_X1_readWeeks) 8 dX1_readWeeks_8 rfl ?_
  refine z_iconst (M := M_X1_readWeeks) 9 dX1_readWeeks_9 ?_
  refine z_icmp_ne (M := M_X1_readWeeks) 10 dX1_readWeeks_10 15 rfl (fun c2 => ?_) (fun c2 => ?_)
  · refine z_aload_n (M := M_X1_readWeeks) 15 dX1_readWeeks_15 rfl ?_
    refine z_ldcS (M := M_X1_readWeeks) 16 dX1_readWeeks_16 (i := 1) rfl rfl rfl ?_
    refine z_vI (M := M_X1_readWeeks) 18 dX1_readWeeks_18 t_X1_take l_X1_27 (m_rr_of rfl) (rest := []) (c_X1_take h1 1 (by decide) G1) o_37 rfl rfl rfl (Nat.le_of_ble_eq_true rfl) ⟨rfl, rfl⟩ (fun x3 h2 qx3 => ?_)
    obtain ⟨G2, S2, ax3, bx3⟩ := qx3
    have R2 := R1.call S2 (by simp [fsub, fr, csB])
    refine z_if_eq (M := M_X1_readWeeks) 21 dX1_readWeeks_21 34 rfl (fun c4 => ?_) (fun c4 => ?_)
    · refine z_iload_n (M := M_X1_readWeeks) 34 dX1_readWeeks_34 rfl ?_
      refine z_istore_n (M := M_X1_readWeeks) 35 dX1_readWeeks_35 (ls' := [some (mR 37), some (mR L), some (mI x1), some (mI x1), none, none, none]) (by decide) rfl ?_
      refine z_iload_n (M := M_X1_readWeeks) 36 dX1_readWeeks_36 rfl ?_
      refine z_iconst (M := M_X1_readWeeks) 37 dX1_readWeeks_37 ?_
      refine z_icmp_eq_F (M := M_X1_readWeeks) 38 dX1_readWeeks_38 50 rfl (by omega) ?_
      refine z_aload_n (M := M_X1_readWeeks) 41 dX1_readWeeks_41 rfl ?_
      refine z_ldcS (M := M_X1_readWeeks) 42 dX1_readWeeks_42 (i := 2) rfl rfl rfl ?_
      refine z_vI (M := M_X1_readWeeks) 44 dX1_readWeeks_44 t_X1_take l_X1_27 (m_rr_of rfl) (rest := []) (c_X1_take h2 2 (by decide) G2) o_37 rfl rfl rfl (Nat.le_of_ble_eq_true rfl) ⟨rfl, rfl⟩ (fun x5 h3 qx5 => ?_)
      obtain ⟨G3, S3, ax5, bx5⟩ := qx5
      have R3 := R2.call S3 (by simp [fsub, fr, csB])
      refine z_if_ne (M := M_X1_readWeeks) 47 dX1_readWeeks_47 52 rfl (fun c6 => ?_) (fun c6 => ?_)
      · refine z_aload_n (M := M_X1_readWeeks) 52 dX1_readWeeks_52 rfl ?_
        refine z_ldcS (M := M_X1_readWeeks) 53 dX1_readWeeks_53 (i := 3) rfl rfl rfl ?_
        refine z_vI (M := M_X1_readWeeks) 55 dX1_readWeeks_55 t_X1_take l_X1_27 (m_rr_of rfl) (rest := []) (c_X1_take h3 3 (by decide) G3) o_37 rfl rfl rfl (Nat.le_of_ble_eq_true rfl) ⟨rfl, rfl⟩ (fun x7 h4 qx7 => ?_)
        obtain ⟨G4, S4, ax7, bx7⟩ := qx7
        have R4 := R3.call S4 (by simp [fsub, fr, csB])
        refine z_istore (M := M_X1_readWeeks) 58 dX1_readWeeks_58 (ls' := [some (mR 37), some (mR L), some (mI x1), some (mI x1), some (mI x7), none, none]) (by decide) rfl ?_
        refine z_iload (M := M_X1_readWeeks) 60 dX1_readWeeks_60 rfl ?_
        refine z_if_eq (M := M_X1_readWeeks) 62 dX1_readWeeks_62 69 rfl (fun c8 => ?_) (fun c8 => ?_)
        · refine z_aload_n (M := M_X1_readWeeks) 69 dX1_readWeeks_69 rfl ?_
          refine z_iconst (M := M_X1_readWeeks) 70 dX1_readWeeks_70 ?_
          refine z_iconst (M := M_X1_readWeeks) 71 dX1_readWeeks_71 ?_
          refine z_vI (M := M_X1_readWeeks) 72 dX1_readWeeks_72 t_X1_takeNumber l_X1_53 (m_rr_of rfl) (rest := []) (c_X1_takeNumber h4 0 3 G4 ⟨by omega, by omega⟩ ⟨by omega, by omega⟩) o_37 rfl rfl rfl (Nat.le_of_ble_eq_true rfl) ⟨rfl, rfl⟩ (fun x9 h5 qx9 => ?_)
          obtain ⟨G5, S5, fx9_0, fx9_1, fx9_2⟩ := qx9
          have R5 := R4.call S5 (by simp [fsub, fr, csB])
          refine z_ok (fun ox9 _ _ => ?_)
          have ox9 := ox9.1; unfold m_ok m_32 at ox9
          refine z_istore (M := M_X1_readWeeks) 75 dX1_readWeeks_75 (ls' := [some (mR 37), some (mR L), some (mI x1), some (mI x1), some (mI x7), some (mI x9), none]) (by decide) rfl ?_
          refine z_iload (M := M_X1_readWeeks) 77 dX1_readWeeks_77 rfl ?_
          refine z_iconst (M := M_X1_readWeeks) 79 dX1_readWeeks_79 ?_
          refine z_icmp_ne (M := M_X1_readWeeks) 80 dX1_readWeeks_80 90 rfl (fun c10 => ?_) (fun c10 => ?_)
          · refine z_iload_n (M := M_X1_readWeeks) 90 dX1_readWeeks_90 rfl ?_
            refine z_istore (M := M_X1_readWeeks) 91 dX1_readWeeks_91 (ls' := [some (mR 37), some (mR L), some (mI x1), some (mI x1), some (mI x7), some (mI x9), some (mI x1)]) (by decide) rfl ?_
            exact z_mask [false, true, false, true, false, true, true] rfl (ih x1 x9 x1 h5 G5 R5 (by omega) (by omega) (by omega) (by omega) (by omega) (by omega) (by omega))
          · refine z_iload (M := M_X1_readWeeks) 83 dX1_readWeeks_83 rfl ?_
            refine z_if_ne_F (M := M_X1_readWeeks) 85 dX1_readWeeks_85 90 rfl (by omega) ?_
            refine z_iconst (M := M_X1_readWeeks) 88 dX1_readWeeks_88 ?_
            exact z_retZ (M := M_X1_readWeeks) 89 dX1_readWeeks_89 rfl (by omega) ⟨G5, R5, by omega, by omega⟩
        · refine z_iconst (M := M_X1_readWeeks) 65 dX1_readWeeks_65 ?_
          refine z_goto (M := M_X1_readWeeks) 66 dX1_readWeeks_66 75 rfl ?_
          refine z_istore (M := M_X1_readWeeks) 75 dX1_readWeeks_75 (ls' := [some (mR 37), some (mR L), some (mI x1), some (mI x1), some (mI x7), some (mI (-1)), none]) (by decide) rfl ?_
          refine z_iload (M := M_X1_readWeeks) 77 dX1_readWeeks_77 rfl ?_
          refine z_iconst (M := M_X1_readWeeks) 79 dX1_readWeeks_79 ?_
          refine z_icmp_ne_F (M := M_X1_readWeeks) 80 dX1_readWeeks_80 90 rfl (by omega) ?_
          refine z_iload (M := M_X1_readWeeks) 83 dX1_readWeeks_83 rfl ?_
          refine z_if_ne_T (M := M_X1_readWeeks) 85 dX1_readWeeks_85 90 rfl (by omega) ?_
          refine z_iload_n (M := M_X1_readWeeks) 90 dX1_readWeeks_90 rfl ?_
          refine z_istore (M := M_X1_readWeeks) 91 dX1_readWeeks_91 (ls' := [some (mR 37), some (mR L), some (mI x1), some (mI x1), some (mI x7), some (mI (-1)), some (mI x1)]) (by decide) rfl ?_
          exact z_mask [false, true, false, true, false, true, true] rfl (ih x1 (-1) x1 h4 G4 R4 (by omega) (by omega) (by omega) (by omega) (by omega) (by omega) (by omega))
      · refine z_iconst (M := M_X1_readWeeks) 50 dX1_readWeeks_50 ?_
        exact z_retZ (M := M_X1_readWeeks) 51 dX1_readWeeks_51 rfl (by omega) ⟨G3, R3, by omega, by omega⟩
    · refine z_aload_n (M := M_X1_readWeeks) 24 dX1_readWeeks_24 rfl ?_
      refine z_iload_n (M := M_X1_readWeeks) 25 dX1_readWeeks_25 rfl ?_
      refine z_bipush (M := M_X1_readWeeks) 26 dX1_readWeeks_26 ?_
      refine z_vI (M := M_X1_readWeeks) 28 dX1_readWeeks_28 t_X1_takeNumber l_X1_53 (m_rr_of rfl) (rest := []) (c_X1_takeNumber h2 x1 31 G2 ⟨by omega, by omega⟩ ⟨by omega, by omega⟩) o_37 rfl rfl rfl (Nat.le_of_ble_eq_true rfl) ⟨rfl, rfl⟩ (fun x11 h6 qx11 => ?_)
      obtain ⟨G6, S6, fx11_0, fx11_1, fx11_2⟩ := qx11
      have R6 := R2.call S6 (by simp [fsub, fr, csB])
      refine z_ok (fun ox11 _ _ => ?_)
      have ox11 := ox11.1; unfold m_ok m_32 at ox11
      refine z_goto (M := M_X1_readWeeks) 31 dX1_readWeeks_31 35 rfl ?_
      refine z_istore_n (M := M_X1_readWeeks) 35 dX1_readWeeks_35 (ls' := [some (mR 37), some (mR L), some (mI x1), some (mI x11), none, none, none]) (by decide) rfl ?_
      refine z_iload_n (M := M_X1_readWeeks) 36 dX1_readWeeks_36 rfl ?_
      refine z_iconst (M := M_X1_readWeeks) 37 dX1_readWeeks_37 ?_
      refine z_icmp_eq (M := M_X1_readWeeks) 38 dX1_readWeeks_38 50 rfl (fun c12 => ?_) (fun c12 => ?_)
      · refine z_iconst (M := M_X1_readWeeks) 50 dX1_readWeeks_50 ?_
        exact z_retZ (M := M_X1_readWeeks) 51 dX1_readWeeks_51 rfl (by omega) ⟨G6, R6, by omega, by omega⟩
      · refine z_aload_n (M := M_X1_readWeeks) 41 dX1_readWeeks_41 rfl ?_
        refine z_ldcS (M := M_X1_readWeeks) 42 dX1_readWeeks_42 (i := 2) rfl rfl rfl ?_
        refine z_vI (M := M_X1_readWeeks) 44 dX1_readWeeks_44 t_X1_take l_X1_27 (m_rr_of rfl) (rest := []) (c_X1_take h6 2 (by decide) G6) o_37 rfl rfl rfl (Nat.le_of_ble_eq_true rfl) ⟨rfl, rfl⟩ (fun x13 h7 qx13 => ?_)
        obtain ⟨G7, S7, ax13, bx13⟩ := qx13
        have R7 := R6.call S7 (by simp [fsub, fr, csB])
        refine z_if_ne (M := M_X1_readWeeks) 47 dX1_readWeeks_47 52 rfl (fun c14 => ?_) (fun c14 => ?_)
        · refine z_aload_n (M := M_X1_readWeeks) 52 dX1_readWeeks_52 rfl ?_
          refine z_ldcS (M := M_X1_readWeeks) 53 dX1_readWeeks_53 (i := 3) rfl rfl rfl ?_
          refine z_vI (M := M_X1_readWeeks) 55 dX1_readWeeks_55 t_X1_take l_X1_27 (m_rr_of rfl) (rest := []) (c_X1_take h7 3 (by decide) G7) o_37 rfl rfl rfl (Nat.le_of_ble_eq_true rfl) ⟨rfl, rfl⟩ (fun x15 h8 qx15 => ?_)
          obtain ⟨G8, S8, ax15, bx15⟩ := qx15
          have R8 := R7.call S8 (by simp [fsub, fr, csB])
          refine z_istore (M := M_X1_readWeeks) 58 dX1_readWeeks_58 (ls' := [some (mR 37), some (mR L), some (mI x1), some (mI x11), some (mI x15), none, none]) (by decide) rfl ?_
          refine z_iload (M := M_X1_readWeeks) 60 dX1_readWeeks_60 rfl ?_
          refine z_if_eq (M := M_X1_readWeeks) 62 dX1_readWeeks_62 69 rfl (fun c16 => ?_) (fun c16 => ?_)
          · refine z_aload_n (M := M_X1_readWeeks) 69 dX1_readWeeks_69 rfl ?_
            refine z_iconst (M := M_X1_readWeeks) 70 dX1_readWeeks_70 ?_
            refine z_iconst (M := M_X1_readWeeks) 71 dX1_readWeeks_71 ?_
            refine z_vI (M := M_X1_readWeeks) 72 dX1_readWeeks_72 t_X1_takeNumber l_X1_53 (m_rr_of rfl) (rest := []) (c_X1_takeNumber h8 0 3 G8 ⟨by omega, by omega⟩ ⟨by omega, by omega⟩) o_37 rfl rfl rfl (Nat.le_of_ble_eq_true rfl) ⟨rfl, rfl⟩ (fun x17 h9 qx17 => ?_)
            obtain ⟨G9, S9, fx17_0, fx17_1, fx17_2⟩ := qx17
            have R9 := R8.call S9 (by simp [fsub, fr, csB])
            refine z_ok (fun ox17 _ _ => ?_)
            have ox17 := ox17.1; unfold m_ok m_32 at ox17
            refine z_istore (M := M_X1_readWeeks) 75 dX1_readWeeks_75 (ls' := [some (mR 37), some (mR L), some (mI x1), some (mI x11), some (mI x15), some (mI x17), none]) (by decide) rfl ?_
            refine z_iload (M := M_X1_readWeeks) 77 dX1_readWeeks_77 rfl ?_
            refine z_iconst (M := M_X1_readWeeks) 79 dX1_readWeeks_79 ?_
            refine z_icmp_ne (M := M_X1_readWeeks) 80 dX1_readWeeks_80 90 rfl (fun c18 => ?_) (fun c18 => ?_)
            · refine z_iload_n (M := M_X1_readWeeks) 90 dX1_readWeeks_90 rfl ?_
              refine z_istore (M := M_X1_readWeeks) 91 dX1_readWeeks_91 (ls' := [some (mR 37), some (mR L), some (mI x1), some (mI x11), some (mI x15), some (mI x17), some (mI x1)]) (by decide) rfl ?_
              exact z_mask [false, true, false, true, false, true, true] rfl (ih x11 x17 x1 h9 G9 R9 (by omega) (by omega) (by omega) (by omega) (by omega) (by omega) (by omega))
            · refine z_iload (M := M_X1_readWeeks) 83 dX1_readWeeks_83 rfl ?_
              refine z_if_ne_F (M := M_X1_readWeeks) 85 dX1_readWeeks_85 90 rfl (by omega) ?_
              refine z_iconst (M := M_X1_readWeeks) 88 dX1_readWeeks_88 ?_
              exact z_retZ (M := M_X1_readWeeks) 89 dX1_readWeeks_89 rfl (by omega) ⟨G9, R9, by omega, by omega⟩
          · refine z_iconst (M := M_X1_readWeeks) 65 dX1_readWeeks_65 ?_
            refine z_goto (M := M_X1_readWeeks) 66 dX1_readWeeks_66 75 rfl ?_
            refine z_istore (M := M_X1_readWeeks) 75 dX1_readWeeks_75 (ls' := [some (mR 37), some (mR L), some (mI x1), some (mI x11), some (mI x15), some (mI (-1)), none]) (by decide) rfl ?_
            refine z_iload (M := M_X1_readWeeks) 77 dX1_readWeeks_77 rfl ?_
            refine z_iconst (M := M_X1_readWeeks) 79 dX1_readWeeks_79 ?_
            refine z_icmp_ne_F (M := M_X1_readWeeks) 80 dX1_readWeeks_80 90 rfl (by omega) ?_
            refine z_iload (M := M_X1_readWeeks) 83 dX1_readWeeks_83 rfl ?_
            refine z_if_ne_T (M := M_X1_readWeeks) 85 dX1_readWeeks_85 90 rfl (by omega) ?_
            refine z_iload_n (M := M_X1_readWeeks) 90 dX1_readWeeks_90 rfl ?_
            refine z_istore (M := M_X1_readWeeks) 91 dX1_readWeeks_91 (ls' := [some (mR 37), some (mR L), some (mI x1), some (mI x11), some (mI x15), some (mI (-1)), some (mI x1)]) (by decide) rfl ?_
            exact z_mask [false, true, false, true, false, true, true] rfl (ih x11 (-1) x1 h8 G8 R8 (by omega) (by omega) (by omega) (by omega) (by omega) (by omega) (by omega))
        · refine z_iconst (M := M_X1_readWeeks) 50 dX1_readWeeks_50 ?_
          exact z_retZ (M := M_X1_readWeeks) 51 dX1_readWeeks_51 rfl (by omega) ⟨G7, R7, by omega, by omega⟩
  · refine z_iconst (M := M_X1_readWeeks) 13 dX1_readWeeks_13 ?_
    exact z_retZ (M := M_X1_readWeeks) 14 dX1_readWeeks_14 rfl (by omega) ⟨G1, R1, by omega, by omega⟩
abbrev P_X1_readOnto (h0 : m_H) (L : Nat) : Int → m_H → Prop := fun x h' => GI h' ∧ FR [(L + 1), (L + 2), (L + 3), (L + 4), (L + 5), (L + 6)] [(37, 1), (37, 2), (37, 3), (L, 7), (L, 8), (L, 9)] h0 h' ∧ (-1) ≤ x ∧ x ≤ 400
def q_X1_readOnto (h0 : m_H) (L : Nat) (n : Nat) : Prop := (∀ (l2 : Int) (h : m_H), GI h → FR [(L + 1), (L + 2), (L + 3), (L + 4), (L + 5), (L + 6)] [(37, 1), (37, 2), (37, 3), (L, 7), (L, 8), (L, 9)] h0 h → 1 ≤ l2 → l2 ≤ 401 → 2 * (401 - l2) + (2) ≤ (n : Int) → m_Z oF M_X1_readOnto 16 [some (mR 37), some (mR L), some (mI l2), none] [] h (m_QI (P_X1_readOnto h0 L))) ∧ (∀ (h : m_H), GI h → FR [(L + 1), (L + 2), (L + 3), (L + 4), (L + 5), (L + 6)] [(37, 1), (37, 2), (37, 3), (L, 7), (L, 8), (L, 9)] h0 h → (1) ≤ (n : Int) → m_Z oF M_X1_readOnto 107 [some (mR 37), none, none, none] [] h (m_QI (P_X1_readOnto h0 L)))
set_option maxHeartbeats 4000000 in
set_option maxRecDepth 100000 in
theorem s_X1_readOnto_16 (h0 : m_H) (L : Nat) (hL : isL L) (G0 : GI h0) (n : Nat) (ih : q_X1_readOnto h0 L n) : ∀ (l2 : Int) (h : m_H), GI h → FR [(L + 1), (L + 2), (L + 3), (L + 4), (L + 5), (L + 6)] [(37, 1), (37, 2), (37, 3), (L, 7), (L, 8), (L, 9)] h0 h → 1 ≤ l2 → l2 ≤ 401 → 2 * (401 - l2) + (2) ≤ ((n + 1 : Nat) : Int) → m_Z oF M_X1_readOnto 16 [some (mR 37), some (mR L), some (mI l2), none] [] h (m_QI (P_X1_readOnto h0 L)) := by
  intro l2 h G R v0 v1 hr
  refine z_iload_n (M := M_X1_readOnto) 16 dX1_readOnto_16 rfl ?_
  refine z_sipush (M := M_X1_readOnto) 17 dX1_readOnto_17 ?_
  refine z_icmp_gt (M := M_X1_readOnto) 20 dX1_readOnto_20 107 rfl (fun c1 => ?_) (fun c1 => ?_)
  · exact z_mask [true, false, false, false] rfl (ih.2 h G R (by omega))
  · refine z_aload_n (M := M_X1_readOnto) 23 dX1_readOnto_23 rfl ?_
    refine z_ldcS (M := M_X1_readOnto) 24 dX1_readOnto_24 (i := 0) rfl rfl rfl ?_
    refine z_vI (M := M_X1_readOnto) 26 dX1_readOnto_26 t_X1_take l_X1_27 (m_rr_of rfl) (rest := []) (c_X1_take h 0 (by decide) G) o_37 rfl rfl rfl (Nat.le_of_ble_eq_true rfl) ⟨rfl, rfl⟩ (fun x2 h1 qx2 => ?_)
    obtain ⟨G1, S1, ax2, bx2⟩ := qx2
    have R1 := R.call S1 (by simp [fsub, fr, csB])
    refine z_if_eq (M := M_X1_readOnto) 29 dX1_readOnto_29 41 rfl (fun c3 => ?_) (fun c3 => ?_)
    · refine z_aload_n (M := M_X1_readOnto) 41 dX1_readOnto_41 rfl ?_
      refine z_ldcS (M := M_X1_readOnto) 42 dX1_readOnto_42 (i := 4) rfl rfl rfl ?_
      refine z_vI (M := M_X1_readOnto) 44 dX1_readOnto_44 t_X1_take l_X1_27 (m_rr_of rfl) (rest := []) (c_X1_take h1 4 (by decide) G1) o_37 rfl rfl rfl (Nat.le_of_ble_eq_true rfl) ⟨rfl, rfl⟩ (fun x4 h2 qx4 => ?_)
      obtain ⟨G2, S2, ax4, bx4⟩ := qx4
      have R2 := R1.call S2 (by simp [fsub, fr, csB])
      refine z_if_eq (M := M_X1_readOnto) 47 dX1_readOnto_47 59 rfl (fun c5 => ?_) (fun c5 => ?_)
      · refine z_aload_n (M := M_X1_readOnto) 59 dX1_readOnto_59 rfl ?_
        refine z_aload_n (M := M_X1_readOnto) 60 dX1_readOnto_60 rfl ?_
        refine z_vI (M := M_X1_readOnto) 61 dX1_readOnto_61 t_X1_readShorter l_X1_40 (m_rr_of rfl) (rest := []) (c_X1_readShorter h2 L hL G2) o_37 rfl rfl rfl (Nat.le_of_ble_eq_true rfl) ⟨rfl, rfl⟩ (fun x6 h3 qx6 => ?_)
        obtain ⟨G3, S3, ax6, bx6⟩ := qx6
        have R3 := R2.call S3 (by simp [fsub, fr, csB])
        refine z_istore_n (M := M_X1_readOnto) 64 dX1_readOnto_64 (ls' := [some (mR 37), some (mR L), some (mI l2), some (mI x6)]) (by decide) rfl ?_
        refine z_iload_n (M := M_X1_readOnto) 65 dX1_readOnto_65 rfl ?_
        refine z_if_eq (M := M_X1_readOnto) 66 dX1_readOnto_66 85 rfl (fun c7 => ?_) (fun c7 => ?_)
        · refine z_iload_n (M := M_X1_readOnto) 85 dX1_readOnto_85 rfl ?_
          refine z_if_eq_T (M := M_X1_readOnto) 86 dX1_readOnto_86 107 rfl (by omega) ?_
          exact z_mask [true, false, false, false] rfl (ih.2 h3 G3 R3 (by omega))
        · refine z_aload_n (M := M_X1_readOnto) 69 dX1_readOnto_69 rfl ?_
          refine z_getIG (M := M_X1_readOnto) 70 dX1_readOnto_70 f_X1_43 o_37 (by decide) (g_37_1 G3) (fun x8 ex8 ax8 bx8 => ?_)
          refine z_aload_n (M := M_X1_readOnto) 73 dX1_readOnto_73 rfl ?_
          refine z_getR (M := M_X1_readOnto) 74 dX1_readOnto_74 f_X1_9 o_37 rfl (g_37_0 G3) ?_
          refine z_getIG (M := M_X1_readOnto) 77 dX1_readOnto_77 f_X1_46 o_35 (by decide) (g_35_1 G3) (fun x9 ex9 ax9 bx9 => ?_)
          refine z_icmp_lt (M := M_X1_readOnto) 80 dX1_readOnto_80 85 rfl (fun c10 => ?_) (fun c10 => ?_)
          · refine z_iload_n (M := M_X1_readOnto) 85 dX1_readOnto_85 rfl ?_
            refine z_if_eq_F (M := M_X1_readOnto) 86 dX1_readOnto_86 107 rfl (by omega) ?_
            refine z_aload_n (M := M_X1_readOnto) 89 dX1_readOnto_89 rfl ?_
            refine z_ldcS (M := M_X1_readOnto) 90 dX1_readOnto_90 (i := 15) rfl rfl rfl ?_
            refine z_vI (M := M_X1_readOnto) 92 dX1_readOnto_92 t_X1_take l_X1_27 (m_rr_of rfl) (rest := []) (c_X1_take h3 15 (by decide) G3) o_37 rfl rfl rfl (Nat.le_of_ble_eq_true rfl) ⟨rfl, rfl⟩ (fun x11 h4 qx11 => ?_)
            obtain ⟨G4, S4, ax11, bx11⟩ := qx11
            have R4 := R3.call S4 (by simp [fsub, fr, csB])
            refine z_if_ne (M := M_X1_readOnto) 95 dX1_readOnto_95 101 rfl (fun c12 => ?_) (fun c12 => ?_)
            · refine z_iincN (M := M_X1_readOnto) 101 dX1_readOnto_101 (ls' := [some (mR 37), some (mR L), some (mI (l2 + 1)), some (mI x6)]) (by decide) rfl (by (unfold m_32; decide)) (by omega) (by omega) rfl ?_
              refine z_goto (M := M_X1_readOnto) 104 dX1_readOnto_104 16 rfl ?_
              exact z_mask [true, true, true, false] rfl (ih.1 (l2 + 1) h4 G4 R4 (by omega) (by omega) (by omega))
            · refine z_goto (M := M_X1_readOnto) 98 dX1_readOnto_98 107 rfl ?_
              exact z_mask [true, false, false, false] rfl (ih.2 h4 G4 R4 (by omega))
          · refine z_iload_n (M := M_X1_readOnto) 83 dX1_readOnto_83 rfl ?_
            exact z_retI (M := M_X1_readOnto) 84 dX1_readOnto_84 rfl ⟨G3, R3, by omega, by omega⟩
      · refine z_aload_n (M := M_X1_readOnto) 50 dX1_readOnto_50 rfl ?_
        refine z_aload_n (M := M_X1_readOnto) 51 dX1_readOnto_51 rfl ?_
        refine z_vI (M := M_X1_readOnto) 52 dX1_readOnto_52 t_X1_readThing l_X1_37 (m_rr_of rfl) (rest := []) (c_X1_readThing h2 L hL G2) o_37 rfl rfl rfl (Nat.le_of_ble_eq_true rfl) ⟨rfl, rfl⟩ (fun x13 h5 qx13 => ?_)
        obtain ⟨G5, S5, ax13, bx13⟩ := qx13
        have R5 := R2.call S5 (by simp [fsub, fr, csB])
        refine z_istore_n (M := M_X1_readOnto) 55 dX1_readOnto_55 (ls' := [some (mR 37), some (mR L), some (mI l2), some (mI x13)]) (by decide) rfl ?_
        refine z_goto (M := M_X1_readOnto) 56 dX1_readOnto_56 65 rfl ?_
        refine z_iload_n (M := M_X1_readOnto) 65 dX1_readOnto_65 rfl ?_
        refine z_if_eq (M := M_X1_readOnto) 66 dX1_readOnto_66 85 rfl (fun c14 => ?_) (fun c14 => ?_)
        · refine z_iload_n (M := M_X1_readOnto) 85 dX1_readOnto_85 rfl ?_
          refine z_if_eq_T (M := M_X1_readOnto) 86 dX1_readOnto_86 107 rfl (by omega) ?_
          exact z_mask [true, false, false, false] rfl (ih.2 h5 G5 R5 (by omega))
        · refine z_aload_n (M := M_X1_readOnto) 69 dX1_readOnto_69 rfl ?_
          refine z_getIG (M := M_X1_readOnto) 70 dX1_readOnto_70 f_X1_43 o_37 (by decide) (g_37_1 G5) (fun x15 ex15 ax15 bx15 => ?_)
          refine z_aload_n (M := M_X1_readOnto) 73 dX1_readOnto_73 rfl ?_
          refine z_getR (M := M_X1_readOnto) 74 dX1_readOnto_74 f_X1_9 o_37 rfl (g_37_0 G5) ?_
          refine z_getIG (M := M_X1_readOnto) 77 dX1_readOnto_77 f_X1_46 o_35 (by decide) (g_35_1 G5) (fun x16 ex16 ax16 bx16 => ?_)
          refine z_icmp_lt (M := M_X1_readOnto) 80 dX1_readOnto_80 85 rfl (fun c17 => ?_) (fun c17 => ?_)
          · refine z_iload_n (M := M_X1_readOnto) 85 dX1_readOnto_85 rfl ?_
            refine z_if_eq_F (M := M_X1_readOnto) 86 dX1_readOnto_86 107 rfl (by omega) ?_
            refine z_aload_n (M := M_X1_readOnto) 89 dX1_readOnto_89 rfl ?_
            refine z_ldcS (M := M_X1_readOnto) 90 dX1_readOnto_90 (i := 15) rfl rfl rfl ?_
            refine z_vI (M := M_X1_readOnto) 92 dX1_readOnto_92 t_X1_take l_X1_27 (m_rr_of rfl) (rest := []) (c_X1_take h5 15 (by decide) G5) o_37 rfl rfl rfl (Nat.le_of_ble_eq_true rfl) ⟨rfl, rfl⟩ (fun x18 h6 qx18 => ?_)
            obtain ⟨G6, S6, ax18, bx18⟩ := qx18
            have R6 := R5.call S6 (by simp [fsub, fr, csB])
            refine z_if_ne (M := M_X1_readOnto) 95 dX1_readOnto_95 101 rfl (fun c19 => ?_) (fun c19 => ?_)
            · refine z_iincN (M := M_X1_readOnto) 101 dX1_readOnto_101 (ls' := [some (mR 37), some (mR L), some (mI (l2 + 1)), some (mI x13)]) (by decide) rfl (by (unfold m_32; decide)) (by omega) (by omega) rfl ?_
              refine z_goto (M := M_X1_readOnto) 104 dX1_readOnto_104 16 rfl ?_
              exact z_mask [true, true, true, false] rfl (ih.1 (l2 + 1) h6 G6 R6 (by omega) (by omega) (by omega))
            · refine z_goto (M := M_X1_readOnto) 98 dX1_readOnto_98 107 rfl ?_
              exact z_mask [true, false, false, false] rfl (ih.2 h6 G6 R6 (by omega))
          · refine z_iload_n (M := M_X1_readOnto) 83 dX1_readOnto_83 rfl ?_
            exact z_retI (M := M_X1_readOnto) 84 dX1_readOnto_84 rfl ⟨G5, R5, by omega, by omega⟩
    · refine z_aload_n (M := M_X1_readOnto) 32 dX1_readOnto_32 rfl ?_
      refine z_aload_n (M := M_X1_readOnto) 33 dX1_readOnto_33 rfl ?_
      refine z_vI (M := M_X1_readOnto) 34 dX1_readOnto_34 t_X1_readWeeks l_X1_31 (m_rr_of rfl) (rest := []) (c_X1_readWeeks h1 L hL G1) o_37 rfl rfl rfl (Nat.le_of_ble_eq_true rfl) ⟨rfl, rfl⟩ (fun x20 h7 qx20 => ?_)
      obtain ⟨G7, S7, ax20, bx20⟩ := qx20
      have R7 := R1.call S7 (by simp [fsub, fr, csB])
      refine z_istore_n (M := M_X1_readOnto) 37 dX1_readOnto_37 (ls' := [some (mR 37), some (mR L), some (mI l2), some (mI x20)]) (by decide) rfl ?_
      refine z_goto (M := M_X1_readOnto) 38 dX1_readOnto_38 65 rfl ?_
      refine z_iload_n (M := M_X1_readOnto) 65 dX1_readOnto_65 rfl ?_
      refine z_if_eq (M := M_X1_readOnto) 66 dX1_readOnto_66 85 rfl (fun c21 => ?_) (fun c21 => ?_)
      · refine z_iload_n (M := M_X1_readOnto) 85 dX1_readOnto_85 rfl ?_
        refine z_if_eq_T (M := M_X1_readOnto) 86 dX1_readOnto_86 107 rfl (by omega) ?_
        exact z_mask [true, false, false, false] rfl (ih.2 h7 G7 R7 (by omega))
      · refine z_aload_n (M := M_X1_readOnto) 69 dX1_readOnto_69 rfl ?_
        refine z_getIG (M := M_X1_readOnto) 70 dX1_readOnto_70 f_X1_43 o_37 (by decide) (g_37_1 G7) (fun x22 ex22 ax22 bx22 => ?_)
        refine z_aload_n (M := M_X1_readOnto) 73 dX1_readOnto_73 rfl ?_
        refine z_getR (M := M_X1_readOnto) 74 dX1_readOnto_74 f_X1_9 o_37 rfl (g_37_0 G7) ?_
        refine z_getIG (M := M_X1_readOnto) 77 dX1_readOnto_77 f_X1_46 o_35 (by decide) (g_35_1 G7) (fun x23 ex23 ax23 bx23 => ?_)
        refine z_icmp_lt (M := M_X1_readOnto) 80 dX1_readOnto_80 85 rfl (fun c24 => ?_) (fun c24 => ?_)
        · refine z_iload_n (M := M_X1_readOnto) 85 dX1_readOnto_85 rfl ?_
          refine z_if_eq_F (M := M_X1_readOnto) 86 dX1_readOnto_86 107 rfl (by omega) ?_
          refine z_aload_n (M := M_X1_readOnto) 89 dX1_readOnto_89 rfl ?_
          refine z_ldcS (M := M_X1_readOnto) 90 dX1_readOnto_90 (i := 15) rfl rfl rfl ?_
          refine z_vI (M := M_X1_readOnto) 92 dX1_readOnto_92 t_X1_take l_X1_27 (m_rr_of rfl) (rest := []) (c_X1_take h7 15 (by decide) G7) o_37 rfl rfl rfl (Nat.le_of_ble_eq_true rfl) ⟨rfl, rfl⟩ (fun x25 h8 qx25 => ?_)
          obtain ⟨G8, S8, ax25, bx25⟩ := qx25
          have R8 := R7.call S8 (by simp [fsub, fr, csB])
          refine z_if_ne (M := M_X1_readOnto) 95 dX1_readOnto_95 101 rfl (fun c26 => ?_) (fun c26 => ?_)
          · refine z_iincN (M := M_X1_readOnto) 101 dX1_readOnto_101 (ls' := [some (mR 37), some (mR L), some (mI (l2 + 1)), some (mI x20)]) (by decide) rfl (by (unfold m_32; decide)) (by omega) (by omega) rfl ?_
            refine z_goto (M := M_X1_readOnto) 104 dX1_readOnto_104 16 rfl ?_
            exact z_mask [true, true, true, false] rfl (ih.1 (l2 + 1) h8 G8 R8 (by omega) (by omega) (by omega))
          · refine z_goto (M := M_X1_readOnto) 98 dX1_readOnto_98 107 rfl ?_
            exact z_mask [true, false, false, false] rfl (ih.2 h8 G8 R8 (by omega))
        · refine z_iload_n (M := M_X1_readOnto) 83 dX1_readOnto_83 rfl ?_
          exact z_retI (M := M_X1_readOnto) 84 dX1_readOnto_84 rfl ⟨G7, R7, by omega, by omega⟩
set_option maxHeartbeats 4000000 in
set_option maxRecDepth 100000 in
theorem s_X1_readOnto_107 (h0 : m_H) (L : Nat) (hL : isL L) (G0 : GI h0) (n : Nat) (ih : q_X1_readOnto h0 L n) : ∀ (h : m_H), GI h → FR [(L + 1), (L + 2), (L + 3), (L + 4), (L + 5), (L + 6)] [(37, 1), (37, 2), (37, 3), (L, 7), (L, 8), (L, 9)] h0 h → (1) ≤ ((n + 1 : Nat) : Int) → m_Z oF M_X1_readOnto 107 [some (mR 37), none, none, none] [] h (m_QI (P_X1_readOnto h0 L)) := by
  intro h G R hr
  refine z_aload_n (M := M_X1_readOnto) 107 dX1_readOnto_107 rfl ?_
  refine z_getIV (M := M_X1_readOnto) 108 dX1_readOnto_108 f_X1_15 o_37 (by decide) (fun x1 ex1 => ?_)
  refine z_ok (fun ox1 _ _ => ?_)
  have ox1 := ox1.1; unfold m_ok m_32 at ox1
  refine z_iconst (M := M_X1_readOnto) 111 dX1_readOnto_111 ?_
  refine z_icmp_ne (M := M_X1_readOnto) 112 dX1_readOnto_112 123 rfl (fun c2 => ?_) (fun c2 => ?_)
  · refine z_iconst (M := M_X1_readOnto) 123 dX1_readOnto_123 ?_
    exact z_retI (M := M_X1_readOnto) 124 dX1_readOnto_124 rfl ⟨G, R, by omega, by omega⟩
  · refine z_aload_n (M := M_X1_readOnto) 115 dX1_readOnto_115 rfl ?_
    refine z_aload_n (M := M_X1_readOnto) 116 dX1_readOnto_116 rfl ?_
    refine z_getIG (M := M_X1_readOnto) 117 dX1_readOnto_117 f_X1_43 o_37 (by decide) (g_37_1 G) (fun x3 ex3 ax3 bx3 => ?_)
    refine z_putIH (M := M_X1_readOnto) 120 dX1_readOnto_120 p_X1_15 o_37 rfl (u_37_3 G) (R.up (by simp [fr, csB])) (fun h1 E1 G1 R1 => ?_)
    refine z_iconst (M := M_X1_readOnto) 123 dX1_readOnto_123 ?_
    exact z_retI (M := M_X1_readOnto) 124 dX1_readOnto_124 rfl ⟨G1, R1, by omega, by omega⟩
theorem a_X1_readOnto (h0 : m_H) (L : Nat) (hL : isL L) (G0 : GI h0) : ∀ n, q_X1_readOnto h0 L n := by
  intro n
  induction n with
  | zero => unfold q_X1_readOnto; refine ⟨?_, ?_⟩ <;> (intros; omega)
  | succ n ih => exact ⟨s_X1_readOnto_16 h0 L hL G0 n ih, s_X1_readOnto_107 h0 L hL G0 n ih⟩
set_option maxHeartbeats 4000000 in
set_option maxRecDepth 100000 in
theorem c_X1_readOnto (h0 : m_H) (L : Nat) (hL : isL L) (G0 : GI h0) : m_CI M_X1_readOnto [mR 37, mR L] h0 (P_X1_readOnto h0 L) := by
  refine m_CI_of ⟨by decide, rfl, by simp [m_arg, m_isL, M_X1_readOnto], ⟨rfl, rfl⟩, rfl, rfl⟩ (ls := [some (mR 37), some (mR L), none, none]) rfl ?_
  have ih := a_X1_readOnto h0 L hL G0 809
  refine z_aload_n (M := M_X1_readOnto) 0 dX1_readOnto_0 rfl ?_
  refine z_iconst (M := M_X1_readOnto) 1 dX1_readOnto_1 ?_
  refine z_putIH (M := M_X1_readOnto) 2 dX1_readOnto_2 p_X1_15 o_37 rfl (u_37_3 G0) ((FR.rf (cs := [(L + 1), (L + 2), (L + 3), (L + 4), (L + 5), (L + 6)]) (ss := [(37, 1), (37, 2), (37, 3), (L, 7), (L, 8), (L, 9)]) (h := h0)).up (by simp [fr, csB])) (fun h1 E1 G1 R1 => ?_)
  refine z_aload_n (M := M_X1_readOnto) 5 dX1_readOnto_5 rfl ?_
  refine z_iconst (M := M_X1_readOnto) 6 dX1_readOnto_6 ?_
  refine z_putIH (M := M_X1_readOnto) 7 dX1_readOnto_7 p_X1_19 o_37 rfl (u_37_2 G1 (by omega) (by omega)) (R1.up (by simp [fr, csB])) (fun h2 E2 G2 R2 => ?_)
  refine z_aload_n (M := M_X1_readOnto) 10 dX1_readOnto_10 rfl ?_
  refine z_vV (M := M_X1_readOnto) 11 dX1_readOnto_11 t_X1_advance l_X1_22 (m_rr_of rfl) (rest := []) (c_X1_advance h2 G2) o_37 rfl rfl rfl (Nat.le_of_ble_eq_true rfl) ⟨rfl, rfl⟩ (fun h3 qx1 => ?_)
  obtain ⟨G3, S3⟩ := qx1
  have R3 := R2.call S3 (by simp [fsub, fr, csB])
  refine z_iconst (M := M_X1_readOnto) 14 dX1_readOnto_14 ?_
  refine z_istore_n (M := M_X1_readOnto) 15 dX1_readOnto_15 (ls' := [some (mR 37), some (mR L), some (mI 1), none]) (by decide) rfl ?_
  exact z_mask [true, true, true, false] rfl (ih.1 1 h3 G3 R3 (by omega) (by omega) (by omega))
abbrev P_X11_book (h0 : m_H) : Int → m_H → Prop := fun x h' => GI h' ∧ FR [2, 3, 4, 5, 6, 7, 8, 10, 11, 12, 13, 14, 15, 16, 107] [(0, 14), (0, 16), (1, 7), (1, 8), (1, 9), (9, 7), (9, 8), (9, 9), (35, 1), (37, 1), (37, 2), (37, 3)] h0 h' ∧ (-6) ≤ x ∧ x ≤ 400 ∧ h' 35 1 = 0
set_option maxHeartbeats 4000000 in
set_option maxRecDepth 100000 in
theorem c_X11_book (h0 : m_H) (G0 : GI h0) : m_CI M_X11_book [mR 0] h0 (P_X11_book h0) := by
  refine m_CI_of ⟨by decide, rfl, by simp [m_arg, m_isL, M_X11_book], ⟨rfl, rfl⟩, rfl, rfl⟩ (ls := [some (mR 0), none]) rfl ?_
  obtain ⟨x1, ex1⟩ : ∃ y : Int, h0 35 1 = y := ⟨_, rfl⟩
  have bx1 : 0 ≤ x1 ∧ x1 ≤ 400 := ex1 ▸ g_35_1 G0
  refine z_aload_n (M := M_X11_book) 0 dX11_book_0 rfl ?_
  refine z_getR (M := M_X11_book) 1 dX11_book_1 f_X11_16 o_0 rfl (g_0_1 G0) ?_
  refine z_aload_n (M := M_X11_book) 4 dX11_book_4 rfl ?_
  refine z_getR (M := M_X11_book) 5 dX11_book_5 f_X11_12 o_0 rfl (g_0_0 G0) ?_
  refine z_vV (M := M_X11_book) 8 dX11_book_8 t_X4_copyFrom l_X11_197 (m_rr_of rfl) (rest := []) (c_X4_copyFrom h0 9 1 (Or.inr (Or.inl rfl)) (Or.inl rfl) G0) o_9 rfl rfl rfl (Nat.le_of_ble_eq_true rfl) ⟨rfl, rfl⟩ (fun h1 qx2 => ?_)
  obtain ⟨G1, S1⟩ := qx2
  have R1 := (FR.rf (cs := [2, 3, 4, 5, 6, 7, 8, 10, 11, 12, 13, 14, 15, 16, 107]) (ss := [(0, 14), (0, 16), (1, 7), (1, 8), (1, 9), (9, 7), (9, 8), (9, 9), (35, 1), (37, 1), (37, 2), (37, 3)]) (h := h0)).call S1 (by decide +kernel)
  refine z_aload_n (M := M_X11_book) 11 dX11_book_11 rfl ?_
  refine z_getR (M := M_X11_book) 12 dX11_book_12 f_X11_39 o_0 rfl (g_0_5 G1) ?_
  refine z_aload_n (M := M_X11_book) 15 dX11_book_15 rfl ?_
  refine z_getR (M := M_X11_book) 16 dX11_book_16 f_X11_16 o_0 rfl (g_0_1 G1) ?_
  refine z_vI (M := M_X11_book) 19 dX11_book_19 t_X1_readOnto l_X11_201 (m_rr_of rfl) (rest := []) (c_X1_readOnto h1 9 (Or.inr (Or.inl rfl)) G1) o_37 rfl rfl rfl (Nat.le_of_ble_eq_true rfl) ⟨rfl, rfl⟩ (fun x3 h2 qx3 => ?_)
  obtain ⟨G2, S2, ax3, bx3⟩ := qx3
  have R2 := R1.call S2 (by decide +kernel)
  refine z_istore_n (M := M_X11_book) 22 dX11_book_22 (ls' := [some (mR 0), some (mI x3)]) (by decide) rfl ?_
  refine z_aload_n (M := M_X11_book) 23 dX11_book_23 rfl ?_
  refine z_aload_n (M := M_X11_book) 24 dX11_book_24 rfl ?_
  refine z_getR (M := M_X11_book) 25 dX11_book_25 f_X11_39 o_0 rfl (g_0_5 G2) ?_
  refine z_getIV (M := M_X11_book) 28 dX11_book_28 f_X11_205 o_37 (by decide) (fun x4 ex4 => ?_)
  refine z_ok (fun ox4 _ _ => ?_)
  have ox4 := ox4.1; unfold m_ok m_32 at ox4
  refine z_putIH (M := M_X11_book) 31 dX11_book_31 p_X11_105 o_0 rfl (u_0_16 G2) (R2.up rfl) (fun h3 E3 G3 R3 => ?_)
  refine z_aload_n (M := M_X11_book) 34 dX11_book_34 rfl ?_
  refine z_getR (M := M_X11_book) 35 dX11_book_35 f_X11_30 o_0 rfl (g_0_4 G3) ?_
  refine z_iconst (M := M_X11_book) 38 dX11_book_38 ?_
  refine z_putIH (M := M_X11_book) 39 dX11_book_39 p_X11_187 o_35 rfl (u_35_1 G3 (by omega) (by omega)) (R3.up rfl) (fun h4 E4 G4 R4 => ?_)
  refine z_iload_n (M := M_X11_book) 42 dX11_book_42 rfl ?_
  refine z_iconst (M := M_X11_book) 43 dX11_book_43 ?_
  refine z_icmp_ne (M := M_X11_book) 44 dX11_book_44 54 rfl (fun c5 => ?_) (fun c5 => ?_)
  · refine z_aload_n (M := M_X11_book) 54 dX11_book_54 rfl ?_
    refine z_getR (M := M_X11_book) 55 dX11_book_55 f_X11_12 o_0 rfl (g_0_0 G4) ?_
    refine z_aload_n (M := M_X11_book) 58 dX11_book_58 rfl ?_
    refine z_getR (M := M_X11_book) 59 dX11_book_59 f_X11_16 o_0 rfl (g_0_1 G4) ?_
    refine z_vV (M := M_X11_book) 62 dX11_book_62 t_X4_copyFrom l_X11_197 (m_rr_of rfl) (rest := []) (c_X4_copyFrom h4 1 9 (Or.inl rfl) (Or.inr (Or.inl rfl)) G4) o_1 rfl rfl rfl (Nat.le_of_ble_eq_true rfl) ⟨rfl, rfl⟩ (fun h5 qx6 => ?_)
    obtain ⟨G5, S5⟩ := qx6
    have R5 := R4.call S5 (by decide +kernel)
    refine z_aload_n (M := M_X11_book) 65 dX11_book_65 rfl ?_
    refine z_iload_n (M := M_X11_book) 66 dX11_book_66 rfl ?_
    refine z_vI (M := M_X11_book) 67 dX11_book_67 t_X11_accept l_X11_123 (m_rr_of rfl) (rest := []) (c_X11_accept h5 x3 G5) o_0 rfl rfl rfl (Nat.le_of_ble_eq_true rfl) ⟨rfl, rfl⟩ (fun x7 h6 qx7 => ?_)
    obtain ⟨G6, S6, rfl⟩ := qx7
    have R6 := R5.call S6 (by decide +kernel)
    have z8 : h6 35 1 = 0 := ((S6 35 1 rfl).trans ((S5 35 1 rfl).trans (upE E4)))
    exact z_retI (M := M_X11_book) 70 dX11_book_70 rfl ⟨G6, R6, by omega, by omega, by omega⟩
  · refine z_aload_n (M := M_X11_book) 47 dX11_book_47 rfl ?_
    refine z_bipush (M := M_X11_book) 48 dX11_book_48 ?_
    refine z_vI (M := M_X11_book) 50 dX11_book_50 t_X11_refuse l_X11_116 (m_rr_of rfl) (rest := []) (c_X11_refuse h4 (-6) G4 ⟨by omega, by omega⟩) o_0 rfl rfl rfl (Nat.le_of_ble_eq_true rfl) ⟨rfl, rfl⟩ (fun x8 h7 qx8 => ?_)
    obtain ⟨G7, S7, rfl⟩ := qx8
    have R7 := R4.call S7 (by decide +kernel)
    have z8 : h7 35 1 = 0 := ((S7 35 1 rfl).trans (upE E4))
    exact z_retI (M := M_X11_book) 53 dX11_book_53 rfl ⟨G7, R7, by omega, by omega, by omega⟩
