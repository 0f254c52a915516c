abbrev P_X11_week3 (h0 : m_H) (a1 a2 : Int) : Int → m_H → Prop := fun x h' => GI h' ∧ FR [2, 107] [(0, 14)] h0 h' ∧ cR (spSet ((0 ≤ a1 ∧ a1 ≤ 31) ∧ (-1 ≤ a2 ∧ a2 ≤ 3)) (10 + a1.toNat) a2) x h0 h'
set_option maxHeartbeats 4000000 in
set_option maxRecDepth 100000 in
theorem c_X11_week3 (h0 : m_H) (a1 a2 : Int) (G0 : GI h0) : m_CI M_X11_week [mR 0, mI a1, mI a2] h0 (P_X11_week3 h0 a1 a2) := by
  refine m_CI_of ⟨by decide, rfl, by simp [m_arg, m_isL, M_X11_week], ⟨rfl, rfl⟩, rfl, rfl⟩ (ls := [some (mR 0), some (mI a1), some (mI a2), none]) rfl ?_
  refine z_ok (fun _ _ ok => ?_)
  have oa1 : m_32 a1 := ok 1 _ rfl
  unfold m_32 at oa1
  have oa2 : m_32 a2 := ok 2 _ rfl
  unfold m_32 at oa2
  refine z_iload_n (M := M_X11_week) 0 dX11_week_0 rfl ?_
  refine z_sI (M := M_X11_week) 1 dX11_week_1 t_X11_isWeek l_X11_108 (m_rr_of rfl) (rest := []) (c_X11_isWeek h0 a1 G0) rfl rfl (Nat.le_of_ble_eq_true rfl) ⟨rfl, rfl⟩ (fun x1 h1 qx1 => ?_)
  obtain ⟨rfl, ⟨rfl, cx1⟩ | ⟨rfl, cx1⟩⟩ := qx1
  · refine z_if_eq_F (M := M_X11_week) 4 dX11_week_4 16 rfl (by omega) ?_
    refine z_iload_n (M := M_X11_week) 7 dX11_week_7 rfl ?_
    refine z_iconst (M := M_X11_week) 8 dX11_week_8 ?_
    refine z_iconst (M := M_X11_week) 9 dX11_week_9 ?_
    refine z_sI (M := M_X11_week) 10 dX11_week_10 t_X11_within l_X11_112 (m_rr_of rfl) (rest := []) (c_X11_within h0 a2 (-1) 3 G0) rfl rfl (Nat.le_of_ble_eq_true rfl) ⟨rfl, rfl⟩ (fun x2 h2 qx2 => ?_)
    obtain ⟨rfl, ⟨rfl, cx2⟩ | ⟨rfl, cx2⟩⟩ := qx2
    · refine z_if_ne_T (M := M_X11_week) 13 dX11_week_13 22 rfl (by omega) ?_
      refine z_aload_n (M := M_X11_week) 22 dX11_week_22 rfl ?_
      refine z_getR (M := M_X11_week) 23 dX11_week_23 f_X11_12 o_0 rfl (g_0_0 G0) ?_
      refine z_getR (M := M_X11_week) 26 dX11_week_26 f_X11_120 o_1 rfl (g_1_0 G0) ?_
      refine z_iload_n (M := M_X11_week) 29 dX11_week_29 rfl ?_
      refine z_ialdG (M := M_X11_week) 30 dX11_week_30 o_2 (by omega) (by omega) (g_2 G0 (by omega)) (fun x3 ex3 ax3 bx3 => ?_)
      refine z_istore_n (M := M_X11_week) 31 dX11_week_31 (ls' := [some (mR 0), some (mI a1), some (mI a2), some (mI x3)]) (by decide) rfl ?_
      refine z_aload_n (M := M_X11_week) 32 dX11_week_32 rfl ?_
      refine z_getR (M := M_X11_week) 33 dX11_week_33 f_X11_12 o_0 rfl (g_0_0 G0) ?_
      refine z_getR (M := M_X11_week) 36 dX11_week_36 f_X11_120 o_1 rfl (g_1_0 G0) ?_
      refine z_iload_n (M := M_X11_week) 39 dX11_week_39 rfl ?_
      refine z_iload_n (M := M_X11_week) 40 dX11_week_40 rfl ?_
      refine z_iastH (M := M_X11_week) 41 dX11_week_41 o_2 (by omega) (by omega) (u_2 G0 (by omega) (by omega)) ((FR.rf (cs := [2, 107]) (ss := [(0, 14)]) (h := h0)).up rfl) (fun h3 E3 G3 R3 => ?_)
      refine z_aload_n (M := M_X11_week) 42 dX11_week_42 rfl ?_
      refine z_iload_n (M := M_X11_week) 43 dX11_week_43 rfl ?_
      refine z_vI (M := M_X11_week) 44 dX11_week_44 t_X11_accept l_X11_123 (m_rr_of rfl) (rest := []) (c_X11_accept h3 x3 G3) o_0 rfl rfl rfl (Nat.le_of_ble_eq_true rfl) ⟨rfl, rfl⟩ (fun x4 h4 qx4 => ?_)
      obtain ⟨G4, S4, rfl⟩ := qx4
      have R4 := R3.call S4 (by decide +kernel)
      exact z_retI (M := M_X11_week) 47 dX11_week_47 rfl ⟨G4, R4, cR_yes (by omega) ex3 (fun r R => R.2.1 a1.toNat (by omega)) (fun r R => R.k2 (by omega) (by omega) E3) S4 (by decide)⟩
    · refine z_if_ne_F (M := M_X11_week) 13 dX11_week_13 22 rfl (by omega) ?_
      refine z_aload_n (M := M_X11_week) 16 dX11_week_16 rfl ?_
      refine z_iconst (M := M_X11_week) 17 dX11_week_17 ?_
      refine z_vI (M := M_X11_week) 18 dX11_week_18 t_X11_refuse l_X11_116 (m_rr_of rfl) (rest := []) (c_X11_refuse h0 (-1) G0 ⟨by omega, by omega⟩) o_0 rfl rfl rfl (Nat.le_of_ble_eq_true rfl) ⟨rfl, rfl⟩ (fun x5 h5 qx5 => ?_)
      obtain ⟨G5, S5, rfl⟩ := qx5
      have R5 := (FR.rf (cs := [2, 107]) (ss := [(0, 14)]) (h := h0)).call S5 (by decide +kernel)
      exact z_retI (M := M_X11_week) 21 dX11_week_21 rfl ⟨G5, R5, cR_no (by omega) S5 (by decide)⟩
  · refine z_if_eq_T (M := M_X11_week) 4 dX11_week_4 16 rfl (by omega) ?_
    refine z_aload_n (M := M_X11_week) 16 dX11_week_16 rfl ?_
    refine z_iconst (M := M_X11_week) 17 dX11_week_17 ?_
    refine z_vI (M := M_X11_week) 18 dX11_week_18 t_X11_refuse l_X11_116 (m_rr_of rfl) (rest := []) (c_X11_refuse h0 (-1) G0 ⟨by omega, by omega⟩) o_0 rfl rfl rfl (Nat.le_of_ble_eq_true rfl) ⟨rfl, rfl⟩ (fun x6 h6 qx6 => ?_)
    obtain ⟨G6, S6, rfl⟩ := qx6
    have R6 := (FR.rf (cs := [2, 107]) (ss := [(0, 14)]) (h := h0)).call S6 (by decide +kernel)
    exact z_retI (M := M_X11_week) 21 dX11_week_21 rfl ⟨G6, R6, cR_no (by omega) S6 (by decide)⟩
abbrev P_X11_cut3 (h0 : m_H) (a1 a2 : Int) : Int → m_H → Prop := fun x h' => GI h' ∧ FR [3, 107] [(0, 14)] h0 h' ∧ cR (spSet ((0 ≤ a1 ∧ a1 ≤ 5) ∧ (a2 = -1 ∨ (1 ≤ a2 ∧ a2 ≤ 31))) (42 + a1.toNat) a2) x h0 h'
set_option maxHeartbeats 4000000 in
set_option maxRecDepth 100000 in
theorem c_X11_cut3 (h0 : m_H) (a1 a2 : Int) (G0 : GI h0) : m_CI M_X11_cut [mR 0, mI a1, mI a2] h0 (P_X11_cut3 h0 a1 a2) := by
  refine m_CI_of ⟨by decide, rfl, by simp [m_arg, m_isL, M_X11_cut], ⟨rfl, rfl⟩, rfl, rfl⟩ (ls := [some (mR 0), some (mI a1), some (mI a2), none]) rfl ?_
  refine z_ok (fun _ _ ok => ?_)
  have oa1 : m_32 a1 := ok 1 _ rfl
  unfold m_32 at oa1
  have oa2 : m_32 a2 := ok 2 _ rfl
  unfold m_32 at oa2
  refine z_iload_n (M := M_X11_cut) 0 dX11_cut_0 rfl ?_
  refine z_sI (M := M_X11_cut) 1 dX11_cut_1 t_X11_isThing l_X11_126 (m_rr_of rfl) (rest := []) (c_X11_isThing h0 a1 G0) rfl rfl (Nat.le_of_ble_eq_true rfl) ⟨rfl, rfl⟩ (fun x1 h1 qx1 => ?_)
  obtain ⟨rfl, ⟨rfl, cx1⟩ | ⟨rfl, cx1⟩⟩ := qx1
  · refine z_if_eq_F (M := M_X11_cut) 4 dX11_cut_4 22 rfl (by omega) ?_
    refine z_iload_n (M := M_X11_cut) 7 dX11_cut_7 rfl ?_
    refine z_iconst (M := M_X11_cut) 8 dX11_cut_8 ?_
    refine z_icmp_eq (M := M_X11_cut) 9 dX11_cut_9 28 rfl (fun c2 => ?_) (fun c2 => ?_)
    · refine z_aload_n (M := M_X11_cut) 28 dX11_cut_28 rfl ?_
      refine z_getR (M := M_X11_cut) 29 dX11_cut_29 f_X11_12 o_0 rfl (g_0_0 G0) ?_
      refine z_getR (M := M_X11_cut) 32 dX11_cut_32 f_X11_129 o_1 rfl (g_1_1 G0) ?_
      refine z_iload_n (M := M_X11_cut) 35 dX11_cut_35 rfl ?_
      refine z_ialdG (M := M_X11_cut) 36 dX11_cut_36 o_3 (by omega) (by omega) (g_3 G0 (by omega)) (fun x3 ex3 ax3 bx3 => ?_)
      refine z_istore_n (M := M_X11_cut) 37 dX11_cut_37 (ls' := [some (mR 0), some (mI a1), some (mI a2), some (mI x3)]) (by decide) rfl ?_
      refine z_aload_n (M := M_X11_cut) 38 dX11_cut_38 rfl ?_
      refine z_getR (M := M_X11_cut) 39 dX11_cut_39 f_X11_12 o_0 rfl (g_0_0 G0) ?_
      refine z_getR (M := M_X11_cut) 42 dX11_cut_42 f_X11_129 o_1 rfl (g_1_1 G0) ?_
      refine z_iload_n (M := M_X11_cut) 45 dX11_cut_45 rfl ?_
      refine z_iload_n (M := M_X11_cut) 46 dX11_cut_46 rfl ?_
      refine z_iastH (M := M_X11_cut) 47 dX11_cut_47 o_3 (by omega) (by omega) (u_3 G0 (by omega) (by omega)) ((FR.rf (cs := [3, 107]) (ss := [(0, 14)]) (h := h0)).up rfl) (fun h2 E2 G2 R2 => ?_)
      refine z_aload_n (M := M_X11_cut) 48 dX11_cut_48 rfl ?_
      refine z_iload_n (M := M_X11_cut) 49 dX11_cut_49 rfl ?_
      refine z_vI (M := M_X11_cut) 50 dX11_cut_50 t_X11_accept l_X11_123 (m_rr_of rfl) (rest := []) (c_X11_accept h2 x3 G2) o_0 rfl rfl rfl (Nat.le_of_ble_eq_true rfl) ⟨rfl, rfl⟩ (fun x4 h3 qx4 => ?_)
      obtain ⟨G3, S3, rfl⟩ := qx4
      have R3 := R2.call S3 (by decide +kernel)
      exact z_retI (M := M_X11_cut) 53 dX11_cut_53 rfl ⟨G3, R3, cR_yes (by omega) ex3 (fun r R => R.2.2.1 a1.toNat (by omega)) (fun r R => R.k3 (by omega) (by omega) E2) S3 (by decide)⟩
    · refine z_iload_n (M := M_X11_cut) 12 dX11_cut_12 rfl ?_
      refine z_iconst (M := M_X11_cut) 13 dX11_cut_13 ?_
      refine z_bipush (M := M_X11_cut) 14 dX11_cut_14 ?_
      refine z_sI (M := M_X11_cut) 16 dX11_cut_16 t_X11_within l_X11_112 (m_rr_of rfl) (rest := []) (c_X11_within h0 a2 1 31 G0) rfl rfl (Nat.le_of_ble_eq_true rfl) ⟨rfl, rfl⟩ (fun x5 h4 qx5 => ?_)
      obtain ⟨rfl, ⟨rfl, cx5⟩ | ⟨rfl, cx5⟩⟩ := qx5
      · refine z_if_ne_T (M := M_X11_cut) 19 dX11_cut_19 28 rfl (by omega) ?_
        refine z_aload_n (M := M_X11_cut) 28 dX11_cut_28 rfl ?_
        refine z_getR (M := M_X11_cut) 29 dX11_cut_29 f_X11_12 o_0 rfl (g_0_0 G0) ?_
        refine z_getR (M := M_X11_cut) 32 dX11_cut_32 f_X11_129 o_1 rfl (g_1_1 G0) ?_
        refine z_iload_n (M := M_X11_cut) 35 dX11_cut_35 rfl ?_
        refine z_ialdG (M := M_X11_cut) 36 dX11_cut_36 o_3 (by omega) (by omega) (g_3 G0 (by omega)) (fun x6 ex6 ax6 bx6 => ?_)
        refine z_istore_n (M := M_X11_cut) 37 dX11_cut_37 (ls' := [some (mR 0), some (mI a1), some (mI a2), some (mI x6)]) (by decide) rfl ?_
        refine z_aload_n (M := M_X11_cut) 38 dX11_cut_38 rfl ?_
        refine z_getR (M := M_X11_cut) 39 dX11_cut_39 f_X11_12 o_0 rfl (g_0_0 G0) ?_
        refine z_getR (M := M_X11_cut) 42 dX11_cut_42 f_X11_129 o_1 rfl (g_1_1 G0) ?_
        refine z_iload_n (M := M_X11_cut) 45 dX11_cut_45 rfl ?_
        refine z_iload_n (M := M_X11_cut) 46 dX11_cut_46 rfl ?_
        refine z_iastH (M := M_X11_cut) 47 dX11_cut_47 o_3 (by omega) (by omega) (u_3 G0 (by omega) (by omega)) ((FR.rf (cs := [3, 107]) (ss := [(0, 14)]) (h := h0)).up rfl) (fun h5 E5 G5 R5 => ?_)
        refine z_aload_n (M := M_X11_cut) 48 dX11_cut_48 rfl ?_
        refine z_iload_n (M := M_X11_cut) 49 dX11_cut_49 rfl ?_
        refine z_vI (M := M_X11_cut) 50 dX11_cut_50 t_X11_accept l_X11_123 (m_rr_of rfl) (rest := []) (c_X11_accept h5 x6 G5) o_0 rfl rfl rfl (Nat.le_of_ble_eq_true rfl) ⟨rfl, rfl⟩ (fun x7 h6 qx7 => ?_)
        obtain ⟨G6, S6, rfl⟩ := qx7
        have R6 := R5.call S6 (by decide +kernel)
        exact z_retI (M := M_X11_cut) 53 dX11_cut_53 rfl ⟨G6, R6, cR_yes (by omega) ex6 (fun r R => R.2.2.1 a1.toNat (by omega)) (fun r R => R.k3 (by omega) (by omega) E5) S6 (by decide)⟩
      · refine z_if_ne_F (M := M_X11_cut) 19 dX11_cut_19 28 rfl (by omega) ?_
        refine z_aload_n (M := M_X11_cut) 22 dX11_cut_22 rfl ?_
        refine z_iconst (M := M_X11_cut) 23 dX11_cut_23 ?_
        refine z_vI (M := M_X11_cut) 24 dX11_cut_24 t_X11_refuse l_X11_116 (m_rr_of rfl) (rest := []) (c_X11_refuse h0 (-1) G0 ⟨by omega, by omega⟩) o_0 rfl rfl rfl (Nat.le_of_ble_eq_true rfl) ⟨rfl, rfl⟩ (fun x8 h7 qx8 => ?_)
        obtain ⟨G7, S7, rfl⟩ := qx8
        have R7 := (FR.rf (cs := [3, 107]) (ss := [(0, 14)]) (h := h0)).call S7 (by decide +kernel)
        exact z_retI (M := M_X11_cut) 27 dX11_cut_27 rfl ⟨G7, R7, cR_no (by omega) S7 (by decide)⟩
  · refine z_if_eq_T (M := M_X11_cut) 4 dX11_cut_4 22 rfl (by omega) ?_
    refine z_aload_n (M := M_X11_cut) 22 dX11_cut_22 rfl ?_
    refine z_iconst (M := M_X11_cut) 23 dX11_cut_23 ?_
    refine z_vI (M := M_X11_cut) 24 dX11_cut_24 t_X11_refuse l_X11_116 (m_rr_of rfl) (rest := []) (c_X11_refuse h0 (-1) G0 ⟨by omega, by omega⟩) o_0 rfl rfl rfl (Nat.le_of_ble_eq_true rfl) ⟨rfl, rfl⟩ (fun x9 h8 qx9 => ?_)
    obtain ⟨G8, S8, rfl⟩ := qx9
    have R8 := (FR.rf (cs := [3, 107]) (ss := [(0, 14)]) (h := h0)).call S8 (by decide +kernel)
    exact z_retI (M := M_X11_cut) 27 dX11_cut_27 rfl ⟨G8, R8, cR_no (by omega) S8 (by decide)⟩
abbrev P_X11_tell3 (h0 : m_H) (a1 a2 : Int) : Int → m_H → Prop := fun x h' => GI h' ∧ FR [8, 107] [(0, 14)] h0 h' ∧ cR (spSet ((0 ≤ a1 ∧ a1 ≤ 15) ∧ (1 ≤ a2 ∧ a2 ≤ 9999)) (60 + a1.toNat) a2) x h0 h'
set_option maxHeartbeats 4000000 in
set_option maxRecDepth 100000 in
theorem c_X11_tell3 (h0 : m_H) (a1 a2 : Int) (G0 : GI h0) : m_CI M_X11_tell [mR 0, mI a1, mI a2] h0 (P_X11_tell3 h0 a1 a2) := by
  refine m_CI_of ⟨by decide, rfl, by simp [m_arg, m_isL, M_X11_tell], ⟨rfl, rfl⟩, rfl, rfl⟩ (ls := [some (mR 0), some (mI a1), some (mI a2), none]) rfl ?_
  refine z_ok (fun _ _ ok => ?_)
  have oa1 : m_32 a1 := ok 1 _ rfl
  unfold m_32 at oa1
  have oa2 : m_32 a2 := ok 2 _ rfl
  unfold m_32 at oa2
  refine z_iload_n (M := M_X11_tell) 0 dX11_tell_0 rfl ?_
  refine z_iconst (M := M_X11_tell) 1 dX11_tell_1 ?_
  refine z_bipush (M := M_X11_tell) 2 dX11_tell_2 ?_
  refine z_sI (M := M_X11_tell) 4 dX11_tell_4 t_X11_within l_X11_112 (m_rr_of rfl) (rest := []) (c_X11_within h0 a1 0 15 G0) rfl rfl (Nat.le_of_ble_eq_true rfl) ⟨rfl, rfl⟩ (fun x1 h1 qx1 => ?_)
  obtain ⟨rfl, ⟨rfl, cx1⟩ | ⟨rfl, cx1⟩⟩ := qx1
  · refine z_if_eq_F (M := M_X11_tell) 7 dX11_tell_7 21 rfl (by omega) ?_
    refine z_iload_n (M := M_X11_tell) 10 dX11_tell_10 rfl ?_
    refine z_iconst (M := M_X11_tell) 11 dX11_tell_11 ?_
    refine z_sipush (M := M_X11_tell) 12 dX11_tell_12 ?_
    refine z_sI (M := M_X11_tell) 15 dX11_tell_15 t_X11_within l_X11_112 (m_rr_of rfl) (rest := []) (c_X11_within h0 a2 1 9999 G0) rfl rfl (Nat.le_of_ble_eq_true rfl) ⟨rfl, rfl⟩ (fun x2 h2 qx2 => ?_)
    obtain ⟨rfl, ⟨rfl, cx2⟩ | ⟨rfl, cx2⟩⟩ := qx2
    · refine z_if_ne_T (M := M_X11_tell) 18 dX11_tell_18 27 rfl (by omega) ?_
      refine z_aload_n (M := M_X11_tell) 27 dX11_tell_27 rfl ?_
      refine z_getR (M := M_X11_tell) 28 dX11_tell_28 f_X11_12 o_0 rfl (g_0_0 G0) ?_
      refine z_getR (M := M_X11_tell) 31 dX11_tell_31 f_X11_376 o_1 rfl (g_1_6 G0) ?_
      refine z_iload_n (M := M_X11_tell) 34 dX11_tell_34 rfl ?_
      refine z_ialdG (M := M_X11_tell) 35 dX11_tell_35 o_8 (by omega) (by omega) (g_8 G0 (by omega)) (fun x3 ex3 ax3 bx3 => ?_)
      refine z_istore_n (M := M_X11_tell) 36 dX11_tell_36 (ls' := [some (mR 0), some (mI a1), some (mI a2), some (mI x3)]) (by decide) rfl ?_
      refine z_aload_n (M := M_X11_tell) 37 dX11_tell_37 rfl ?_
      refine z_getR (M := M_X11_tell) 38 dX11_tell_38 f_X11_12 o_0 rfl (g_0_0 G0) ?_
      refine z_getR (M := M_X11_tell) 41 dX11_tell_41 f_X11_376 o_1 rfl (g_1_6 G0) ?_
      refine z_iload_n (M := M_X11_tell) 44 dX11_tell_44 rfl ?_
      refine z_iload_n (M := M_X11_tell) 45 dX11_tell_45 rfl ?_
      refine z_iastH (M := M_X11_tell) 46 dX11_tell_46 o_8 (by omega) (by omega) (u_8 G0 (by omega) (by omega)) ((FR.rf (cs := [8, 107]) (ss := [(0, 14)]) (h := h0)).up rfl) (fun h3 E3 G3 R3 => ?_)
      refine z_aload_n (M := M_X11_tell) 47 dX11_tell_47 rfl ?_
      refine z_iload_n (M := M_X11_tell) 48 dX11_tell_48 rfl ?_
      refine z_vI (M := M_X11_tell) 49 dX11_tell_49 t_X11_accept l_X11_123 (m_rr_of rfl) (rest := []) (c_X11_accept h3 x3 G3) o_0 rfl rfl rfl (Nat.le_of_ble_eq_true rfl) ⟨rfl, rfl⟩ (fun x4 h4 qx4 => ?_)
      obtain ⟨G4, S4, rfl⟩ := qx4
      have R4 := R3.call S4 (by decide +kernel)
      exact z_retI (M := M_X11_tell) 52 dX11_tell_52 rfl ⟨G4, R4, cR_yes (by omega) ex3 (fun r R => R.2.2.2.1 a1.toNat (by omega)) (fun r R => R.k8 (by omega) (by omega) E3) S4 (by decide)⟩
    · refine z_if_ne_F (M := M_X11_tell) 18 dX11_tell_18 27 rfl (by omega) ?_
      refine z_aload_n (M := M_X11_tell) 21 dX11_tell_21 rfl ?_
      refine z_iconst (M := M_X11_tell) 22 dX11_tell_22 ?_
      refine z_vI (M := M_X11_tell) 23 dX11_tell_23 t_X11_refuse l_X11_116 (m_rr_of rfl) (rest := []) (c_X11_refuse h0 (-1) G0 ⟨by omega, by omega⟩) o_0 rfl rfl rfl (Nat.le_of_ble_eq_true rfl) ⟨rfl, rfl⟩ (fun x5 h5 qx5 => ?_)
      obtain ⟨G5, S5, rfl⟩ := qx5
      have R5 := (FR.rf (cs := [8, 107]) (ss := [(0, 14)]) (h := h0)).call S5 (by decide +kernel)
      exact z_retI (M := M_X11_tell) 26 dX11_tell_26 rfl ⟨G5, R5, cR_no (by omega) S5 (by decide)⟩
  · refine z_if_eq_T (M := M_X11_tell) 7 dX11_tell_7 21 rfl (by omega) ?_
    refine z_aload_n (M := M_X11_tell) 21 dX11_tell_21 rfl ?_
    refine z_iconst (M := M_X11_tell) 22 dX11_tell_22 ?_
    refine z_vI (M := M_X11_tell) 23 dX11_tell_23 t_X11_refuse l_X11_116 (m_rr_of rfl) (rest := []) (c_X11_refuse h0 (-1) G0 ⟨by omega, by omega⟩) o_0 rfl rfl rfl (Nat.le_of_ble_eq_true rfl) ⟨rfl, rfl⟩ (fun x6 h6 qx6 => ?_)
    obtain ⟨G6, S6, rfl⟩ := qx6
    have R6 := (FR.rf (cs := [8, 107]) (ss := [(0, 14)]) (h := h0)).call S6 (by decide +kernel)
    exact z_retI (M := M_X11_tell) 26 dX11_tell_26 rfl ⟨G6, R6, cR_no (by omega) S6 (by decide)⟩
abbrev P_X11_shorter3 (h0 : m_H) (a1 a2 : Int) (r : Nat → Int) : Int → m_H → Prop := fun x h' => GI h' ∧ FR [107] [(0, 14), (1, 9)] h0 h' ∧ cR1 (spShort a1 a2) r x h'
set_option maxHeartbeats 4000000 in
set_option maxRecDepth 100000 in
theorem c_X11_shorter3 (h0 : m_H) (a1 a2 : Int) (r : Nat → Int) (G0 : GI h0) (Rr : LR 1 h0 r) : m_CI M_X11_shorter [mR 0, mI a1, mI a2] h0 (P_X11_shorter3 h0 a1 a2 r) := by
  refine m_CI_of ⟨by decide, rfl, by simp [m_arg, m_isL, M_X11_shorter], ⟨rfl, rfl⟩, rfl, rfl⟩ (ls := [some (mR 0), some (mI a1), some (mI a2)]) rfl ?_
  refine z_ok (fun _ _ ok => ?_)
  have oa1 : m_32 a1 := ok 1 _ rfl
  unfold m_32 at oa1
  have oa2 : m_32 a2 := ok 2 _ rfl
  unfold m_32 at oa2
  refine z_iload_n (M := M_X11_shorter) 0 dX11_shorter_0 rfl ?_
  refine z_sI (M := M_X11_shorter) 1 dX11_shorter_1 t_X11_isKeeper l_X11_132 (m_rr_of rfl) (rest := []) (c_X11_isKeeper h0 a1 G0) rfl rfl (Nat.le_of_ble_eq_true rfl) ⟨rfl, rfl⟩ (fun x1 h1 qx1 => ?_)
  obtain ⟨rfl, ⟨rfl, cx1⟩ | ⟨rfl, cx1⟩⟩ := qx1
  · refine z_if_eq_F (M := M_X11_shorter) 4 dX11_shorter_4 19 rfl (by omega) ?_
    refine z_iload_n (M := M_X11_shorter) 7 dX11_shorter_7 rfl ?_
    refine z_sI (M := M_X11_shorter) 8 dX11_shorter_8 t_X11_isKeeper l_X11_132 (m_rr_of rfl) (rest := []) (c_X11_isKeeper h0 a2 G0) rfl rfl (Nat.le_of_ble_eq_true rfl) ⟨rfl, rfl⟩ (fun x2 h2 qx2 => ?_)
    obtain ⟨rfl, ⟨rfl, cx2⟩ | ⟨rfl, cx2⟩⟩ := qx2
    · refine z_if_eq_F (M := M_X11_shorter) 11 dX11_shorter_11 19 rfl (by omega) ?_
      refine z_iload_n (M := M_X11_shorter) 14 dX11_shorter_14 rfl ?_
      refine z_iload_n (M := M_X11_shorter) 15 dX11_shorter_15 rfl ?_
      refine z_icmp_ne (M := M_X11_shorter) 16 dX11_shorter_16 25 rfl (fun c3 => ?_) (fun c3 => ?_)
      · refine z_aload_n (M := M_X11_shorter) 25 dX11_shorter_25 rfl ?_
        refine z_getR (M := M_X11_shorter) 26 dX11_shorter_26 f_X11_12 o_0 rfl (g_0_0 G0) ?_
        refine z_iload_n (M := M_X11_shorter) 29 dX11_shorter_29 rfl ?_
        refine z_iload_n (M := M_X11_shorter) 30 dX11_shorter_30 rfl ?_
        refine z_vI (M := M_X11_shorter) 31 dX11_shorter_31 t_X4_isShorter l_X11_135 (m_rr_of rfl) (rest := []) (c_X4_isShorter2 h0 1 a1 a2 (Or.inl rfl) G0 ⟨by omega, by omega⟩ ⟨by omega, by omega⟩) o_1 rfl rfl rfl (Nat.le_of_ble_eq_true rfl) ⟨rfl, rfl⟩ (fun x4 h3 qx4 => ?_)
        obtain ⟨G3, S3, ax4, bx4, fx4_0⟩ := qx4
        have R3 := (FR.rf (cs := [107]) (ss := [(0, 14), (1, 9)]) (h := h0)).call S3 (by decide +kernel)
        have isx4 := is_sh Rr (a := a1) (b := a2) (by omega) (by omega) (by omega) (by omega)
        have LR3 : LR 1 h3 r := Rr.S S3 (by decide)
        refine z_if_eq (M := M_X11_shorter) 34 dX11_shorter_34 44 rfl (fun c5 => ?_) (fun c5 => ?_)
        · refine z_aload_n (M := M_X11_shorter) 44 dX11_shorter_44 rfl ?_
          refine z_getR (M := M_X11_shorter) 45 dX11_shorter_45 f_X11_12 o_0 rfl (g_0_0 G3) ?_
          refine z_vI (M := M_X11_shorter) 48 dX11_shorter_48 t_X4_hasRoomForShorter l_X11_139 (m_rr_of rfl) (rest := []) (c_X4_hasRoomForShorter2 h3 1 (Or.inl rfl) G3 LR3.S9.1) o_1 rfl rfl rfl (Nat.le_of_ble_eq_true rfl) ⟨rfl, rfl⟩ (fun x6 h4 qx6 => ?_)
          obtain ⟨G4, S4, ax6, bx6, fx6_0⟩ := qx6
          have R4 := R3.call S4 (by decide +kernel)
          have hrx6 := LR3.S9.2
          have LR4 : LR 1 h4 r := LR3.S S4 (by decide)
          refine z_if_ne (M := M_X11_shorter) 51 dX11_shorter_51 61 rfl (fun c7 => ?_) (fun c7 => ?_)
          · refine z_aload_n (M := M_X11_shorter) 61 dX11_shorter_61 rfl ?_
            refine z_getR (M := M_X11_shorter) 62 dX11_shorter_62 f_X11_12 o_0 rfl (g_0_0 G4) ?_
            refine z_iload_n (M := M_X11_shorter) 65 dX11_shorter_65 rfl ?_
            refine z_iload_n (M := M_X11_shorter) 66 dX11_shorter_66 rfl ?_
            refine z_vV (M := M_X11_shorter) 67 dX11_shorter_67 t_X4_addShorter l_X11_143 (m_rr_of rfl) (rest := []) (c_X4_addShorter2 h4 1 a1 a2 (Or.inl rfl) G4 ⟨by omega, by omega⟩ ⟨by omega, by omega⟩) o_1 rfl rfl rfl (Nat.le_of_ble_eq_true rfl) ⟨rfl, rfl⟩ (fun h5 qx8 => ?_)
            obtain ⟨G5, S5, fx8_0⟩ := qx8
            have R5 := R4.call S5 (by decide +kernel)
            have LR5 := fx8_0 r LR4 (by omega) (fun z => by have := fx4_0.mpr (isx4.mpr z); omega)
            refine z_aload_n (M := M_X11_shorter) 70 dX11_shorter_70 rfl ?_
            refine z_aload_n (M := M_X11_shorter) 71 dX11_shorter_71 rfl ?_
            refine z_getR (M := M_X11_shorter) 72 dX11_shorter_72 f_X11_12 o_0 rfl (g_0_0 G5) ?_
            refine z_vI (M := M_X11_shorter) 75 dX11_shorter_75 t_X4_shorters l_X11_147 (m_rr_of rfl) (rest := [mR 0]) (c_X4_shorters2 h5 1 (Or.inl rfl) G5 LR5.S9.1) o_1 rfl rfl rfl (Nat.le_of_ble_eq_true rfl) ⟨rfl, rfl⟩ (fun x9 h6 qx9 => ?_)
            obtain ⟨G6, S6, ax9, bx9, fx9_0⟩ := qx9
            have R6 := R5.call S6 (by decide +kernel)
            have hrx9 := LR5.S9.2
            have LR6 : LR 1 h6 (rS r a1 a2) := LR5.S S6 (by decide)
            refine z_vI (M := M_X11_shorter) 78 dX11_shorter_78 t_X11_accept l_X11_123 (m_rr_of rfl) (rest := []) (c_X11_accept h6 x9 G6) o_0 rfl rfl rfl (Nat.le_of_ble_eq_true rfl) ⟨rfl, rfl⟩ (fun x10 h7 qx10 => ?_)
            obtain ⟨G7, S7, rfl⟩ := qx10
            have R7 := R6.call S7 (by decide +kernel)
            have LR7 : LR 1 h7 (rS r a1 a2) := LR6.S S7 (by decide)
            exact z_retI (M := M_X11_shorter) 81 dX11_shorter_81 rfl ⟨G7, R7, ⟨by unfold spShort; rw [cif_pos (by omega), cif_neg (fun z => by have := fx4_0.mpr (isx4.mpr z); omega), cif_pos (by omega)]; exact fx9_0.symm.trans hrx9, by unfold spShort; rw [cif_pos (by omega), cif_neg (fun z => by have := fx4_0.mpr (isx4.mpr z); omega), cif_pos (by omega)]; exact LR7⟩⟩
          · refine z_aload_n (M := M_X11_shorter) 54 dX11_shorter_54 rfl ?_
            refine z_bipush (M := M_X11_shorter) 55 dX11_shorter_55 ?_
            refine z_vI (M := M_X11_shorter) 57 dX11_shorter_57 t_X11_refuse l_X11_116 (m_rr_of rfl) (rest := []) (c_X11_refuse h4 (-5) G4 ⟨by omega, by omega⟩) o_0 rfl rfl rfl (Nat.le_of_ble_eq_true rfl) ⟨rfl, rfl⟩ (fun x11 h8 qx11 => ?_)
            obtain ⟨G8, S8, rfl⟩ := qx11
            have R8 := R4.call S8 (by decide +kernel)
            have LR8 : LR 1 h8 r := LR4.S S8 (by decide)
            exact z_retI (M := M_X11_shorter) 60 dX11_shorter_60 rfl ⟨G8, R8, ⟨by unfold spShort; rw [cif_pos (by omega), cif_neg (fun z => by have := fx4_0.mpr (isx4.mpr z); omega), cif_neg (by omega)], by unfold spShort; rw [cif_pos (by omega), cif_neg (fun z => by have := fx4_0.mpr (isx4.mpr z); omega), cif_neg (by omega)]; exact LR8⟩⟩
        · refine z_aload_n (M := M_X11_shorter) 37 dX11_shorter_37 rfl ?_
          refine z_bipush (M := M_X11_shorter) 38 dX11_shorter_38 ?_
          refine z_vI (M := M_X11_shorter) 40 dX11_shorter_40 t_X11_refuse l_X11_116 (m_rr_of rfl) (rest := []) (c_X11_refuse h3 (-3) G3 ⟨by omega, by omega⟩) o_0 rfl rfl rfl (Nat.le_of_ble_eq_true rfl) ⟨rfl, rfl⟩ (fun x12 h9 qx12 => ?_)
          obtain ⟨G9, S9, rfl⟩ := qx12
          have R9 := R3.call S9 (by decide +kernel)
          have LR9 : LR 1 h9 r := LR3.S S9 (by decide)
          exact z_retI (M := M_X11_shorter) 43 dX11_shorter_43 rfl ⟨G9, R9, ⟨by unfold spShort; rw [cif_pos (by omega), cif_pos (isx4.mp (fx4_0.mp (by omega)))], by unfold spShort; rw [cif_pos (by omega), cif_pos (isx4.mp (fx4_0.mp (by omega)))]; exact LR9⟩⟩
      · refine z_aload_n (M := M_X11_shorter) 19 dX11_shorter_19 rfl ?_
        refine z_iconst (M := M_X11_shorter) 20 dX11_shorter_20 ?_
        refine z_vI (M := M_X11_shorter) 21 dX11_shorter_21 t_X11_refuse l_X11_116 (m_rr_of rfl) (rest := []) (c_X11_refuse h0 (-1) G0 ⟨by omega, by omega⟩) o_0 rfl rfl rfl (Nat.le_of_ble_eq_true rfl) ⟨rfl, rfl⟩ (fun x13 h10 qx13 => ?_)
        obtain ⟨G10, S10, rfl⟩ := qx13
        have R10 := (FR.rf (cs := [107]) (ss := [(0, 14), (1, 9)]) (h := h0)).call S10 (by decide +kernel)
        have LR10 : LR 1 h10 r := Rr.S S10 (by decide)
        exact z_retI (M := M_X11_shorter) 24 dX11_shorter_24 rfl ⟨G10, R10, ⟨by unfold spShort; rw [cif_neg (by omega)], by unfold spShort; rw [cif_neg (by omega)]; exact LR10⟩⟩
    · refine z_if_eq_T (M := M_X11_shorter) 11 dX11_shorter_11 19 rfl (by omega) ?_
      refine z_aload_n (M := M_X11_shorter) 19 dX11_shorter_19 rfl ?_
      refine z_iconst (M := M_X11_shorter) 20 dX11_shorter_20 ?_
      refine z_vI (M := M_X11_shorter) 21 dX11_shorter_21 t_X11_refuse l_X11_116 (m_rr_of rfl) (rest := []) (c_X11_refuse h0 (-1) G0 ⟨by omega, by omega⟩) o_0 rfl rfl rfl (Nat.le_of_ble_eq_true rfl) ⟨rfl, rfl⟩ (fun x14 h11 qx14 => ?_)
      obtain ⟨G11, S11, rfl⟩ := qx14
      have R11 := (FR.rf (cs := [107]) (ss := [(0, 14), (1, 9)]) (h := h0)).call S11 (by decide +kernel)
      have LR11 : LR 1 h11 r := Rr.S S11 (by decide)
      exact z_retI (M := M_X11_shorter) 24 dX11_shorter_24 rfl ⟨G11, R11, ⟨by unfold spShort; rw [cif_neg (by omega)], by unfold spShort; rw [cif_neg (by omega)]; exact LR11⟩⟩
  · refine z_if_eq_T (M := M_X11_shorter) 4 dX11_shorter_4 19 rfl (by omega) ?_
    refine z_aload_n (M := M_X11_shorter) 19 dX11_shorter_19 rfl ?_
    refine z_iconst (M := M_X11_shorter) 20 dX11_shorter_20 ?_
    refine z_vI (M := M_X11_shorter) 21 dX11_shorter_21 t_X11_refuse l_X11_116 (m_rr_of rfl) (rest := []) (c_X11_refuse h0 (-1) G0 ⟨by omega, by omega⟩) o_0 rfl rfl rfl (Nat.le_of_ble_eq_true rfl) ⟨rfl, rfl⟩ (fun x15 h12 qx15 => ?_)
    obtain ⟨G12, S12, rfl⟩ := qx15
    have R12 := (FR.rf (cs := [107]) (ss := [(0, 14), (1, 9)]) (h := h0)).call S12 (by decide +kernel)
    have LR12 : LR 1 h12 r := Rr.S S12 (by decide)
    exact z_retI (M := M_X11_shorter) 24 dX11_shorter_24 rfl ⟨G12, R12, ⟨by unfold spShort; rw [cif_neg (by omega)], by unfold spShort; rw [cif_neg (by omega)]; exact LR12⟩⟩
abbrev P_X11_entry3 (h0 : m_H) (a1 a2 a3 a4 : Int) (r : Nat → Int) : Int → m_H → Prop := fun x h' => GI h' ∧ FR [4, 5, 6, 7, 107] [(0, 14), (1, 7), (1, 8)] h0 h' ∧ cR1 (spEntry a1 a2 a3 a4) r x h'
set_option maxHeartbeats 4000000 in
set_option maxRecDepth 100000 in
theorem c_X11_entry3 (h0 : m_H) (a1 a2 a3 a4 : Int) (r : Nat → Int) (G0 : GI h0) (Rr : LR 1 h0 r) : m_CI M_X11_entry [mR 0, mI a1, mI a2, mI a3, mI a4] h0 (P_X11_entry3 h0 a1 a2 a3 a4 r) := by
  refine m_CI_of ⟨by decide, rfl, by simp [m_arg, m_isL, M_X11_entry], ⟨rfl, rfl⟩, rfl, rfl⟩ (ls := [some (mR 0), some (mI a1), some (mI a2), some (mI a3), some (mI a4)]) rfl ?_
  refine z_ok (fun _ _ ok => ?_)
  have oa1 : m_32 a1 := ok 1 _ rfl
  unfold m_32 at oa1
  have oa2 : m_32 a2 := ok 2 _ rfl
  unfold m_32 at oa2
  have oa3 : m_32 a3 := ok 3 _ rfl
  unfold m_32 at oa3
  have oa4 : m_32 a4 := ok 4 _ rfl
  unfold m_32 at oa4
  refine z_iload_n (M := M_X11_entry) 0 dX11_entry_0 rfl ?_
  refine z_iload_n (M := M_X11_entry) 1 dX11_entry_1 rfl ?_
  refine z_iload_n (M := M_X11_entry) 2 dX11_entry_2 rfl ?_
  refine z_iload (M := M_X11_entry) 3 dX11_entry_3 rfl ?_
  refine z_sI (M := M_X11_entry) 5 dX11_entry_5 t_X11_isEntry l_X11_151 (m_rr_of rfl) (rest := []) (c_X11_isEntry h0 a1 a2 a3 a4 G0) rfl rfl (Nat.le_of_ble_eq_true rfl) ⟨rfl, rfl⟩ (fun x1 h1 qx1 => ?_)
  obtain ⟨rfl, ⟨rfl, cx1⟩ | ⟨rfl, cx1⟩⟩ := qx1
  · refine z_if_ne_T (M := M_X11_entry) 8 dX11_entry_8 17 rfl (by omega) ?_
    refine z_aload_n (M := M_X11_entry) 17 dX11_entry_17 rfl ?_
    refine z_getR (M := M_X11_entry) 18 dX11_entry_18 f_X11_12 o_0 rfl (g_0_0 G0) ?_
    refine z_vI (M := M_X11_entry) 21 dX11_entry_21 t_X4_hasRoom l_X11_155 (m_rr_of rfl) (rest := []) (c_X4_hasRoom h0 1 (Or.inl rfl) G0) o_1 rfl rfl rfl (Nat.le_of_ble_eq_true rfl) ⟨rfl, rfl⟩ (fun x2 h2 qx2 => ?_)
    obtain ⟨rfl, ⟨rfl, cx2⟩ | ⟨rfl, cx2⟩⟩ := qx2
    · refine z_if_ne_T (M := M_X11_entry) 24 dX11_entry_24 34 rfl (by omega) ?_
      refine z_aload_n (M := M_X11_entry) 34 dX11_entry_34 rfl ?_
      refine z_getR (M := M_X11_entry) 35 dX11_entry_35 f_X11_12 o_0 rfl (g_0_0 G0) ?_
      refine z_iload_n (M := M_X11_entry) 38 dX11_entry_38 rfl ?_
      refine z_iload_n (M := M_X11_entry) 39 dX11_entry_39 rfl ?_
      refine z_iload_n (M := M_X11_entry) 40 dX11_entry_40 rfl ?_
      refine z_iload (M := M_X11_entry) 41 dX11_entry_41 rfl ?_
      refine z_vV (M := M_X11_entry) 43 dX11_entry_43 t_X4_addEntry l_X11_158 (m_rr_of rfl) (rest := []) (c_X4_addEntry2 h0 1 a1 a2 a3 a4 (Or.inl rfl) G0 ⟨by omega, by omega⟩ ⟨by omega, by omega⟩ ⟨by omega, by omega⟩ ⟨by omega, by omega⟩) o_1 rfl rfl rfl (Nat.le_of_ble_eq_true rfl) ⟨rfl, rfl⟩ (fun h3 qx3 => ?_)
      obtain ⟨G3, S3, fx3_0⟩ := qx3
      have R3 := (FR.rf (cs := [4, 5, 6, 7, 107]) (ss := [(0, 14), (1, 7), (1, 8)]) (h := h0)).call S3 (by decide +kernel)
      have LR3 := fx3_0 r Rr (by have := Rr.2.2.2.2.1; omega)
      refine z_aload_n (M := M_X11_entry) 46 dX11_entry_46 rfl ?_
      refine z_aload_n (M := M_X11_entry) 47 dX11_entry_47 rfl ?_
      refine z_getR (M := M_X11_entry) 48 dX11_entry_48 f_X11_12 o_0 rfl (g_0_0 G3) ?_
      refine z_getIG (M := M_X11_entry) 51 dX11_entry_51 f_X11_162 o_1 (by decide) (g_1_7 G3) (fun x4 ex4 ax4 bx4 => ?_)
      refine z_iconst (M := M_X11_entry) 54 dX11_entry_54 ?_
      refine z_isubN (M := M_X11_entry) 55 dX11_entry_55 (by omega) (by omega) ?_
      refine z_vI (M := M_X11_entry) 56 dX11_entry_56 t_X11_accept l_X11_123 (m_rr_of rfl) (rest := []) (c_X11_accept h3 (x4 - 1) G3) o_0 rfl rfl rfl (Nat.le_of_ble_eq_true rfl) ⟨rfl, rfl⟩ (fun x5 h4 qx5 => ?_)
      obtain ⟨G4, S4, rfl⟩ := qx5
      have R4 := R3.call S4 (by decide +kernel)
      have LR4 : LR 1 h4 (rE r a1 a2 a3 a4) := LR3.S S4 (by decide)
      exact z_retI (M := M_X11_entry) 59 dX11_entry_59 rfl ⟨G4, R4, ⟨by unfold spEntry; rw [cif_pos (by unfold canE; omega), cif_pos (by have := Rr.2.2.2.2.1; omega)]; show (x4 - 1) = r 0; have q : x4 = r 0 + 1 := ex4.symm.trans LR3.2.2.2.2.1; omega, by unfold spEntry; rw [cif_pos (by unfold canE; omega), cif_pos (by have := Rr.2.2.2.2.1; omega)]; exact LR4⟩⟩
    · refine z_if_ne_F (M := M_X11_entry) 24 dX11_entry_24 34 rfl (by omega) ?_
      refine z_aload_n (M := M_X11_entry) 27 dX11_entry_27 rfl ?_
      refine z_bipush (M := M_X11_entry) 28 dX11_entry_28 ?_
      refine z_vI (M := M_X11_entry) 30 dX11_entry_30 t_X11_refuse l_X11_116 (m_rr_of rfl) (rest := []) (c_X11_refuse h0 (-5) G0 ⟨by omega, by omega⟩) o_0 rfl rfl rfl (Nat.le_of_ble_eq_true rfl) ⟨rfl, rfl⟩ (fun x6 h5 qx6 => ?_)
      obtain ⟨G5, S5, rfl⟩ := qx6
      have R5 := (FR.rf (cs := [4, 5, 6, 7, 107]) (ss := [(0, 14), (1, 7), (1, 8)]) (h := h0)).call S5 (by decide +kernel)
      have LR5 : LR 1 h5 r := Rr.S S5 (by decide)
      exact z_retI (M := M_X11_entry) 33 dX11_entry_33 rfl ⟨G5, R5, ⟨by unfold spEntry; rw [cif_pos (by unfold canE; omega), cif_neg (by have := Rr.2.2.2.2.1; omega)], by unfold spEntry; rw [cif_pos (by unfold canE; omega), cif_neg (by have := Rr.2.2.2.2.1; omega)]; exact LR5⟩⟩
  · refine z_if_ne_F (M := M_X11_entry) 8 dX11_entry_8 17 rfl (by omega) ?_
    refine z_aload_n (M := M_X11_entry) 11 dX11_entry_11 rfl ?_
    refine z_iconst (M := M_X11_entry) 12 dX11_entry_12 ?_
    refine z_vI (M := M_X11_entry) 13 dX11_entry_13 t_X11_refuse l_X11_116 (m_rr_of rfl) (rest := []) (c_X11_refuse h0 (-1) G0 ⟨by omega, by omega⟩) o_0 rfl rfl rfl (Nat.le_of_ble_eq_true rfl) ⟨rfl, rfl⟩ (fun x7 h6 qx7 => ?_)
    obtain ⟨G6, S6, rfl⟩ := qx7
    have R6 := (FR.rf (cs := [4, 5, 6, 7, 107]) (ss := [(0, 14), (1, 7), (1, 8)]) (h := h0)).call S6 (by decide +kernel)
    have LR6 : LR 1 h6 r := Rr.S S6 (by decide)
    exact z_retI (M := M_X11_entry) 16 dX11_entry_16 rfl ⟨G6, R6, ⟨by unfold spEntry; rw [cif_neg (by unfold canE; omega)], by unfold spEntry; rw [cif_neg (by unfold canE; omega)]; exact LR6⟩⟩
abbrev P_X4_setCounting2 (h0 : m_H) (L : Nat) (a1 a2 : Int) : m_H → Prop := fun h' => GI h' ∧ FR [] [(L, 8)] h0 h' ∧ ((a2 ≠ 0 ∧ h' L 8 = m_or (h0 L 8) (m_shl 1 a1)) ∨ (a2 = 0 ∧ h' L 8 = m_and (h0 L 8) (m_xor (m_shl 1 a1) (-1))))
set_option maxHeartbeats 4000000 in
set_option maxRecDepth 100000 in
theorem c_X4_setCounting2 (h0 : m_H) (L : Nat) (a1 a2 : Int) (hL : isL L) (G0 : GI h0) (pa2 : 0 ≤ a2 ∧ a2 ≤ 1) : m_CV M_X4_setCounting [mR L, mI a1, mI a2] h0 (P_X4_setCounting2 h0 L a1 a2) := by
  refine m_CV_of ⟨by decide, rfl, by simp [m_arg, m_isL, M_X4_setCounting], ⟨rfl, rfl⟩, rfl, rfl⟩ (ls := [some (mR L), some (mI a1), some (mI a2), none]) rfl ?_
  refine z_ok (fun _ _ ok => ?_)
  have oa1 : m_32 a1 := ok 1 _ rfl
  unfold m_32 at oa1
  refine z_iconst (M := M_X4_setCounting) 0 dX4_setCounting_0 ?_
  refine z_iload_n (M := M_X4_setCounting) 1 dX4_setCounting_1 rfl ?_
  refine z_ishl (M := M_X4_setCounting) 2 dX4_setCounting_2 ?_
  refine z_topm (fun x1 ex1 ox1 => ?_)
  unfold m_32 at ox1
  refine z_istore_n (M := M_X4_setCounting) 3 dX4_setCounting_3 (ls' := [some (mR L), some (mI a1), some (mI a2), some (mI x1)]) (by decide) rfl ?_
  refine z_aload_n (M := M_X4_setCounting) 4 dX4_setCounting_4 rfl ?_
  refine z_iload_n (M := M_X4_setCounting) 5 dX4_setCounting_5 rfl ?_
  refine z_if_eq (M := M_X4_setCounting) 6 dX4_setCounting_6 18 rfl (fun c2 => ?_) (fun c2 => ?_)
  · refine z_aload_n (M := M_X4_setCounting) 18 dX4_setCounting_18 rfl ?_
    refine z_getIV (M := M_X4_setCounting) 19 dX4_setCounting_19 f_X4_49 (oL hL) (by decide) (fun x3 ex3 => ?_)
    refine z_ok (fun ox3 _ _ => ?_)
    have ox3 := ox3.1; unfold m_ok m_32 at ox3
    refine z_iload_n (M := M_X4_setCounting) 22 dX4_setCounting_22 rfl ?_
    refine z_iconst (M := M_X4_setCounting) 23 dX4_setCounting_23 ?_
    refine z_ixor (M := M_X4_setCounting) 24 dX4_setCounting_24 ?_
    refine z_topm (fun x4 ex4 ox4 => ?_)
    unfold m_32 at ox4
    refine z_iand (M := M_X4_setCounting) 25 dX4_setCounting_25 ?_
    refine z_topm (fun x5 ex5 ox5 => ?_)
    unfold m_32 at ox5
    refine z_putIH (M := M_X4_setCounting) 26 dX4_setCounting_26 p_X4_49 (oL hL) rfl (uL8 hL G0) ((FR.rf (cs := []) (ss := [(L, 8)]) (h := h0)).up (by simp [fr])) (fun h1 E1 G1 R1 => ?_)
    exact z_retV (M := M_X4_setCounting) 29 dX4_setCounting_29 rfl ⟨G1, R1, by first | (left; exact ⟨by omega, (upE E1).trans (by simp only [← ex1, ← ex3, ← ex4, ← ex5])⟩) | (right; exact ⟨by omega, (upE E1).trans (by simp only [← ex1, ← ex3, ← ex4, ← ex5])⟩)⟩
  · refine z_aload_n (M := M_X4_setCounting) 9 dX4_setCounting_9 rfl ?_
    refine z_getIV (M := M_X4_setCounting) 10 dX4_setCounting_10 f_X4_49 (oL hL) (by decide) (fun x6 ex6 => ?_)
    refine z_ok (fun ox6 _ _ => ?_)
    have ox6 := ox6.1; unfold m_ok m_32 at ox6
    refine z_iload_n (M := M_X4_setCounting) 13 dX4_setCounting_13 rfl ?_
    refine z_ior (M := M_X4_setCounting) 14 dX4_setCounting_14 ?_
    refine z_topm (fun x7 ex7 ox7 => ?_)
    unfold m_32 at ox7
    refine z_goto (M := M_X4_setCounting) 15 dX4_setCounting_15 26 rfl ?_
    refine z_putIH (M := M_X4_setCounting) 26 dX4_setCounting_26 p_X4_49 (oL hL) rfl (uL8 hL G0) ((FR.rf (cs := []) (ss := [(L, 8)]) (h := h0)).up (by simp [fr])) (fun h2 E2 G2 R2 => ?_)
    exact z_retV (M := M_X4_setCounting) 29 dX4_setCounting_29 rfl ⟨G2, R2, by first | (left; exact ⟨by omega, (upE E2).trans (by simp only [← ex1, ← ex6, ← ex7])⟩) | (right; exact ⟨by omega, (upE E2).trans (by simp only [← ex1, ← ex6, ← ex7])⟩)⟩
abbrev P_X11_counts3 (h0 : m_H) (a1 a2 : Int) (r : Nat → Int) : Int → m_H → Prop := fun x h' => GI h' ∧ FR [107] [(0, 14), (1, 8)] h0 h' ∧ LR 1 h' (spCount a1 a2 r)
set_option maxHeartbeats 4000000 in
set_option maxRecDepth 100000 in
theorem c_X11_counts3 (h0 : m_H) (a1 a2 : Int) (r : Nat → Int) (G0 : GI h0) (Rr : LR 1 h0 r) : m_CI M_X11_counts [mR 0, mI a1, mI a2] h0 (P_X11_counts3 h0 a1 a2 r) := by
  refine m_CI_of ⟨by decide, rfl, by simp [m_arg, m_isL, M_X11_counts], ⟨rfl, rfl⟩, rfl, rfl⟩ (ls := [some (mR 0), some (mI a1), some (mI a2), none]) rfl ?_
  refine z_ok (fun _ _ ok => ?_)
  have oa1 : m_32 a1 := ok 1 _ rfl
  unfold m_32 at oa1
  have oa2 : m_32 a2 := ok 2 _ rfl
  unfold m_32 at oa2
  refine z_iload_n (M := M_X11_counts) 0 dX11_counts_0 rfl ?_
  refine z_iconst (M := M_X11_counts) 1 dX11_counts_1 ?_
  refine z_bipush (M := M_X11_counts) 2 dX11_counts_2 ?_
  refine z_sI (M := M_X11_counts) 4 dX11_counts_4 t_X11_within l_X11_112 (m_rr_of rfl) (rest := []) (c_X11_within h0 a1 0 23 G0) rfl rfl (Nat.le_of_ble_eq_true rfl) ⟨rfl, rfl⟩ (fun x1 h1 qx1 => ?_)
  obtain ⟨rfl, ⟨rfl, cx1⟩ | ⟨rfl, cx1⟩⟩ := qx1
  · refine z_if_eq_F (M := M_X11_counts) 7 dX11_counts_7 19 rfl (by omega) ?_
    refine z_iload_n (M := M_X11_counts) 10 dX11_counts_10 rfl ?_
    refine z_iconst (M := M_X11_counts) 11 dX11_counts_11 ?_
    refine z_iconst (M := M_X11_counts) 12 dX11_counts_12 ?_
    refine z_sI (M := M_X11_counts) 13 dX11_counts_13 t_X11_within l_X11_112 (m_rr_of rfl) (rest := []) (c_X11_within h0 a2 0 1 G0) rfl rfl (Nat.le_of_ble_eq_true rfl) ⟨rfl, rfl⟩ (fun x2 h2 qx2 => ?_)
    obtain ⟨rfl, ⟨rfl, cx2⟩ | ⟨rfl, cx2⟩⟩ := qx2
    · refine z_if_ne_T (M := M_X11_counts) 16 dX11_counts_16 25 rfl (by omega) ?_
      refine z_iload_n (M := M_X11_counts) 25 dX11_counts_25 rfl ?_
      refine z_aload_n (M := M_X11_counts) 26 dX11_counts_26 rfl ?_
      refine z_getR (M := M_X11_counts) 27 dX11_counts_27 f_X11_12 o_0 rfl (g_0_0 G0) ?_
      refine z_getIG (M := M_X11_counts) 30 dX11_counts_30 f_X11_162 o_1 (by decide) (g_1_7 G0) (fun x3 ex3 ax3 bx3 => ?_)
      have e17_ : h0 1 7 = x3 := ex3
      have e70_ := Rr.2.2.2.2.1
      refine z_icmp_lt (M := M_X11_counts) 33 dX11_counts_33 43 rfl (fun c4 => ?_) (fun c4 => ?_)
      · refine z_aload_n (M := M_X11_counts) 43 dX11_counts_43 rfl ?_
        refine z_getR (M := M_X11_counts) 44 dX11_counts_44 f_X11_12 o_0 rfl (g_0_0 G0) ?_
        refine z_iload_n (M := M_X11_counts) 47 dX11_counts_47 rfl ?_
        refine z_vI (M := M_X11_counts) 48 dX11_counts_48 t_X4_isCounting l_X11_165 (m_rr_of rfl) (rest := []) (c_X4_isCounting h0 1 a1 (Or.inl rfl) G0) o_1 rfl rfl rfl (Nat.le_of_ble_eq_true rfl) ⟨rfl, rfl⟩ (fun x5 h3 qx5 => ?_)
        obtain ⟨G3, S3, ax5, bx5⟩ := qx5
        have R3 := (FR.rf (cs := [107]) (ss := [(0, 14), (1, 8)]) (h := h0)).call S3 (by decide +kernel)
        have LR3 : LR 1 h3 r := Rr.S S3 (by decide)
        have e58_ : h3 1 7 = h0 1 7 := S3 1 7 rfl
        refine z_if_eq (M := M_X11_counts) 51 dX11_counts_51 58 rfl (fun c6 => ?_) (fun c6 => ?_)
        · refine z_iconst (M := M_X11_counts) 58 dX11_counts_58 ?_
          refine z_istore_n (M := M_X11_counts) 59 dX11_counts_59 (ls' := [some (mR 0), some (mI a1), some (mI a2), some (mI 0)]) (by decide) rfl ?_
          refine z_aload_n (M := M_X11_counts) 60 dX11_counts_60 rfl ?_
          refine z_getR (M := M_X11_counts) 61 dX11_counts_61 f_X11_12 o_0 rfl (g_0_0 G3) ?_
          refine z_iload_n (M := M_X11_counts) 64 dX11_counts_64 rfl ?_
          refine z_iload_n (M := M_X11_counts) 65 dX11_counts_65 rfl ?_
          refine z_iconst (M := M_X11_counts) 66 dX11_counts_66 ?_
          refine z_icmp_ne (M := M_X11_counts) 67 dX11_counts_67 74 rfl (fun c7 => ?_) (fun c7 => ?_)
          · refine z_iconst (M := M_X11_counts) 74 dX11_counts_74 ?_
            refine z_vV (M := M_X11_counts) 75 dX11_counts_75 t_X4_setCounting l_X11_168 (m_rr_of rfl) (rest := []) (c_X4_setCounting2 h3 1 a1 0 (Or.inl rfl) G3 ⟨by omega, by omega⟩) o_1 rfl rfl rfl (Nat.le_of_ble_eq_true rfl) ⟨rfl, rfl⟩ (fun h4 qx8 => ?_)
            obtain ⟨G4, S4, fx8_0⟩ := qx8
            have R4 := R3.call S4 (by decide +kernel)
            have LR4 := LR.cnt (e := a1) (c := a2) LR3 (by omega) (by have := LR3.2.2.2.2.1; omega) (by rcases fx8_0 with ⟨u, v⟩ | ⟨u, v⟩; (exact Or.inl ⟨by omega, v⟩); (exact Or.inr ⟨by omega, v⟩)) (fr_up8 S4)
            refine z_aload_n (M := M_X11_counts) 78 dX11_counts_78 rfl ?_
            refine z_iload_n (M := M_X11_counts) 79 dX11_counts_79 rfl ?_
            refine z_vI (M := M_X11_counts) 80 dX11_counts_80 t_X11_accept l_X11_123 (m_rr_of rfl) (rest := []) (c_X11_accept h4 0 G4) o_0 rfl rfl rfl (Nat.le_of_ble_eq_true rfl) ⟨rfl, rfl⟩ (fun x9 h5 qx9 => ?_)
            obtain ⟨G5, S5, rfl⟩ := qx9
            have R5 := R4.call S5 (by decide +kernel)
            have LR5 : LR 1 h5 (rU r (5 * a1.toNat + 84) a2) := LR4.S S5 (by decide)
            exact z_retI (M := M_X11_counts) 83 dX11_counts_83 rfl ⟨G5, R5, by unfold spCount; rw [cif_pos (by omega)]; exact LR5⟩
          · refine z_iconst (M := M_X11_counts) 70 dX11_counts_70 ?_
            refine z_goto (M := M_X11_counts) 71 dX11_counts_71 75 rfl ?_
            refine z_vV (M := M_X11_counts) 75 dX11_counts_75 t_X4_setCounting l_X11_168 (m_rr_of rfl) (rest := []) (c_X4_setCounting2 h3 1 a1 1 (Or.inl rfl) G3 ⟨by omega, by omega⟩) o_1 rfl rfl rfl (Nat.le_of_ble_eq_true rfl) ⟨rfl, rfl⟩ (fun h6 qx10 => ?_)
            obtain ⟨G6, S6, fx10_0⟩ := qx10
            have R6 := R3.call S6 (by decide +kernel)
            have LR6 := LR.cnt (e := a1) (c := a2) LR3 (by omega) (by have := LR3.2.2.2.2.1; omega) (by rcases fx10_0 with ⟨u, v⟩ | ⟨u, v⟩; (exact Or.inl ⟨by omega, v⟩); (exact Or.inr ⟨by omega, v⟩)) (fr_up8 S6)
            refine z_aload_n (M := M_X11_counts) 78 dX11_counts_78 rfl ?_
            refine z_iload_n (M := M_X11_counts) 79 dX11_counts_79 rfl ?_
            refine z_vI (M := M_X11_counts) 80 dX11_counts_80 t_X11_accept l_X11_123 (m_rr_of rfl) (rest := []) (c_X11_accept h6 0 G6) o_0 rfl rfl rfl (Nat.le_of_ble_eq_true rfl) ⟨rfl, rfl⟩ (fun x11 h7 qx11 => ?_)
            obtain ⟨G7, S7, rfl⟩ := qx11
            have R7 := R6.call S7 (by decide +kernel)
            have LR7 : LR 1 h7 (rU r (5 * a1.toNat + 84) a2) := LR6.S S7 (by decide)
            exact z_retI (M := M_X11_counts) 83 dX11_counts_83 rfl ⟨G7, R7, by unfold spCount; rw [cif_pos (by omega)]; exact LR7⟩
        · refine z_iconst (M := M_X11_counts) 54 dX11_counts_54 ?_
          refine z_goto (M := M_X11_counts) 55 dX11_counts_55 59 rfl ?_
          refine z_istore_n (M := M_X11_counts) 59 dX11_counts_59 (ls' := [some (mR 0), some (mI a1), some (mI a2), some (mI 1)]) (by decide) rfl ?_
          refine z_aload_n (M := M_X11_counts) 60 dX11_counts_60 rfl ?_
          refine z_getR (M := M_X11_counts) 61 dX11_counts_61 f_X11_12 o_0 rfl (g_0_0 G3) ?_
          refine z_iload_n (M := M_X11_counts) 64 dX11_counts_64 rfl ?_
          refine z_iload_n (M := M_X11_counts) 65 dX11_counts_65 rfl ?_
          refine z_iconst (M := M_X11_counts) 66 dX11_counts_66 ?_
          refine z_icmp_ne (M := M_X11_counts) 67 dX11_counts_67 74 rfl (fun c12 => ?_) (fun c12 => ?_)
          · refine z_iconst (M := M_X11_counts) 74 dX11_counts_74 ?_
            refine z_vV (M := M_X11_counts) 75 dX11_counts_75 t_X4_setCounting l_X11_168 (m_rr_of rfl) (rest := []) (c_X4_setCounting2 h3 1 a1 0 (Or.inl rfl) G3 ⟨by omega, by omega⟩) o_1 rfl rfl rfl (Nat.le_of_ble_eq_true rfl) ⟨rfl, rfl⟩ (fun h8 qx13 => ?_)
            obtain ⟨G8, S8, fx13_0⟩ := qx13
            have R8 := R3.call S8 (by decide +kernel)
            have LR8 := LR.cnt (e := a1) (c := a2) LR3 (by omega) (by have := LR3.2.2.2.2.1; omega) (by rcases fx13_0 with ⟨u, v⟩ | ⟨u, v⟩; (exact Or.inl ⟨by omega, v⟩); (exact Or.inr ⟨by omega, v⟩)) (fr_up8 S8)
            refine z_aload_n (M := M_X11_counts) 78 dX11_counts_78 rfl ?_
            refine z_iload_n (M := M_X11_counts) 79 dX11_counts_79 rfl ?_
            refine z_vI (M := M_X11_counts) 80 dX11_counts_80 t_X11_accept l_X11_123 (m_rr_of rfl) (rest := []) (c_X11_accept h8 1 G8) o_0 rfl rfl rfl (Nat.le_of_ble_eq_true rfl) ⟨rfl, rfl⟩ (fun x14 h9 qx14 => ?_)
            obtain ⟨G9, S9, rfl⟩ := qx14
            have R9 := R8.call S9 (by decide +kernel)
            have LR9 : LR 1 h9 (rU r (5 * a1.toNat + 84) a2) := LR8.S S9 (by decide)
            exact z_retI (M := M_X11_counts) 83 dX11_counts_83 rfl ⟨G9, R9, by unfold spCount; rw [cif_pos (by omega)]; exact LR9⟩
          · refine z_iconst (M := M_X11_counts) 70 dX11_counts_70 ?_
            refine z_goto (M := M_X11_counts) 71 dX11_counts_71 75 rfl ?_
            refine z_vV (M := M_X11_counts) 75 dX11_counts_75 t_X4_setCounting l_X11_168 (m_rr_of rfl) (rest := []) (c_X4_setCounting2 h3 1 a1 1 (Or.inl rfl) G3 ⟨by omega, by omega⟩) o_1 rfl rfl rfl (Nat.le_of_ble_eq_true rfl) ⟨rfl, rfl⟩ (fun h10 qx15 => ?_)
            obtain ⟨G10, S10, fx15_0⟩ := qx15
            have R10 := R3.call S10 (by decide +kernel)
            have LR10 := LR.cnt (e := a1) (c := a2) LR3 (by omega) (by have := LR3.2.2.2.2.1; omega) (by rcases fx15_0 with ⟨u, v⟩ | ⟨u, v⟩; (exact Or.inl ⟨by omega, v⟩); (exact Or.inr ⟨by omega, v⟩)) (fr_up8 S10)
            refine z_aload_n (M := M_X11_counts) 78 dX11_counts_78 rfl ?_
            refine z_iload_n (M := M_X11_counts) 79 dX11_counts_79 rfl ?_
            refine z_vI (M := M_X11_counts) 80 dX11_counts_80 t_X11_accept l_X11_123 (m_rr_of rfl) (rest := []) (c_X11_accept h10 1 G10) o_0 rfl rfl rfl (Nat.le_of_ble_eq_true rfl) ⟨rfl, rfl⟩ (fun x16 h11 qx16 => ?_)
            obtain ⟨G11, S11, rfl⟩ := qx16
            have R11 := R10.call S11 (by decide +kernel)
            have LR11 : LR 1 h11 (rU r (5 * a1.toNat + 84) a2) := LR10.S S11 (by decide)
            exact z_retI (M := M_X11_counts) 83 dX11_counts_83 rfl ⟨G11, R11, by unfold spCount; rw [cif_pos (by omega)]; exact LR11⟩
      · refine z_aload_n (M := M_X11_counts) 36 dX11_counts_36 rfl ?_
        refine z_bipush (M := M_X11_counts) 37 dX11_counts_37 ?_
        refine z_vI (M := M_X11_counts) 39 dX11_counts_39 t_X11_refuse l_X11_116 (m_rr_of rfl) (rest := []) (c_X11_refuse h0 (-2) G0 ⟨by omega, by omega⟩) o_0 rfl rfl rfl (Nat.le_of_ble_eq_true rfl) ⟨rfl, rfl⟩ (fun x17 h12 qx17 => ?_)
        obtain ⟨G12, S12, rfl⟩ := qx17
        have R12 := (FR.rf (cs := [107]) (ss := [(0, 14), (1, 8)]) (h := h0)).call S12 (by decide +kernel)
        have LR12 : LR 1 h12 r := Rr.S S12 (by decide)
        exact z_retI (M := M_X11_counts) 42 dX11_counts_42 rfl ⟨G12, R12, by unfold spCount; rw [cif_neg (by have := Rr.1; unfold RB at this; omega)]; exact LR12⟩
    · refine z_if_ne_F (M := M_X11_counts) 16 dX11_counts_16 25 rfl (by omega) ?_
      refine z_aload_n (M := M_X11_counts) 19 dX11_counts_19 rfl ?_
      refine z_iconst (M := M_X11_counts) 20 dX11_counts_20 ?_
      refine z_vI (M := M_X11_counts) 21 dX11_counts_21 t_X11_refuse l_X11_116 (m_rr_of rfl) (rest := []) (c_X11_refuse h0 (-1) G0 ⟨by omega, by omega⟩) o_0 rfl rfl rfl (Nat.le_of_ble_eq_true rfl) ⟨rfl, rfl⟩ (fun x18 h13 qx18 => ?_)
      obtain ⟨G13, S13, rfl⟩ := qx18
      have R13 := (FR.rf (cs := [107]) (ss := [(0, 14), (1, 8)]) (h := h0)).call S13 (by decide +kernel)
      have LR13 : LR 1 h13 r := Rr.S S13 (by decide)
      exact z_retI (M := M_X11_counts) 24 dX11_counts_24 rfl ⟨G13, R13, by unfold spCount; rw [cif_neg (by have := Rr.1; unfold RB at this; omega)]; exact LR13⟩
  · refine z_if_eq_T (M := M_X11_counts) 7 dX11_counts_7 19 rfl (by omega) ?_
    refine z_aload_n (M := M_X11_counts) 19 dX11_counts_19 rfl ?_
    refine z_iconst (M := M_X11_counts) 20 dX11_counts_20 ?_
    refine z_vI (M := M_X11_counts) 21 dX11_counts_21 t_X11_refuse l_X11_116 (m_rr_of rfl) (rest := []) (c_X11_refuse h0 (-1) G0 ⟨by omega, by omega⟩) o_0 rfl rfl rfl (Nat.le_of_ble_eq_true rfl) ⟨rfl, rfl⟩ (fun x19 h14 qx19 => ?_)
    obtain ⟨G14, S14, rfl⟩ := qx19
    have R14 := (FR.rf (cs := [107]) (ss := [(0, 14), (1, 8)]) (h := h0)).call S14 (by decide +kernel)
    have LR14 : LR 1 h14 r := Rr.S S14 (by decide)
    exact z_retI (M := M_X11_counts) 24 dX11_counts_24 rfl ⟨G14, R14, by unfold spCount; rw [cif_neg (by have := Rr.1; unfold RB at this; omega)]; exact LR14⟩
def tfQ (b : Nat → Int) (n k : Int) (r : Nat → Int) (x : Int) (h' : m_H) : Prop := (x = 1 ∧ ((k + 3 < n ∧ r 0 ≤ 23) ∧ canE (b k.toNat) (b (k + 1).toNat) (b (k + 2).toNat) (b (k + 3).toNat)) ∧ LR 1 h' (rE r (b k.toNat) (b (k + 1).toNat) (b (k + 2).toNat) (b (k + 3).toNat))) ∨ (x = 0 ∧ ¬ ((k + 3 < n ∧ r 0 ≤ 23) ∧ canE (b k.toNat) (b (k + 1).toNat) (b (k + 2).toNat) (b (k + 3).toNat)) ∧ LR 1 h' r)
abbrev P_X11_takeFromRow3 (h0 : m_H) (a1 : Int) (r : Nat → Int) : Int → m_H → Prop := fun x h' => GI h' ∧ FR [4, 5, 6, 7] [(1, 7), (1, 8)] h0 h' ∧ tfQ (h0 36) (h0 35 1) a1 r x h'
set_option maxHeartbeats 4000000 in
set_option maxRecDepth 100000 in
theorem c_X11_takeFromRow3 (h0 : m_H) (a1 : Int) (r : Nat → Int) (G0 : GI h0) (pa1 : 0 ≤ a1 ∧ a1 ≤ 400) (Rr : LR 1 h0 r) : m_CI M_X11_takeFromRow [mR 0, mI a1] h0 (P_X11_takeFromRow3 h0 a1 r) := by
  refine m_CI_of ⟨by decide, rfl, by simp [m_arg, m_isL, M_X11_takeFromRow], ⟨rfl, rfl⟩, rfl, rfl⟩ (ls := [some (mR 0), some (mI a1), none, none, none, none]) rfl ?_
  refine z_iload_n (M := M_X11_takeFromRow) 0 dX11_takeFromRow_0 rfl ?_
  refine z_iconst (M := M_X11_takeFromRow) 1 dX11_takeFromRow_1 ?_
  refine z_iaddN (M := M_X11_takeFromRow) 2 dX11_takeFromRow_2 (by omega) (by omega) ?_
  refine z_aload_n (M := M_X11_takeFromRow) 3 dX11_takeFromRow_3 rfl ?_
  refine z_getR (M := M_X11_takeFromRow) 4 dX11_takeFromRow_4 f_X11_30 o_0 rfl (g_0_4 G0) ?_
  refine z_getIG (M := M_X11_takeFromRow) 7 dX11_takeFromRow_7 f_X11_187 o_35 (by decide) (g_35_1 G0) (fun x1 ex1 ax1 bx1 => ?_)
  have n_ : h0 35 1 = x1 := ex1
  refine z_icmp_le (M := M_X11_takeFromRow) 10 dX11_takeFromRow_10 15 rfl (fun c2 => ?_) (fun c2 => ?_)
  · refine z_aload_n (M := M_X11_takeFromRow) 15 dX11_takeFromRow_15 rfl ?_
    refine z_getR (M := M_X11_takeFromRow) 16 dX11_takeFromRow_16 f_X11_30 o_0 rfl (g_0_4 G0) ?_
    refine z_getR (M := M_X11_takeFromRow) 19 dX11_takeFromRow_19 f_X11_424 o_35 rfl (g_35_0 G0) ?_
    refine z_iload_n (M := M_X11_takeFromRow) 22 dX11_takeFromRow_22 rfl ?_
    refine z_ialdG (M := M_X11_takeFromRow) 23 dX11_takeFromRow_23 o_36 (by omega) (by omega) (g_36 G0 (by omega)) (fun x3 ex3 ax3 bx3 => ?_)
    refine z_istore_n (M := M_X11_takeFromRow) 24 dX11_takeFromRow_24 (ls' := [some (mR 0), some (mI a1), some (mI x3), none, none, none]) (by decide) rfl ?_
    refine z_aload_n (M := M_X11_takeFromRow) 25 dX11_takeFromRow_25 rfl ?_
    refine z_getR (M := M_X11_takeFromRow) 26 dX11_takeFromRow_26 f_X11_30 o_0 rfl (g_0_4 G0) ?_
    refine z_getR (M := M_X11_takeFromRow) 29 dX11_takeFromRow_29 f_X11_424 o_35 rfl (g_35_0 G0) ?_
    refine z_iload_n (M := M_X11_takeFromRow) 32 dX11_takeFromRow_32 rfl ?_
    refine z_iconst (M := M_X11_takeFromRow) 33 dX11_takeFromRow_33 ?_
    refine z_iaddN (M := M_X11_takeFromRow) 34 dX11_takeFromRow_34 (by omega) (by omega) ?_
    refine z_ialdG (M := M_X11_takeFromRow) 35 dX11_takeFromRow_35 o_36 (by omega) (by omega) (g_36 G0 (by omega)) (fun x4 ex4 ax4 bx4 => ?_)
    refine z_istore_n (M := M_X11_takeFromRow) 36 dX11_takeFromRow_36 (ls' := [some (mR 0), some (mI a1), some (mI x3), some (mI x4), none, none]) (by decide) rfl ?_
    refine z_aload_n (M := M_X11_takeFromRow) 37 dX11_takeFromRow_37 rfl ?_
    refine z_getR (M := M_X11_takeFromRow) 38 dX11_takeFromRow_38 f_X11_30 o_0 rfl (g_0_4 G0) ?_
    refine z_getR (M := M_X11_takeFromRow) 41 dX11_takeFromRow_41 f_X11_424 o_35 rfl (g_35_0 G0) ?_
    refine z_iload_n (M := M_X11_takeFromRow) 44 dX11_takeFromRow_44 rfl ?_
    refine z_iconst (M := M_X11_takeFromRow) 45 dX11_takeFromRow_45 ?_
    refine z_iaddN (M := M_X11_takeFromRow) 46 dX11_takeFromRow_46 (by omega) (by omega) ?_
    refine z_ialdG (M := M_X11_takeFromRow) 47 dX11_takeFromRow_47 o_36 (by omega) (by omega) (g_36 G0 (by omega)) (fun x5 ex5 ax5 bx5 => ?_)
    refine z_istore (M := M_X11_takeFromRow) 48 dX11_takeFromRow_48 (ls' := [some (mR 0), some (mI a1), some (mI x3), some (mI x4), some (mI x5), none]) (by decide) rfl ?_
    refine z_aload_n (M := M_X11_takeFromRow) 50 dX11_takeFromRow_50 rfl ?_
    refine z_getR (M := M_X11_takeFromRow) 51 dX11_takeFromRow_51 f_X11_30 o_0 rfl (g_0_4 G0) ?_
    refine z_getR (M := M_X11_takeFromRow) 54 dX11_takeFromRow_54 f_X11_424 o_35 rfl (g_35_0 G0) ?_
    refine z_iload_n (M := M_X11_takeFromRow) 57 dX11_takeFromRow_57 rfl ?_
    refine z_iconst (M := M_X11_takeFromRow) 58 dX11_takeFromRow_58 ?_
    refine z_iaddN (M := M_X11_takeFromRow) 59 dX11_takeFromRow_59 (by omega) (by omega) ?_
    refine z_ialdG (M := M_X11_takeFromRow) 60 dX11_takeFromRow_60 o_36 (by omega) (by omega) (g_36 G0 (by omega)) (fun x6 ex6 ax6 bx6 => ?_)
    refine z_istore (M := M_X11_takeFromRow) 61 dX11_takeFromRow_61 (ls' := [some (mR 0), some (mI a1), some (mI x3), some (mI x4), some (mI x5), some (mI x6)]) (by decide) rfl ?_
    refine z_iload_n (M := M_X11_takeFromRow) 63 dX11_takeFromRow_63 rfl ?_
    refine z_iload_n (M := M_X11_takeFromRow) 64 dX11_takeFromRow_64 rfl ?_
    refine z_iload (M := M_X11_takeFromRow) 65 dX11_takeFromRow_65 rfl ?_
    refine z_iload (M := M_X11_takeFromRow) 67 dX11_takeFromRow_67 rfl ?_
    refine z_sI (M := M_X11_takeFromRow) 69 dX11_takeFromRow_69 t_X11_isEntry l_X11_151 (m_rr_of rfl) (rest := []) (c_X11_isEntry h0 x3 x4 x5 x6 G0) rfl rfl (Nat.le_of_ble_eq_true rfl) ⟨rfl, rfl⟩ (fun x7 h1 qx7 => ?_)
    obtain ⟨rfl, ⟨rfl, cx7⟩ | ⟨rfl, cx7⟩⟩ := qx7
    · refine z_if_eq_F (M := M_X11_takeFromRow) 72 dX11_takeFromRow_72 85 rfl (by omega) ?_
      refine z_aload_n (M := M_X11_takeFromRow) 75 dX11_takeFromRow_75 rfl ?_
      refine z_getR (M := M_X11_takeFromRow) 76 dX11_takeFromRow_76 f_X11_12 o_0 rfl (g_0_0 G0) ?_
      refine z_vI (M := M_X11_takeFromRow) 79 dX11_takeFromRow_79 t_X4_hasRoom l_X11_155 (m_rr_of rfl) (rest := []) (c_X4_hasRoom h0 1 (Or.inl rfl) G0) o_1 rfl rfl rfl (Nat.le_of_ble_eq_true rfl) ⟨rfl, rfl⟩ (fun x8 h2 qx8 => ?_)
      obtain ⟨rfl, ⟨rfl, cx8⟩ | ⟨rfl, cx8⟩⟩ := qx8
      · refine z_if_ne_T (M := M_X11_takeFromRow) 82 dX11_takeFromRow_82 87 rfl (by omega) ?_
        refine z_aload_n (M := M_X11_takeFromRow) 87 dX11_takeFromRow_87 rfl ?_
        refine z_getR (M := M_X11_takeFromRow) 88 dX11_takeFromRow_88 f_X11_12 o_0 rfl (g_0_0 G0) ?_
        refine z_iload_n (M := M_X11_takeFromRow) 91 dX11_takeFromRow_91 rfl ?_
        refine z_iload_n (M := M_X11_takeFromRow) 92 dX11_takeFromRow_92 rfl ?_
        refine z_iload (M := M_X11_takeFromRow) 93 dX11_takeFromRow_93 rfl ?_
        refine z_iload (M := M_X11_takeFromRow) 95 dX11_takeFromRow_95 rfl ?_
        refine z_vV (M := M_X11_takeFromRow) 97 dX11_takeFromRow_97 t_X4_addEntry l_X11_158 (m_rr_of rfl) (rest := []) (c_X4_addEntry2 h0 1 x3 x4 x5 x6 (Or.inl rfl) G0 ⟨by omega, by omega⟩ ⟨by omega, by omega⟩ ⟨by omega, by omega⟩ ⟨by omega, by omega⟩) o_1 rfl rfl rfl (Nat.le_of_ble_eq_true rfl) ⟨rfl, rfl⟩ (fun h3 qx9 => ?_)
        obtain ⟨G3, S3, fx9_0⟩ := qx9
        have R3 := (FR.rf (cs := [4, 5, 6, 7]) (ss := [(1, 7), (1, 8)]) (h := h0)).call S3 (by decide +kernel)
        have LR3 := fx9_0 r Rr (by have := Rr.2.2.2.2.1; omega)
        refine z_iconst (M := M_X11_takeFromRow) 100 dX11_takeFromRow_100 ?_
        exact z_retZ (M := M_X11_takeFromRow) 101 dX11_takeFromRow_101 rfl (by omega) ⟨G3, R3, Or.inl ⟨rfl, ⟨⟨by omega, by have := Rr.2.2.2.2.1; omega⟩, (by unfold canE; rw [ex3, ex4, ex5, ex6]; omega)⟩, (by rw [ex3, ex4, ex5, ex6]; exact LR3)⟩⟩
      · refine z_if_ne_F (M := M_X11_takeFromRow) 82 dX11_takeFromRow_82 87 rfl (by omega) ?_
        refine z_iconst (M := M_X11_takeFromRow) 85 dX11_takeFromRow_85 ?_
        exact z_retZ (M := M_X11_takeFromRow) 86 dX11_takeFromRow_86 rfl (by omega) ⟨G0, (FR.rf (cs := [4, 5, 6, 7]) (ss := [(1, 7), (1, 8)]) (h := h0)), Or.inr ⟨rfl, fun z => by have b23_ : h0 36 a1.toNat = x3 := ex3; have b35_ : h0 36 (a1 + 1).toNat = x4 := ex4; have b47_ : h0 36 (a1 + 2).toNat = x5 := ex5; have b60_ : h0 36 (a1 + 3).toNat = x6 := ex6; have z2 := z.2; unfold canE at z2; have z3 := z.1.2; have n7_ := Rr.2.2.2.2.1; omega, Rr⟩⟩
    · refine z_if_eq_T (M := M_X11_takeFromRow) 72 dX11_takeFromRow_72 85 rfl (by omega) ?_
      refine z_iconst (M := M_X11_takeFromRow) 85 dX11_takeFromRow_85 ?_
      exact z_retZ (M := M_X11_takeFromRow) 86 dX11_takeFromRow_86 rfl (by omega) ⟨G0, (FR.rf (cs := [4, 5, 6, 7]) (ss := [(1, 7), (1, 8)]) (h := h0)), Or.inr ⟨rfl, fun z => by have b23_ : h0 36 a1.toNat = x3 := ex3; have b35_ : h0 36 (a1 + 1).toNat = x4 := ex4; have b47_ : h0 36 (a1 + 2).toNat = x5 := ex5; have b60_ : h0 36 (a1 + 3).toNat = x6 := ex6; have z2 := z.2; unfold canE at z2; have z3 := z.1.2; have n7_ := Rr.2.2.2.2.1; omega, Rr⟩⟩
  · refine z_iconst (M := M_X11_takeFromRow) 13 dX11_takeFromRow_13 ?_
    exact z_retZ (M := M_X11_takeFromRow) 14 dX11_takeFromRow_14 rfl (by omega) ⟨G0, (FR.rf (cs := [4, 5, 6, 7]) (ss := [(1, 7), (1, 8)]) (h := h0)), Or.inr ⟨rfl, fun z => by have := z.1.1; omega, Rr⟩⟩
theorem tf_c {b : Nat → Int} {n k : Int} {r : Nat → Int} {x : Int} {h h' : m_H} (eb : h 36 = b) (en : h 35 1 = n) (T : tfQ (h 36) (h 35 1) k r x h') : tfQ b n k r x h' := by subst eb en; exact T
theorem rw_y {b : Nat → Int} {n k : Int} {r : Nat → Int} {i : Nat} (e : k = 4 * (i : Int)) (c : (k + 3 < n ∧ (rwL b n r i).2.2 0 ≤ 23) ∧ canE (b k.toNat) (b (k + 1).toNat) (b (k + 2).toNat) (b (k + 3).toNat)) : rwL b n r (i + 1) = ((rwL b n r i).1 + 1, (rwL b n r i).2.1, rE (rwL b n r i).2.2 (b k.toNat) (b (k + 1).toNat) (b (k + 2).toNat) (b (k + 3).toNat)) := by rw [rwL_s e]; exact cif_pos c
theorem rw_n {b : Nat → Int} {n k : Int} {r : Nat → Int} {i : Nat} (e : k = 4 * (i : Int)) (c : ¬ ((k + 3 < n ∧ (rwL b n r i).2.2 0 ≤ 23) ∧ canE (b k.toNat) (b (k + 1).toNat) (b (k + 2).toNat) (b (k + 3).toNat))) : rwL b n r (i + 1) = ((rwL b n r i).1, (rwL b n r i).2.1 + 1, (rwL b n r i).2.2) := by rw [rwL_s e]; exact cif_neg c
abbrev P_X11_row3 (h0 : m_H) (r : Nat → Int) : Int → m_H → Prop := fun x h' => GI h' ∧ FR [4, 5, 6, 7, 107] [(0, 14), (0, 15), (1, 7), (1, 8), (35, 1)] h0 h' ∧ h' 35 1 = 0 ∧ rwQ (h0 36) (h0 35 1) r x (h0 0 15) (h' 0 15) h'
def q_X11_row3 (h0 : m_H) (r : Nat → Int) (n : Nat) : Prop := (∀ (l1 l2 y_35_1 : Int) (h : m_H), GI h → FR [4, 5, 6, 7, 107] [(0, 14), (0, 15), (1, 7), (1, 8), (35, 1)] h0 h → 0 ≤ l1 → l1 ≤ 24 → 0 ≤ l2 → l2 ≤ 403 → 0 ≤ y_35_1 → y_35_1 ≤ 400 → (h 35 1 = y_35_1) → (∃ i : Nat, l2 = 4 * (i : Int) ∧ LR 1 h (rwL (h0 36) (h0 35 1) r i).2.2 ∧ h 0 15 = (rwL (h0 36) (h0 35 1) r i).2.1) → (y_35_1 = h0 35 1) → (l1 = r 0) → (l2 ≤ y_35_1 + 3 ∧ h0 35 1 ≠ 0) → 2 * (403 - l2) + (1) ≤ (n : Int) → m_Z oF M_X11_row 32 [some (mR 0), some (mI l1), some (mI l2)] [] h (m_QI (P_X11_row3 h0 r)))
set_option maxHeartbeats 4000000 in
set_option maxRecDepth 100000 in
theorem s_X11_row3_32 (h0 : m_H) (r : Nat → Int) (G0 : GI h0) (Rr : LR 1 h0 r) (n : Nat) (ih : q_X11_row3 h0 r n) : ∀ (l1 l2 y_35_1 : Int) (h : m_H), GI h → FR [4, 5, 6, 7, 107] [(0, 14), (0, 15), (1, 7), (1, 8), (35, 1)] h0 h → 0 ≤ l1 → l1 ≤ 24 → 0 ≤ l2 → l2 ≤ 403 → 0 ≤ y_35_1 → y_35_1 ≤ 400 → (h 35 1 = y_35_1) → (∃ i : Nat, l2 = 4 * (i : Int) ∧ LR 1 h (rwL (h0 36) (h0 35 1) r i).2.2 ∧ h 0 15 = (rwL (h0 36) (h0 35 1) r i).2.1) → (y_35_1 = h0 35 1) → (l1 = r 0) → (l2 ≤ y_35_1 + 3 ∧ h0 35 1 ≠ 0) → 2 * (403 - l2) + (1) ≤ ((n + 1 : Nat) : Int) → m_Z oF M_X11_row 32 [some (mR 0), some (mI l1), some (mI l2)] [] h (m_QI (P_X11_row3 h0 r)) := by
  intro l1 l2 y_35_1 h G R v0 v1 v2 v3 v4 v5 t_35_1 i0 i1 i2 i3 hr
  obtain ⟨i_, ki_, Li_, bi_⟩ := i0
  refine z_iload_n (M := M_X11_row) 32 dX11_row_32 rfl ?_
  refine z_aload_n (M := M_X11_row) 33 dX11_row_33 rfl ?_
  refine z_getR (M := M_X11_row) 34 dX11_row_34 f_X11_30 o_0 rfl (g_0_4 G) ?_
  refine z_getIE (M := M_X11_row) 37 dX11_row_37 f_X11_187 o_35 (by decide) t_35_1 ?_
  refine z_icmp_ge (M := M_X11_row) 40 dX11_row_40 67 rfl (fun c1 => ?_) (fun c1 => ?_)
  · refine z_aload_n (M := M_X11_row) 67 dX11_row_67 rfl ?_
    refine z_getR (M := M_X11_row) 68 dX11_row_68 f_X11_30 o_0 rfl (g_0_4 G) ?_
    refine z_iconst (M := M_X11_row) 71 dX11_row_71 ?_
    refine z_putIH (M := M_X11_row) 72 dX11_row_72 p_X11_187 o_35 rfl (u_35_1 G (by omega) (by omega)) (R.up rfl) (fun h1 E1 G1 R1 => ?_)
    refine z_aload_n (M := M_X11_row) 75 dX11_row_75 rfl ?_
    refine z_aload_n (M := M_X11_row) 76 dX11_row_76 rfl ?_
    refine z_getR (M := M_X11_row) 77 dX11_row_77 f_X11_12 o_0 rfl (g_0_0 G1) ?_
    refine z_getIG (M := M_X11_row) 80 dX11_row_80 f_X11_162 o_1 (by decide) (g_1_7 G1) (fun x2 ex2 ax2 bx2 => ?_)
    refine z_iload_n (M := M_X11_row) 83 dX11_row_83 rfl ?_
    refine z_isubN (M := M_X11_row) 84 dX11_row_84 (by omega) (by omega) ?_
    refine z_vI (M := M_X11_row) 85 dX11_row_85 t_X11_accept l_X11_123 (m_rr_of rfl) (rest := []) (c_X11_accept h1 (x2 - l1) G1) o_0 rfl rfl rfl (Nat.le_of_ble_eq_true rfl) ⟨rfl, rfl⟩ (fun x3 h2 qx3 => ?_)
    obtain ⟨G2, S2, rfl⟩ := qx3
    have R2 := R1.call S2 (by decide +kernel)
    have hi_ : rwN (h0 35 1) = i_ := by unfold rwN; omega
    have e0_ := rwL_0 (b := h0 36) (n := h0 35 1) (r := r) i_
    have le_ : x2 = (rwL (h0 36) (h0 35 1) r i_).2.2 0 := ex2.symm.trans ((upN E1 (by decide)).trans Li_.2.2.2.2.1)
    exact z_retI (M := M_X11_row) 88 dX11_row_88 rfl ⟨G2, R2, (S2 35 1 rfl).trans (upE E1), Or.inr ⟨by omega, by rw [hi_]; omega, by rw [hi_]; exact (S2 0 15 rfl).trans ((upN E1 (by decide)).trans bi_), by rw [hi_]; exact (Li_.same (fun i hi j => tl_o E1 (by omega) j) (fun _ _ => rfl)).S S2 (by decide)⟩⟩
  · refine z_aload_n (M := M_X11_row) 43 dX11_row_43 rfl ?_
    refine z_iload_n (M := M_X11_row) 44 dX11_row_44 rfl ?_
    refine z_vI (M := M_X11_row) 45 dX11_row_45 t_X11_takeFromRow l_X11_194 (m_rr_of rfl) (rest := []) (c_X11_takeFromRow3 h l2 (rwL (h0 36) (h0 35 1) r i_).2.2 G ⟨by omega, by omega⟩ Li_) o_0 rfl rfl rfl (Nat.le_of_ble_eq_true rfl) ⟨rfl, rfl⟩ (fun x4 h3 qx4 => ?_)
    obtain ⟨G3, S3, Kx4⟩ := qx4
    have R3 := R.call S3 (by decide +kernel)
    rcases tf_c (rowz R (fun _ => rfl)) (t_35_1.trans i1) Kx4 with ⟨rfl, Cx4, Lx4⟩ | ⟨rfl, Cx4, Lx4⟩
    · refine z_if_ne_T (M := M_X11_row) 48 dX11_row_48 61 rfl (by omega) ?_
      refine z_iincN (M := M_X11_row) 61 dX11_row_61 (ls' := [some (mR 0), some (mI l1), some (mI (l2 + 4))]) (by decide) rfl (by (unfold m_32; decide)) (by omega) (by omega) rfl ?_
      refine z_goto (M := M_X11_row) 64 dX11_row_64 32 rfl ?_
      exact z_mask [true, true, true] rfl (ih l1 (l2 + 4) y_35_1 h3 G3 R3 (by omega) (by omega) (by omega) (by omega) (by omega) (by omega) ((S3 35 1 rfl).trans t_35_1) ⟨i_ + 1, (by omega), (by rw [rw_y ki_ Cx4]; exact Lx4), (by rw [rw_y ki_ Cx4]; exact (S3 0 15 rfl).trans bi_)⟩ (by omega) i2 (by omega) (by omega))
    · refine z_if_ne_F (M := M_X11_row) 48 dX11_row_48 61 rfl (by omega) ?_
      refine z_aload_n (M := M_X11_row) 51 dX11_row_51 rfl ?_
      refine z_dup (M := M_X11_row) 52 dX11_row_52 rfl ?_
      refine z_getIV (M := M_X11_row) 53 dX11_row_53 f_X11_102 o_0 (by decide) (fun x5 ex5 => ?_)
      refine z_ok (fun ox5 _ _ => ?_)
      have ox5 := ox5.1; unfold m_ok m_32 at ox5
      refine z_iconst (M := M_X11_row) 56 dX11_row_56 ?_
      have rb_ := rwL_b (b := h0 36) (n := h0 35 1) (r := r) i_
      have x5_ : x5 = (rwL (h0 36) (h0 35 1) r i_).2.1 := ex5.symm.trans ((S3 0 15 rfl).trans bi_)
      refine z_iaddN (M := M_X11_row) 57 dX11_row_57 (by omega) (by omega) ?_
      refine z_topBI (lo := 1) (hi := 102) ⟨by omega, by omega⟩ (fun x6 ex6 ax6 bx6 => ?_)
      refine z_putIH (M := M_X11_row) 58 dX11_row_58 p_X11_102 o_0 rfl (u_0_15 G3) (R3.up rfl) (fun h4 E4 G4 R4 => ?_)
      refine z_iincN (M := M_X11_row) 61 dX11_row_61 (ls' := [some (mR 0), some (mI l1), some (mI (l2 + 4))]) (by decide) rfl (by (unfold m_32; decide)) (by omega) (by omega) rfl ?_
      refine z_goto (M := M_X11_row) 64 dX11_row_64 32 rfl ?_
      exact z_mask [true, true, true] rfl (ih l1 (l2 + 4) y_35_1 h4 G4 R4 (by omega) (by omega) (by omega) (by omega) (by omega) (by omega) ((upN E4 (fun q => absurd q.1 (by decide))).trans ((S3 35 1 rfl).trans t_35_1)) ⟨i_ + 1, (by omega), (by rw [rw_n ki_ Cx4]; exact Lx4.same (fun i hi j => tl_o E4 (by omega) j) (fun _ _ => rfl)), (by rw [rw_n ki_ Cx4]; show _ = _ + 1; rw [upE E4, ← bi_]; have z_ := S3 0 15 rfl; have w_ := ex5; omega)⟩ (by omega) i2 (by omega) (by omega))
theorem a_X11_row3 (h0 : m_H) (r : Nat → Int) (G0 : GI h0) (Rr : LR 1 h0 r) : ∀ n, q_X11_row3 h0 r n := by
  intro n
  induction n with
  | zero => unfold q_X11_row3; intros; omega
  | succ n ih => exact s_X11_row3_32 h0 r G0 Rr n ih
set_option maxHeartbeats 4000000 in
set_option maxRecDepth 100000 in
theorem c_X11_row3 (h0 : m_H) (r : Nat → Int) (G0 : GI h0) (Rr : LR 1 h0 r) : m_CI M_X11_row [mR 0] h0 (P_X11_row3 h0 r) := by
  refine m_CI_of ⟨by decide, rfl, by simp [m_arg, m_isL, M_X11_row], ⟨rfl, rfl⟩, rfl, rfl⟩ (ls := [some (mR 0), none, none]) rfl ?_
  have ih := a_X11_row3 h0 r G0 Rr 814
  obtain ⟨x1, ex1⟩ : ∃ y : Int, h0 35 1 = y := ⟨_, rfl⟩
  have bx1 : 0 ≤ x1 ∧ x1 ≤ 400 := ex1 ▸ g_35_1 G0
  refine z_aload_n (M := M_X11_row) 0 dX11_row_0 rfl ?_
  refine z_getR (M := M_X11_row) 1 dX11_row_1 f_X11_30 o_0 rfl (g_0_4 G0) ?_
  refine z_getIE (M := M_X11_row) 4 dX11_row_4 f_X11_187 o_35 (by decide) ex1 ?_
  refine z_if_ne (M := M_X11_row) 7 dX11_row_7 17 rfl (fun c2 => ?_) (fun c2 => ?_)
  · refine z_aload_n (M := M_X11_row) 17 dX11_row_17 rfl ?_
    refine z_getR (M := M_X11_row) 18 dX11_row_18 f_X11_12 o_0 rfl (g_0_0 G0) ?_
    refine z_getIG (M := M_X11_row) 21 dX11_row_21 f_X11_162 o_1 (by decide) (g_1_7 G0) (fun x3 ex3 ax3 bx3 => ?_)
    refine z_istore_n (M := M_X11_row) 24 dX11_row_24 (ls' := [some (mR 0), some (mI x3), none]) (by decide) rfl ?_
    refine z_aload_n (M := M_X11_row) 25 dX11_row_25 rfl ?_
    refine z_iconst (M := M_X11_row) 26 dX11_row_26 ?_
    refine z_putIH (M := M_X11_row) 27 dX11_row_27 p_X11_102 o_0 rfl (u_0_15 G0) ((FR.rf (cs := [4, 5, 6, 7, 107]) (ss := [(0, 14), (0, 15), (1, 7), (1, 8), (35, 1)]) (h := h0)).up rfl) (fun h1 E1 G1 R1 => ?_)
    refine z_iconst (M := M_X11_row) 30 dX11_row_30 ?_
    refine z_istore_n (M := M_X11_row) 31 dX11_row_31 (ls' := [some (mR 0), some (mI x3), some (mI 0)]) (by decide) rfl ?_
    exact z_mask [true, true, true] rfl (ih x3 0 x1 h1 G1 R1 (by omega) (by omega) (by omega) (by omega) (by omega) (by omega) ((upN E1 (fun q => absurd q.1 (by decide))).trans ex1) ⟨0, rfl, (Rr.same (fun i hi j => tl_o E1 (by omega) j) (fun _ _ => rfl)), (upE E1)⟩ (by have y_ := ex1; omega) (by have n_ := Rr.2.2.2.2.1; have e_ := ex3; omega) (by omega) (by omega))
  · refine z_aload_n (M := M_X11_row) 10 dX11_row_10 rfl ?_
    refine z_bipush (M := M_X11_row) 11 dX11_row_11 ?_
    refine z_vI (M := M_X11_row) 13 dX11_row_13 t_X11_refuse l_X11_116 (m_rr_of rfl) (rest := []) (c_X11_refuse h0 (-6) G0 ⟨by omega, by omega⟩) o_0 rfl rfl rfl (Nat.le_of_ble_eq_true rfl) ⟨rfl, rfl⟩ (fun x4 h2 qx4 => ?_)
    obtain ⟨G2, S2, rfl⟩ := qx4
    have R2 := (FR.rf (cs := [4, 5, 6, 7, 107]) (ss := [(0, 14), (0, 15), (1, 7), (1, 8), (35, 1)]) (h := h0)).call S2 (by decide +kernel)
    exact z_retI (M := M_X11_row) 16 dX11_row_16 rfl ⟨G2, R2, (S2 35 1 rfl).trans (by omega), Or.inl ⟨by omega, rfl, S2 0 15 rfl, Rr.S S2 (by decide)⟩⟩
abbrev P_X11_book3 (h0 : m_H) (r : Nat → Int) : Int → m_H → Prop := fun x h' => GI h' ∧ FR [2, 3, 4, 5, 6, 7, 8, 10, 11, 12, 13, 14, 15, 16, 107] [(0, 14), (0, 16), (1, 7), (1, 8), (1, 9), (9, 7), (9, 8), (9, 9), (35, 1), (37, 1), (37, 2), (37, 3)] h0 h' ∧ (-6) ≤ x ∧ x ≤ 400 ∧ h' 35 1 = 0 ∧ boQ (rdBook (h0 36) (h0 35 1) 400 (nx (h0 36) (h0 35 1) 0) r 1) r x h'
set_option maxHeartbeats 4000000 in
set_option maxRecDepth 100000 in
theorem c_X11_book3 (h0 : m_H) (r : Nat → Int) (G0 : GI h0) (Rr : LR 1 h0 r) : m_CI M_X11_book [mR 0] h0 (P_X11_book3 h0 r) := by
  refine m_CI_of ⟨by decide, rfl, by simp [m_arg, m_isL, M_X11_book], ⟨rfl, rfl⟩, rfl, rfl⟩ (ls := [some (mR 0), none]) rfl ?_
  obtain ⟨x1, ex1⟩ : ∃ y : Int, h0 35 1 = y := ⟨_, rfl⟩
  have bx1 : 0 ≤ x1 ∧ x1 ≤ 400 := ex1 ▸ g_35_1 G0
  refine z_aload_n (M := M_X11_book) 0 dX11_book_0 rfl ?_
  refine z_getR (M := M_X11_book) 1 dX11_book_1 f_X11_16 o_0 rfl (g_0_1 G0) ?_
  refine z_aload_n (M := M_X11_book) 4 dX11_book_4 rfl ?_
  refine z_getR (M := M_X11_book) 5 dX11_book_5 f_X11_12 o_0 rfl (g_0_0 G0) ?_
  refine z_vV (M := M_X11_book) 8 dX11_book_8 t_X4_copyFrom l_X11_197 (m_rr_of rfl) (rest := []) (c_X4_copyFrom2 h0 9 1 (Or.inr (Or.inl rfl)) (Or.inl rfl) G0) o_9 rfl rfl rfl (Nat.le_of_ble_eq_true rfl) ⟨rfl, rfl⟩ (fun h1 qx2 => ?_)
  obtain ⟨G1, S1, C1⟩ := qx2
  have R1 := (FR.rf (cs := [2, 3, 4, 5, 6, 7, 8, 10, 11, 12, 13, 14, 15, 16, 107]) (ss := [(0, 14), (0, 16), (1, 7), (1, 8), (1, 9), (9, 7), (9, 8), (9, 9), (35, 1), (37, 1), (37, 2), (37, 3)]) (h := h0)).call S1 (by decide +kernel)
  refine z_aload_n (M := M_X11_book) 11 dX11_book_11 rfl ?_
  refine z_getR (M := M_X11_book) 12 dX11_book_12 f_X11_39 o_0 rfl (g_0_5 G1) ?_
  refine z_aload_n (M := M_X11_book) 15 dX11_book_15 rfl ?_
  refine z_getR (M := M_X11_book) 16 dX11_book_16 f_X11_16 o_0 rfl (g_0_1 G1) ?_
  refine z_vI (M := M_X11_book) 19 dX11_book_19 t_X1_readOnto l_X11_201 (m_rr_of rfl) (rest := []) (c_X1_readOnto2 h1 r G1 (Rr.copy C1)) o_37 rfl rfl rfl (Nat.le_of_ble_eq_true rfl) ⟨rfl, rfl⟩ (fun x3 h2 qx3 => ?_)
  obtain ⟨G2, S2, ax3, bx3, Q2⟩ := qx3
  have eb_ : h1 36 = h0 36 := rowz S1 (fun _ => rfl)
  have en_ : h1 35 1 = h0 35 1 := S1 35 1 rfl
  rw [eb_, en_] at Q2
  have R2 := R1.call S2 (by decide +kernel)
  refine z_istore_n (M := M_X11_book) 22 dX11_book_22 (ls' := [some (mR 0), some (mI x3)]) (by decide) rfl ?_
  refine z_aload_n (M := M_X11_book) 23 dX11_book_23 rfl ?_
  refine z_aload_n (M := M_X11_book) 24 dX11_book_24 rfl ?_
  refine z_getR (M := M_X11_book) 25 dX11_book_25 f_X11_39 o_0 rfl (g_0_5 G2) ?_
  refine z_getIV (M := M_X11_book) 28 dX11_book_28 f_X11_205 o_37 (by decide) (fun x4 ex4 => ?_)
  refine z_ok (fun ox4 _ _ => ?_)
  have ox4 := ox4.1; unfold m_ok m_32 at ox4
  refine z_putIH (M := M_X11_book) 31 dX11_book_31 p_X11_105 o_0 rfl (u_0_16 G2) (R2.up rfl) (fun h3 E3 G3 R3 => ?_)
  refine z_aload_n (M := M_X11_book) 34 dX11_book_34 rfl ?_
  refine z_getR (M := M_X11_book) 35 dX11_book_35 f_X11_30 o_0 rfl (g_0_4 G3) ?_
  refine z_iconst (M := M_X11_book) 38 dX11_book_38 ?_
  refine z_putIH (M := M_X11_book) 39 dX11_book_39 p_X11_187 o_35 rfl (u_35_1 G3 (by omega) (by omega)) (R3.up rfl) (fun h4 E4 G4 R4 => ?_)
  refine z_iload_n (M := M_X11_book) 42 dX11_book_42 rfl ?_
  refine z_iconst (M := M_X11_book) 43 dX11_book_43 ?_
  refine z_icmp_ne (M := M_X11_book) 44 dX11_book_44 54 rfl (fun c5 => ?_) (fun c5 => ?_)
  · refine z_aload_n (M := M_X11_book) 54 dX11_book_54 rfl ?_
    refine z_getR (M := M_X11_book) 55 dX11_book_55 f_X11_12 o_0 rfl (g_0_0 G4) ?_
    refine z_aload_n (M := M_X11_book) 58 dX11_book_58 rfl ?_
    refine z_getR (M := M_X11_book) 59 dX11_book_59 f_X11_16 o_0 rfl (g_0_1 G4) ?_
    refine z_vV (M := M_X11_book) 62 dX11_book_62 t_X4_copyFrom l_X11_197 (m_rr_of rfl) (rest := []) (c_X4_copyFrom2 h4 1 9 (Or.inl rfl) (Or.inr (Or.inl rfl)) G4) o_1 rfl rfl rfl (Nat.le_of_ble_eq_true rfl) ⟨rfl, rfl⟩ (fun h5 qx6 => ?_)
    obtain ⟨G5, S5, C5⟩ := qx6
    have R5 := R4.call S5 (by decide +kernel)
    refine z_aload_n (M := M_X11_book) 65 dX11_book_65 rfl ?_
    refine z_iload_n (M := M_X11_book) 66 dX11_book_66 rfl ?_
    refine z_vI (M := M_X11_book) 67 dX11_book_67 t_X11_accept l_X11_123 (m_rr_of rfl) (rest := []) (c_X11_accept h5 x3 G5) o_0 rfl rfl rfl (Nat.le_of_ble_eq_true rfl) ⟨rfl, rfl⟩ (fun x7 h6 qx7 => ?_)
    obtain ⟨G6, S6, rfl⟩ := qx7
    have R6 := R5.call S6 (by decide +kernel)
    have z8 : h6 35 1 = 0 := ((S6 35 1 rfl).trans ((S5 35 1 rfl).trans (upE E4)))
    exact z_retI (M := M_X11_book) 70 dX11_book_70 rfl ⟨G6, R6, by omega, by omega, by omega, bo_ok Q2 c5 (fun q Lq => (LR.copy ((Lq.same (fun i hi j => tl_o E3 (by omega) j) (fun _ _ => rfl)).same (fun i hi j => tl_o E4 (by omega) j) (fun _ _ => rfl)) C5).S S6 (by decide)) (fun u => (S6 0 16 rfl).trans ((S5 0 16 rfl).trans ((upN E4 (by decide)).trans ((upE E3).trans (ex4.symm.trans u)))))⟩
  · refine z_aload_n (M := M_X11_book) 47 dX11_book_47 rfl ?_
    refine z_bipush (M := M_X11_book) 48 dX11_book_48 ?_
    refine z_vI (M := M_X11_book) 50 dX11_book_50 t_X11_refuse l_X11_116 (m_rr_of rfl) (rest := []) (c_X11_refuse h4 (-6) G4 ⟨by omega, by omega⟩) o_0 rfl rfl rfl (Nat.le_of_ble_eq_true rfl) ⟨rfl, rfl⟩ (fun x8 h7 qx8 => ?_)
    obtain ⟨G7, S7, rfl⟩ := qx8
    have R7 := R4.call S7 (by decide +kernel)
    have z8 : h7 35 1 = 0 := ((S7 35 1 rfl).trans (upE E4))
    exact z_retI (M := M_X11_book) 53 dX11_book_53 rfl ⟨G7, R7, by omega, by omega, by omega, bo_er Q2 (by omega) (((((Rr.S S1 (by decide)).S S2 (by decide)).same (fun i hi j => tl_o E3 (by omega) j) (fun _ _ => rfl)).same (fun i hi j => tl_o E4 (by omega) j) (fun _ _ => rfl)).S S7 (by decide)) ((S7 0 16 rfl).trans ((upN E4 (by decide)).trans ((upE E3).trans ex4.symm)))⟩
