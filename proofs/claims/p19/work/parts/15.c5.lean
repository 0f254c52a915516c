abbrev P_X8_append (h0 : m_H) (a1 : Int) : m_H → Prop := fun h' => GI h' ∧ FR [36] [(35, 1)] h0 h' ∧ h' 35 1 = h0 35 1 + 4
set_option maxHeartbeats 4000000 in
set_option maxRecDepth 100000 in
theorem c_X8_append (h0 : m_H) (a1 : Int) (G0 : GI h0) (ht : h0 35 1 ≤ 396) : m_CV M_X8_append [mR 35, mI a1] h0 (P_X8_append h0 a1) := by
  refine m_CV_of ⟨by decide, rfl, by simp [m_arg, m_isL, M_X8_append], ⟨rfl, rfl⟩, rfl, rfl⟩ (ls := [some (mR 35), some (mI a1)]) rfl ?_
  refine z_ok (fun _ _ ok => ?_)
  have oa1 : m_32 a1 := ok 1 _ rfl
  unfold m_32 at oa1
  obtain ⟨x1, ex1⟩ : ∃ y : Int, h0 35 1 = y := ⟨_, rfl⟩
  have bx1 : 0 ≤ x1 ∧ x1 ≤ 400 := ex1 ▸ g_35_1 G0
  refine z_aload_n (M := M_X8_append) 0 dX8_append_0 rfl ?_
  refine z_getIE (M := M_X8_append) 1 dX8_append_1 f_X8_15 o_35 (by decide) ex1 ?_
  refine z_iconst (M := M_X8_append) 4 dX8_append_4 ?_
  refine z_iaddN (M := M_X8_append) 5 dX8_append_5 (by omega) (by omega) ?_
  refine z_sipush (M := M_X8_append) 6 dX8_append_6 ?_
  refine z_icmp_le (M := M_X8_append) 9 dX8_append_9 13 rfl (fun c2 => ?_) (fun c2 => ?_)
  · refine z_aload_n (M := M_X8_append) 13 dX8_append_13 rfl ?_
    refine z_getR (M := M_X8_append) 14 dX8_append_14 f_X8_9 o_35 rfl (g_35_0 G0) ?_
    refine z_aload_n (M := M_X8_append) 17 dX8_append_17 rfl ?_
    refine z_getIE (M := M_X8_append) 18 dX8_append_18 f_X8_15 o_35 (by decide) ex1 ?_
    refine z_iload_n (M := M_X8_append) 21 dX8_append_21 rfl ?_
    refine z_bipush (M := M_X8_append) 22 dX8_append_22 ?_
    refine z_iushr (M := M_X8_append) 24 dX8_append_24 ?_
    refine z_topBI (m_ushr_24 _) (fun x3 ex3 ax3 bx3 => ?_)
    refine z_iastH (M := M_X8_append) 25 dX8_append_25 o_36 (by omega) (by omega) (u_36 G0 (by omega) (by omega)) ((FR.rf (cs := [36]) (ss := [(35, 1)]) (h := h0)).up rfl) (fun h1 E1 G1 R1 => ?_)
    refine z_aload_n (M := M_X8_append) 26 dX8_append_26 rfl ?_
    refine z_getR (M := M_X8_append) 27 dX8_append_27 f_X8_9 o_35 rfl (g_35_0 G1) ?_
    refine z_aload_n (M := M_X8_append) 30 dX8_append_30 rfl ?_
    refine z_getIE (M := M_X8_append) 31 dX8_append_31 f_X8_15 o_35 (by decide) ((upN E1 (fun q => absurd q.1 (by decide))).trans ex1) ?_
    refine z_iconst (M := M_X8_append) 34 dX8_append_34 ?_
    refine z_iaddN (M := M_X8_append) 35 dX8_append_35 (by omega) (by omega) ?_
    refine z_iload_n (M := M_X8_append) 36 dX8_append_36 rfl ?_
    refine z_bipush (M := M_X8_append) 37 dX8_append_37 ?_
    refine z_iushr (M := M_X8_append) 39 dX8_append_39 ?_
    refine z_topm (fun x4 ex4 ox4 => ?_)
    unfold m_32 at ox4
    refine z_sipush (M := M_X8_append) 40 dX8_append_40 ?_
    refine z_iand (M := M_X8_append) 43 dX8_append_43 ?_
    refine z_topBI (m_and_255 _) (fun x5 ex5 ax5 bx5 => ?_)
    refine z_iastH (M := M_X8_append) 44 dX8_append_44 o_36 (by omega) (by omega) (u_36 G1 (by omega) (by omega)) (R1.up rfl) (fun h2 E2 G2 R2 => ?_)
    refine z_aload_n (M := M_X8_append) 45 dX8_append_45 rfl ?_
    refine z_getR (M := M_X8_append) 46 dX8_append_46 f_X8_9 o_35 rfl (g_35_0 G2) ?_
    refine z_aload_n (M := M_X8_append) 49 dX8_append_49 rfl ?_
    refine z_getIE (M := M_X8_append) 50 dX8_append_50 f_X8_15 o_35 (by decide) ((upN E2 (fun q => absurd q.1 (by decide))).trans ((upN E1 (fun q => absurd q.1 (by decide))).trans ex1)) ?_
    refine z_iconst (M := M_X8_append) 53 dX8_append_53 ?_
    refine z_iaddN (M := M_X8_append) 54 dX8_append_54 (by omega) (by omega) ?_
    refine z_iload_n (M := M_X8_append) 55 dX8_append_55 rfl ?_
    refine z_bipush (M := M_X8_append) 56 dX8_append_56 ?_
    refine z_iushr (M := M_X8_append) 58 dX8_append_58 ?_
    refine z_topm (fun x6 ex6 ox6 => ?_)
    unfold m_32 at ox6
    refine z_sipush (M := M_X8_append) 59 dX8_append_59 ?_
    refine z_iand (M := M_X8_append) 62 dX8_append_62 ?_
    refine z_topBI (m_and_255 _) (fun x7 ex7 ax7 bx7 => ?_)
    refine z_iastH (M := M_X8_append) 63 dX8_append_63 o_36 (by omega) (by omega) (u_36 G2 (by omega) (by omega)) (R2.up rfl) (fun h3 E3 G3 R3 => ?_)
    refine z_aload_n (M := M_X8_append) 64 dX8_append_64 rfl ?_
    refine z_getR (M := M_X8_append) 65 dX8_append_65 f_X8_9 o_35 rfl (g_35_0 G3) ?_
    refine z_aload_n (M := M_X8_append) 68 dX8_append_68 rfl ?_
    refine z_getIE (M := M_X8_append) 69 dX8_append_69 f_X8_15 o_35 (by decide) ((upN E3 (fun q => absurd q.1 (by decide))).trans ((upN E2 (fun q => absurd q.1 (by decide))).trans ((upN E1 (fun q => absurd q.1 (by decide))).trans ex1))) ?_
    refine z_iconst (M := M_X8_append) 72 dX8_append_72 ?_
    refine z_iaddN (M := M_X8_append) 73 dX8_append_73 (by omega) (by omega) ?_
    refine z_iload_n (M := M_X8_append) 74 dX8_append_74 rfl ?_
    refine z_sipush (M := M_X8_append) 75 dX8_append_75 ?_
    refine z_iand (M := M_X8_append) 78 dX8_append_78 ?_
    refine z_topBI (m_and_255 _) (fun x8 ex8 ax8 bx8 => ?_)
    refine z_iastH (M := M_X8_append) 79 dX8_append_79 o_36 (by omega) (by omega) (u_36 G3 (by omega) (by omega)) (R3.up rfl) (fun h4 E4 G4 R4 => ?_)
    refine z_aload_n (M := M_X8_append) 80 dX8_append_80 rfl ?_
    refine z_dup (M := M_X8_append) 81 dX8_append_81 rfl ?_
    refine z_getIE (M := M_X8_append) 82 dX8_append_82 f_X8_15 o_35 (by decide) ((upN E4 (fun q => absurd q.1 (by decide))).trans ((upN E3 (fun q => absurd q.1 (by decide))).trans ((upN E2 (fun q => absurd q.1 (by decide))).trans ((upN E1 (fun q => absurd q.1 (by decide))).trans ex1)))) ?_
    refine z_iconst (M := M_X8_append) 85 dX8_append_85 ?_
    refine z_iaddN (M := M_X8_append) 86 dX8_append_86 (by omega) (by omega) ?_
    refine z_putIH (M := M_X8_append) 87 dX8_append_87 p_X8_15 o_35 rfl (u_35_1 G4 (by omega) (by omega)) (R4.up rfl) (fun h5 E5 G5 R5 => ?_)
    have z8 : h5 35 1 = (x1 + 4) := (upE E5)
    exact z_retV (M := M_X8_append) 90 dX8_append_90 rfl ⟨G5, R5, by omega⟩
  · have z8 : h0 35 1 = x1 := ex1
    exact z_retV (M := M_X8_append) 12 dX8_append_12 rfl ⟨G0, (FR.rf (cs := [36]) (ss := [(35, 1)]) (h := h0)), by omega⟩
abbrev P_X11_feed (h0 : m_H) (a1 a2 a3 a4 a5 : Int) : Int → m_H → Prop := fun x h' => GI h' ∧ FR [36] [(35, 1)] h0 h' ∧ ((380 < h0 35 1 ∧ x = -1 ∧ h' 35 1 = h0 35 1) ∨ (h0 35 1 ≤ 380 ∧ x = h0 35 1 + 20 ∧ h' 35 1 = h0 35 1 + 20))
set_option maxHeartbeats 4000000 in
set_option maxRecDepth 100000 in
theorem c_X11_feed (h0 : m_H) (a1 a2 a3 a4 a5 : Int) (G0 : GI h0) : m_CI M_X11_feed [mR 0, mI a1, mI a2, mI a3, mI a4, mI a5] h0 (P_X11_feed h0 a1 a2 a3 a4 a5) := by
  refine m_CI_of ⟨by decide, rfl, by simp [m_arg, m_isL, M_X11_feed], ⟨rfl, rfl⟩, rfl, rfl⟩ (ls := [some (mR 0), some (mI a1), some (mI a2), some (mI a3), some (mI a4), some (mI a5)]) rfl ?_
  refine z_ok (fun _ _ ok => ?_)
  have oa1 : m_32 a1 := ok 1 _ rfl
  unfold m_32 at oa1
  have oa2 : m_32 a2 := ok 2 _ rfl
  unfold m_32 at oa2
  have oa3 : m_32 a3 := ok 3 _ rfl
  unfold m_32 at oa3
  have oa4 : m_32 a4 := ok 4 _ rfl
  unfold m_32 at oa4
  have oa5 : m_32 a5 := ok 5 _ rfl
  unfold m_32 at oa5
  obtain ⟨x1, ex1⟩ : ∃ y : Int, h0 35 1 = y := ⟨_, rfl⟩
  have bx1 : 0 ≤ x1 ∧ x1 ≤ 400 := ex1 ▸ g_35_1 G0
  refine z_aload_n (M := M_X11_feed) 0 dX11_feed_0 rfl ?_
  refine z_getR (M := M_X11_feed) 1 dX11_feed_1 f_X11_30 o_0 rfl (g_0_4 G0) ?_
  refine z_getIE (M := M_X11_feed) 4 dX11_feed_4 f_X11_187 o_35 (by decide) ex1 ?_
  refine z_bipush (M := M_X11_feed) 7 dX11_feed_7 ?_
  refine z_iaddN (M := M_X11_feed) 9 dX11_feed_9 (by omega) (by omega) ?_
  refine z_sipush (M := M_X11_feed) 10 dX11_feed_10 ?_
  refine z_icmp_le (M := M_X11_feed) 13 dX11_feed_13 18 rfl (fun c2 => ?_) (fun c2 => ?_)
  · refine z_aload_n (M := M_X11_feed) 18 dX11_feed_18 rfl ?_
    refine z_getR (M := M_X11_feed) 19 dX11_feed_19 f_X11_30 o_0 rfl (g_0_4 G0) ?_
    refine z_iload_n (M := M_X11_feed) 22 dX11_feed_22 rfl ?_
    refine z_vV (M := M_X11_feed) 23 dX11_feed_23 t_X8_append l_X11_190 (m_rr_of rfl) (rest := []) (c_X8_append h0 a1 G0 (le_e ex1 (by omega))) o_35 rfl rfl rfl (Nat.le_of_ble_eq_true rfl) ⟨rfl, rfl⟩ (fun h1 qx3 => ?_)
    obtain ⟨G1, S1, fx3_0⟩ := qx3
    have R1 := (FR.rf (cs := [36]) (ss := [(35, 1)]) (h := h0)).call S1 (by decide +kernel)
    refine z_aload_n (M := M_X11_feed) 26 dX11_feed_26 rfl ?_
    refine z_getR (M := M_X11_feed) 27 dX11_feed_27 f_X11_30 o_0 rfl (g_0_4 G1) ?_
    refine z_iload_n (M := M_X11_feed) 30 dX11_feed_30 rfl ?_
    refine z_vV (M := M_X11_feed) 31 dX11_feed_31 t_X8_append l_X11_190 (m_rr_of rfl) (rest := []) (c_X8_append h1 a2 G1 (le_e (eq_ad fx3_0 ex1) (by omega))) o_35 rfl rfl rfl (Nat.le_of_ble_eq_true rfl) ⟨rfl, rfl⟩ (fun h2 qx4 => ?_)
    obtain ⟨G2, S2, fx4_0⟩ := qx4
    have R2 := R1.call S2 (by decide +kernel)
    refine z_aload_n (M := M_X11_feed) 34 dX11_feed_34 rfl ?_
    refine z_getR (M := M_X11_feed) 35 dX11_feed_35 f_X11_30 o_0 rfl (g_0_4 G2) ?_
    refine z_iload_n (M := M_X11_feed) 38 dX11_feed_38 rfl ?_
    refine z_vV (M := M_X11_feed) 39 dX11_feed_39 t_X8_append l_X11_190 (m_rr_of rfl) (rest := []) (c_X8_append h2 a3 G2 (le_e (eq_ad fx4_0 (eq_ad fx3_0 ex1)) (by omega))) o_35 rfl rfl rfl (Nat.le_of_ble_eq_true rfl) ⟨rfl, rfl⟩ (fun h3 qx5 => ?_)
    obtain ⟨G3, S3, fx5_0⟩ := qx5
    have R3 := R2.call S3 (by decide +kernel)
    refine z_aload_n (M := M_X11_feed) 42 dX11_feed_42 rfl ?_
    refine z_getR (M := M_X11_feed) 43 dX11_feed_43 f_X11_30 o_0 rfl (g_0_4 G3) ?_
    refine z_iload (M := M_X11_feed) 46 dX11_feed_46 rfl ?_
    refine z_vV (M := M_X11_feed) 48 dX11_feed_48 t_X8_append l_X11_190 (m_rr_of rfl) (rest := []) (c_X8_append h3 a4 G3 (le_e (eq_ad fx5_0 (eq_ad fx4_0 (eq_ad fx3_0 ex1))) (by omega))) o_35 rfl rfl rfl (Nat.le_of_ble_eq_true rfl) ⟨rfl, rfl⟩ (fun h4 qx6 => ?_)
    obtain ⟨G4, S4, fx6_0⟩ := qx6
    have R4 := R3.call S4 (by decide +kernel)
    refine z_aload_n (M := M_X11_feed) 51 dX11_feed_51 rfl ?_
    refine z_getR (M := M_X11_feed) 52 dX11_feed_52 f_X11_30 o_0 rfl (g_0_4 G4) ?_
    refine z_iload (M := M_X11_feed) 55 dX11_feed_55 rfl ?_
    refine z_vV (M := M_X11_feed) 57 dX11_feed_57 t_X8_append l_X11_190 (m_rr_of rfl) (rest := []) (c_X8_append h4 a5 G4 (le_e (eq_ad fx6_0 (eq_ad fx5_0 (eq_ad fx4_0 (eq_ad fx3_0 ex1)))) (by omega))) o_35 rfl rfl rfl (Nat.le_of_ble_eq_true rfl) ⟨rfl, rfl⟩ (fun h5 qx7 => ?_)
    obtain ⟨G5, S5, fx7_0⟩ := qx7
    have R5 := R4.call S5 (by decide +kernel)
    refine z_aload_n (M := M_X11_feed) 60 dX11_feed_60 rfl ?_
    refine z_getR (M := M_X11_feed) 61 dX11_feed_61 f_X11_30 o_0 rfl (g_0_4 G5) ?_
    refine z_getIE (M := M_X11_feed) 64 dX11_feed_64 f_X11_187 o_35 (by decide) (eq_ad fx7_0 (eq_ad fx6_0 (eq_ad fx5_0 (eq_ad fx4_0 (eq_ad fx3_0 ex1))))) ?_
    have z8 : h5 35 1 = (((((x1 + 4) + 4) + 4) + 4) + 4) := (eq_ad fx7_0 (eq_ad fx6_0 (eq_ad fx5_0 (eq_ad fx4_0 (eq_ad fx3_0 ex1)))))
    exact z_retI (M := M_X11_feed) 67 dX11_feed_67 rfl ⟨G5, R5, by omega⟩
  · refine z_iconst (M := M_X11_feed) 16 dX11_feed_16 ?_
    have z8 : h0 35 1 = x1 := ex1
    exact z_retI (M := M_X11_feed) 17 dX11_feed_17 rfl ⟨G0, (FR.rf (cs := [36]) (ss := [(35, 1)]) (h := h0)), by omega⟩
abbrev P_X11_end (h0 : m_H) (a1 : Int) : Int → m_H → Prop := fun x h' => GI h' ∧ FR [] [(35, 1)] h0 h' ∧ (((a1 < 0 ∨ h0 35 1 < a1) ∧ x = -1 ∧ h' 35 1 = h0 35 1) ∨ (0 ≤ a1 ∧ a1 ≤ h0 35 1 ∧ x = a1 ∧ h' 35 1 = a1))
set_option maxHeartbeats 4000000 in
set_option maxRecDepth 100000 in
theorem c_X11_end (h0 : m_H) (a1 : Int) (G0 : GI h0) : m_CI M_X11_end [mR 0, mI a1] h0 (P_X11_end h0 a1) := by
  refine m_CI_of ⟨by decide, rfl, by simp [m_arg, m_isL, M_X11_end], ⟨rfl, rfl⟩, rfl, rfl⟩ (ls := [some (mR 0), some (mI a1)]) rfl ?_
  refine z_ok (fun _ _ ok => ?_)
  have oa1 : m_32 a1 := ok 1 _ rfl
  unfold m_32 at oa1
  obtain ⟨x1, ex1⟩ : ∃ y : Int, h0 35 1 = y := ⟨_, rfl⟩
  have bx1 : 0 ≤ x1 ∧ x1 ≤ 400 := ex1 ▸ g_35_1 G0
  refine z_iload_n (M := M_X11_end) 0 dX11_end_0 rfl ?_
  refine z_iconst (M := M_X11_end) 1 dX11_end_1 ?_
  refine z_aload_n (M := M_X11_end) 2 dX11_end_2 rfl ?_
  refine z_getR (M := M_X11_end) 3 dX11_end_3 f_X11_30 o_0 rfl (g_0_4 G0) ?_
  refine z_getIE (M := M_X11_end) 6 dX11_end_6 f_X11_187 o_35 (by decide) ex1 ?_
  refine z_sI (M := M_X11_end) 9 dX11_end_9 t_X11_within l_X11_112 (m_rr_of rfl) (rest := []) (c_X11_within h0 a1 0 x1 G0) rfl rfl (Nat.le_of_ble_eq_true rfl) ⟨rfl, rfl⟩ (fun x2 h1 qx2 => ?_)
  obtain ⟨rfl, ⟨rfl, cx2⟩ | ⟨rfl, cx2⟩⟩ := qx2
  · refine z_if_ne_T (M := M_X11_end) 12 dX11_end_12 17 rfl (by omega) ?_
    refine z_aload_n (M := M_X11_end) 17 dX11_end_17 rfl ?_
    refine z_getR (M := M_X11_end) 18 dX11_end_18 f_X11_30 o_0 rfl (g_0_4 G0) ?_
    refine z_iload_n (M := M_X11_end) 21 dX11_end_21 rfl ?_
    refine z_putIH (M := M_X11_end) 22 dX11_end_22 p_X11_187 o_35 rfl (u_35_1 G0 (by omega) (by omega)) ((FR.rf (cs := []) (ss := [(35, 1)]) (h := h0)).up rfl) (fun h2 E2 G2 R2 => ?_)
    refine z_iload_n (M := M_X11_end) 25 dX11_end_25 rfl ?_
    have z8 : h2 35 1 = a1 := (upE E2)
    exact z_retI (M := M_X11_end) 26 dX11_end_26 rfl ⟨G2, R2, by omega⟩
  · refine z_if_ne_F (M := M_X11_end) 12 dX11_end_12 17 rfl (by omega) ?_
    refine z_iconst (M := M_X11_end) 15 dX11_end_15 ?_
    have z8 : h0 35 1 = x1 := ex1
    exact z_retI (M := M_X11_end) 16 dX11_end_16 rfl ⟨G0, (FR.rf (cs := []) (ss := [(35, 1)]) (h := h0)), by omega⟩
abbrev P_X11_takeFromRow (h0 : m_H) (a1 : Int) : Int → m_H → Prop := fun x h' => GI h' ∧ FR [4, 5, 6, 7] [(1, 7), (1, 8)] h0 h' ∧ 0 ≤ x ∧ x ≤ 1
set_option maxHeartbeats 4000000 in
set_option maxRecDepth 100000 in
theorem c_X11_takeFromRow (h0 : m_H) (a1 : Int) (G0 : GI h0) (pa1 : 0 ≤ a1 ∧ a1 ≤ 400) : m_CI M_X11_takeFromRow [mR 0, mI a1] h0 (P_X11_takeFromRow h0 a1) := by
  refine m_CI_of ⟨by decide, rfl, by simp [m_arg, m_isL, M_X11_takeFromRow], ⟨rfl, rfl⟩, rfl, rfl⟩ (ls := [some (mR 0), some (mI a1), none, none, none, none]) rfl ?_
  refine z_iload_n (M := M_X11_takeFromRow) 0 dX11_takeFromRow_0 rfl ?_
  refine z_iconst (M := M_X11_takeFromRow) 1 dX11_takeFromRow_1 ?_
  refine z_iaddN (M := M_X11_takeFromRow) 2 dX11_takeFromRow_2 (by omega) (by omega) ?_
  refine z_aload_n (M := M_X11_takeFromRow) 3 dX11_takeFromRow_3 rfl ?_
  refine z_getR (M := M_X11_takeFromRow) 4 dX11_takeFromRow_4 f_X11_30 o_0 rfl (g_0_4 G0) ?_
  refine z_getIG (M := M_X11_takeFromRow) 7 dX11_takeFromRow_7 f_X11_187 o_35 (by decide) (g_35_1 G0) (fun x1 ex1 ax1 bx1 => ?_)
  refine z_icmp_le (M := M_X11_takeFromRow) 10 dX11_takeFromRow_10 15 rfl (fun c2 => ?_) (fun c2 => ?_)
  · refine z_aload_n (M := M_X11_takeFromRow) 15 dX11_takeFromRow_15 rfl ?_
    refine z_getR (M := M_X11_takeFromRow) 16 dX11_takeFromRow_16 f_X11_30 o_0 rfl (g_0_4 G0) ?_
    refine z_getR (M := M_X11_takeFromRow) 19 dX11_takeFromRow_19 f_X11_424 o_35 rfl (g_35_0 G0) ?_
    refine z_iload_n (M := M_X11_takeFromRow) 22 dX11_takeFromRow_22 rfl ?_
    refine z_ialdG (M := M_X11_takeFromRow) 23 dX11_takeFromRow_23 o_36 (by omega) (by omega) (g_36 G0 (by omega)) (fun x3 ex3 ax3 bx3 => ?_)
    refine z_istore_n (M := M_X11_takeFromRow) 24 dX11_takeFromRow_24 (ls' := [some (mR 0), some (mI a1), some (mI x3), none, none, none]) (by decide) rfl ?_
    refine z_aload_n (M := M_X11_takeFromRow) 25 dX11_takeFromRow_25 rfl ?_
    refine z_getR (M := M_X11_takeFromRow) 26 dX11_takeFromRow_26 f_X11_30 o_0 rfl (g_0_4 G0) ?_
    refine z_getR (M := M_X11_takeFromRow) 29 dX11_takeFromRow_29 f_X11_424 o_35 rfl (g_35_0 G0) ?_
    refine z_iload_n (M := M_X11_takeFromRow) 32 dX11_takeFromRow_32 rfl ?_
    refine z_iconst (M := M_X11_takeFromRow) 33 dX11_takeFromRow_33 ?_
    refine z_iaddN (M := M_X11_takeFromRow) 34 dX11_takeFromRow_34 (by omega) (by omega) ?_
    refine z_ialdG (M := M_X11_takeFromRow) 35 dX11_takeFromRow_35 o_36 (by omega) (by omega) (g_36 G0 (by omega)) (fun x4 ex4 ax4 bx4 => ?_)
    refine z_istore_n (M := M_X11_takeFromRow) 36 dX11_takeFromRow_36 (ls' := [some (mR 0), some (mI a1), some (mI x3), some (mI x4), none, none]) (by decide) rfl ?_
    refine z_aload_n (M := M_X11_takeFromRow) 37 dX11_takeFromRow_37 rfl ?_
    refine z_getR (M := M_X11_takeFromRow) 38 dX11_takeFromRow_38 f_X11_30 o_0 rfl (g_0_4 G0) ?_
    refine z_getR (M := M_X11_takeFromRow) 41 dX11_takeFromRow_41 f_X11_424 o_35 rfl (g_35_0 G0) ?_
    refine z_iload_n (M := M_X11_takeFromRow) 44 dX11_takeFromRow_44 rfl ?_
    refine z_iconst (M := M_X11_takeFromRow) 45 dX11_takeFromRow_45 ?_
    refine z_iaddN (M := M_X11_takeFromRow) 46 dX11_takeFromRow_46 (by omega) (by omega) ?_
    refine z_ialdG (M := M_X11_takeFromRow) 47 dX11_takeFromRow_47 o_36 (by omega) (by omega) (g_36 G0 (by omega)) (fun x5 ex5 ax5 bx5 => ?_)
    refine z_istore (M := M_X11_takeFromRow) 48 dX11_takeFromRow_48 (ls' := [some (mR 0), some (mI a1), some (mI x3), some (mI x4), some (mI x5), none]) (by decide) rfl ?_
    refine z_aload_n (M := M_X11_takeFromRow) 50 dX11_takeFromRow_50 rfl ?_
    refine z_getR (M := M_X11_takeFromRow) 51 dX11_takeFromRow_51 f_X11_30 o_0 rfl (g_0_4 G0) ?_
    refine z_getR (M := M_X11_takeFromRow) 54 dX11_takeFromRow_54 f_X11_424 o_35 rfl (g_35_0 G0) ?_
    refine z_iload_n (M := M_X11_takeFromRow) 57 dX11_takeFromRow_57 rfl ?_
    refine z_iconst (M := M_X11_takeFromRow) 58 dX11_takeFromRow_58 ?_
    refine z_iaddN (M := M_X11_takeFromRow) 59 dX11_takeFromRow_59 (by omega) (by omega) ?_
    refine z_ialdG (M := M_X11_takeFromRow) 60 dX11_takeFromRow_60 o_36 (by omega) (by omega) (g_36 G0 (by omega)) (fun x6 ex6 ax6 bx6 => ?_)
    refine z_istore (M := M_X11_takeFromRow) 61 dX11_takeFromRow_61 (ls' := [some (mR 0), some (mI a1), some (mI x3), some (mI x4), some (mI x5), some (mI x6)]) (by decide) rfl ?_
    refine z_iload_n (M := M_X11_takeFromRow) 63 dX11_takeFromRow_63 rfl ?_
    refine z_iload_n (M := M_X11_takeFromRow) 64 dX11_takeFromRow_64 rfl ?_
    refine z_iload (M := M_X11_takeFromRow) 65 dX11_takeFromRow_65 rfl ?_
    refine z_iload (M := M_X11_takeFromRow) 67 dX11_takeFromRow_67 rfl ?_
    refine z_sI (M := M_X11_takeFromRow) 69 dX11_takeFromRow_69 t_X11_isEntry l_X11_151 (m_rr_of rfl) (rest := []) (c_X11_isEntry h0 x3 x4 x5 x6 G0) rfl rfl (Nat.le_of_ble_eq_true rfl) ⟨rfl, rfl⟩ (fun x7 h1 qx7 => ?_)
    obtain ⟨rfl, ⟨rfl, cx7⟩ | ⟨rfl, cx7⟩⟩ := qx7
    · refine z_if_eq_F (M := M_X11_takeFromRow) 72 dX11_takeFromRow_72 85 rfl (by omega) ?_
      refine z_aload_n (M := M_X11_takeFromRow) 75 dX11_takeFromRow_75 rfl ?_
      refine z_getR (M := M_X11_takeFromRow) 76 dX11_takeFromRow_76 f_X11_12 o_0 rfl (g_0_0 G0) ?_
      refine z_vI (M := M_X11_takeFromRow) 79 dX11_takeFromRow_79 t_X4_hasRoom l_X11_155 (m_rr_of rfl) (rest := []) (c_X4_hasRoom h0 1 (Or.inl rfl) G0) o_1 rfl rfl rfl (Nat.le_of_ble_eq_true rfl) ⟨rfl, rfl⟩ (fun x8 h2 qx8 => ?_)
      obtain ⟨rfl, ⟨rfl, cx8⟩ | ⟨rfl, cx8⟩⟩ := qx8
      · refine z_if_ne_T (M := M_X11_takeFromRow) 82 dX11_takeFromRow_82 87 rfl (by omega) ?_
        refine z_aload_n (M := M_X11_takeFromRow) 87 dX11_takeFromRow_87 rfl ?_
        refine z_getR (M := M_X11_takeFromRow) 88 dX11_takeFromRow_88 f_X11_12 o_0 rfl (g_0_0 G0) ?_
        refine z_iload_n (M := M_X11_takeFromRow) 91 dX11_takeFromRow_91 rfl ?_
        refine z_iload_n (M := M_X11_takeFromRow) 92 dX11_takeFromRow_92 rfl ?_
        refine z_iload (M := M_X11_takeFromRow) 93 dX11_takeFromRow_93 rfl ?_
        refine z_iload (M := M_X11_takeFromRow) 95 dX11_takeFromRow_95 rfl ?_
        refine z_vV (M := M_X11_takeFromRow) 97 dX11_takeFromRow_97 t_X4_addEntry l_X11_158 (m_rr_of rfl) (rest := []) (c_X4_addEntry h0 1 x3 x4 x5 x6 (Or.inl rfl) G0 ⟨by omega, by omega⟩ ⟨by omega, by omega⟩ ⟨by omega, by omega⟩ ⟨by omega, by omega⟩) o_1 rfl rfl rfl (Nat.le_of_ble_eq_true rfl) ⟨rfl, rfl⟩ (fun h3 qx9 => ?_)
        obtain ⟨G3, S3⟩ := qx9
        have R3 := (FR.rf (cs := [4, 5, 6, 7]) (ss := [(1, 7), (1, 8)]) (h := h0)).call S3 (by decide +kernel)
        refine z_iconst (M := M_X11_takeFromRow) 100 dX11_takeFromRow_100 ?_
        exact z_retZ (M := M_X11_takeFromRow) 101 dX11_takeFromRow_101 rfl (by omega) ⟨G3, R3, by omega, by omega⟩
      · refine z_if_ne_F (M := M_X11_takeFromRow) 82 dX11_takeFromRow_82 87 rfl (by omega) ?_
        refine z_iconst (M := M_X11_takeFromRow) 85 dX11_takeFromRow_85 ?_
        exact z_retZ (M := M_X11_takeFromRow) 86 dX11_takeFromRow_86 rfl (by omega) ⟨G0, (FR.rf (cs := [4, 5, 6, 7]) (ss := [(1, 7), (1, 8)]) (h := h0)), by omega, by omega⟩
    · refine z_if_eq_T (M := M_X11_takeFromRow) 72 dX11_takeFromRow_72 85 rfl (by omega) ?_
      refine z_iconst (M := M_X11_takeFromRow) 85 dX11_takeFromRow_85 ?_
      exact z_retZ (M := M_X11_takeFromRow) 86 dX11_takeFromRow_86 rfl (by omega) ⟨G0, (FR.rf (cs := [4, 5, 6, 7]) (ss := [(1, 7), (1, 8)]) (h := h0)), by omega, by omega⟩
  · refine z_iconst (M := M_X11_takeFromRow) 13 dX11_takeFromRow_13 ?_
    exact z_retZ (M := M_X11_takeFromRow) 14 dX11_takeFromRow_14 rfl (by omega) ⟨G0, (FR.rf (cs := [4, 5, 6, 7]) (ss := [(1, 7), (1, 8)]) (h := h0)), by omega, by omega⟩
abbrev P_X11_row (h0 : m_H) : Int → m_H → Prop := fun x h' => GI h' ∧ FR [4, 5, 6, 7, 107] [(0, 14), (0, 15), (1, 7), (1, 8), (35, 1)] h0 h' ∧ (-24) ≤ x ∧ x ≤ 24 ∧ h' 35 1 = 0
def q_X11_row (h0 : m_H) (n : Nat) : Prop := (∀ (l1 l2 : Int) (h : m_H), GI h → FR [4, 5, 6, 7, 107] [(0, 14), (0, 15), (1, 7), (1, 8), (35, 1)] h0 h → 0 ≤ l1 → l1 ≤ 24 → 0 ≤ l2 → l2 ≤ 403 → 2 * (403 - l2) + (1) ≤ (n : Int) → m_Z oF M_X11_row 32 [some (mR 0), some (mI l1), some (mI l2)] [] h (m_QI (P_X11_row h0)))
set_option maxHeartbeats 4000000 in
set_option maxRecDepth 100000 in
theorem s_X11_row_32 (h0 : m_H) (G0 : GI h0) (n : Nat) (ih : q_X11_row h0 n) : ∀ (l1 l2 : Int) (h : m_H), GI h → FR [4, 5, 6, 7, 107] [(0, 14), (0, 15), (1, 7), (1, 8), (35, 1)] h0 h → 0 ≤ l1 → l1 ≤ 24 → 0 ≤ l2 → l2 ≤ 403 → 2 * (403 - l2) + (1) ≤ ((n + 1 : Nat) : Int) → m_Z oF M_X11_row 32 [some (mR 0), some (mI l1), some (mI l2)] [] h (m_QI (P_X11_row h0)) := by
  intro l1 l2 h G R v0 v1 v2 v3 hr
  refine z_iload_n (M := M_X11_row) 32 dX11_row_32 rfl ?_
  refine z_aload_n (M := M_X11_row) 33 dX11_row_33 rfl ?_
  refine z_getR (M := M_X11_row) 34 dX11_row_34 f_X11_30 o_0 rfl (g_0_4 G) ?_
  refine z_getIG (M := M_X11_row) 37 dX11_row_37 f_X11_187 o_35 (by decide) (g_35_1 G) (fun x1 ex1 ax1 bx1 => ?_)
  refine z_icmp_ge (M := M_X11_row) 40 dX11_row_40 67 rfl (fun c2 => ?_) (fun c2 => ?_)
  · refine z_aload_n (M := M_X11_row) 67 dX11_row_67 rfl ?_
    refine z_getR (M := M_X11_row) 68 dX11_row_68 f_X11_30 o_0 rfl (g_0_4 G) ?_
    refine z_iconst (M := M_X11_row) 71 dX11_row_71 ?_
    refine z_putIH (M := M_X11_row) 72 dX11_row_72 p_X11_187 o_35 rfl (u_35_1 G (by omega) (by omega)) (R.up rfl) (fun h1 E1 G1 R1 => ?_)
    refine z_aload_n (M := M_X11_row) 75 dX11_row_75 rfl ?_
    refine z_aload_n (M := M_X11_row) 76 dX11_row_76 rfl ?_
    refine z_getR (M := M_X11_row) 77 dX11_row_77 f_X11_12 o_0 rfl (g_0_0 G1) ?_
    refine z_getIG (M := M_X11_row) 80 dX11_row_80 f_X11_162 o_1 (by decide) (g_1_7 G1) (fun x3 ex3 ax3 bx3 => ?_)
    refine z_iload_n (M := M_X11_row) 83 dX11_row_83 rfl ?_
    refine z_isubN (M := M_X11_row) 84 dX11_row_84 (by omega) (by omega) ?_
    refine z_vI (M := M_X11_row) 85 dX11_row_85 t_X11_accept l_X11_123 (m_rr_of rfl) (rest := []) (c_X11_accept h1 (x3 - l1) G1) o_0 rfl rfl rfl (Nat.le_of_ble_eq_true rfl) ⟨rfl, rfl⟩ (fun x4 h2 qx4 => ?_)
    obtain ⟨G2, S2, rfl⟩ := qx4
    have R2 := R1.call S2 (by decide +kernel)
    have z8 : h2 35 1 = 0 := ((S2 35 1 rfl).trans (upE E1))
    exact z_retI (M := M_X11_row) 88 dX11_row_88 rfl ⟨G2, R2, by omega, by omega, by omega⟩
  · refine z_aload_n (M := M_X11_row) 43 dX11_row_43 rfl ?_
    refine z_iload_n (M := M_X11_row) 44 dX11_row_44 rfl ?_
    refine z_vI (M := M_X11_row) 45 dX11_row_45 t_X11_takeFromRow l_X11_194 (m_rr_of rfl) (rest := []) (c_X11_takeFromRow h l2 G ⟨by omega, by omega⟩) o_0 rfl rfl rfl (Nat.le_of_ble_eq_true rfl) ⟨rfl, rfl⟩ (fun x5 h3 qx5 => ?_)
    obtain ⟨G3, S3, ax5, bx5⟩ := qx5
    have R3 := R.call S3 (by decide +kernel)
    refine z_if_ne (M := M_X11_row) 48 dX11_row_48 61 rfl (fun c6 => ?_) (fun c6 => ?_)
    · refine z_iincN (M := M_X11_row) 61 dX11_row_61 (ls' := [some (mR 0), some (mI l1), some (mI (l2 + 4))]) (by decide) rfl (by (unfold m_32; decide)) (by omega) (by omega) rfl ?_
      refine z_goto (M := M_X11_row) 64 dX11_row_64 32 rfl ?_
      exact z_mask [true, true, true] rfl (ih l1 (l2 + 4) h3 G3 R3 (by omega) (by omega) (by omega) (by omega) (by omega))
    · refine z_aload_n (M := M_X11_row) 51 dX11_row_51 rfl ?_
      refine z_dup (M := M_X11_row) 52 dX11_row_52 rfl ?_
      refine z_getIV (M := M_X11_row) 53 dX11_row_53 f_X11_102 o_0 (by decide) (fun x7 ex7 => ?_)
      refine z_ok (fun ox7 _ _ => ?_)
      have ox7 := ox7.1; unfold m_ok m_32 at ox7
      refine z_iconst (M := M_X11_row) 56 dX11_row_56 ?_
      refine z_iadd (M := M_X11_row) 57 dX11_row_57 ?_
      refine z_topm (fun x8 ex8 ox8 => ?_)
      unfold m_32 at ox8
      refine z_putIH (M := M_X11_row) 58 dX11_row_58 p_X11_102 o_0 rfl (u_0_15 G3) (R3.up rfl) (fun h4 E4 G4 R4 => ?_)
      refine z_iincN (M := M_X11_row) 61 dX11_row_61 (ls' := [some (mR 0), some (mI l1), some (mI (l2 + 4))]) (by decide) rfl (by (unfold m_32; decide)) (by omega) (by omega) rfl ?_
      refine z_goto (M := M_X11_row) 64 dX11_row_64 32 rfl ?_
      exact z_mask [true, true, true] rfl (ih l1 (l2 + 4) h4 G4 R4 (by omega) (by omega) (by omega) (by omega) (by omega))
theorem a_X11_row (h0 : m_H) (G0 : GI h0) : ∀ n, q_X11_row h0 n := by
  intro n
  induction n with
  | zero => unfold q_X11_row; intros; omega
  | succ n ih => exact s_X11_row_32 h0 G0 n ih
set_option maxHeartbeats 4000000 in
set_option maxRecDepth 100000 in
theorem c_X11_row (h0 : m_H) (G0 : GI h0) : m_CI M_X11_row [mR 0] h0 (P_X11_row h0) := by
  refine m_CI_of ⟨by decide, rfl, by simp [m_arg, m_isL, M_X11_row], ⟨rfl, rfl⟩, rfl, rfl⟩ (ls := [some (mR 0), none, none]) rfl ?_
  have ih := a_X11_row h0 G0 814
  obtain ⟨x1, ex1⟩ : ∃ y : Int, h0 35 1 = y := ⟨_, rfl⟩
  have bx1 : 0 ≤ x1 ∧ x1 ≤ 400 := ex1 ▸ g_35_1 G0
  refine z_aload_n (M := M_X11_row) 0 dX11_row_0 rfl ?_
  refine z_getR (M := M_X11_row) 1 dX11_row_1 f_X11_30 o_0 rfl (g_0_4 G0) ?_
  refine z_getIE (M := M_X11_row) 4 dX11_row_4 f_X11_187 o_35 (by decide) ex1 ?_
  refine z_if_ne (M := M_X11_row) 7 dX11_row_7 17 rfl (fun c2 => ?_) (fun c2 => ?_)
  · refine z_aload_n (M := M_X11_row) 17 dX11_row_17 rfl ?_
    refine z_getR (M := M_X11_row) 18 dX11_row_18 f_X11_12 o_0 rfl (g_0_0 G0) ?_
    refine z_getIG (M := M_X11_row) 21 dX11_row_21 f_X11_162 o_1 (by decide) (g_1_7 G0) (fun x3 ex3 ax3 bx3 => ?_)
    refine z_istore_n (M := M_X11_row) 24 dX11_row_24 (ls' := [some (mR 0), some (mI x3), none]) (by decide) rfl ?_
    refine z_aload_n (M := M_X11_row) 25 dX11_row_25 rfl ?_
    refine z_iconst (M := M_X11_row) 26 dX11_row_26 ?_
    refine z_putIH (M := M_X11_row) 27 dX11_row_27 p_X11_102 o_0 rfl (u_0_15 G0) ((FR.rf (cs := [4, 5, 6, 7, 107]) (ss := [(0, 14), (0, 15), (1, 7), (1, 8), (35, 1)]) (h := h0)).up rfl) (fun h1 E1 G1 R1 => ?_)
    refine z_iconst (M := M_X11_row) 30 dX11_row_30 ?_
    refine z_istore_n (M := M_X11_row) 31 dX11_row_31 (ls' := [some (mR 0), some (mI x3), some (mI 0)]) (by decide) rfl ?_
    exact z_mask [true, true, true] rfl (ih x3 0 h1 G1 R1 (by omega) (by omega) (by omega) (by omega) (by omega))
  · refine z_aload_n (M := M_X11_row) 10 dX11_row_10 rfl ?_
    refine z_bipush (M := M_X11_row) 11 dX11_row_11 ?_
    refine z_vI (M := M_X11_row) 13 dX11_row_13 t_X11_refuse l_X11_116 (m_rr_of rfl) (rest := []) (c_X11_refuse h0 (-6) G0 ⟨by omega, by omega⟩) o_0 rfl rfl rfl (Nat.le_of_ble_eq_true rfl) ⟨rfl, rfl⟩ (fun x4 h2 qx4 => ?_)
    obtain ⟨G2, S2, rfl⟩ := qx4
    have R2 := (FR.rf (cs := [4, 5, 6, 7, 107]) (ss := [(0, 14), (0, 15), (1, 7), (1, 8), (35, 1)]) (h := h0)).call S2 (by decide +kernel)
    have z8 : h2 35 1 = x1 := ((S2 35 1 rfl).trans ex1)
    exact z_retI (M := M_X11_row) 16 dX11_row_16 rfl ⟨G2, R2, by omega, by omega, by omega⟩
abbrev P_X11_image (h0 : m_H) (a1 : Int) : Int → m_H → Prop := fun x h' => GI h' ∧ FR [18, 19, 20, 21, 22, 23, 24, 25, 26, 27, 28, 29, 30, 31, 32, 33, 34, 107] [(0, 14), (0, 15), (0, 16)] h0 h' ∧ (-1) ≤ x ∧ x ≤ 0
set_option maxHeartbeats 4000000 in
set_option maxRecDepth 100000 in
theorem c_X11_image (h0 : m_H) (a1 : Int) (G0 : GI h0) : m_CI M_X11_image [mR 0, mI a1] h0 (P_X11_image h0 a1) := by
  refine m_CI_of ⟨by decide, rfl, by simp [m_arg, m_isL, M_X11_image], ⟨rfl, rfl⟩, rfl, rfl⟩ (ls := [some (mR 0), some (mI a1)]) rfl ?_
  refine z_ok (fun _ _ ok => ?_)
  have oa1 : m_32 a1 := ok 1 _ rfl
  unfold m_32 at oa1
  refine z_iload_n (M := M_X11_image) 0 dX11_image_0 rfl ?_
  refine z_iconst (M := M_X11_image) 1 dX11_image_1 ?_
  refine z_iconst (M := M_X11_image) 2 dX11_image_2 ?_
  refine z_sI (M := M_X11_image) 3 dX11_image_3 t_X11_within l_X11_112 (m_rr_of rfl) (rest := []) (c_X11_within h0 a1 0 1 G0) rfl rfl (Nat.le_of_ble_eq_true rfl) ⟨rfl, rfl⟩ (fun x1 h1 qx1 => ?_)
  obtain ⟨rfl, ⟨rfl, cx1⟩ | ⟨rfl, cx1⟩⟩ := qx1
  · refine z_if_ne_T (M := M_X11_image) 6 dX11_image_6 15 rfl (by omega) ?_
    refine z_aload_n (M := M_X11_image) 15 dX11_image_15 rfl ?_
    refine z_getR (M := M_X11_image) 16 dX11_image_16 f_X11_19 o_0 rfl (g_0_2 G0) ?_
    refine z_iload_n (M := M_X11_image) 19 dX11_image_19 rfl ?_
    have hi2 := isL_17 (i := a1) (by omega) (by omega)
    refine z_aaldL (M := M_X11_image) 20 dX11_image_20 o_17 (by omega) (by omega) (g_17 G0 (by omega)) ?_
    refine z_aload_n (M := M_X11_image) 21 dX11_image_21 rfl ?_
    refine z_getR (M := M_X11_image) 22 dX11_image_22 f_X11_12 o_0 rfl (g_0_0 G0) ?_
    refine z_vV (M := M_X11_image) 25 dX11_image_25 t_X4_copyFrom l_X11_197 (m_rr_of rfl) (rest := []) (c_X4_copyFrom h0 (18 + 8 * (a1).toNat) 1 hi2 (Or.inl rfl) G0) (oL hi2) rfl rfl rfl (Nat.le_of_ble_eq_true rfl) ⟨rfl, rfl⟩ (fun h2 qx3 => ?_)
    obtain ⟨G2, S2⟩ := qx3
    have R2 := (FR.rf (cs := [18, 19, 20, 21, 22, 23, 24, 25, 26, 27, 28, 29, 30, 31, 32, 33, 34, 107]) (ss := [(0, 14), (0, 15), (0, 16)]) (h := h0)).call S2 (by rcases (show a1 = 0 ∨ a1 = 1 by omega) with rfl | rfl <;> decide +kernel)
    refine z_aload_n (M := M_X11_image) 28 dX11_image_28 rfl ?_
    refine z_getR (M := M_X11_image) 29 dX11_image_29 f_X11_23 o_0 rfl (g_0_3 G2) ?_
    refine z_iload_n (M := M_X11_image) 32 dX11_image_32 rfl ?_
    refine z_iconst (M := M_X11_image) 33 dX11_image_33 ?_
    refine z_zastH (M := M_X11_image) 34 dX11_image_34 o_34 (by omega) (by omega) (by omega) (u_34 G2 (by omega) (by omega)) (R2.up rfl) (fun h3 E3 G3 R3 => ?_)
    refine z_aload_n (M := M_X11_image) 35 dX11_image_35 rfl ?_
    refine z_iconst (M := M_X11_image) 36 dX11_image_36 ?_
    refine z_vI (M := M_X11_image) 37 dX11_image_37 t_X11_accept l_X11_123 (m_rr_of rfl) (rest := []) (c_X11_accept h3 0 G3) o_0 rfl rfl rfl (Nat.le_of_ble_eq_true rfl) ⟨rfl, rfl⟩ (fun x4 h4 qx4 => ?_)
    obtain ⟨G4, S4, rfl⟩ := qx4
    have R4 := R3.call S4 (by decide +kernel)
    exact z_retI (M := M_X11_image) 40 dX11_image_40 rfl ⟨G4, R4, by omega, by omega⟩
  · refine z_if_ne_F (M := M_X11_image) 6 dX11_image_6 15 rfl (by omega) ?_
    refine z_aload_n (M := M_X11_image) 9 dX11_image_9 rfl ?_
    refine z_iconst (M := M_X11_image) 10 dX11_image_10 ?_
    refine z_vI (M := M_X11_image) 11 dX11_image_11 t_X11_refuse l_X11_116 (m_rr_of rfl) (rest := []) (c_X11_refuse h0 (-1) G0 ⟨by omega, by omega⟩) o_0 rfl rfl rfl (Nat.le_of_ble_eq_true rfl) ⟨rfl, rfl⟩ (fun x5 h5 qx5 => ?_)
    obtain ⟨G5, S5, rfl⟩ := qx5
    have R5 := (FR.rf (cs := [18, 19, 20, 21, 22, 23, 24, 25, 26, 27, 28, 29, 30, 31, 32, 33, 34, 107]) (ss := [(0, 14), (0, 15), (0, 16)]) (h := h0)).call S5 (by decide +kernel)
    exact z_retI (M := M_X11_image) 14 dX11_image_14 rfl ⟨G5, R5, by omega, by omega⟩
abbrev P_X11_back (h0 : m_H) (a1 : Int) : Int → m_H → Prop := fun x h' => GI h' ∧ FR [2, 3, 4, 5, 6, 7, 8, 107] [(0, 14), (1, 7), (1, 8), (1, 9)] h0 h' ∧ (-2) ≤ x ∧ x ≤ 0
set_option maxHeartbeats 4000000 in
set_option maxRecDepth 100000 in
theorem c_X11_back (h0 : m_H) (a1 : Int) (G0 : GI h0) : m_CI M_X11_back [mR 0, mI a1] h0 (P_X11_back h0 a1) := by
  refine m_CI_of ⟨by decide, rfl, by simp [m_arg, m_isL, M_X11_back], ⟨rfl, rfl⟩, rfl, rfl⟩ (ls := [some (mR 0), some (mI a1)]) rfl ?_
  refine z_ok (fun _ _ ok => ?_)
  have oa1 : m_32 a1 := ok 1 _ rfl
  unfold m_32 at oa1
  refine z_iload_n (M := M_X11_back) 0 dX11_back_0 rfl ?_
  refine z_iconst (M := M_X11_back) 1 dX11_back_1 ?_
  refine z_iconst (M := M_X11_back) 2 dX11_back_2 ?_
  refine z_sI (M := M_X11_back) 3 dX11_back_3 t_X11_within l_X11_112 (m_rr_of rfl) (rest := []) (c_X11_within h0 a1 0 1 G0) rfl rfl (Nat.le_of_ble_eq_true rfl) ⟨rfl, rfl⟩ (fun x1 h1 qx1 => ?_)
  obtain ⟨rfl, ⟨rfl, cx1⟩ | ⟨rfl, cx1⟩⟩ := qx1
  · refine z_if_ne_T (M := M_X11_back) 6 dX11_back_6 15 rfl (by omega) ?_
    refine z_aload_n (M := M_X11_back) 15 dX11_back_15 rfl ?_
    refine z_getR (M := M_X11_back) 16 dX11_back_16 f_X11_23 o_0 rfl (g_0_3 G0) ?_
    refine z_iload_n (M := M_X11_back) 19 dX11_back_19 rfl ?_
    refine z_zaldG (M := M_X11_back) 20 dX11_back_20 o_34 (by omega) (by omega) (g_34 G0 (by omega)) (fun x2 ex2 ax2 bx2 => ?_)
    refine z_if_ne (M := M_X11_back) 21 dX11_back_21 31 rfl (fun c3 => ?_) (fun c3 => ?_)
    · refine z_aload_n (M := M_X11_back) 31 dX11_back_31 rfl ?_
      refine z_getR (M := M_X11_back) 32 dX11_back_32 f_X11_12 o_0 rfl (g_0_0 G0) ?_
      refine z_aload_n (M := M_X11_back) 35 dX11_back_35 rfl ?_
      refine z_getR (M := M_X11_back) 36 dX11_back_36 f_X11_19 o_0 rfl (g_0_2 G0) ?_
      refine z_iload_n (M := M_X11_back) 39 dX11_back_39 rfl ?_
      have hi4 := isL_17 (i := a1) (by omega) (by omega)
      refine z_aaldL (M := M_X11_back) 40 dX11_back_40 o_17 (by omega) (by omega) (g_17 G0 (by omega)) ?_
      refine z_vV (M := M_X11_back) 41 dX11_back_41 t_X4_copyFrom l_X11_197 (m_rr_of rfl) (rest := []) (c_X4_copyFrom h0 1 (18 + 8 * (a1).toNat) (Or.inl rfl) hi4 G0) o_1 rfl rfl rfl (Nat.le_of_ble_eq_true rfl) ⟨rfl, rfl⟩ (fun h2 qx5 => ?_)
      obtain ⟨G2, S2⟩ := qx5
      have R2 := (FR.rf (cs := [2, 3, 4, 5, 6, 7, 8, 107]) (ss := [(0, 14), (1, 7), (1, 8), (1, 9)]) (h := h0)).call S2 (by decide +kernel)
      refine z_aload_n (M := M_X11_back) 44 dX11_back_44 rfl ?_
      refine z_iconst (M := M_X11_back) 45 dX11_back_45 ?_
      refine z_vI (M := M_X11_back) 46 dX11_back_46 t_X11_accept l_X11_123 (m_rr_of rfl) (rest := []) (c_X11_accept h2 0 G2) o_0 rfl rfl rfl (Nat.le_of_ble_eq_true rfl) ⟨rfl, rfl⟩ (fun x6 h3 qx6 => ?_)
      obtain ⟨G3, S3, rfl⟩ := qx6
      have R3 := R2.call S3 (by decide +kernel)
      exact z_retI (M := M_X11_back) 49 dX11_back_49 rfl ⟨G3, R3, by omega, by omega⟩
    · refine z_aload_n (M := M_X11_back) 24 dX11_back_24 rfl ?_
      refine z_bipush (M := M_X11_back) 25 dX11_back_25 ?_
      refine z_vI (M := M_X11_back) 27 dX11_back_27 t_X11_refuse l_X11_116 (m_rr_of rfl) (rest := []) (c_X11_refuse h0 (-2) G0 ⟨by omega, by omega⟩) o_0 rfl rfl rfl (Nat.le_of_ble_eq_true rfl) ⟨rfl, rfl⟩ (fun x7 h4 qx7 => ?_)
      obtain ⟨G4, S4, rfl⟩ := qx7
      have R4 := (FR.rf (cs := [2, 3, 4, 5, 6, 7, 8, 107]) (ss := [(0, 14), (1, 7), (1, 8), (1, 9)]) (h := h0)).call S4 (by decide +kernel)
      exact z_retI (M := M_X11_back) 30 dX11_back_30 rfl ⟨G4, R4, by omega, by omega⟩
  · refine z_if_ne_F (M := M_X11_back) 6 dX11_back_6 15 rfl (by omega) ?_
    refine z_aload_n (M := M_X11_back) 9 dX11_back_9 rfl ?_
    refine z_iconst (M := M_X11_back) 10 dX11_back_10 ?_
    refine z_vI (M := M_X11_back) 11 dX11_back_11 t_X11_refuse l_X11_116 (m_rr_of rfl) (rest := []) (c_X11_refuse h0 (-1) G0 ⟨by omega, by omega⟩) o_0 rfl rfl rfl (Nat.le_of_ble_eq_true rfl) ⟨rfl, rfl⟩ (fun x8 h5 qx8 => ?_)
    obtain ⟨G5, S5, rfl⟩ := qx8
    have R5 := (FR.rf (cs := [2, 3, 4, 5, 6, 7, 8, 107]) (ss := [(0, 14), (1, 7), (1, 8), (1, 9)]) (h := h0)).call S5 (by decide +kernel)
    exact z_retI (M := M_X11_back) 14 dX11_back_14 rfl ⟨G5, R5, by omega, by omega⟩
