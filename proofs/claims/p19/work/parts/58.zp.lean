abbrev P_X12_week3 (h0 : m_H) (a1 a2 : Int) : Int → m_H → Prop := fun x h' => GI h' ∧ FR [109, 110] [(108, 0), (108, 1)] h0 h' ∧ mRr (spSet ((0 ≤ a1 ∧ a1 ≤ 31) ∧ (-1 ≤ a2 ∧ a2 ≤ 3)) (10 + a1.toNat) a2) x h0 h' ∧ NPi h0 h'
set_option maxHeartbeats 4000000 in
set_option maxRecDepth 100000 in
theorem c_X12_week3 (h0 : m_H) (a1 a2 : Int) (G0 : GI h0) : m_CI M_X12_week [mR 108, mI a1, mI a2] h0 (P_X12_week3 h0 a1 a2) := by
  refine m_CI_of ⟨by decide, rfl, by simp [m_arg, m_isL, M_X12_week], ⟨rfl, rfl⟩, rfl, rfl⟩ (ls := [some (mR 108), some (mI a1), some (mI a2)]) rfl ?_
  refine z_ok (fun _ _ ok => ?_)
  have oa1 : m_32 a1 := ok 1 _ rfl
  unfold m_32 at oa1
  have oa2 : m_32 a2 := ok 2 _ rfl
  unfold m_32 at oa2
  refine z_aload_n (M := M_X12_week) 0 dX12_week_0 rfl ?_
  refine z_iconst (M := M_X12_week) 1 dX12_week_1 ?_
  refine z_putIH (M := M_X12_week) 2 dX12_week_2 p_X12_133 o_108 rfl (u_108_0 G0) ((FR.rf (cs := [109, 110]) (ss := [(108, 0), (108, 1)]) (h := h0)).up rfl) (fun h1 E1 G1 R1 => ?_)
  refine z_iload_n (M := M_X12_week) 5 dX12_week_5 rfl ?_
  refine z_sI (M := M_X12_week) 6 dX12_week_6 t_X12_isWeek l_X12_156 (m_rr_of rfl) (rest := []) (c_X12_isWeek h1 a1 G1) rfl rfl (Nat.le_of_ble_eq_true rfl) ⟨rfl, rfl⟩ (fun x1 h2 qx1 => ?_)
  obtain ⟨rfl, ⟨rfl, cx1⟩ | ⟨rfl, cx1⟩⟩ := qx1
  · refine z_if_eq_F (M := M_X12_week) 9 dX12_week_9 38 rfl (by omega) ?_
    refine z_iload_n (M := M_X12_week) 12 dX12_week_12 rfl ?_
    refine z_i2l (M := M_X12_week) 13 dX12_week_13 ?_
    refine z_ldc2 (M := M_X12_week) 14 dX12_week_14 k_X12_160 ?_
    refine z_ldc2 (M := M_X12_week) 17 dX12_week_17 k_X12_152 ?_
    refine z_sI (M := M_X12_week) 20 dX12_week_20 t_X12_in l_X12_143 (m_rr_of rfl) (rest := []) (c_X12_in h1 a2 (-1) 3 G1) rfl rfl (Nat.le_of_ble_eq_true rfl) ⟨rfl, rfl⟩ (fun x2 h3 qx2 => ?_)
    obtain ⟨rfl, ⟨rfl, cx2⟩ | ⟨rfl, cx2⟩⟩ := qx2
    · refine z_if_eq_F (M := M_X12_week) 23 dX12_week_23 38 rfl (by omega) ?_
      refine z_aload_n (M := M_X12_week) 26 dX12_week_26 rfl ?_
      refine z_bipush (M := M_X12_week) 27 dX12_week_27 ?_
      refine z_iload_n (M := M_X12_week) 29 dX12_week_29 rfl ?_
      refine z_iaddN (M := M_X12_week) 30 dX12_week_30 (by omega) (by omega) ?_
      refine z_iload_n (M := M_X12_week) 31 dX12_week_31 rfl ?_
      refine z_vI (M := M_X12_week) 32 dX12_week_32 t_X12_change l_X12_162 (m_rr_of rfl) (rest := []) (c_X12_change h1 (10 + a1) a2 G1 ⟨by omega, by omega⟩ (rb_w (by omega) (by omega) (by omega) (by omega))) o_108 rfl rfl rfl (Nat.le_of_ble_eq_true rfl) ⟨rfl, rfl⟩ (fun x3 h4 qx3 => ?_)
      obtain ⟨G4, S4, fx3_0, fx3_1, fx3_2⟩ := qx3
      have R4 := R1.call S4 (by decide +kernel)
      refine z_ok (fun ox3 _ _ => ?_)
      have ox3 := ox3.1; unfold m_ok m_32 at ox3
      refine z_goto (M := M_X12_week) 35 dX12_week_35 43 rfl ?_
      exact z_retI (M := M_X12_week) 43 dX12_week_43 rfl ⟨G4, R4, mR_yes (by omega) E1 (by omega) fx3_0 fx3_1 fx3_2, (NPi.change (NPi.put NPi.rf E1 (by decide)) S4 (fun _ => rfl) (fun _ => rfl) fx3_1 ⟨by omega, fun e => by omega⟩ (by omega))⟩
    · refine z_if_eq_T (M := M_X12_week) 23 dX12_week_23 38 rfl (by omega) ?_
      refine z_aload_n (M := M_X12_week) 38 dX12_week_38 rfl ?_
      refine z_iconst (M := M_X12_week) 39 dX12_week_39 ?_
      refine z_vI (M := M_X12_week) 40 dX12_week_40 t_X12_answer l_X12_147 (m_rr_of rfl) (rest := []) (c_X12_answer h1 (-1) G1 ⟨by omega, by omega⟩) o_108 rfl rfl rfl (Nat.le_of_ble_eq_true rfl) ⟨rfl, rfl⟩ (fun x4 h5 qx4 => ?_)
      obtain ⟨G5, S5, rfl⟩ := qx4
      have R5 := R1.call S5 (by decide +kernel)
      exact z_retI (M := M_X12_week) 43 dX12_week_43 rfl ⟨G5, R5, mR_no (by omega) E1 S5 (fun _ => rfl), (NPi.call (NPi.put NPi.rf E1 (by decide)) S5 (fun _ => rfl) (fun _ => rfl) (fun _ => rfl))⟩
  · refine z_if_eq_T (M := M_X12_week) 9 dX12_week_9 38 rfl (by omega) ?_
    refine z_aload_n (M := M_X12_week) 38 dX12_week_38 rfl ?_
    refine z_iconst (M := M_X12_week) 39 dX12_week_39 ?_
    refine z_vI (M := M_X12_week) 40 dX12_week_40 t_X12_answer l_X12_147 (m_rr_of rfl) (rest := []) (c_X12_answer h1 (-1) G1 ⟨by omega, by omega⟩) o_108 rfl rfl rfl (Nat.le_of_ble_eq_true rfl) ⟨rfl, rfl⟩ (fun x5 h6 qx5 => ?_)
    obtain ⟨G6, S6, rfl⟩ := qx5
    have R6 := R1.call S6 (by decide +kernel)
    exact z_retI (M := M_X12_week) 43 dX12_week_43 rfl ⟨G6, R6, mR_no (by omega) E1 S6 (fun _ => rfl), (NPi.call (NPi.put NPi.rf E1 (by decide)) S6 (fun _ => rfl) (fun _ => rfl) (fun _ => rfl))⟩
abbrev P_X12_cut3 (h0 : m_H) (a1 a2 : Int) : Int → m_H → Prop := fun x h' => GI h' ∧ FR [109, 110] [(108, 0), (108, 1)] h0 h' ∧ mRr (spSet ((0 ≤ a1 ∧ a1 ≤ 5) ∧ (a2 = -1 ∨ (1 ≤ a2 ∧ a2 ≤ 31))) (42 + a1.toNat) a2) x h0 h' ∧ NPi h0 h'
set_option maxHeartbeats 4000000 in
set_option maxRecDepth 100000 in
theorem c_X12_cut3 (h0 : m_H) (a1 a2 : Int) (G0 : GI h0) : m_CI M_X12_cut [mR 108, mI a1, mI a2] h0 (P_X12_cut3 h0 a1 a2) := by
  refine m_CI_of ⟨by decide, rfl, by simp [m_arg, m_isL, M_X12_cut], ⟨rfl, rfl⟩, rfl, rfl⟩ (ls := [some (mR 108), some (mI a1), some (mI a2)]) rfl ?_
  refine z_ok (fun _ _ ok => ?_)
  have oa1 : m_32 a1 := ok 1 _ rfl
  unfold m_32 at oa1
  have oa2 : m_32 a2 := ok 2 _ rfl
  unfold m_32 at oa2
  refine z_aload_n (M := M_X12_cut) 0 dX12_cut_0 rfl ?_
  refine z_iconst (M := M_X12_cut) 1 dX12_cut_1 ?_
  refine z_putIH (M := M_X12_cut) 2 dX12_cut_2 p_X12_133 o_108 rfl (u_108_0 G0) ((FR.rf (cs := [109, 110]) (ss := [(108, 0), (108, 1)]) (h := h0)).up rfl) (fun h1 E1 G1 R1 => ?_)
  refine z_iload_n (M := M_X12_cut) 5 dX12_cut_5 rfl ?_
  refine z_sI (M := M_X12_cut) 6 dX12_cut_6 t_X12_isThing l_X12_166 (m_rr_of rfl) (rest := []) (c_X12_isThing h1 a1 G1) rfl rfl (Nat.le_of_ble_eq_true rfl) ⟨rfl, rfl⟩ (fun x1 h2 qx1 => ?_)
  obtain ⟨rfl, ⟨rfl, cx1⟩ | ⟨rfl, cx1⟩⟩ := qx1
  · refine z_if_eq_F (M := M_X12_cut) 9 dX12_cut_9 41 rfl (by omega) ?_
    refine z_iload_n (M := M_X12_cut) 12 dX12_cut_12 rfl ?_
    refine z_iconst (M := M_X12_cut) 13 dX12_cut_13 ?_
    refine z_icmp_eq (M := M_X12_cut) 14 dX12_cut_14 29 rfl (fun c2 => ?_) (fun c2 => ?_)
    · refine z_aload_n (M := M_X12_cut) 29 dX12_cut_29 rfl ?_
      refine z_bipush (M := M_X12_cut) 30 dX12_cut_30 ?_
      refine z_iload_n (M := M_X12_cut) 32 dX12_cut_32 rfl ?_
      refine z_iaddN (M := M_X12_cut) 33 dX12_cut_33 (by omega) (by omega) ?_
      refine z_iload_n (M := M_X12_cut) 34 dX12_cut_34 rfl ?_
      refine z_vI (M := M_X12_cut) 35 dX12_cut_35 t_X12_change l_X12_162 (m_rr_of rfl) (rest := []) (c_X12_change h1 (42 + a1) a2 G1 ⟨by omega, by omega⟩ (rb_c (by omega) (by omega) (by omega) (by omega))) o_108 rfl rfl rfl (Nat.le_of_ble_eq_true rfl) ⟨rfl, rfl⟩ (fun x3 h3 qx3 => ?_)
      obtain ⟨G3, S3, fx3_0, fx3_1, fx3_2⟩ := qx3
      have R3 := R1.call S3 (by decide +kernel)
      refine z_ok (fun ox3 _ _ => ?_)
      have ox3 := ox3.1; unfold m_ok m_32 at ox3
      refine z_goto (M := M_X12_cut) 38 dX12_cut_38 46 rfl ?_
      exact z_retI (M := M_X12_cut) 46 dX12_cut_46 rfl ⟨G3, R3, mR_yes (by omega) E1 (by omega) fx3_0 fx3_1 fx3_2, (NPi.change (NPi.put NPi.rf E1 (by decide)) S3 (fun _ => rfl) (fun _ => rfl) fx3_1 ⟨by omega, fun e => by omega⟩ (by omega))⟩
    · refine z_iload_n (M := M_X12_cut) 17 dX12_cut_17 rfl ?_
      refine z_i2l (M := M_X12_cut) 18 dX12_cut_18 ?_
      refine z_lconst (M := M_X12_cut) 19 dX12_cut_19 (v := 1) ?_
      refine z_ldc2 (M := M_X12_cut) 20 dX12_cut_20 k_X12_154 ?_
      refine z_sI (M := M_X12_cut) 23 dX12_cut_23 t_X12_in l_X12_143 (m_rr_of rfl) (rest := []) (c_X12_in h1 a2 1 31 G1) rfl rfl (Nat.le_of_ble_eq_true rfl) ⟨rfl, rfl⟩ (fun x4 h4 qx4 => ?_)
      obtain ⟨rfl, ⟨rfl, cx4⟩ | ⟨rfl, cx4⟩⟩ := qx4
      · refine z_if_eq_F (M := M_X12_cut) 26 dX12_cut_26 41 rfl (by omega) ?_
        refine z_aload_n (M := M_X12_cut) 29 dX12_cut_29 rfl ?_
        refine z_bipush (M := M_X12_cut) 30 dX12_cut_30 ?_
        refine z_iload_n (M := M_X12_cut) 32 dX12_cut_32 rfl ?_
        refine z_iaddN (M := M_X12_cut) 33 dX12_cut_33 (by omega) (by omega) ?_
        refine z_iload_n (M := M_X12_cut) 34 dX12_cut_34 rfl ?_
        refine z_vI (M := M_X12_cut) 35 dX12_cut_35 t_X12_change l_X12_162 (m_rr_of rfl) (rest := []) (c_X12_change h1 (42 + a1) a2 G1 ⟨by omega, by omega⟩ (rb_c (by omega) (by omega) (by omega) (by omega))) o_108 rfl rfl rfl (Nat.le_of_ble_eq_true rfl) ⟨rfl, rfl⟩ (fun x5 h5 qx5 => ?_)
        obtain ⟨G5, S5, fx5_0, fx5_1, fx5_2⟩ := qx5
        have R5 := R1.call S5 (by decide +kernel)
        refine z_ok (fun ox5 _ _ => ?_)
        have ox5 := ox5.1; unfold m_ok m_32 at ox5
        refine z_goto (M := M_X12_cut) 38 dX12_cut_38 46 rfl ?_
        exact z_retI (M := M_X12_cut) 46 dX12_cut_46 rfl ⟨G5, R5, mR_yes (by omega) E1 (by omega) fx5_0 fx5_1 fx5_2, (NPi.change (NPi.put NPi.rf E1 (by decide)) S5 (fun _ => rfl) (fun _ => rfl) fx5_1 ⟨by omega, fun e => by omega⟩ (by omega))⟩
      · refine z_if_eq_T (M := M_X12_cut) 26 dX12_cut_26 41 rfl (by omega) ?_
        refine z_aload_n (M := M_X12_cut) 41 dX12_cut_41 rfl ?_
        refine z_iconst (M := M_X12_cut) 42 dX12_cut_42 ?_
        refine z_vI (M := M_X12_cut) 43 dX12_cut_43 t_X12_answer l_X12_147 (m_rr_of rfl) (rest := []) (c_X12_answer h1 (-1) G1 ⟨by omega, by omega⟩) o_108 rfl rfl rfl (Nat.le_of_ble_eq_true rfl) ⟨rfl, rfl⟩ (fun x6 h6 qx6 => ?_)
        obtain ⟨G6, S6, rfl⟩ := qx6
        have R6 := R1.call S6 (by decide +kernel)
        exact z_retI (M := M_X12_cut) 46 dX12_cut_46 rfl ⟨G6, R6, mR_no (by omega) E1 S6 (fun _ => rfl), (NPi.call (NPi.put NPi.rf E1 (by decide)) S6 (fun _ => rfl) (fun _ => rfl) (fun _ => rfl))⟩
  · refine z_if_eq_T (M := M_X12_cut) 9 dX12_cut_9 41 rfl (by omega) ?_
    refine z_aload_n (M := M_X12_cut) 41 dX12_cut_41 rfl ?_
    refine z_iconst (M := M_X12_cut) 42 dX12_cut_42 ?_
    refine z_vI (M := M_X12_cut) 43 dX12_cut_43 t_X12_answer l_X12_147 (m_rr_of rfl) (rest := []) (c_X12_answer h1 (-1) G1 ⟨by omega, by omega⟩) o_108 rfl rfl rfl (Nat.le_of_ble_eq_true rfl) ⟨rfl, rfl⟩ (fun x7 h7 qx7 => ?_)
    obtain ⟨G7, S7, rfl⟩ := qx7
    have R7 := R1.call S7 (by decide +kernel)
    exact z_retI (M := M_X12_cut) 46 dX12_cut_46 rfl ⟨G7, R7, mR_no (by omega) E1 S7 (fun _ => rfl), (NPi.call (NPi.put NPi.rf E1 (by decide)) S7 (fun _ => rfl) (fun _ => rfl) (fun _ => rfl))⟩
abbrev P_X12_tell3 (h0 : m_H) (a1 a2 : Int) : Int → m_H → Prop := fun x h' => GI h' ∧ FR [109, 110] [(108, 0), (108, 1)] h0 h' ∧ mRr (spSet ((0 ≤ a1 ∧ a1 ≤ 15) ∧ (1 ≤ a2 ∧ a2 ≤ 9999)) (60 + a1.toNat) a2) x h0 h' ∧ NQi h0 h'
set_option maxHeartbeats 4000000 in
set_option maxRecDepth 100000 in
theorem c_X12_tell3 (h0 : m_H) (a1 a2 : Int) (G0 : GI h0) : m_CI M_X12_tell [mR 108, mI a1, mI a2] h0 (P_X12_tell3 h0 a1 a2) := by
  refine m_CI_of ⟨by decide, rfl, by simp [m_arg, m_isL, M_X12_tell], ⟨rfl, rfl⟩, rfl, rfl⟩ (ls := [some (mR 108), some (mI a1), some (mI a2)]) rfl ?_
  refine z_ok (fun _ _ ok => ?_)
  have oa1 : m_32 a1 := ok 1 _ rfl
  unfold m_32 at oa1
  have oa2 : m_32 a2 := ok 2 _ rfl
  unfold m_32 at oa2
  refine z_aload_n (M := M_X12_tell) 0 dX12_tell_0 rfl ?_
  refine z_iconst (M := M_X12_tell) 1 dX12_tell_1 ?_
  refine z_putIH (M := M_X12_tell) 2 dX12_tell_2 p_X12_133 o_108 rfl (u_108_0 G0) ((FR.rf (cs := [109, 110]) (ss := [(108, 0), (108, 1)]) (h := h0)).up rfl) (fun h1 E1 G1 R1 => ?_)
  refine z_iload_n (M := M_X12_tell) 5 dX12_tell_5 rfl ?_
  refine z_i2l (M := M_X12_tell) 6 dX12_tell_6 ?_
  refine z_lconst (M := M_X12_tell) 7 dX12_tell_7 (v := 0) ?_
  refine z_ldc2 (M := M_X12_tell) 8 dX12_tell_8 k_X12_381 ?_
  refine z_sI (M := M_X12_tell) 11 dX12_tell_11 t_X12_in l_X12_143 (m_rr_of rfl) (rest := []) (c_X12_in h1 a1 0 15 G1) rfl rfl (Nat.le_of_ble_eq_true rfl) ⟨rfl, rfl⟩ (fun x1 h2 qx1 => ?_)
  obtain ⟨rfl, ⟨rfl, cx1⟩ | ⟨rfl, cx1⟩⟩ := qx1
  · refine z_if_eq_F (M := M_X12_tell) 14 dX12_tell_14 41 rfl (by omega) ?_
    refine z_iload_n (M := M_X12_tell) 17 dX12_tell_17 rfl ?_
    refine z_i2l (M := M_X12_tell) 18 dX12_tell_18 ?_
    refine z_lconst (M := M_X12_tell) 19 dX12_tell_19 (v := 1) ?_
    refine z_ldc2 (M := M_X12_tell) 20 dX12_tell_20 k_X12_499 ?_
    refine z_sI (M := M_X12_tell) 23 dX12_tell_23 t_X12_in l_X12_143 (m_rr_of rfl) (rest := []) (c_X12_in h1 a2 1 9999 G1) rfl rfl (Nat.le_of_ble_eq_true rfl) ⟨rfl, rfl⟩ (fun x2 h3 qx2 => ?_)
    obtain ⟨rfl, ⟨rfl, cx2⟩ | ⟨rfl, cx2⟩⟩ := qx2
    · refine z_if_eq_F (M := M_X12_tell) 26 dX12_tell_26 41 rfl (by omega) ?_
      refine z_aload_n (M := M_X12_tell) 29 dX12_tell_29 rfl ?_
      refine z_bipush (M := M_X12_tell) 30 dX12_tell_30 ?_
      refine z_iload_n (M := M_X12_tell) 32 dX12_tell_32 rfl ?_
      refine z_iaddN (M := M_X12_tell) 33 dX12_tell_33 (by omega) (by omega) ?_
      refine z_iload_n (M := M_X12_tell) 34 dX12_tell_34 rfl ?_
      refine z_vI (M := M_X12_tell) 35 dX12_tell_35 t_X12_change l_X12_162 (m_rr_of rfl) (rest := []) (c_X12_change h1 (60 + a1) a2 G1 ⟨by omega, by omega⟩ (rb_l (by omega) (by omega) (by omega) (by omega))) o_108 rfl rfl rfl (Nat.le_of_ble_eq_true rfl) ⟨rfl, rfl⟩ (fun x3 h4 qx3 => ?_)
      obtain ⟨G4, S4, fx3_0, fx3_1, fx3_2⟩ := qx3
      have R4 := R1.call S4 (by decide +kernel)
      refine z_ok (fun ox3 _ _ => ?_)
      have ox3 := ox3.1; unfold m_ok m_32 at ox3
      refine z_goto (M := M_X12_tell) 38 dX12_tell_38 46 rfl ?_
      exact z_retI (M := M_X12_tell) 46 dX12_tell_46 rfl ⟨G4, R4, mR_yes (by omega) E1 (by omega) fx3_0 fx3_1 fx3_2, (NQi.change (NQi.put NQi.rf E1 (by decide)) S4 (fun _ => rfl) (fun _ => rfl) fx3_1 ⟨by omega, fun e => by omega⟩)⟩
    · refine z_if_eq_T (M := M_X12_tell) 26 dX12_tell_26 41 rfl (by omega) ?_
      refine z_aload_n (M := M_X12_tell) 41 dX12_tell_41 rfl ?_
      refine z_iconst (M := M_X12_tell) 42 dX12_tell_42 ?_
      refine z_vI (M := M_X12_tell) 43 dX12_tell_43 t_X12_answer l_X12_147 (m_rr_of rfl) (rest := []) (c_X12_answer h1 (-1) G1 ⟨by omega, by omega⟩) o_108 rfl rfl rfl (Nat.le_of_ble_eq_true rfl) ⟨rfl, rfl⟩ (fun x4 h5 qx4 => ?_)
      obtain ⟨G5, S5, rfl⟩ := qx4
      have R5 := R1.call S5 (by decide +kernel)
      exact z_retI (M := M_X12_tell) 46 dX12_tell_46 rfl ⟨G5, R5, mR_no (by omega) E1 S5 (fun _ => rfl), (NQi.call (NQi.put NQi.rf E1 (by decide)) S5 (fun _ => rfl) (fun _ => rfl) (fun _ => rfl))⟩
  · refine z_if_eq_T (M := M_X12_tell) 14 dX12_tell_14 41 rfl (by omega) ?_
    refine z_aload_n (M := M_X12_tell) 41 dX12_tell_41 rfl ?_
    refine z_iconst (M := M_X12_tell) 42 dX12_tell_42 ?_
    refine z_vI (M := M_X12_tell) 43 dX12_tell_43 t_X12_answer l_X12_147 (m_rr_of rfl) (rest := []) (c_X12_answer h1 (-1) G1 ⟨by omega, by omega⟩) o_108 rfl rfl rfl (Nat.le_of_ble_eq_true rfl) ⟨rfl, rfl⟩ (fun x5 h6 qx5 => ?_)
    obtain ⟨G6, S6, rfl⟩ := qx5
    have R6 := R1.call S6 (by decide +kernel)
    exact z_retI (M := M_X12_tell) 46 dX12_tell_46 rfl ⟨G6, R6, mR_no (by omega) E1 S6 (fun _ => rfl), (NQi.call (NQi.put NQi.rf E1 (by decide)) S6 (fun _ => rfl) (fun _ => rfl) (fun _ => rfl))⟩
abbrev P_X12_counts3 (h0 : m_H) (a1 a2 : Int) : Int → m_H → Prop := fun x h' => GI h' ∧ FR [109, 110] [(108, 0), (108, 1)] h0 h' ∧ h' 110 = spCount a1 a2 (h0 110) ∧ NPi h0 h'
set_option maxHeartbeats 4000000 in
set_option maxRecDepth 100000 in
theorem c_X12_counts3 (h0 : m_H) (a1 a2 : Int) (G0 : GI h0) : m_CI M_X12_counts [mR 108, mI a1, mI a2] h0 (P_X12_counts3 h0 a1 a2) := by
  refine m_CI_of ⟨by decide, rfl, by simp [m_arg, m_isL, M_X12_counts], ⟨rfl, rfl⟩, rfl, rfl⟩ (ls := [some (mR 108), some (mI a1), some (mI a2)]) rfl ?_
  refine z_ok (fun _ _ ok => ?_)
  have oa1 : m_32 a1 := ok 1 _ rfl
  unfold m_32 at oa1
  have oa2 : m_32 a2 := ok 2 _ rfl
  unfold m_32 at oa2
  refine z_aload_n (M := M_X12_counts) 0 dX12_counts_0 rfl ?_
  refine z_iconst (M := M_X12_counts) 1 dX12_counts_1 ?_
  refine z_putIH (M := M_X12_counts) 2 dX12_counts_2 p_X12_133 o_108 rfl (u_108_0 G0) ((FR.rf (cs := [109, 110]) (ss := [(108, 0), (108, 1)]) (h := h0)).up rfl) (fun h1 E1 G1 R1 => ?_)
  have r0_ : h1 110 (Int.toNat 0) = h0 110 (Int.toNat 0) := tl_o E1 (by decide) _
  have q0_ : h0 110 (Int.toNat 0) = h0 110 0 := rfl
  refine z_iload_n (M := M_X12_counts) 5 dX12_counts_5 rfl ?_
  refine z_i2l (M := M_X12_counts) 6 dX12_counts_6 ?_
  refine z_lconst (M := M_X12_counts) 7 dX12_counts_7 (v := 0) ?_
  refine z_lconst (M := M_X12_counts) 8 dX12_counts_8 (v := 1) ?_
  refine z_sI (M := M_X12_counts) 9 dX12_counts_9 t_X12_in l_X12_143 (m_rr_of rfl) (rest := []) (c_X12_in h1 a2 0 1 G1) rfl rfl (Nat.le_of_ble_eq_true rfl) ⟨rfl, rfl⟩ (fun x1 h2 qx1 => ?_)
  obtain ⟨rfl, ⟨rfl, cx1⟩ | ⟨rfl, cx1⟩⟩ := qx1
  · refine z_if_ne_T (M := M_X12_counts) 12 dX12_counts_12 21 rfl (by omega) ?_
    refine z_aload_n (M := M_X12_counts) 21 dX12_counts_21 rfl ?_
    refine z_iload_n (M := M_X12_counts) 22 dX12_counts_22 rfl ?_
    refine z_vI (M := M_X12_counts) 23 dX12_counts_23 t_X12_isEntry l_X12_192 (m_rr_of rfl) (rest := []) (c_X12_isEntry h1 a1 G1) o_108 rfl rfl rfl (Nat.le_of_ble_eq_true rfl) ⟨rfl, rfl⟩ (fun x2 h3 qx2 => ?_)
    obtain ⟨rfl, ⟨rfl, cx2⟩ | ⟨rfl, cx2⟩⟩ := qx2
    · refine z_if_eq_F (M := M_X12_counts) 26 dX12_counts_26 45 rfl (by omega) ?_
      refine z_aload_n (M := M_X12_counts) 29 dX12_counts_29 rfl ?_
      refine z_bipush (M := M_X12_counts) 30 dX12_counts_30 ?_
      refine z_iconst (M := M_X12_counts) 32 dX12_counts_32 ?_
      refine z_iload_n (M := M_X12_counts) 33 dX12_counts_33 rfl ?_
      refine z_imulN (M := M_X12_counts) 34 dX12_counts_34 (by omega) (by omega) ?_
      refine z_iaddN (M := M_X12_counts) 35 dX12_counts_35 (by omega) (by omega) ?_
      refine z_iconst (M := M_X12_counts) 36 dX12_counts_36 ?_
      refine z_iaddN (M := M_X12_counts) 37 dX12_counts_37 (by omega) (by omega) ?_
      refine z_iload_n (M := M_X12_counts) 38 dX12_counts_38 rfl ?_
      refine z_vI (M := M_X12_counts) 39 dX12_counts_39 t_X12_change l_X12_162 (m_rr_of rfl) (rest := []) (c_X12_change h1 ((80 + (5 * a1)) + 4) a2 G1 ⟨by omega, by omega⟩ (rb_e4 (e := a1) (by omega) (by omega) (by omega) (by omega) (by omega))) o_108 rfl rfl rfl (Nat.le_of_ble_eq_true rfl) ⟨rfl, rfl⟩ (fun x3 h4 qx3 => ?_)
      obtain ⟨G4, S4, fx3_0, fx3_1, fx3_2⟩ := qx3
      have R4 := R1.call S4 (by decide +kernel)
      refine z_ok (fun ox3 _ _ => ?_)
      have ox3 := ox3.1; unfold m_ok m_32 at ox3
      refine z_goto (M := M_X12_counts) 42 dX12_counts_42 51 rfl ?_
      have g0_ := gw_0 G0
      exact z_retI (M := M_X12_counts) 51 dX12_counts_51 rfl ⟨G4, R4, by unfold spCount; rw [cif_pos ⟨⟨by omega, by omega⟩, ⟨by omega, by omega⟩⟩]; exact (mR_yes (V := True) (i := 5 * a1.toNat + 84) trivial E1 (by omega) fx3_0 fx3_1 fx3_2).2.trans (by unfold spSet; rw [cif_pos trivial]), (NPi.change (NPi.put NPi.rf E1 (by decide)) S4 (fun _ => rfl) (fun _ => rfl) fx3_1 ⟨by omega, fun e => by omega⟩ (by omega))⟩
    · refine z_if_eq_T (M := M_X12_counts) 26 dX12_counts_26 45 rfl (by omega) ?_
      refine z_aload_n (M := M_X12_counts) 45 dX12_counts_45 rfl ?_
      refine z_bipush (M := M_X12_counts) 46 dX12_counts_46 ?_
      refine z_vI (M := M_X12_counts) 48 dX12_counts_48 t_X12_answer l_X12_147 (m_rr_of rfl) (rest := []) (c_X12_answer h1 (-2) G1 ⟨by omega, by omega⟩) o_108 rfl rfl rfl (Nat.le_of_ble_eq_true rfl) ⟨rfl, rfl⟩ (fun x4 h5 qx4 => ?_)
      obtain ⟨G5, S5, rfl⟩ := qx4
      have R5 := R1.call S5 (by decide +kernel)
      have g0_ := gw_0 G0
      exact z_retI (M := M_X12_counts) 51 dX12_counts_51 rfl ⟨G5, R5, by unfold spCount; rw [cif_neg (fun z => by have z1 := z.1; have z2 := z.2; omega)]; exact (rowz S5 (fun _ => rfl)).trans (tl_r E1 (by decide)), (NPi.call (NPi.put NPi.rf E1 (by decide)) S5 (fun _ => rfl) (fun _ => rfl) (fun _ => rfl))⟩
  · refine z_if_ne_F (M := M_X12_counts) 12 dX12_counts_12 21 rfl (by omega) ?_
    refine z_aload_n (M := M_X12_counts) 15 dX12_counts_15 rfl ?_
    refine z_iconst (M := M_X12_counts) 16 dX12_counts_16 ?_
    refine z_vI (M := M_X12_counts) 17 dX12_counts_17 t_X12_answer l_X12_147 (m_rr_of rfl) (rest := []) (c_X12_answer h1 (-1) G1 ⟨by omega, by omega⟩) o_108 rfl rfl rfl (Nat.le_of_ble_eq_true rfl) ⟨rfl, rfl⟩ (fun x5 h6 qx5 => ?_)
    obtain ⟨G6, S6, rfl⟩ := qx5
    have R6 := R1.call S6 (by decide +kernel)
    have g0_ := gw_0 G0
    exact z_retI (M := M_X12_counts) 20 dX12_counts_20 rfl ⟨G6, R6, by unfold spCount; rw [cif_neg (fun z => by have z1 := z.1; have z2 := z.2; omega)]; exact (rowz S6 (fun _ => rfl)).trans (tl_r E1 (by decide)), (NPi.call (NPi.put NPi.rf E1 (by decide)) S6 (fun _ => rfl) (fun _ => rfl) (fun _ => rfl))⟩
abbrev P_X12_shorter3 (h0 : m_H) (a1 a2 : Int) : Int → m_H → Prop := fun x h' => GI h' ∧ FR [109, 110] [(108, 0), (108, 1)] h0 h' ∧ mRr (spShort a1 a2) x h0 h' ∧ NPi h0 h'
set_option maxHeartbeats 4000000 in
set_option maxRecDepth 100000 in
theorem c_X12_shorter3 (h0 : m_H) (a1 a2 : Int) (G0 : GI h0) : m_CI M_X12_shorter [mR 108, mI a1, mI a2] h0 (P_X12_shorter3 h0 a1 a2) := by
  refine m_CI_of ⟨by decide, rfl, by simp [m_arg, m_isL, M_X12_shorter], ⟨rfl, rfl⟩, rfl, rfl⟩ (ls := [some (mR 108), some (mI a1), some (mI a2)]) rfl ?_
  refine z_ok (fun _ _ ok => ?_)
  have oa1 : m_32 a1 := ok 1 _ rfl
  unfold m_32 at oa1
  have oa2 : m_32 a2 := ok 2 _ rfl
  unfold m_32 at oa2
  refine z_aload_n (M := M_X12_shorter) 0 dX12_shorter_0 rfl ?_
  refine z_iconst (M := M_X12_shorter) 1 dX12_shorter_1 ?_
  refine z_putIH (M := M_X12_shorter) 2 dX12_shorter_2 p_X12_133 o_108 rfl (u_108_0 G0) ((FR.rf (cs := [109, 110]) (ss := [(108, 0), (108, 1)]) (h := h0)).up rfl) (fun h1 E1 G1 R1 => ?_)
  have row_ : h1 110 = h0 110 := tl_r E1 (by decide)
  refine z_iload_n (M := M_X12_shorter) 5 dX12_shorter_5 rfl ?_
  refine z_sI (M := M_X12_shorter) 6 dX12_shorter_6 t_X12_isKeeper l_X12_169 (m_rr_of rfl) (rest := []) (c_X12_isKeeper h1 a1 G1) rfl rfl (Nat.le_of_ble_eq_true rfl) ⟨rfl, rfl⟩ (fun x1 h2 qx1 => ?_)
  obtain ⟨rfl, ⟨rfl, cx1⟩ | ⟨rfl, cx1⟩⟩ := qx1
  · refine z_if_eq_F (M := M_X12_shorter) 9 dX12_shorter_9 24 rfl (by omega) ?_
    refine z_iload_n (M := M_X12_shorter) 12 dX12_shorter_12 rfl ?_
    refine z_sI (M := M_X12_shorter) 13 dX12_shorter_13 t_X12_isKeeper l_X12_169 (m_rr_of rfl) (rest := []) (c_X12_isKeeper h1 a2 G1) rfl rfl (Nat.le_of_ble_eq_true rfl) ⟨rfl, rfl⟩ (fun x2 h3 qx2 => ?_)
    obtain ⟨rfl, ⟨rfl, cx2⟩ | ⟨rfl, cx2⟩⟩ := qx2
    · refine z_if_eq_F (M := M_X12_shorter) 16 dX12_shorter_16 24 rfl (by omega) ?_
      refine z_iload_n (M := M_X12_shorter) 19 dX12_shorter_19 rfl ?_
      refine z_iload_n (M := M_X12_shorter) 20 dX12_shorter_20 rfl ?_
      refine z_icmp_ne (M := M_X12_shorter) 21 dX12_shorter_21 30 rfl (fun c3 => ?_) (fun c3 => ?_)
      · refine z_aload_n (M := M_X12_shorter) 30 dX12_shorter_30 rfl ?_
        refine z_iload_n (M := M_X12_shorter) 31 dX12_shorter_31 rfl ?_
        refine z_iload_n (M := M_X12_shorter) 32 dX12_shorter_32 rfl ?_
        refine z_vI (M := M_X12_shorter) 33 dX12_shorter_33 t_X12_isShorter l_X12_172 (m_rr_of rfl) (rest := []) (c_X12_isShorter2 h1 a1 a2 G1) o_108 rfl rfl rfl (Nat.le_of_ble_eq_true rfl) ⟨rfl, rfl⟩ (fun x4 h4 qx4 => ?_)
        obtain ⟨G4, S4, ax4, bx4, fx4_0⟩ := qx4
        have R4 := R1.call S4 (by decide +kernel)
        refine z_if_eq (M := M_X12_shorter) 36 dX12_shorter_36 46 rfl (fun c5 => ?_) (fun c5 => ?_)
        · refine z_aload_n (M := M_X12_shorter) 46 dX12_shorter_46 rfl ?_
          refine z_getR (M := M_X12_shorter) 47 dX12_shorter_47 f_X12_13 o_108 rfl (g_108_3 G4) ?_
          refine z_iconst (M := M_X12_shorter) 50 dX12_shorter_50 ?_
          refine z_ialdG (M := M_X12_shorter) 51 dX12_shorter_51 o_110 (by omega) (by omega) (gw_1 G4) (fun x6 ex6 ax6 bx6 => ?_)
          refine z_bipush (M := M_X12_shorter) 52 dX12_shorter_52 ?_
          refine z_icmp_ne (M := M_X12_shorter) 54 dX12_shorter_54 64 rfl (fun c7 => ?_) (fun c7 => ?_)
          · refine z_aload_n (M := M_X12_shorter) 64 dX12_shorter_64 rfl ?_
            refine z_iload_n (M := M_X12_shorter) 65 dX12_shorter_65 rfl ?_
            refine z_iload_n (M := M_X12_shorter) 66 dX12_shorter_66 rfl ?_
            refine z_vV (M := M_X12_shorter) 67 dX12_shorter_67 t_X12_addShorter l_X12_176 (m_rr_of rfl) (rest := []) (c_X12_addShorter2 h4 a1 a2 G4 ⟨by omega, by omega⟩ ⟨by omega, by omega⟩ (le_e ex6 (by omega))) o_108 rfl rfl rfl (Nat.le_of_ble_eq_true rfl) ⟨rfl, rfl⟩ (fun h5 qx8 => ?_)
            obtain ⟨G5, S5, fx8_0, fx8_1, fx8_2, npx8⟩ := qx8
            have R5 := R4.call S5 (by decide +kernel)
            refine z_aload_n (M := M_X12_shorter) 70 dX12_shorter_70 rfl ?_
            refine z_aload_n (M := M_X12_shorter) 71 dX12_shorter_71 rfl ?_
            refine z_getR (M := M_X12_shorter) 72 dX12_shorter_72 f_X12_13 o_108 rfl (g_108_3 G5) ?_
            refine z_iconst (M := M_X12_shorter) 75 dX12_shorter_75 ?_
            refine z_ialdE (M := M_X12_shorter) 76 dX12_shorter_76 o_110 (by omega) (by omega) (eq_ad fx8_1 ex6) ?_
            refine z_vI (M := M_X12_shorter) 77 dX12_shorter_77 t_X12_answer l_X12_147 (m_rr_of rfl) (rest := []) (c_X12_answer h5 (x6 + 1) G5 ⟨by omega, by omega⟩) o_108 rfl rfl rfl (Nat.le_of_ble_eq_true rfl) ⟨rfl, rfl⟩ (fun x9 h6 qx9 => ?_)
            obtain ⟨G6, S6, rfl⟩ := qx9
            have R6 := R5.call S6 (by decide +kernel)
            have is_ : x4 = 1 ↔ iS (h0 110) a1 a2 := by rw [← row_]; exact fx4_0
            have rh_ : h4 110 = h0 110 := (rowz S4 (fun _ => rfl)).trans row_
            have e1_ : h0 110 1 = x6 := (congrFun rh_ 1).symm.trans ex6
            have ra_ : h5 110 = rS (h0 110) a1 a2 := fx8_2.trans (by rw [rh_])
            have e2_ : h5 110 1 = h0 110 1 + 1 := congrFun ra_ 1
            have e3_ : h5 110 1 = (x6 + 1) := (eq_ad fx8_1 ex6)
            exact z_retI (M := M_X12_shorter) 80 dX12_shorter_80 rfl ⟨G6, R6, ⟨by unfold spShort; rw [cif_pos (by omega), cif_neg (fun z => by have := is_.mpr z; omega), cif_pos (by omega)]; show (x6 + 1) = h0 110 1 + 1; omega, by unfold spShort; rw [cif_pos (by omega), cif_neg (fun z => by have := is_.mpr z; omega), cif_pos (by omega)]; exact (rowz S6 (fun _ => rfl)).trans ra_⟩, (NPi.call (NPi.tr (NPi.call (NPi.put NPi.rf E1 (by decide)) S4 (fun _ => rfl) (fun _ => rfl) (fun _ => rfl)) npx8) S6 (fun _ => rfl) (fun _ => rfl) (fun _ => rfl))⟩
          · refine z_aload_n (M := M_X12_shorter) 57 dX12_shorter_57 rfl ?_
            refine z_bipush (M := M_X12_shorter) 58 dX12_shorter_58 ?_
            refine z_vI (M := M_X12_shorter) 60 dX12_shorter_60 t_X12_answer l_X12_147 (m_rr_of rfl) (rest := []) (c_X12_answer h4 (-5) G4 ⟨by omega, by omega⟩) o_108 rfl rfl rfl (Nat.le_of_ble_eq_true rfl) ⟨rfl, rfl⟩ (fun x10 h7 qx10 => ?_)
            obtain ⟨G7, S7, rfl⟩ := qx10
            have R7 := R4.call S7 (by decide +kernel)
            have is_ : x4 = 1 ↔ iS (h0 110) a1 a2 := by rw [← row_]; exact fx4_0
            have rh_ : h4 110 = h0 110 := (rowz S4 (fun _ => rfl)).trans row_
            have e1_ : h0 110 1 = x6 := (congrFun rh_ 1).symm.trans ex6
            exact z_retI (M := M_X12_shorter) 63 dX12_shorter_63 rfl ⟨G7, R7, ⟨by unfold spShort; rw [cif_pos (by omega), cif_neg (fun z => by have := is_.mpr z; omega), cif_neg (by omega)], by unfold spShort; rw [cif_pos (by omega), cif_neg (fun z => by have := is_.mpr z; omega), cif_neg (by omega)]; exact (rowz S7 (fun _ => rfl)).trans rh_⟩, (NPi.call (NPi.call (NPi.put NPi.rf E1 (by decide)) S4 (fun _ => rfl) (fun _ => rfl) (fun _ => rfl)) S7 (fun _ => rfl) (fun _ => rfl) (fun _ => rfl))⟩
        · refine z_aload_n (M := M_X12_shorter) 39 dX12_shorter_39 rfl ?_
          refine z_bipush (M := M_X12_shorter) 40 dX12_shorter_40 ?_
          refine z_vI (M := M_X12_shorter) 42 dX12_shorter_42 t_X12_answer l_X12_147 (m_rr_of rfl) (rest := []) (c_X12_answer h4 (-3) G4 ⟨by omega, by omega⟩) o_108 rfl rfl rfl (Nat.le_of_ble_eq_true rfl) ⟨rfl, rfl⟩ (fun x11 h8 qx11 => ?_)
          obtain ⟨G8, S8, rfl⟩ := qx11
          have R8 := R4.call S8 (by decide +kernel)
          have is_ : x4 = 1 ↔ iS (h0 110) a1 a2 := by rw [← row_]; exact fx4_0
          have rh_ : h4 110 = h0 110 := (rowz S4 (fun _ => rfl)).trans row_
          exact z_retI (M := M_X12_shorter) 45 dX12_shorter_45 rfl ⟨G8, R8, ⟨by unfold spShort; rw [cif_pos (by omega), cif_pos (is_.mp (by omega))], by unfold spShort; rw [cif_pos (by omega), cif_pos (is_.mp (by omega))]; exact (rowz S8 (fun _ => rfl)).trans rh_⟩, (NPi.call (NPi.call (NPi.put NPi.rf E1 (by decide)) S4 (fun _ => rfl) (fun _ => rfl) (fun _ => rfl)) S8 (fun _ => rfl) (fun _ => rfl) (fun _ => rfl))⟩
      · refine z_aload_n (M := M_X12_shorter) 24 dX12_shorter_24 rfl ?_
        refine z_iconst (M := M_X12_shorter) 25 dX12_shorter_25 ?_
        refine z_vI (M := M_X12_shorter) 26 dX12_shorter_26 t_X12_answer l_X12_147 (m_rr_of rfl) (rest := []) (c_X12_answer h1 (-1) G1 ⟨by omega, by omega⟩) o_108 rfl rfl rfl (Nat.le_of_ble_eq_true rfl) ⟨rfl, rfl⟩ (fun x12 h9 qx12 => ?_)
        obtain ⟨G9, S9, rfl⟩ := qx12
        have R9 := R1.call S9 (by decide +kernel)
        exact z_retI (M := M_X12_shorter) 29 dX12_shorter_29 rfl ⟨G9, R9, ⟨by unfold spShort; rw [cif_neg (by omega)], by unfold spShort; rw [cif_neg (by omega)]; exact (rowz S9 (fun _ => rfl)).trans row_⟩, (NPi.call (NPi.put NPi.rf E1 (by decide)) S9 (fun _ => rfl) (fun _ => rfl) (fun _ => rfl))⟩
    · refine z_if_eq_T (M := M_X12_shorter) 16 dX12_shorter_16 24 rfl (by omega) ?_
      refine z_aload_n (M := M_X12_shorter) 24 dX12_shorter_24 rfl ?_
      refine z_iconst (M := M_X12_shorter) 25 dX12_shorter_25 ?_
      refine z_vI (M := M_X12_shorter) 26 dX12_shorter_26 t_X12_answer l_X12_147 (m_rr_of rfl) (rest := []) (c_X12_answer h1 (-1) G1 ⟨by omega, by omega⟩) o_108 rfl rfl rfl (Nat.le_of_ble_eq_true rfl) ⟨rfl, rfl⟩ (fun x13 h10 qx13 => ?_)
      obtain ⟨G10, S10, rfl⟩ := qx13
      have R10 := R1.call S10 (by decide +kernel)
      exact z_retI (M := M_X12_shorter) 29 dX12_shorter_29 rfl ⟨G10, R10, ⟨by unfold spShort; rw [cif_neg (by omega)], by unfold spShort; rw [cif_neg (by omega)]; exact (rowz S10 (fun _ => rfl)).trans row_⟩, (NPi.call (NPi.put NPi.rf E1 (by decide)) S10 (fun _ => rfl) (fun _ => rfl) (fun _ => rfl))⟩
  · refine z_if_eq_T (M := M_X12_shorter) 9 dX12_shorter_9 24 rfl (by omega) ?_
    refine z_aload_n (M := M_X12_shorter) 24 dX12_shorter_24 rfl ?_
    refine z_iconst (M := M_X12_shorter) 25 dX12_shorter_25 ?_
    refine z_vI (M := M_X12_shorter) 26 dX12_shorter_26 t_X12_answer l_X12_147 (m_rr_of rfl) (rest := []) (c_X12_answer h1 (-1) G1 ⟨by omega, by omega⟩) o_108 rfl rfl rfl (Nat.le_of_ble_eq_true rfl) ⟨rfl, rfl⟩ (fun x14 h11 qx14 => ?_)
    obtain ⟨G11, S11, rfl⟩ := qx14
    have R11 := R1.call S11 (by decide +kernel)
    exact z_retI (M := M_X12_shorter) 29 dX12_shorter_29 rfl ⟨G11, R11, ⟨by unfold spShort; rw [cif_neg (by omega)], by unfold spShort; rw [cif_neg (by omega)]; exact (rowz S11 (fun _ => rfl)).trans row_⟩, (NPi.call (NPi.put NPi.rf E1 (by decide)) S11 (fun _ => rfl) (fun _ => rfl) (fun _ => rfl))⟩
abbrev P_X12_entry3 (h0 : m_H) (a1 a2 a3 a4 : Int) : Int → m_H → Prop := fun x h' => GI h' ∧ FR [109, 110] [(108, 0), (108, 1)] h0 h' ∧ mRr (spEntry a1 a2 a3 a4) x h0 h' ∧ NPi h0 h'
set_option maxHeartbeats 4000000 in
set_option maxRecDepth 100000 in
theorem c_X12_entry3 (h0 : m_H) (a1 a2 a3 a4 : Int) (G0 : GI h0) : m_CI M_X12_entry [mR 108, mI a1, mI a2, mI a3, mI a4] h0 (P_X12_entry3 h0 a1 a2 a3 a4) := by
  refine m_CI_of ⟨by decide, rfl, by simp [m_arg, m_isL, M_X12_entry], ⟨rfl, rfl⟩, rfl, rfl⟩ (ls := [some (mR 108), some (mI a1), some (mI a2), some (mI a3), some (mI a4)]) rfl ?_
  refine z_ok (fun _ _ ok => ?_)
  have oa1 : m_32 a1 := ok 1 _ rfl
  unfold m_32 at oa1
  have oa2 : m_32 a2 := ok 2 _ rfl
  unfold m_32 at oa2
  have oa3 : m_32 a3 := ok 3 _ rfl
  unfold m_32 at oa3
  have oa4 : m_32 a4 := ok 4 _ rfl
  unfold m_32 at oa4
  refine z_aload_n (M := M_X12_entry) 0 dX12_entry_0 rfl ?_
  refine z_iconst (M := M_X12_entry) 1 dX12_entry_1 ?_
  refine z_putIH (M := M_X12_entry) 2 dX12_entry_2 p_X12_133 o_108 rfl (u_108_0 G0) ((FR.rf (cs := [109, 110]) (ss := [(108, 0), (108, 1)]) (h := h0)).up rfl) (fun h1 E1 G1 R1 => ?_)
  have row_ : h1 110 = h0 110 := tl_r E1 (by decide)
  refine z_iload_n (M := M_X12_entry) 5 dX12_entry_5 rfl ?_
  refine z_iload_n (M := M_X12_entry) 6 dX12_entry_6 rfl ?_
  refine z_iload_n (M := M_X12_entry) 7 dX12_entry_7 rfl ?_
  refine z_iload (M := M_X12_entry) 8 dX12_entry_8 rfl ?_
  refine z_sI (M := M_X12_entry) 10 dX12_entry_10 t_X12_canEnter l_X12_184 (m_rr_of rfl) (rest := []) (c_X12_canEnter h1 a1 a2 a3 a4 G1) rfl rfl (Nat.le_of_ble_eq_true rfl) ⟨rfl, rfl⟩ (fun x1 h2 qx1 => ?_)
  obtain ⟨rfl, ⟨rfl, cx1⟩ | ⟨rfl, cx1⟩⟩ := qx1
  · refine z_if_ne_T (M := M_X12_entry) 13 dX12_entry_13 22 rfl (by omega) ?_
    refine z_aload_n (M := M_X12_entry) 22 dX12_entry_22 rfl ?_
    refine z_getR (M := M_X12_entry) 23 dX12_entry_23 f_X12_13 o_108 rfl (g_108_3 G1) ?_
    refine z_iconst (M := M_X12_entry) 26 dX12_entry_26 ?_
    refine z_ialdG (M := M_X12_entry) 27 dX12_entry_27 o_110 (by omega) (by omega) (gw_0 G1) (fun x2 ex2 ax2 bx2 => ?_)
    refine z_bipush (M := M_X12_entry) 28 dX12_entry_28 ?_
    refine z_icmp_ne (M := M_X12_entry) 30 dX12_entry_30 40 rfl (fun c3 => ?_) (fun c3 => ?_)
    · refine z_aload_n (M := M_X12_entry) 40 dX12_entry_40 rfl ?_
      refine z_iload_n (M := M_X12_entry) 41 dX12_entry_41 rfl ?_
      refine z_iload_n (M := M_X12_entry) 42 dX12_entry_42 rfl ?_
      refine z_iload_n (M := M_X12_entry) 43 dX12_entry_43 rfl ?_
      refine z_iload (M := M_X12_entry) 44 dX12_entry_44 rfl ?_
      refine z_vV (M := M_X12_entry) 46 dX12_entry_46 t_X12_addEntry l_X12_188 (m_rr_of rfl) (rest := []) (c_X12_addEntry2 h1 a1 a2 a3 a4 G1 ⟨by omega, by omega⟩ ⟨by omega, by omega⟩ ⟨by omega, by omega⟩ ⟨by omega, by omega⟩ (le_e ex2 (by omega))) o_108 rfl rfl rfl (Nat.le_of_ble_eq_true rfl) ⟨rfl, rfl⟩ (fun h3 qx4 => ?_)
      obtain ⟨G3, S3, fx4_0, fx4_1, fx4_2, npx4⟩ := qx4
      have R3 := R1.call S3 (by decide +kernel)
      refine z_aload_n (M := M_X12_entry) 49 dX12_entry_49 rfl ?_
      refine z_aload_n (M := M_X12_entry) 50 dX12_entry_50 rfl ?_
      refine z_getR (M := M_X12_entry) 51 dX12_entry_51 f_X12_13 o_108 rfl (g_108_3 G3) ?_
      refine z_iconst (M := M_X12_entry) 54 dX12_entry_54 ?_
      refine z_ialdE (M := M_X12_entry) 55 dX12_entry_55 o_110 (by omega) (by omega) (eq_ad fx4_0 ex2) ?_
      refine z_iconst (M := M_X12_entry) 56 dX12_entry_56 ?_
      refine z_isubN (M := M_X12_entry) 57 dX12_entry_57 (by omega) (by omega) ?_
      refine z_vI (M := M_X12_entry) 58 dX12_entry_58 t_X12_answer l_X12_147 (m_rr_of rfl) (rest := []) (c_X12_answer h3 ((x2 + 1) - 1) G3 ⟨by omega, by omega⟩) o_108 rfl rfl rfl (Nat.le_of_ble_eq_true rfl) ⟨rfl, rfl⟩ (fun x5 h4 qx5 => ?_)
      obtain ⟨G4, S4, rfl⟩ := qx5
      have R4 := R3.call S4 (by decide +kernel)
      have e1_ : h0 110 0 = x2 := (congrFun row_ 0).symm.trans ex2
      have ra_ : h3 110 = rE (h0 110) a1 a2 a3 a4 := fx4_2.trans (by rw [row_])
      have e2_ : h3 110 0 = h0 110 0 + 1 := congrFun ra_ 0
      have e3_ : h3 110 0 = (x2 + 1) := (eq_ad fx4_0 ex2)
      exact z_retI (M := M_X12_entry) 61 dX12_entry_61 rfl ⟨G4, R4, ⟨by unfold spEntry; rw [cif_pos (by unfold canE; omega), cif_pos (by omega)]; show ((x2 + 1) - 1) = h0 110 0; omega, by unfold spEntry; rw [cif_pos (by unfold canE; omega), cif_pos (by omega)]; exact (rowz S4 (fun _ => rfl)).trans ra_⟩, (NPi.call (NPi.tr (NPi.put NPi.rf E1 (by decide)) npx4) S4 (fun _ => rfl) (fun _ => rfl) (fun _ => rfl))⟩
    · refine z_aload_n (M := M_X12_entry) 33 dX12_entry_33 rfl ?_
      refine z_bipush (M := M_X12_entry) 34 dX12_entry_34 ?_
      refine z_vI (M := M_X12_entry) 36 dX12_entry_36 t_X12_answer l_X12_147 (m_rr_of rfl) (rest := []) (c_X12_answer h1 (-5) G1 ⟨by omega, by omega⟩) o_108 rfl rfl rfl (Nat.le_of_ble_eq_true rfl) ⟨rfl, rfl⟩ (fun x6 h5 qx6 => ?_)
      obtain ⟨G5, S5, rfl⟩ := qx6
      have R5 := R1.call S5 (by decide +kernel)
      have e1_ : h0 110 0 = x2 := (congrFun row_ 0).symm.trans ex2
      exact z_retI (M := M_X12_entry) 39 dX12_entry_39 rfl ⟨G5, R5, ⟨by unfold spEntry; rw [cif_pos (by unfold canE; omega), cif_neg (by omega)], by unfold spEntry; rw [cif_pos (by unfold canE; omega), cif_neg (by omega)]; exact (rowz S5 (fun _ => rfl)).trans row_⟩, (NPi.call (NPi.put NPi.rf E1 (by decide)) S5 (fun _ => rfl) (fun _ => rfl) (fun _ => rfl))⟩
  · refine z_if_ne_F (M := M_X12_entry) 13 dX12_entry_13 22 rfl (by omega) ?_
    refine z_aload_n (M := M_X12_entry) 16 dX12_entry_16 rfl ?_
    refine z_iconst (M := M_X12_entry) 17 dX12_entry_17 ?_
    refine z_vI (M := M_X12_entry) 18 dX12_entry_18 t_X12_answer l_X12_147 (m_rr_of rfl) (rest := []) (c_X12_answer h1 (-1) G1 ⟨by omega, by omega⟩) o_108 rfl rfl rfl (Nat.le_of_ble_eq_true rfl) ⟨rfl, rfl⟩ (fun x7 h6 qx7 => ?_)
    obtain ⟨G6, S6, rfl⟩ := qx7
    have R6 := R1.call S6 (by decide +kernel)
    exact z_retI (M := M_X12_entry) 21 dX12_entry_21 rfl ⟨G6, R6, ⟨by unfold spEntry; rw [cif_neg (by unfold canE; omega)], by unfold spEntry; rw [cif_neg (by unfold canE; omega)]; exact (rowz S6 (fun _ => rfl)).trans row_⟩, (NPi.call (NPi.put NPi.rf E1 (by decide)) S6 (fun _ => rfl) (fun _ => rfl) (fun _ => rfl))⟩
abbrev P_X12_row3 (h0 : m_H) : Int → m_H → Prop := fun x h' => GI h' ∧ FR [109, 110] [(108, 0), (108, 1), (108, 6), (108, 8)] h0 h' ∧ h' 108 8 = 0 ∧ rwM (h0 113) (h0 108 8) (h0 110) x (h0 108 6) (h' 108 6) h' ∧ NPi h0 h'
def q_X12_row3 (h0 : m_H) (n : Nat) : Prop := (∀ (l1 l2 l3 y_108_8 : Int) (h : m_H), GI h → FR [109, 110] [(108, 0), (108, 1), (108, 6), (108, 8)] h0 h → 1 ≤ l1 → l1 ≤ 400 → 0 ≤ l2 → l2 ≤ 101 → 0 ≤ l3 → l3 ≤ 403 → 0 ≤ y_108_8 → y_108_8 ≤ 0 → (h 108 8 = y_108_8) → (∃ i : Nat, l3 = 4 * (i : Int) ∧ h 110 = (rwL (h0 113) (h0 108 8) (h0 110) i).2.2 ∧ h 108 6 = (rwL (h0 113) (h0 108 8) (h0 110) i).2.1 ∧ l2 = (rwL (h0 113) (h0 108 8) (h0 110) i).1) → (l1 = h0 108 8) → (l3 ≤ l1 + 3 ∧ h0 108 8 ≠ 0 ∧ 4 * l2 ≤ l3) → (NPi h0 h) → 2 * (403 - l3) + (1) ≤ (n : Int) → m_Z oF M_X12_row 35 [some (mR 108), some (mI l1), some (mI l2), some (mI l3), none] [] h (m_QI (P_X12_row3 h0)))
set_option maxHeartbeats 4000000 in
set_option maxRecDepth 100000 in
theorem s_X12_row3_35 (h0 : m_H) (G0 : GI h0) (n : Nat) (ih : q_X12_row3 h0 n) : ∀ (l1 l2 l3 y_108_8 : Int) (h : m_H), GI h → FR [109, 110] [(108, 0), (108, 1), (108, 6), (108, 8)] h0 h → 1 ≤ l1 → l1 ≤ 400 → 0 ≤ l2 → l2 ≤ 101 → 0 ≤ l3 → l3 ≤ 403 → 0 ≤ y_108_8 → y_108_8 ≤ 0 → (h 108 8 = y_108_8) → (∃ i : Nat, l3 = 4 * (i : Int) ∧ h 110 = (rwL (h0 113) (h0 108 8) (h0 110) i).2.2 ∧ h 108 6 = (rwL (h0 113) (h0 108 8) (h0 110) i).2.1 ∧ l2 = (rwL (h0 113) (h0 108 8) (h0 110) i).1) → (l1 = h0 108 8) → (l3 ≤ l1 + 3 ∧ h0 108 8 ≠ 0 ∧ 4 * l2 ≤ l3) → (NPi h0 h) → 2 * (403 - l3) + (1) ≤ ((n + 1 : Nat) : Int) → m_Z oF M_X12_row 35 [some (mR 108), some (mI l1), some (mI l2), some (mI l3), none] [] h (m_QI (P_X12_row3 h0)) := by
  intro l1 l2 l3 y_108_8 h G R v0 v1 v2 v3 v4 v5 v6 v7 t_108_8 i0 i1 i2 i3 hr
  obtain ⟨i_, ki_, ri_, bi_, ci_⟩ := i0
  refine z_iload_n (M := M_X12_row) 35 dX12_row_35 rfl ?_
  refine z_iload_n (M := M_X12_row) 36 dX12_row_36 rfl ?_
  refine z_icmp_ge (M := M_X12_row) 37 dX12_row_37 174 rfl (fun c1 => ?_) (fun c1 => ?_)
  · refine z_aload_n (M := M_X12_row) 174 dX12_row_174 rfl ?_
    refine z_iload_n (M := M_X12_row) 175 dX12_row_175 rfl ?_
    refine z_vI (M := M_X12_row) 176 dX12_row_176 t_X12_answer l_X12_147 (m_rr_of rfl) (rest := []) (c_X12_answer h l2 G ⟨by omega, by omega⟩) o_108 rfl rfl rfl (Nat.le_of_ble_eq_true rfl) ⟨rfl, rfl⟩ (fun x2 h1 qx2 => ?_)
    obtain ⟨G1, S1, rfl⟩ := qx2
    have R1 := R.call S1 (by decide +kernel)
    have z8 : h1 108 8 = y_108_8 := ((S1 108 8 rfl).trans t_108_8)
    have hi_ : rwN (h0 108 8) = i_ := by unfold rwN; omega
    exact z_retI (M := M_X12_row) 179 dX12_row_179 rfl ⟨G1, R1, by omega, Or.inr ⟨by omega, by rw [hi_]; exact ci_, by rw [hi_]; exact (S1 108 6 rfl).trans bi_, by rw [hi_]; exact (rowz S1 (fun _ => rfl)).trans ri_⟩, (NPi.call i3 S1 (fun _ => rfl) (fun _ => rfl) (fun _ => rfl))⟩
  · refine z_iload_n (M := M_X12_row) 40 dX12_row_40 rfl ?_
    refine z_iconst (M := M_X12_row) 41 dX12_row_41 ?_
    refine z_iaddN (M := M_X12_row) 42 dX12_row_42 (by omega) (by omega) ?_
    refine z_iload_n (M := M_X12_row) 43 dX12_row_43 rfl ?_
    refine z_icmp_ge (M := M_X12_row) 44 dX12_row_44 62 rfl (fun c3 => ?_) (fun c3 => ?_)
    · refine z_iconst (M := M_X12_row) 62 dX12_row_62 ?_
      refine z_istore (M := M_X12_row) 63 dX12_row_63 (ls' := [some (mR 108), some (mI l1), some (mI l2), some (mI l3), some (mI 0)]) (by decide) rfl ?_
      refine z_iload (M := M_X12_row) 65 dX12_row_65 rfl ?_
      refine z_if_eq_T (M := M_X12_row) 67 dX12_row_67 110 rfl (by omega) ?_
      refine z_iconst (M := M_X12_row) 110 dX12_row_110 ?_
      refine z_istore (M := M_X12_row) 111 dX12_row_111 (ls' := [some (mR 108), some (mI l1), some (mI l2), some (mI l3), some (mI 0)]) (by decide) rfl ?_
      refine z_iload (M := M_X12_row) 113 dX12_row_113 rfl ?_
      refine z_if_eq_T (M := M_X12_row) 115 dX12_row_115 158 rfl (by omega) ?_
      refine z_aload_n (M := M_X12_row) 158 dX12_row_158 rfl ?_
      refine z_dup (M := M_X12_row) 159 dX12_row_159 rfl ?_
      refine z_getIV (M := M_X12_row) 160 dX12_row_160 f_X12_204 o_108 (by decide) (fun x4 ex4 => ?_)
      refine z_ok (fun ox4 _ _ => ?_)
      have ox4 := ox4.1; unfold m_ok m_32 at ox4
      refine z_iconst (M := M_X12_row) 163 dX12_row_163 ?_
      have rb_ := rwL_b (b := h0 113) (n := h0 108 8) (r := h0 110) i_
      have x5_ : x4 = (rwL (h0 113) (h0 108 8) (h0 110) i_).2.1 := ex4.symm.trans bi_
      refine z_iaddN (M := M_X12_row) 164 dX12_row_164 (by omega) (by omega) ?_
      refine z_topBI (lo := 1) (hi := 102) ⟨by omega, by omega⟩ (fun x5 ex5 ax5 bx5 => ?_)
      refine z_putIH (M := M_X12_row) 165 dX12_row_165 p_X12_204 o_108 rfl (u_108_6 G) (R.up rfl) (fun h2 E2 G2 R2 => ?_)
      refine z_iincN (M := M_X12_row) 168 dX12_row_168 (ls' := [some (mR 108), some (mI l1), some (mI l2), some (mI (l3 + 4)), some (mI 0)]) (by decide) rfl (by (unfold m_32; decide)) (by omega) (by omega) rfl ?_
      refine z_goto (M := M_X12_row) 171 dX12_row_171 35 rfl ?_
      exact z_mask [true, true, true, true, false] rfl (ih l1 l2 (l3 + 4) y_108_8 h2 G2 R2 (by omega) (by omega) (by omega) (by omega) (by omega) (by omega) (by omega) (by omega) ((upN E2 (fun q => absurd q.2 (by decide))).trans t_108_8) ⟨i_ + 1, (by omega), (by rw [rw_n ki_ (fun z => by have z2 := z.1.1; omega)]; exact (tl_r E2 (by decide)).trans ri_), (by rw [rw_n ki_ (fun z => by have z2 := z.1.1; omega)]; show _ = _ + 1; rw [upE E2, ← bi_]; have w_ := ex4; omega), (by rw [rw_n ki_ (fun z => by have z2 := z.1.1; omega)]; exact ci_)⟩ (by omega) (by omega) (NPi.put i3 E2 (by decide)) (by omega))
    · refine z_aload_n (M := M_X12_row) 47 dX12_row_47 rfl ?_
      refine z_getR (M := M_X12_row) 48 dX12_row_48 f_X12_13 o_108 rfl (g_108_3 G) ?_
      refine z_iconst (M := M_X12_row) 51 dX12_row_51 ?_
      refine z_ialdG (M := M_X12_row) 52 dX12_row_52 o_110 (by omega) (by omega) (gw_0 G) (fun x6 ex6 ax6 bx6 => ?_)
      refine z_bipush (M := M_X12_row) 53 dX12_row_53 ?_
      refine z_icmp_ge (M := M_X12_row) 55 dX12_row_55 62 rfl (fun c7 => ?_) (fun c7 => ?_)
      · refine z_iconst (M := M_X12_row) 62 dX12_row_62 ?_
        refine z_istore (M := M_X12_row) 63 dX12_row_63 (ls' := [some (mR 108), some (mI l1), some (mI l2), some (mI l3), some (mI 0)]) (by decide) rfl ?_
        refine z_iload (M := M_X12_row) 65 dX12_row_65 rfl ?_
        refine z_if_eq_T (M := M_X12_row) 67 dX12_row_67 110 rfl (by omega) ?_
        refine z_iconst (M := M_X12_row) 110 dX12_row_110 ?_
        refine z_istore (M := M_X12_row) 111 dX12_row_111 (ls' := [some (mR 108), some (mI l1), some (mI l2), some (mI l3), some (mI 0)]) (by decide) rfl ?_
        refine z_iload (M := M_X12_row) 113 dX12_row_113 rfl ?_
        refine z_if_eq_T (M := M_X12_row) 115 dX12_row_115 158 rfl (by omega) ?_
        refine z_aload_n (M := M_X12_row) 158 dX12_row_158 rfl ?_
        refine z_dup (M := M_X12_row) 159 dX12_row_159 rfl ?_
        refine z_getIV (M := M_X12_row) 160 dX12_row_160 f_X12_204 o_108 (by decide) (fun x8 ex8 => ?_)
        refine z_ok (fun ox8 _ _ => ?_)
        have ox8 := ox8.1; unfold m_ok m_32 at ox8
        refine z_iconst (M := M_X12_row) 163 dX12_row_163 ?_
        have rb_ := rwL_b (b := h0 113) (n := h0 108 8) (r := h0 110) i_
        have x5_ : x8 = (rwL (h0 113) (h0 108 8) (h0 110) i_).2.1 := ex8.symm.trans bi_
        refine z_iaddN (M := M_X12_row) 164 dX12_row_164 (by omega) (by omega) ?_
        refine z_topBI (lo := 1) (hi := 102) ⟨by omega, by omega⟩ (fun x9 ex9 ax9 bx9 => ?_)
        refine z_putIH (M := M_X12_row) 165 dX12_row_165 p_X12_204 o_108 rfl (u_108_6 G) (R.up rfl) (fun h3 E3 G3 R3 => ?_)
        refine z_iincN (M := M_X12_row) 168 dX12_row_168 (ls' := [some (mR 108), some (mI l1), some (mI l2), some (mI (l3 + 4)), some (mI 0)]) (by decide) rfl (by (unfold m_32; decide)) (by omega) (by omega) rfl ?_
        refine z_goto (M := M_X12_row) 171 dX12_row_171 35 rfl ?_
        exact z_mask [true, true, true, true, false] rfl (ih l1 l2 (l3 + 4) y_108_8 h3 G3 R3 (by omega) (by omega) (by omega) (by omega) (by omega) (by omega) (by omega) (by omega) ((upN E3 (fun q => absurd q.2 (by decide))).trans t_108_8) ⟨i_ + 1, (by omega), (by rw [rw_n ki_ (fun z => by have z2 := z.1.2; rw [← ri_] at z2; have z_ := (show h 110 0 = x6 from ex6); omega)]; exact (tl_r E3 (by decide)).trans ri_), (by rw [rw_n ki_ (fun z => by have z2 := z.1.2; rw [← ri_] at z2; have z_ := (show h 110 0 = x6 from ex6); omega)]; show _ = _ + 1; rw [upE E3, ← bi_]; have w_ := ex8; omega), (by rw [rw_n ki_ (fun z => by have z2 := z.1.2; rw [← ri_] at z2; have z_ := (show h 110 0 = x6 from ex6); omega)]; exact ci_)⟩ (by omega) (by omega) (NPi.put i3 E3 (by decide)) (by omega))
      · refine z_iconst (M := M_X12_row) 58 dX12_row_58 ?_
        refine z_goto (M := M_X12_row) 59 dX12_row_59 63 rfl ?_
        refine z_istore (M := M_X12_row) 63 dX12_row_63 (ls' := [some (mR 108), some (mI l1), some (mI l2), some (mI l3), some (mI 1)]) (by decide) rfl ?_
        refine z_iload (M := M_X12_row) 65 dX12_row_65 rfl ?_
        refine z_if_eq_F (M := M_X12_row) 67 dX12_row_67 110 rfl (by omega) ?_
        refine z_aload_n (M := M_X12_row) 70 dX12_row_70 rfl ?_
        refine z_getR (M := M_X12_row) 71 dX12_row_71 f_X12_23 o_108 rfl (g_108_7 G) ?_
        refine z_iload_n (M := M_X12_row) 74 dX12_row_74 rfl ?_
        refine z_ialdG (M := M_X12_row) 75 dX12_row_75 o_113 (by omega) (by omega) (g_113 G (by omega)) (fun x10 ex10 ax10 bx10 => ?_)
        refine z_aload_n (M := M_X12_row) 76 dX12_row_76 rfl ?_
        refine z_getR (M := M_X12_row) 77 dX12_row_77 f_X12_23 o_108 rfl (g_108_7 G) ?_
        refine z_iload_n (M := M_X12_row) 80 dX12_row_80 rfl ?_
        refine z_iconst (M := M_X12_row) 81 dX12_row_81 ?_
        refine z_iaddN (M := M_X12_row) 82 dX12_row_82 (by omega) (by omega) ?_
        refine z_ialdG (M := M_X12_row) 83 dX12_row_83 o_113 (by omega) (by omega) (g_113 G (by omega)) (fun x11 ex11 ax11 bx11 => ?_)
        refine z_aload_n (M := M_X12_row) 84 dX12_row_84 rfl ?_
        refine z_getR (M := M_X12_row) 85 dX12_row_85 f_X12_23 o_108 rfl (g_108_7 G) ?_
        refine z_iload_n (M := M_X12_row) 88 dX12_row_88 rfl ?_
        refine z_iconst (M := M_X12_row) 89 dX12_row_89 ?_
        refine z_iaddN (M := M_X12_row) 90 dX12_row_90 (by omega) (by omega) ?_
        refine z_ialdG (M := M_X12_row) 91 dX12_row_91 o_113 (by omega) (by omega) (g_113 G (by omega)) (fun x12 ex12 ax12 bx12 => ?_)
        refine z_aload_n (M := M_X12_row) 92 dX12_row_92 rfl ?_
        refine z_getR (M := M_X12_row) 93 dX12_row_93 f_X12_23 o_108 rfl (g_108_7 G) ?_
        refine z_iload_n (M := M_X12_row) 96 dX12_row_96 rfl ?_
        refine z_iconst (M := M_X12_row) 97 dX12_row_97 ?_
        refine z_iaddN (M := M_X12_row) 98 dX12_row_98 (by omega) (by omega) ?_
        refine z_ialdG (M := M_X12_row) 99 dX12_row_99 o_113 (by omega) (by omega) (g_113 G (by omega)) (fun x13 ex13 ax13 bx13 => ?_)
        have b75_ : h0 113 l3.toNat = x10 := (R 113 _ rfl).symm.trans ex10
        have b83_ : h0 113 (l3 + 1).toNat = x11 := (R 113 _ rfl).symm.trans ex11
        have b91_ : h0 113 (l3 + 2).toNat = x12 := (R 113 _ rfl).symm.trans ex12
        have b99_ : h0 113 (l3 + 3).toNat = x13 := (R 113 _ rfl).symm.trans ex13
        refine z_sI (M := M_X12_row) 100 dX12_row_100 t_X12_canEnter l_X12_184 (m_rr_of rfl) (rest := []) (c_X12_canEnter h x10 x11 x12 x13 G) rfl rfl (Nat.le_of_ble_eq_true rfl) ⟨rfl, rfl⟩ (fun x14 h4 qx14 => ?_)
        obtain ⟨rfl, ⟨rfl, cx14⟩ | ⟨rfl, cx14⟩⟩ := qx14
        · refine z_if_eq_F (M := M_X12_row) 103 dX12_row_103 110 rfl (by omega) ?_
          refine z_iconst (M := M_X12_row) 106 dX12_row_106 ?_
          refine z_goto (M := M_X12_row) 107 dX12_row_107 111 rfl ?_
          refine z_istore (M := M_X12_row) 111 dX12_row_111 (ls' := [some (mR 108), some (mI l1), some (mI l2), some (mI l3), some (mI 1)]) (by decide) rfl ?_
          refine z_iload (M := M_X12_row) 113 dX12_row_113 rfl ?_
          refine z_if_eq_F (M := M_X12_row) 115 dX12_row_115 158 rfl (by omega) ?_
          refine z_aload_n (M := M_X12_row) 118 dX12_row_118 rfl ?_
          refine z_aload_n (M := M_X12_row) 119 dX12_row_119 rfl ?_
          refine z_getR (M := M_X12_row) 120 dX12_row_120 f_X12_23 o_108 rfl (g_108_7 G) ?_
          refine z_iload_n (M := M_X12_row) 123 dX12_row_123 rfl ?_
          refine z_ialdE (M := M_X12_row) 124 dX12_row_124 o_113 (by omega) (by omega) ex10 ?_
          refine z_aload_n (M := M_X12_row) 125 dX12_row_125 rfl ?_
          refine z_getR (M := M_X12_row) 126 dX12_row_126 f_X12_23 o_108 rfl (g_108_7 G) ?_
          refine z_iload_n (M := M_X12_row) 129 dX12_row_129 rfl ?_
          refine z_iconst (M := M_X12_row) 130 dX12_row_130 ?_
          refine z_iaddN (M := M_X12_row) 131 dX12_row_131 (by omega) (by omega) ?_
          refine z_ialdE (M := M_X12_row) 132 dX12_row_132 o_113 (by omega) (by omega) ex11 ?_
          refine z_aload_n (M := M_X12_row) 133 dX12_row_133 rfl ?_
          refine z_getR (M := M_X12_row) 134 dX12_row_134 f_X12_23 o_108 rfl (g_108_7 G) ?_
          refine z_iload_n (M := M_X12_row) 137 dX12_row_137 rfl ?_
          refine z_iconst (M := M_X12_row) 138 dX12_row_138 ?_
          refine z_iaddN (M := M_X12_row) 139 dX12_row_139 (by omega) (by omega) ?_
          refine z_ialdE (M := M_X12_row) 140 dX12_row_140 o_113 (by omega) (by omega) ex12 ?_
          refine z_aload_n (M := M_X12_row) 141 dX12_row_141 rfl ?_
          refine z_getR (M := M_X12_row) 142 dX12_row_142 f_X12_23 o_108 rfl (g_108_7 G) ?_
          refine z_iload_n (M := M_X12_row) 145 dX12_row_145 rfl ?_
          refine z_iconst (M := M_X12_row) 146 dX12_row_146 ?_
          refine z_iaddN (M := M_X12_row) 147 dX12_row_147 (by omega) (by omega) ?_
          refine z_ialdE (M := M_X12_row) 148 dX12_row_148 o_113 (by omega) (by omega) ex13 ?_
          refine z_vV (M := M_X12_row) 149 dX12_row_149 t_X12_addEntry l_X12_188 (m_rr_of rfl) (rest := []) (c_X12_addEntry2 h x10 x11 x12 x13 G ⟨by omega, by omega⟩ ⟨by omega, by omega⟩ ⟨by omega, by omega⟩ ⟨by omega, by omega⟩ (le_e ex6 (by omega))) o_108 rfl rfl rfl (Nat.le_of_ble_eq_true rfl) ⟨rfl, rfl⟩ (fun h5 qx15 => ?_)
          obtain ⟨G5, S5, fx15_0, fx15_1, fx15_2, npx15⟩ := qx15
          have R5 := R.call S5 (by decide +kernel)
          refine z_iincN (M := M_X12_row) 152 dX12_row_152 (ls' := [some (mR 108), some (mI l1), some (mI (l2 + 1)), some (mI l3), some (mI 1)]) (by decide) rfl (by (unfold m_32; decide)) (by omega) (by omega) rfl ?_
          refine z_goto (M := M_X12_row) 155 dX12_row_155 168 rfl ?_
          refine z_iincN (M := M_X12_row) 168 dX12_row_168 (ls' := [some (mR 108), some (mI l1), some (mI (l2 + 1)), some (mI (l3 + 4)), some (mI 1)]) (by decide) rfl (by (unfold m_32; decide)) (by omega) (by omega) rfl ?_
          refine z_goto (M := M_X12_row) 171 dX12_row_171 35 rfl ?_
          exact z_mask [true, true, true, true, false] rfl (ih l1 (l2 + 1) (l3 + 4) y_108_8 h5 G5 R5 (by omega) (by omega) (by omega) (by omega) (by omega) (by omega) (by omega) (by omega) ((S5 108 8 rfl).trans t_108_8) ⟨i_ + 1, (by omega), (by rw [rw_y ki_ ⟨⟨by omega, by rw [← ri_]; have z_ := (show h 110 0 = x6 from ex6); omega⟩, (by unfold canE; rw [b75_, b83_, b91_, b99_]; omega)⟩]; show _ = rE _ _ _ _ _; rw [b75_, b83_, b91_, b99_, ← ri_]; exact fx15_2), (by rw [rw_y ki_ ⟨⟨by omega, by rw [← ri_]; have z_ := (show h 110 0 = x6 from ex6); omega⟩, (by unfold canE; rw [b75_, b83_, b91_, b99_]; omega)⟩]; exact (S5 108 6 rfl).trans bi_), (by rw [rw_y ki_ ⟨⟨by omega, by rw [← ri_]; have z_ := (show h 110 0 = x6 from ex6); omega⟩, (by unfold canE; rw [b75_, b83_, b91_, b99_]; omega)⟩]; show _ = _ + 1; rw [← ci_])⟩ (by omega) (by omega) (NPi.tr i3 npx15) (by omega))
        · refine z_if_eq_T (M := M_X12_row) 103 dX12_row_103 110 rfl (by omega) ?_
          refine z_iconst (M := M_X12_row) 110 dX12_row_110 ?_
          refine z_istore (M := M_X12_row) 111 dX12_row_111 (ls' := [some (mR 108), some (mI l1), some (mI l2), some (mI l3), some (mI 0)]) (by decide) rfl ?_
          refine z_iload (M := M_X12_row) 113 dX12_row_113 rfl ?_
          refine z_if_eq_T (M := M_X12_row) 115 dX12_row_115 158 rfl (by omega) ?_
          refine z_aload_n (M := M_X12_row) 158 dX12_row_158 rfl ?_
          refine z_dup (M := M_X12_row) 159 dX12_row_159 rfl ?_
          refine z_getIV (M := M_X12_row) 160 dX12_row_160 f_X12_204 o_108 (by decide) (fun x16 ex16 => ?_)
          refine z_ok (fun ox16 _ _ => ?_)
          have ox16 := ox16.1; unfold m_ok m_32 at ox16
          refine z_iconst (M := M_X12_row) 163 dX12_row_163 ?_
          have rb_ := rwL_b (b := h0 113) (n := h0 108 8) (r := h0 110) i_
          have x5_ : x16 = (rwL (h0 113) (h0 108 8) (h0 110) i_).2.1 := ex16.symm.trans bi_
          refine z_iaddN (M := M_X12_row) 164 dX12_row_164 (by omega) (by omega) ?_
          refine z_topBI (lo := 1) (hi := 102) ⟨by omega, by omega⟩ (fun x17 ex17 ax17 bx17 => ?_)
          refine z_putIH (M := M_X12_row) 165 dX12_row_165 p_X12_204 o_108 rfl (u_108_6 G) (R.up rfl) (fun h6 E6 G6 R6 => ?_)
          refine z_iincN (M := M_X12_row) 168 dX12_row_168 (ls' := [some (mR 108), some (mI l1), some (mI l2), some (mI (l3 + 4)), some (mI 0)]) (by decide) rfl (by (unfold m_32; decide)) (by omega) (by omega) rfl ?_
          refine z_goto (M := M_X12_row) 171 dX12_row_171 35 rfl ?_
          exact z_mask [true, true, true, true, false] rfl (ih l1 l2 (l3 + 4) y_108_8 h6 G6 R6 (by omega) (by omega) (by omega) (by omega) (by omega) (by omega) (by omega) (by omega) ((upN E6 (fun q => absurd q.2 (by decide))).trans t_108_8) ⟨i_ + 1, (by omega), (by rw [rw_n ki_ (fun z => by have z2 := z.2; unfold canE at z2; rw [b75_, b83_, b91_, b99_] at z2; omega)]; exact (tl_r E6 (by decide)).trans ri_), (by rw [rw_n ki_ (fun z => by have z2 := z.2; unfold canE at z2; rw [b75_, b83_, b91_, b99_] at z2; omega)]; show _ = _ + 1; rw [upE E6, ← bi_]; have w_ := ex16; omega), (by rw [rw_n ki_ (fun z => by have z2 := z.2; unfold canE at z2; rw [b75_, b83_, b91_, b99_] at z2; omega)]; exact ci_)⟩ (by omega) (by omega) (NPi.put i3 E6 (by decide)) (by omega))
theorem a_X12_row3 (h0 : m_H) (G0 : GI h0) : ∀ n, q_X12_row3 h0 n := by
  intro n
  induction n with
  | zero => unfold q_X12_row3; intros; omega
  | succ n ih => exact s_X12_row3_35 h0 G0 n ih
set_option maxHeartbeats 4000000 in
set_option maxRecDepth 100000 in
theorem c_X12_row3 (h0 : m_H) (G0 : GI h0) : m_CI M_X12_row [mR 108] h0 (P_X12_row3 h0) := by
  refine m_CI_of ⟨by decide, rfl, by simp [m_arg, m_isL, M_X12_row], ⟨rfl, rfl⟩, rfl, rfl⟩ (ls := [some (mR 108), none, none, none, none]) rfl ?_
  have ih := a_X12_row3 h0 G0 814
  obtain ⟨x1, ex1⟩ : ∃ y : Int, h0 108 8 = y := ⟨_, rfl⟩
  have bx1 : 0 ≤ x1 ∧ x1 ≤ 400 := ex1 ▸ g_108_8 G0
  refine z_aload_n (M := M_X12_row) 0 dX12_row_0 rfl ?_
  refine z_iconst (M := M_X12_row) 1 dX12_row_1 ?_
  refine z_putIH (M := M_X12_row) 2 dX12_row_2 p_X12_133 o_108 rfl (u_108_0 G0) ((FR.rf (cs := [109, 110]) (ss := [(108, 0), (108, 1), (108, 6), (108, 8)]) (h := h0)).up rfl) (fun h1 E1 G1 R1 => ?_)
  refine z_aload_n (M := M_X12_row) 5 dX12_row_5 rfl ?_
  refine z_getIE (M := M_X12_row) 6 dX12_row_6 f_X12_201 o_108 (by decide) ((upN E1 (fun q => absurd q.2 (by decide))).trans ex1) ?_
  refine z_istore_n (M := M_X12_row) 9 dX12_row_9 (ls' := [some (mR 108), some (mI x1), none, none, none]) (by decide) rfl ?_
  refine z_aload_n (M := M_X12_row) 10 dX12_row_10 rfl ?_
  refine z_iconst (M := M_X12_row) 11 dX12_row_11 ?_
  refine z_putIH (M := M_X12_row) 12 dX12_row_12 p_X12_201 o_108 rfl (u_108_8 G1 (by omega) (by omega)) (R1.up rfl) (fun h2 E2 G2 R2 => ?_)
  refine z_iload_n (M := M_X12_row) 15 dX12_row_15 rfl ?_
  refine z_if_ne (M := M_X12_row) 16 dX12_row_16 26 rfl (fun c2 => ?_) (fun c2 => ?_)
  · refine z_aload_n (M := M_X12_row) 26 dX12_row_26 rfl ?_
    refine z_iconst (M := M_X12_row) 27 dX12_row_27 ?_
    refine z_putIH (M := M_X12_row) 28 dX12_row_28 p_X12_204 o_108 rfl (u_108_6 G2) (R2.up rfl) (fun h3 E3 G3 R3 => ?_)
    refine z_iconst (M := M_X12_row) 31 dX12_row_31 ?_
    refine z_istore_n (M := M_X12_row) 32 dX12_row_32 (ls' := [some (mR 108), some (mI x1), some (mI 0), none, none]) (by decide) rfl ?_
    refine z_iconst (M := M_X12_row) 33 dX12_row_33 ?_
    refine z_istore_n (M := M_X12_row) 34 dX12_row_34 (ls' := [some (mR 108), some (mI x1), some (mI 0), some (mI 0), none]) (by decide) rfl ?_
    exact z_mask [true, true, true, true, false] rfl (ih x1 0 0 0 h3 G3 R3 (by omega) (by omega) (by omega) (by omega) (by omega) (by omega) (by omega) (by omega) ((upN E3 (fun q => absurd q.2 (by decide))).trans (upE E2)) ⟨0, rfl, ((tl_r E3 (by decide)).trans ((tl_r E2 (by decide)).trans (tl_r E1 (by decide)))), (upE E3), rfl⟩ (by have y_ := ex1; omega) (by omega) (NPi.put (NPi.put (NPi.put NPi.rf E1 (by decide)) E2 (by decide)) E3 (by decide)) (by omega))
  · refine z_aload_n (M := M_X12_row) 19 dX12_row_19 rfl ?_
    refine z_bipush (M := M_X12_row) 20 dX12_row_20 ?_
    refine z_vI (M := M_X12_row) 22 dX12_row_22 t_X12_answer l_X12_147 (m_rr_of rfl) (rest := []) (c_X12_answer h2 (-6) G2 ⟨by omega, by omega⟩) o_108 rfl rfl rfl (Nat.le_of_ble_eq_true rfl) ⟨rfl, rfl⟩ (fun x3 h4 qx3 => ?_)
    obtain ⟨G4, S4, rfl⟩ := qx3
    have R4 := R2.call S4 (by decide +kernel)
    have z8 : h4 108 8 = 0 := ((S4 108 8 rfl).trans (upE E2))
    exact z_retI (M := M_X12_row) 25 dX12_row_25 rfl ⟨G4, R4, by omega, Or.inl ⟨by have y_ := ex1; omega, rfl, (S4 108 6 rfl).trans ((upN E2 (by decide)).trans (upN E1 (by decide))), (rowz S4 (fun _ => rfl)).trans ((tl_r E2 (by decide)).trans (tl_r E1 (by decide)))⟩, (NPi.call (NPi.put (NPi.put NPi.rf E1 (by decide)) E2 (by decide)) S4 (fun _ => rfl) (fun _ => rfl) (fun _ => rfl))⟩
