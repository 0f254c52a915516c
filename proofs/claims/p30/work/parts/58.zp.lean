abbrev P_X12_week3 (h0 : m_H) (a1 a2 : Int) : Int → m_H → Prop := fun x h' => GI h' ∧ FR [109, 110] [(108, 0), (108, 1)] h0 h' ∧ mRr (spSet ((0 ≤ a1 ∧ a1 ≤ 31) ∧ (-1 ≤ a2 ∧ a2 ≤ 3)) (10 + a1.toNat) a2) x h0 h' ∧ NPi h0 h'
set_option maxHeartbeats 4000000 in
set_option maxRecDepth 100000 in
theorem c_X12_week3 (h0 : m_H) (a1 a2 : Int) (G0 : GI h0) : m_CI M_X12_week [mR 108, mI a1, mI a2] h0 (P_X12_week3 h0 a1 a2) := by
  refine m_CI_of ⟨by decide, rfl, by simp [m_arg, m_isL, M_X12_week], ⟨rfl, rfl⟩, rfl, rfl⟩ (ls := [some (mR 108), some (mI a1), some (mI a2)]) rfl ?_
  refine z_ok (fun _ _ ok => ?_)
  have oa1 : m_32 a1 := ok 1 _ rfl
  unfold m_32 at oa1
  have oa2 : m_32 a2 := ok 2 _ rfl
  unfold m_32 at oa2
  refine z_aload_n (M := M_X12_week) 0 dX12_week_0 rfl ?_
  refine z_iconst (M := M_X12_week) 1 dX12_week_1 ?_
  refine z_putIH (M := M_X12_week) 2 dX12_week_2 p_X12_133 o_108 rfl (u_108_0 G0) ((FR.rf (cs := [109, 110]) (ss := [(108, 0), (108, 1)]) (h := h0)).up rfl) (fun h1 E1 G1 R1 => ?_)
  refine z_iload_n (M := M_X12_week) 5 dX12_week_5 rfl ?_
  refine z_sI (M := M_X12_week) 6 dX12_week_6 t_X12_isWeek l_X12_156 (m_rr_of rfl) (rest := []) (c_X12_isWeek h1 a1 G1) rfl rfl (Nat.le_of_ble_eq_true rfl) ⟨rfl, rfl⟩ (fun x1 h2 qx1 => ?_)
  obtain ⟨rfl, ⟨rfl, cx1⟩ | ⟨rfl, cx1⟩⟩ := qx1
  · refine z_if_eq_F (M := M_X12_week) 9 dX12_week_9 38 rfl (by omega) ?_
    refine z_iload_n (M := M_X12_week) 12 dX12_week_12 rfl ?_
    refine z_i2l (M := M_X12_week) 13 dX12_week_13 ?_
    refine z_ldc2 (M := M_X12_week) 14 dX12_week_14 k_X12_160 ?_
    refine z_ldc2 (M := M_X12_week) 17 dX12_week_17 k_X12_152 ?_
    refine z_sI (M := M_X12_week) 20 dX12_week_20 t_X12_in l_X12_143 (m_rr_of rfl) (rest := []) (c_X12_in h1 a2 (-1) 3 G1) rfl rfl (Nat.le_of_ble_eq_true rfl) ⟨rfl, rfl⟩ (fun x2 h3 qx2 => ?_)
    obtain ⟨rfl, ⟨rfl, cx2⟩ | ⟨rfl, cx2⟩⟩ := qx2
    · refine z_if_eq_F (M := M_X12_week) 23 dX12_week_23 38 rfl (by omega) ?_
      refine z_aload_n (M := M_X12_week) 26 dX12_week_26 rfl ?_
      refine z_bipush (M := M_X12_week) 27 dX12_week_27 ?_
      refine z_iload_n (M := M_X12_week) 29 dX12_week_29 rfl ?_
      refine z_iaddN (M := M_X12_week) 30 dX12_week_30 (by omega) (by omega) ?_
      refine z_iload_n (M := M_X12_week) 31 dX12_week_31 rfl ?_
      refine z_vI (M := M_X12_week) 32 dX12_week_32 t_X12_change l_X12_162 (m_rr_of rfl) (rest := []) (c_X12_change h1 (10 + a1) a2 G1 ⟨by omega, by omega⟩ (rb_w (by omega) (by omega) (by omega) (by omega))) o_108 rfl rfl rfl (Nat.le_of_ble_eq_true rfl) ⟨rfl, rfl⟩ (fun x3 h4 qx3 => ?_)
      obtain ⟨G4, S4, fx3_0, fx3_1, fx3_2⟩ := qx3
      have R4 := R1.call S4 (by decide +kernel)
      refine z_ok (fun ox3 _ _ => ?_)
      have ox3 := ox3.1; unfold m_ok m_32 at ox3
      refine z_goto (M := M_X12_week) 35 dX12_week_35 43 rfl ?_
      exact z_retI (M := M_X12_week) 43 dX12_week_43 rfl ⟨G4, R4, mR_yes (by omega) E1 (by omega) fx3_0 fx3_1 fx3_2, (NPi.change (NPi.put NPi.rf E1 (by decide)) S4 (fun _ => rfl) (fun _ => rfl) fx3_1 ⟨by omega, fun e => by omega⟩ (by omega))⟩
    · refine z_if_eq_T (M := M_X12_week) 23 dX12_week_23 38 rfl (by omega) ?_
      refine z_aload_n (M := M_X12_week) 38 dX12_week_38 rfl ?_
      refine z_iconst (M := M_X12_week) 39 dX12_week_39 ?_
      refine z_vI (M := M_X12_week) 40 dX12_week_40 t_X12_answer l_X12_147 (m_rr_of rfl) (rest := []) (c_X12_answer h1 (-1) G1 ⟨by omega, by omega⟩) o_108 rfl rfl rfl (Nat.le_of_ble_eq_true rfl) ⟨rfl, rfl⟩ (fun x4 h5 qx4 => ?_)
      obtain ⟨G5, S5, rfl⟩ := qx4
      have R5 := R1.call S5 (by decide +kernel)
      exact z_retI (M := M_X12_week) 43 dX12_week_43 rfl ⟨G5, R5, mR_no (by omega) E1 S5 (fun _ => rfl), (NPi.call (NPi.put NPi.rf E1 (by decide)) S5 (fun _ => rfl) (fun _ => rfl) (fun _ => rfl))⟩
  · refine z_if_eq_T (M := M_X12_week) 9 dX12_week_9 38 rfl (by omega) ?_
    refine z_aload_n (M := M_X12_week) 38 dX12_week_38 rfl ?_
    refine z_iconst (M := M_X12_week) 39 dX12_week_39 ?_
    refine z_vI (M := M_X12_week) 40 dX12_week_40 t_X12_answer l_X12_147 (m_rr_of rfl) (rest := []) (c_X12_answer h1 (-1) G1 ⟨by omega, by omega⟩) o_108 rfl rfl rfl (Nat.le_of_ble_eq_true rfl) ⟨rfl, rfl⟩ (fun x5 h6 qx5 => ?_)
    obtain ⟨G6, S6, rfl⟩ := qx5
    have R6 := R1.call S6 (by decide +kernel)
    exact z_retI (M := M_X12_week) 43 dX12_week_43 rfl ⟨G6, R6, mR_no (by omega) E1 S6 (fun _ => rfl), (NPi.call (NPi.put NPi.rf E1 (by decide)) S6 (fun _ => rfl) (fun _ => rfl) (fun _ => rfl))⟩
abbrev P_X12_cut3 (h0 : m_H) (a1 a2 : Int) : Int → m_H → Prop := fun x h' => GI h' ∧ FR [109, 110] [(108, 0), (108, 1)] h0 h' ∧ mRr (spSet ((0 ≤ a1 ∧ a1 ≤ 5) ∧ (a2 = -1 ∨ (1 ≤ a2 ∧ a2 ≤ 31))) (42 + a1.toNat) a2) x h0 h' ∧ NPi h0 h'
set_option maxHeartbeats 4000000 in
set_option maxRecDepth 100000 in
theorem c_X12_cut3 (h0 : m_H) (a1 a2 : Int) (G0 : GI h0) : m_CI M_X12_cut [mR 108, mI a1, mI a2] h0 (P_X12_cut3 h0 a1 a2) := by
  refine m_CI_of ⟨by decide, rfl, by simp [m_arg, m_isL, M_X12_cut], ⟨rfl, rfl⟩, rfl, rfl⟩ (ls := [some (mR 108), some (mI a1), some (mI a2)]) rfl ?_
  refine z_ok (fun _ _ ok => ?_)
  have oa1 : m_32 a1 := ok 1 _ rfl
  unfold m_32 at oa1
  have oa2 : m_32 a2 := ok 2 _ rfl
  unfold m_32 at oa2
  refine z_aload_n (M := M_X12_cut) 0 dX12_cut_0 rfl ?_
  refine z_iconst (M := M_X12_cut) 1 dX12_cut_1 ?_
  refine z_putIH (M := M_X12_cut) 2 dX12_cut_2 p_X12_133 o_108 rfl (u_108_0 G0) ((FR.rf (cs := [109, 110]) (ss := [(108, 0), (108, 1)]) (h := h0)).up rfl) (fun h1 E1 G1 R1 => ?_)
  refine z_iload_n (M := M_X12_cut) 5 dX12_cut_5 rfl ?_
  refine z_sI (M := M_X12_cut) 6 dX12_cut_6 t_X12_isThing l_X12_166 (m_rr_of rfl) (rest := []) (c_X12_isThing h1 a1 G1) rfl rfl (Nat.le_of_ble_eq_true rfl) ⟨rfl, rfl⟩ (fun x1 h2 qx1 => ?_)
  obtain ⟨rfl, ⟨rfl, cx1⟩ | ⟨rfl, cx1⟩⟩ := qx1
  · refine z_if_eq_F (M := M_X12_cut) 9 dX12_cut_9 41 rfl (by omega) ?_
    refine z_iload_n (M := M_X12_cut) 12 dX12_cut_12 rfl ?_
    refine z_iconst (M := M_X12_cut) 13 dX12_cut_13 ?_
    refine z_icmp_eq (M := M_X12_cut) 14 dX12_cut_14 29 rfl (fun c2 => ?_) (fun c2 => ?_)
    · refine z_aload_n (M := M_X12_cut) 29 dX12_cut_29 rfl ?_
      refine z_bipush (M := M_X12_cut) 30 dX12_cut_30 ?_
      refine z_iload_n (M := M_X12_cut) 32 dX12_cut_32 rfl ?_
      refine z_iaddN (M := M_X12_cut) 33 dX12_cut_33 (by omega) (by omega) ?_
      refine z_iload_n (M := M_X12_cut) 34 dX12_cut_34 rfl ?_
      refine z_vI (M := M_X12_cut) 35 dX12_cut_35 t_X12_change l_X12_162 (m_rr_of rfl) (rest := []) (c_X12_change h1 (42 + a1) a2 G1 ⟨by omega, by omega⟩ (rb_c (by omega) (by omega) (by omega) (by omega))) o_108 rfl rfl rfl (Nat.le_of_ble_eq_true rfl) ⟨rfl, rfl⟩ (fun x3 h3 qx3 => ?_)
      obtain ⟨G3, S3, fx3_0, fx3_1, fx3_2⟩ := qx3
      have R3 := R1.call S3 (by decide +kernel)
      refine z_ok (fun ox3 _ _ => ?_)
      have ox3 := ox3.1; unfold m_ok m_32 at ox3
      refine z_goto (M := M_X12_cut) 38 dX12_cut_38 46 rfl ?_
      exact z_retI (M := M_X12_cut) 46 dX12_cut_46 rfl ⟨G3, R3, mR_yes (by omega) E1 (by omega) fx3_0 fx3_1 fx3_2, (NPi.change (NPi.put NPi.rf E1 (by decide)) S3 (fun _ => rfl) (fun _ => rfl) fx3_1 ⟨by omega, fun e => by omega⟩ (by omega))⟩
    · refine z_iload_n (M := M_X12_cut) 17 dX12_cut_17 rfl ?_
      refine z_i2l (M := M_X12_cut) 18 dX12_cut_18 ?_
      refine z_lconst (M := M_X12_cut) 19 dX12_cut_19 (v := 1) ?_
      refine z_ldc2 (M := M_X12_cut) 20 dX12_cut_20 k_X12_154 ?_
      refine z_sI (M := M_X12_cut) 23 dX12_cut_23 t_X12_in l_X12_143 (m_rr_of rfl) (rest := []) (c_X12_in h1 a2 1 31 G1) rfl rfl (Nat.le_of_ble_eq_true rfl) ⟨rfl, rfl⟩ (fun x4 h4 qx4 => ?_)
      obtain ⟨rfl, ⟨rfl, cx4⟩ | ⟨rfl, cx4⟩⟩ := qx4
      · refine z_if_eq_F (M := M_X12_cut) 26 dX12_cut_26 41 rfl (by omega) ?_
        refine z_aload_n (M := M_X12_cut) 29 dX12_cut_29 rfl ?_
        refine z_bipush (M := M_X12_cut) 30 dX12_cut_30 ?_
        refine z_iload_n (M := M_X12_cut) 32 dX12_cut_32 rfl ?_
        refine z_iaddN (M := M_X12_cut) 33 dX12_cut_33 (by omega) (by omega) ?_
        refine z_iload_n (M := M_X12_cut) 34 dX12_cut_34 rfl ?_
        refine z_vI (M := M_X12_cut) 35 dX12_cut_35 t_X12_change l_X12_162 (m_rr_of rfl) (rest := []) (c_X12_change h1 (42 + a1) a2 G1 ⟨by omega, by omega⟩ (rb_c (by omega) (by omega) (by omega) (by omega))) o_108 rfl rfl rfl (Nat.le_of_ble_eq_true rfl) ⟨rfl, rfl⟩ (fun x5 h5 qx5 => ?_)
        obtain ⟨G5, S5, fx5_0, fx5_1, fx5_2⟩ := qx5
        have R5 := R1.call S5 (by decide +kernel)
        refine z_ok (fun ox5 _ _ => ?_)
        have ox5 := ox5.1; unfold m_ok m_32 at ox5
        refine z_goto (M := M_X12_cut) 38 dX12_cut_38 46 rfl ?_
        exact z_retI (M := M_X12_cut) 46 dX12_cut_46 rfl ⟨G5, R5, mR_yes (by omega) E1 (by omega) fx5_0 fx5_1 fx5_2, (NPi.change (NPi.put NPi.rf E1 (by decide)) S5 (fun _ => rfl) (fun _ => rfl) fx5_1 ⟨by omega, fun e => by omega⟩ (by omega))⟩
      · refine z_if_eq_T (M := M_X12_cut) 26 dX12_cut_26 41 rfl (by omega) ?_
        refine z_aload_n (M := M_X12_cut) 41 dX12_cut_41 rfl ?_
        refine z_iconst (M := M_X12_cut) 42 dX12_cut_42 ?_
        refine z_vI (M := M_X12_cut) 43 dX12_cut_43 t_X12_answer l_X12_147 (m_rr_of rfl) (rest := []) (c_X12_answer h1 (-1) G1 ⟨by omega, by omega⟩) o_108 rfl rfl rfl (Nat.le_of_ble_eq_true rfl) ⟨rfl, rfl⟩ (fun x6 h6 qx6 => ?_)
        obtain ⟨G6, S6, rfl⟩ := qx6
        have R6 := R1.call S6 (by decide +kernel)
        exact z_retI (M := M_X12_cut) 46 dX12_cut_46 rfl ⟨G6, R6, mR_no (by omega) E1 S6 (fun _ => rfl), (NPi.call (NPi.put NPi.rf E1 (by decide)) S6 (fun _ => rfl) (fun _ => rfl) (fun _ => rfl))⟩
  · refine z_if_eq_T (M := M_X12_cut) 9 dX12_cut_9 41 rfl (by omega) ?_
    refine z_aload_n (M := M_X12_cut) 41 dX12_cut_41 rfl ?_
    refine z_iconst (M := M_X12_cut) 42 dX12_cut_42 ?_
    refine z_vI (M := M_X12_cut) 43 dX12_cut_43 t_X12_answer l_X12_147 (m_rr_of rfl) (rest := []) (c_X12_answer h1 (-1) G1 ⟨by omega, by omega⟩) o_108 rfl rfl rfl (Nat.le_of_ble_eq_true rfl) ⟨rfl, rfl⟩ (fun x7 h7 qx7 => ?_)
    obtain ⟨G7, S7, rfl⟩ := qx7
    have R7 := R1.call S7 (by decide +kernel)
    exact z_retI (M := M_X12_cut) 46 dX12_cut_46 rfl ⟨G7, R7, mR_no (by omega) E1 S7 (fun _ => rfl), (NPi.call (NPi.put NPi.rf E1 (by decide)) S7 (fun _ => rfl) (fun _ => rfl) (fun _ => rfl))⟩
abbrev P_X12_tell3 (h0 : m_H) (a1 a2 : Int) : Int → m_H → Prop := fun x h' => GI h' ∧ FR [109, 110] [(108, 0), (108, 1)] h0 h' ∧ mRr (spSet ((0 ≤ a1 ∧ a1 ≤ 15) ∧ (1 ≤ a2 ∧ a2 ≤ 9999)) (60 + a1.toNat) a2) x h0 h' ∧ NQi h0 h'
set_option maxHeartbeats 4000000 in
set_option maxRecDepth 100000 in
theorem c_X12_tell3 (h0 : m_H) (a1 a2 : Int) (G0 : GI h0) : m_CI M_X12_tell [mR 108, mI a1, mI a2] h0 (P_X12_tell3 h0 a1 a2) := by
  refine m_CI_of ⟨by decide, rfl, by simp [m_arg, m_isL, M_X12_tell], ⟨rfl, rfl⟩, rfl, rfl⟩ (ls := [some (mR 108), some (mI a1), some (mI a2)]) rfl ?_
  refine z_ok (fun _ _ ok => ?_)
  have oa1 : m_32 a1 := ok 1 _ rfl
  unfold m_32 at oa1
  have oa2 : m_32 a2 := ok 2 _ rfl
  unfold m_32 at oa2
  refine z_aload_n (M := M_X12_tell) 0 dX12_tell_0 rfl ?_
  refine z_iconst (M := M_X12_tell) 1 dX12_tell_1 ?_
  refine z_putIH (M := M_X12_tell) 2 dX12_tell_2 p_X12_133 o_108 rfl (u_108_0 G0) ((FR.rf (cs := [109, 110]) (ss := [(108, 0), (108, 1)]) (h := h0)).up rfl) (fun h1 E1 G1 R1 => ?_)
  refine z_iload_n (M := M_X12_tell) 5 dX12_tell_5 rfl ?_
  refine z_i2l (M := M_X12_tell) 6 dX12_tell_6 ?_
  refine z_lconst (M := M_X12_tell) 7 dX12_tell_7 (v := 0) ?_
  refine z_ldc2 (M := M_X12_tell) 8 dX12_tell_8 k_X12_381 ?_
  refine z_sI (M := M_X12_tell) 11 dX12_tell_11 t_X12_in l_X12_143 (m_rr_of rfl) (rest := []) (c_X12_in h1 a1 0 15 G1) rfl rfl (Nat.le_of_ble_eq_true rfl) ⟨rfl, rfl⟩ (fun x1 h2 qx1 => ?_)
  obtain ⟨rfl, ⟨rfl, cx1⟩ | ⟨rfl, cx1⟩⟩ := qx1
  · refine z_if_eq_F (M := M_X12_tell) 14 dX12_tell_14 41 rfl (by omega) ?_
    refine z_iload_n (M := M_X12_tell) 17 dX12_tell_17 rfl ?_
    refine z_i2l (M := M_X12_tell) 18 dX12_tell_18 ?_
    refine z_lconst (M := M_X12_tell) 19 dX12_tell_19 (v := 1) ?_
    refine z_ldc2 (M := M_X12_tell) 20 dX12_tell_20 k_X12_499 ?_
    refine z_sI (M := M_X12_tell) 23 dX12_tell_23 t_X12_in l_X12_143 (m_rr_of rfl) (rest := []) (c_X12_in h1 a2 1 9999 G1) rfl rfl (Nat.le_of_ble_eq_true rfl) ⟨rfl, rfl⟩ (fun x2 h3 qx2 => ?_)
    obtain ⟨rfl, ⟨rfl, cx2⟩ | ⟨rfl, cx2⟩⟩ := qx2
    · refine z_if_eq_F (M := M_X12_tell) 26 dX12_tell_26 41 rfl (by omega) ?_
      refine z_aload_n (M := M_X12_tell) 29 dX12_tell_29 rfl ?_
      refine z_bipush (M := M_X12_tell) 30 dX12_tell_30 ?_
      refine z_iload_n (M := M_X12_tell) 32 dX12_tell_32 rfl ?_
      refine z_iaddN (M := M_X12_tell) 33 dX12_tell_33 (by omega) (by omega) ?_
      refine z_iload_n (M := M_X12_tell) 34 dX12_tell_34 rfl ?_
      refine z_vI (M := M_X12_tell) 35 dX12_tell_35 t_X12_change l_X12_162 (m_rr_of rfl) (rest := []) (c_X12_change h1 (60 + a1) a2 G1 ⟨by omega, by omega⟩ (rb_l (by omega) (by omega) (by omega) (by omega))) o_108 rfl rfl rfl (Nat.le_of_ble_eq_true rfl) ⟨rfl, rfl⟩ (fun x3 h4 qx3 => ?_)
      obtain ⟨G4, S4, fx3_0, fx3_1, fx3_2⟩ := qx3
      have R4 := R1.call S4 (by decide +kernel)
      refine z_ok (fun ox3 _ _ => ?_)
      have ox3 := ox3.1; unfold m_ok m_32 at ox3
      refine z_goto (M := M_X12_tell) 38 dX12_tell_38 46 rfl ?_
      exact z_retI (M := M_X12_tell) 46 dX12_tell_46 rfl ⟨G4, R4, mR_yes (by omega) E1 (by omega) fx3_0 fx3_1 fx3_2, (NQi.change (NQi.put NQi.rf E1 (by decide)) S4 (fun _ => rfl) (fun _ => rfl) fx3_1 ⟨by omega, fun e => by omega⟩)⟩
    · refine z_if_eq_T (M := M_X12_tell) 26 dX12_tell_26 41 rfl (by omega) ?_
      refine z_aload_n (M := M_X12_tell) 41 dX12_tell_41 rfl ?_
      refine z_iconst (M := M_X12_tell) 42 dX12_tell_42 ?_
      refine z_vI (M := M_X12_tell) 43 dX12_tell_43 t_X12_answer l_X12_147 (m_rr_of rfl) (rest := []) (c_X12_answer h1 (-1) G1 ⟨by omega, by omega⟩) o_108 rfl rfl rfl (Nat.le_of_ble_eq_true rfl) ⟨rfl, rfl⟩ (fun x4 h5 qx4 => ?_)
      obtain ⟨G5, S5, rfl⟩ := qx4
      have R5 := R1.call S5 (by decide +kernel)
      exact z_retI (M := M_X12_tell) 46 dX12_tell_46 rfl ⟨G5, R5, mR_no (by omega) E1 S5 (fun _ => rfl), (NQi.call (NQi.put NQi.rf E1 (by decide)) S5 (fun _ => rfl) (fun _ => rfl) (fun _ => rfl))⟩
  · refine z_if_eq_T (M := M_X12_tell) 14 dX12_tell_14 41 rfl (by omega) ?_
    refine z_aload_n (M := M_X12_tell) 41 dX12_tell_41 rfl ?_
    refine z_iconst (M := M_X12_tell) 42 dX12_tell_42 ?_
    refine z_vI (M := M_X12_tell) 43 dX12_tell_43 t_X12_answer l_X12_147 (m_rr_of rfl) (rest := []) (c_X12_answer h1 (-1) G1 ⟨by omega, by omega⟩) o_108 rfl rfl rfl (Nat.le_of_ble_eq_true rfl) ⟨rfl, rfl⟩ (fun x5 h6 qx5 => ?_)
    obtain ⟨G6, S6, rfl⟩ := qx5
    have R6 := R1.call S6 (by decide +kernel)
    exact z_retI (M := M_X12_tell) 46 dX12_tell_46 rfl ⟨G6, R6, mR_no (by omega) E1 S6 (fun _ => rfl), (NQi.call (NQi.put NQi.rf E1 (by decide)) S6 (fun _ => rfl) (fun _ => rfl) (fun _ => rfl))⟩
abbrev P_X12_counts3 (h0 : m_H) (a1 a2 : Int) : Int → m_H → Prop := fun x h' => GI h' ∧ FR [109, 110] [(108, 0), (108, 1)] h0 h' ∧ h' 110 = spCount a1 a2 (h0 110) ∧ NPi h0 h'
set_option maxHeartbeats 4000000 in
set_option maxRecDepth 100000 in
theorem c_X12_counts3 (h0 : m_H) (a1 a2 : Int) (G0 : GI h0) : m_CI M_X12_counts [mR 108, mI a1, mI a2] h0 (P_X12_counts3 h0 a1 a2) := by
  refine m_CI_of ⟨by decide, rfl, by simp [m_arg, m_isL, M_X12_counts], ⟨rfl, rfl⟩, rfl, rfl⟩ (ls := [some (mR 108), some (mI a1), some (mI a2)]) rfl ?_
  refine z_ok (fun _ _ ok => ?_)
  have oa1 : m_32 a1 := ok 1 _ rfl
  unfold m_32 at oa1
  have oa2 : m_32 a2 := ok 2 _ rfl
  unfold m_32 at oa2
  refine z_aload_n (M := M_X12_counts) 0 dX12_counts_0 rfl ?_
  refine z_iconst (M := M_X12_counts) 1 dX12_counts_1 ?_
  refine z_putIH (M := M_X12_counts) 2 dX12_counts_2 p_X12_133 o_108 rfl (u_108_0 G0) ((FR.rf (cs := [109, 110]) (ss := [(108, 0), (108, 1)]) (h := h0)).up rfl) (fun h1 E1 G1 R1 => ?_)
  have r0_ : h1 110 (Int.toNat 0) = h0 110 (Int.toNat 0) := tl_o E1 (by decide) _
  have q0_ : h0 110 (Int.toNat 0) = h0 110 0 := rfl
  refine z_iload_n (M := M_X12_counts) 5 dX12_counts_5 rfl ?_
  refine z_i2l (M := M_X12_counts) 6 dX12_counts_6 ?_
  refine z_lconst (M := M_X12_counts) 7 dX12_counts_7 (v := 0) ?_
  refine z_lconst (M := M_X12_counts) 8 dX12_counts_8 (v := 1) ?_
  refine z_sI (M := M_X12_counts) 9 dX12_counts_9 t_X12_in l_X12_143 (m_rr_of rfl) (rest := []) (c_X12_in h1 a2 0 1 G1) rfl rfl (Nat.le_of_ble_eq_true rfl) ⟨rfl, rfl⟩ (fun x1 h2 qx1 => ?_)
  obtain ⟨rfl, ⟨rfl, cx1⟩ | ⟨rfl, cx1⟩⟩ := qx1
  · refine z_if_ne_T (M := M_X12_counts) 12 dX12_counts_12 21 rfl (by omega) ?_
    refine z_aload_n (M := M_X12_counts) 21 dX12_counts_21 rfl ?_
    refine z_iload_n (M := M_X12_counts) 22 dX12_counts_22 rfl ?_
    refine z_vI (M := M_X12_counts) 23 dX12_counts_23 t_X12_isEntry l_X12_192 (m_rr_of rfl) (rest := []) (c_X12_isEntry h1 a1 G1) o_108 rfl rfl rfl (Nat.le_of_ble_eq_true rfl) ⟨rfl, rfl⟩ (fun x2 h3 qx2 => ?_)
    obtain ⟨rfl, ⟨rfl, cx2⟩ | ⟨rfl, cx2⟩⟩ := qx2
    · refine z_if_eq_F (M := M_X12_counts) 26 dX12_counts_26 45 rfl (by omega) ?_
      refine z_aload_n (M := M_X12_counts) 29 dX12_counts_29 rfl ?_
      refine z_bipush (M := M_X12_counts) 30 dX12_counts_30 ?_
      refine z_iconst (M := M_X12_counts) 32 dX12_counts_32 ?_
      refine z_iload_n (M := M_X12_counts) 33 dX12_counts_33 rfl ?_
      refine z_imulN (M := M_X12_counts) 34 dX12_counts_34 (by omega) (by omega) ?_
      refine z_iaddN (M := M_X12_counts) 35 dX12_counts_35 (by omega) (by omega) ?_
      refine z_iconst (M := M_X12_counts) 36 dX12_counts_36 ?_
      refine z_iaddN (M := M_X12_counts) 37 dX12_counts_37 (by omega) (by omega) ?_
      refine z_iload_n (M := M_X12_counts) 38 dX12_counts_38 rfl ?_
      refine z_vI (M := M_X12_counts) 39 dX12_counts_39 t_X12_change l_X12_162 (m_rr_of rfl) (rest := []) (c_X12_change h1 ((80 + (5 * a1)) + 4) a2 G1 ⟨by omega, by omega⟩ (rb_e4 (e := a1) (by omega) (by omega) (by omega) (by omega) (by omega))) o_108 rfl rfl rfl (Nat.le_of_ble_eq_true rfl) ⟨rfl, rfl⟩ (fun x3 h4 qx3 => ?_)
      obtain ⟨G4, S4, fx3_0, fx3_1, fx3_2⟩ := qx3
      have R4 := R1.call S4 (by decide +kernel)
      refine z_ok (fun ox3 _ _ => ?_)
      have ox3 := ox3.1; unfold m_ok m_32 at ox3
      refine z_goto (M := M_X12_counts) 42 dX12_counts_42 51 rfl ?_
      have g0_ := gw_0 G0
      exact z_retI (M := M_X12_counts) 51 dX12_counts_51 rfl ⟨G4, R4, by unfold spCount; rw [cif_pos ⟨⟨by omega, by omega⟩, ⟨by omega, by omega⟩⟩]; exact (mR_yes (V := True) (i := 5 * a1.toNat + 84) trivial E1 (by omega) fx3_0 fx3_1 fx3_2).2.trans (by unfold spSet; rw [cif_pos trivial]), (NPi.change (NPi.put NPi.rf E1 (by decide)) S4 (fun _ => rfl) (fun _ => rfl) fx3_1 ⟨by omega, fun e => by omega⟩ (by omega))⟩
    · refine z_if_eq_T (M := M_X12_counts) 26 dX12_counts_26 45 rfl (by omega) ?_
      refine z_aload_n (M := M_X12_counts) 45 dX12_counts_45 rfl ?_
      refine z_bipush (M := M_X12_counts) 46 dX12_counts_46 ?_
      refine z_vI (M := M_X12_counts) 48 dX12_counts_48 t_X12_answer l_X12_147 (m_rr_of rfl) (rest := []) (c_X12_answer h1 (-2) G1 ⟨by omega, by omega⟩) o_108 rfl rfl rfl (Nat.le_of_ble_eq_true rfl) ⟨rfl, rfl⟩ (fun x4 h5 qx4 => ?_)
      obtain ⟨G5, S5, rfl⟩ := qx4
      have R5 := R1.call S5 (by decide +kernel)
      have g0_ := gw_0 G0
      exact z_retI (M := M_X12_counts) 51 dX12_counts_51 rfl ⟨G5, R5, by unfold spCount; rw [cif_neg (fun z => by have z1 := z.1; have z2 := z.2; omega)]; exact (rowz S5 (fun _ => rfl)).trans (tl_r E1 (by decide)), (NPi.call (NPi.put NPi.rf E1 (by decide)) S5 (fun _ => rfl) (fun _ => rfl) (fun _ => rfl))⟩
  · refine z_if_ne_F (M := M_X12_counts) 12 dX12_counts_12 21 rfl (by omega) ?_
    refine z_aload_n (M := M_X12_counts) 15 dX12_counts_15 rfl ?_
    refine z_iconst (M := M_X12_counts) 16 dX12_counts_16 ?_
    refine z_vI (M := M_X12_counts) 17 dX12_counts_17 t_X12_answer l_X12_147 (m_rr_of rfl) (rest := []) (c_X12_answer h1 (-1) G1 ⟨by omega, by omega⟩) o_108 rfl rfl rfl (Nat.le_of_ble_eq_true rfl) ⟨rfl, rfl⟩ (fun x5 h6 qx5 => ?_)
    obtain ⟨G6, S6, rfl⟩ := qx5
    have R6 := R1.call S6 (by decide +kernel)
    have g0_ := gw_0 G0
    exact z_retI (M := M_X12_counts) 20 dX12_counts_20 rfl ⟨G6, R6, by unfold spCount; rw [cif_neg (fun z => by have z1 := z.1; have z2 := z.2; omega)]; exact (rowz S6 (fun _ => rfl)).trans (tl_r E1 (by decide)), (NPi.call (NPi.put NPi.rf E1 (by decide)) S6 (fun _ => rfl) (fun _ => rfl) (fun _ => rfl))⟩
abbrev P_X12_shorter3 (h0 : m_H) (a1 a2 : Int) : Int → m_H → Prop := fun x h' => GI h' ∧ FR [109, 110] [(108, 0), (108, 1)] h0 h' ∧ mRr (spShort a1 a2) x h0 h' ∧ NPi h0 h'
set_option maxHeartbeats 4000000 in
set_option maxRecDepth 100000 in
theorem c_X12_shorter3 (h0 : m_H) (a1 a2 : Int) (G0 : GI h0) : m_CI M_X12_shorter [mR 108, mI a1, mI a2] h0 (P_X12_shorter3 h0 a1 a2) := by
  refine m_CI_of ⟨by decide, rfl, by simp [m_arg, m_isL, M_X12_shorter], ⟨rfl, rfl⟩, rfl, rfl⟩ (ls := [some (mR 108), some (mI a1), some (mI a2)]) rfl ?_
  refine z_ok (fun _ _ ok => ?_)
  have oa1 : m_32 a1 := ok 1 _ rfl
  unfold m_32 at oa1
  have oa2 : m_32 a2 := ok 2 _ rfl
  unfold m_32 at oa2
  refine z_aload_n (M := M_X12_shorter) 0 dX12_shorter_0 rfl ?_
  refine z_iconst (M := M_X12_shorter) 1 dX12_shorter_1 ?_
  refine z_putIH (M := M_X12_shorter) 2 dX12_shorter_2 p_X12_133 o_108 rfl (u_108_0 G0) ((FR.rf (cs := [109, 110]) (ss := [(108, 0), (108, 1)]) (h := h0)).up rfl) (fun h1 E1 G1 R1 => ?_)
  have row_ : h1 110 = h0 110 := tl_r E1 (by decide)
  refine z_iload_n (M := M_X12_shorter) 5 dX12_shorter_5 rfl ?_
  refine z_sI (M := M_X12_shorter) 6 dX12_shorter_6 t_X12_isKeeper l_X12_169 (m_rr_of rfl) (rest := []) (c_X12_isKeeper h1 a1 G1) rfl rfl (Nat.le_of_ble_eq_true rfl) ⟨rfl, rfl⟩ (fun x1 h2 qx1 => ?_)
  obtain ⟨rfl, ⟨rfl, cx1⟩ | ⟨rfl, cx1⟩⟩ := qx1
  · refine z_if_eq_F (M := M_X12_shorter) 9 dX12_shorter_9 24 rfl (by omega) ?_
    refine z_iload_n (M := M_X12_shorter) 12 dX12_shorter_12 rfl ?_
    refine z_sI (M := M_X12_shorter) 13 dX12_shorter_13 t_X12_isKeeper l_X12_169 (m_rr_of rfl) (rest := []) (c_X12_isKeeper h1 a2 G1) rfl rfl (Nat.le_of_ble_eq_true rfl) ⟨rfl, rfl⟩ (fun x2 h3 qx2 => ?_)
    obtain ⟨rfl, ⟨rfl, cx2⟩ | ⟨rfl, cx2⟩⟩ := qx2
    · refine z_if_eq_F (M := M_X12_shorter) 16 dX12_shorter_16 24 rfl (by omega) ?_
      refine z_iload_n (M := M_X12_shorter) 19 dX12_shorter_19 rfl ?_
      refine z_iload_n (M := M_X12_shorter) 20 dX12_shorter_20 rfl ?_
      refine z_icmp_ne (M := M_X12_shorter) 21 dX12_shorter_21 30 rfl (fun c3 => ?_) (fun c3 => ?_)
      · refine z_aload_n (M := M_X12_shorter) 30 dX12_shorter_30 rfl ?_
        refine z_iload_n (M := M_X12_shorter) 31 dX12_shorter_31 rfl ?_
        refine z_iload_n (M := M_X12_shorter) 32 dX12_shorter_32 rfl ?_
        refine z_vI (M := M_X12_shorter) 33 dX12_shorter_33 t_X12_isShorter l_X12_172 (m_rr_of rfl) (rest := []) (c_X12_isShorter2 h1 a1 a2 G1) o_108 rfl rfl rfl (Nat.le_of_ble_eq_true rfl) ⟨rfl, rfl⟩ (fun x4 h4 qx4 => ?_)
        obtain ⟨G4, S4, ax4, bx4, fx4_0⟩ := qx4
        have R4 := R1.call S4 (by decide +kernel)
        refine z_if_eq (M := M_X12_shorter) 36 dX12_shorter_36 46 rfl (fun c5 => ?_) (fun c5 => ?_)
        · refine z_aload_n (M := M_X12_shorter) 46 dX12_shorter_46 rfl ?_
          refine z_getR (M := M_X12_shorter) 47 dX12_shorter_47 f_X12_13 o_108 rfl (g_108_3 G4) ?_
          refine z_iconst (M := M_X12_shorter) 50 dX12_shorter_50 ?_
          refine z_ialdG (M := M_X12_shorter) 51 dX12_shorter_51 o_110 (by omega) (by omega) (gw_1 G4) (fun x6 ex6 ax6 bx6 => ?_)
          refine z_bipush (M := M_X12_shorter) 52 dX12_shorter_52 ?_
          refine z_icmp_ne (M := M_X12_shorter) 54 dX12_shorter_54 64 rfl (fun c7 => ?_) (fun c7 => ?_)
          · refine z_aload_n (M := M_X12_shorter) 64 dX12_shorter_64 rfl ?_
            refine z_iload_n (M := M_X12_shorter) 65 dX12_shorter_65 rfl ?_
            refine z_iload_n (M := M_X12_shorter) 66 dX12_shorter_66 rfl ?_
            refine z_vV (M := M_X12_shorter) 67 dX12_shorter_67 t_X12_addShorter l_X12_176 (m_rr_of rfl) (rest := []) (c_X12_addShorter2 h4 a1 a2 G4 ⟨by omega, by omega⟩ ⟨by omega, by omega⟩ (le_e ex6 (by omega))) o_108 rfl rfl rfl (Nat.le_of_ble_eq_true rfl) ⟨rfl, rfl⟩ (fun h5 qx8 => ?_)
            obtain ⟨G5, S5, fx8_0, fx8_1, fx8_2, npx8⟩ := qx8
            have R5 := R4.call S5 (by decide +kernel)
            refine z_aload_n (M := M_X12_shorter) 70 dX12_shorter_70 rfl ?_
            refine z_aload_n (M := M_X12_shorter) 71 dX12_shorter_71 rfl ?_
            refine z_getR (M := M_X12_shorter) 72 dX12_shorter_72 f_X12_13 o_108 rfl (g_108_3 G5) ?_
            refine z_iconst (M := M_X12_shorter) 75 dX12_shorter_75 ?_
            refine z_ialdE (M := M_X12_shorter) 76 dX12_shorter_76 o_110 (by omega) (by omega) (eq_ad fx8_1 ex6) ?_
            refine z_vI (M := M_X12_shorter) 77 dX12_shorter_77 t_X12_answer l_X12_147 (m_rr_of rfl) (rest := []) (c_X12_answer h5 (x6 + 1) G5 ⟨by omega, by omega⟩) o_108 rfl rfl rfl (Nat.le_of_ble_eq_true rfl) ⟨rfl, rfl⟩ (fun x9 h6 qx9 => ?_)
            obtain ⟨G6, S6, rfl⟩ := qx9
            have R6 := R5.call S6 (by decide +kernel)
            have is_ : x4 = 1 ↔ iS (h0 110) a1 a2 := by rw [← row_]; exact fx4_0
            have rh_ : h4 110 = h0 110 := (rowz S4 (fun _ => rfl)).trans row_
            have e1_ : h0 110 1 = x6 := (congrFun rh_ 1).symm.trans ex6
            have ra_ : h5 110 = rS (h0 110) a1 a2 := fx8_2.trans (by rw [rh_])
            have e2_ : h5 110 1 = h0 110 1 + 1 := congrFun ra_ 1
            have e3_ : h5 110 1 = (x6 + 1) := (eq_ad fx8_1 ex6)
            exact z_retI (M := M_X12_shorter) 80 dX12_shorter_80 rfl ⟨G6, R6, ⟨by unfold spShort; rw [cif_pos (by omega), cif_neg (fun z => by have := is_.mpr z; omega), cif_pos (by omega)]; show (x6 + 1) = h0 110 1 + 1; omega, by unfold spShort; rw [cif_pos (by omega), cif_neg (fun z => by have := is_.mpr z; omega), cif_pos (by omega)]; exact (rowz S6 (fun _ => rfl)).trans ra_⟩, (NPi.call (NPi.tr (NPi.call (NPi.put NPi.rf E1 (by decide)) S4 (fun _ => rfl) (fun _ => rfl) (fun _ => rfl)) npx8) S6 (fun _ => rfl) (fun _ => rfl) (fun _ => rfl))⟩
          · refine z_aload_n (M := M_X12_shorter) 57 dX12_shorter_57 rfl ?_
            refine z_bipush (M := M_X12_shorter) 58 dX12_shorter_58 ?_
            refine z_vI (M := M_X12_shorter) 60 dX12_shorter_60 t_X12_answer l_X12_147 (m_rr_of rfl) (rest := []) (c_X12_answer h4 (-5) G4 ⟨by omega, by omega⟩) o_108 rfl rfl rfl (Nat.le_of_ble_eq_true rfl) ⟨rfl, rfl⟩ (fun x10 h7 qx10 => ?_)
            obtain ⟨G7, S7, rfl⟩ := qx10
            have R7 := R4.call S7 (by decide +kernel)
            have is_ : x4 = 1 ↔ iS (h0 110) a1 a2 := by rw [← row_]; exact fx4_0
            have rh_ : h4 110 = h0 110 := (rowz S4 (fun _ => rfl)).trans row_
            have e1_ : h0 110 1 = x6 := (congrFun rh_ 1).symm.trans ex6
            exact z_retI (M := M_X12_shorter) 63 dX12_shorter_63 rfl ⟨G7, R7, ⟨by unfold spShort; rw [cif_pos (by omega), cif_neg (fun z => by have := is_.mpr z; omega), cif_neg (by omega)], by unfold spShort; rw [cif_pos (by omega), cif_neg (fun z => by have := is_.mpr z; omega), cif_neg (by omega)]; exact (rowz S7 (fun _ => rfl)).trans rh_⟩, (NPi.call (NPi.call (NPi.put NPi.rf E1 (by decide)) S4 (fun _ => rfl) (fun _ => rfl) (fun _ => rfl)) S7 (fun _ => rfl) (fun _ => rfl) (fun _ => rfl))⟩
        · refine z_aload_n (M := M_X12_shorter) 39 dX12_shorter_39 rfl ?_
          refine z_bipush (M := M_X12_shorter) 40 dX12_shorter_40 ?_
          refine z_vI (M := M_X12_shorter) 42 dX12_shorter_42 t_X12_answer l_X12_147 (m_rr_of rfl) (rest := []) (c_X12_answer h4 (-3) G4 ⟨by omega, by omega⟩) o_108 rfl rfl rfl (Nat.le_of_ble_eq_true rfl) ⟨rfl, rfl⟩ (fun x11 h8 qx11 => ?_)
          obtain ⟨G8, S8, rfl⟩ := qx11
          have R8 := R4.call S8 (by decide +kernel)
          have is_ : x4 = 1 ↔ iS (h0 110) a1 a2 := by rw [← row_]; exact fx4_0
          have rh_ : h4 110 = h0 110 := (rowz S4 (fun _ => rfl)).trans row_
          exact z_retI (M := M_X12_shorter) 45 dX12_shorter_45 rfl ⟨G8, R8, ⟨by unfold spShort; rw [cif_pos (by omega), cif_pos (is_.mp (by omega))], by unfold spShort; rw [cif_pos (by omega), cif_pos (is_.mp (by omega))]; exact (rowz S8 (fun _ => rfl)).trans rh_⟩, (NPi.call (NPi.call (NPi.put NPi.rf E1 (by decide)) S4 (fun _ => rfl) (fun _ => rfl) (fun _ => rfl)) S8 (fun _ => rfl) (fun _ => rfl) (fun _ => rfl))⟩
      · refine z_aload_n (M := M_X12_shorter) 24 dX12_shorter_24 rfl ?_
        refine z_iconst (M := M_X12_shorter) 25 dX12_shorter_25 ?_
        refine z_vI (M := M_X12_shorter) 26 dX12_shorter_26 t_X12_answer l_X12_147 (m_rr_of rfl) (rest := []) (c_X12_answer h1 (-1) G1 ⟨by omega, by omega⟩) o_108 rfl rfl rfl (Nat.le_of_ble_eq_true rfl) ⟨rfl, rfl⟩ (fun x12 h9 qx12 => ?_)
        obtain ⟨G9, S9, rfl⟩ := qx12
        have R9 := R1.call S9 (by decide +kernel)
        exact z_retI (M := M_X12_shorter) 29 dX12_shorter_29 rfl ⟨G9, R9, ⟨by unfold spShort; rw [cif_neg (by omega)], by unfold spShort; rw [cif_neg (by omega)]; exact (rowz S9 (fun _ => rfl)).trans row_⟩, (NPi.call (NPi.put NPi.rf E1 (by decide)) S9 (fun _ => rfl) (fun _ => rfl) (fun _ => rfl))⟩
    · refine z_if_eq_T (M := M_X12_shorter) 16 dX12_shorter_16 24 rfl (by omega) ?_
      refine z_aload_n (M := M_X12_shorter) 24 dX12_shorter_24 rfl ?_
      refine z_iconst (M := M_X12_shorter) 25 dX12_shorter_25 ?_
      refine z_vI (M := M_X12_shorter) 26 dX12_shorter_26 t_X12_answer l_X12_147 (m_rr_of rfl) (rest := []) (c_X12_answer h1 (-1) G1 ⟨by omega, by omega⟩) o_108 rfl rfl rfl (Nat.le_of_ble_eq_true rfl) ⟨rfl, rfl⟩ (fun x13 h10 qx13 => ?_)
      obtain ⟨G10, S10, rfl⟩ := qx13
      have R10 := R1.call S10 (by decide +kernel)
      exact z_retI (M := M_X12_shorter) 29 dX12_shorter_29 rfl ⟨G10, R10, ⟨by unfold spShort; rw [cif_neg (by omega)], by unfold spShort; rw [cif_neg (by omega)]; exact (rowz S10 (fun _ => rfl)).trans row_⟩, (NPi.call (NPi.put NPi.rf E1 (by decide)) S10 (fun _ => rfl) (fun _ => rfl) (fun _ => rfl))⟩
  · refine z_if_eq_T (M := M_X12_shorter) 9 dX12_shorter_9 24 rfl (by omega) ?_
    refine z_aload_n (M := M_X12_shorter) 24 dX12_shorter_24 rfl ?_
    refine z_iconst (M := M_X12_shorter) 25 dX12_shorter_25 ?_
    refine z_vI (M := M_X12_shorter) 26 dX12_shorter_26 t_X12_answer l_X12_147 (m_rr_of rfl) (rest := []) (c_X12_answer h1 (-1) G1 ⟨by omega, by omega⟩) o_108 rfl rfl rfl (Nat.le_of_ble_eq_true rfl) ⟨rfl, rfl⟩ (fun x14 h11 qx14 => ?_)
    obtain ⟨G11, S11, rfl⟩ := qx14
    have R11 := R1.call S11 (by decide +kernel)
    exact z_retI (M := M_X12_shorter) 29 dX12_shorter_29 rfl ⟨G11, R11, ⟨by unfold spShort; rw [cif_neg (by omega)], by unfold spShort; rw [cif_neg (by omega)]; exact (rowz S11 (fun _ => rfl)).trans row_⟩, (NPi.call (NPi.put NPi.rf E1 (by decide)) S11 (fun _ => rfl) (fun _ => rfl) (fun _ => rfl))⟩
abbrev P_X12_entry3 (h0 : m_H) (a1 a2 a3 a4 : Int) : Int → m_H → Prop := fun x h' => GI h' ∧ FR [109, 110] [(108, 0), (108, 1)] h0 h' ∧ mRr (spEntry a1 a2 a3 a4) x h0 h' ∧ NPi h0 h'
set_option maxHeartbeats 4000000 in
set_option maxRecDepth 100000 in
theorem c_X12_entry3 (h0 : m_H) (a1 a2 a3 a4 : Int) (G0 : GI h0) : m_CI M_X12_entry [mR 108, mI a1, mI a2, mI a3, mI a4] h0 (P_X12_entry3 h0 a1 a2 a3 a4) := by
  refine m_CI_of ⟨by decide, rfl, by simp [m_arg, m_isL, M_X12_entry], ⟨rfl, rfl⟩, rfl, rfl⟩ (ls := [some (mR 108), some (mI a1), some (mI a2), some (mI a3), some (mI a4)]) rfl ?_
  refine z_ok (fun _ _ ok => ?_)
  have oa1 : m_32 a1 := ok 1 _ rfl
  unfold m_32 at oa1
  have oa2 : m_32 a2 := ok 2 _ rfl
  unfold m_32 at oa2
  have oa3 : m_32 a3 := ok 3 _ rfl
  unfold m_32 at oa3
  have oa4 : m_32 a4 := ok 4 _ rfl
  unfold m_32 at oa4
  refine z_aload_n (M := M_X12_entry) 0 dX12_entry_0 rfl ?_
  refine z_iconst (M := M_X12_entry) 1 dX12_entry_1 ?_
  refine z_putIH (M := M_X12_entry) 2 dX12_entry_2 p_X12_133 o_108 rfl (u_108_0 G0) ((FR.rf (cs := [109, 110]) (ss := [(108, 0), (108, 1)]) (h := h0)).up rfl) (fun h1 E1 G1 R1 => ?_)
  have row_ : h1 110 = h0 110 := tl_r E1 (by decide)
  refine z_iload_n (M := M_X12_entry) 5 dX12_entry_5 rfl ?_
  refine z_iload_n (M := M_X12_entry) 6 dX12_entry_6 rfl ?_
  refine z_iload_n (M := M_X12_entry) 7 dX12_entry_7 rfl ?_
  refine z_iload (M := M_X12_entry) 8 dX12_entry_8 rfl ?_
  refine z_sI (M := M_X12_entry) 10 dX12_entry_10 t_X12_canEnter l_X12_184 (m_rr_of rfl) (rest := []) (c_X12_canEnter h1 a1 a2 a3 a4 G1) rfl rfl (Nat.le_of_ble_eq_true rfl) ⟨rfl, rfl⟩ (fun x1 h2 qx1 => ?_)
  obtain ⟨rfl, ⟨rfl, cx1⟩ | ⟨rfl, cx1⟩⟩ := qx1
  · refine z_if_ne_T (M := M_X12_entry) 13 dX12_entry_13 22 rfl (by omega) ?_
    refine z_aload_n (M := M_X12_entry) 22 dX12_entry_22 rfl ?_
    refine z_getR (M := M_X12_entry) 23 dX12_entry_23 f_X12_13 o_108 rfl (g_108_3 G1) ?_
    refine z_iconst (M := M_X12_entry) 26 dX12_entry_26 ?_
    refine z_ialdG (M := M_X12_entry) 27 dX12_entry_27 o_110 (by omega) (by omega) (gw_0 G1) (fun x2 ex2 ax2 bx2 => ?_)
    refine z_bipush (M := M_X12_entry) 28 dX12_entry_28 ?_
    refine z_icmp_ne (M := M_X12_entry) 30 dX12_entry_30 40 rfl (fun c3 => ?_) (fun c3 => ?_)
    · refine z_aload_n (M := M_X12_entry) 40 dX12_entry_40 rfl ?_
      refine z_iload_n (M := M_X12_entry) 41 dX12_entry_41 rfl ?_
      refine z_iload_n (M := M_X12_entry) 42 dX12_entry_42 rfl ?_
      refine z_iload_n (M := M_X12_entry) 43 dX12_entry_43 rfl ?_
      refine z_iload (M := M_X12_entry) 44 dX12_entry_44 rfl ?_
      refine z_vV (M := M_X12_entry) 46 dX12_entry_46 t_X12_addEntry l_X12_188 (m_rr_of rfl) (rest := []) (c_X12_addEntry2 h1 a1 a2 a3 a4 G1 ⟨by omega, by omega⟩ ⟨by omega, by omega⟩ ⟨by omega, by omega⟩ ⟨by omega, by omega⟩ (le_e ex2 (by omega))) o_108 rfl rfl rfl (Nat.le_of_ble_eq_true rfl) ⟨rfl, rfl⟩ (fun h3 qx4 => ?_)
      obtain ⟨G3, S3, fx4_0, fx4_1, fx4_2, npx4⟩ := qx4
      have R3 := R1.call S3 (by decide +kernel)
      refine z_aload_n (M := M_X12_entry) 49 dX12_entry_49 rfl ?_
      refine z_aload_n (M := M_X12_entry) 50 dX12_entry_50 rfl ?_
      refine z_getR (M := M_X12_entry) 51 dX12_entry_51 f_X12_13 o_108 rfl (g_108_3 G3) ?_
      refine z_iconst (M := M_X12_entry) 54 dX12_entry_54 ?_
      refine z_ialdE (M := M_X12_entry) 55 dX12_entry_55 o_110 (by omega) (by omega) (eq_ad fx4_0 ex2) ?_
      refine z_iconst (M := M_X12_entry) 56 dX12_entry_56 ?_
      refine z_isubN (M := M_X12_entry) 57 dX12_entry_57 (by omega) (by omega) ?_
      refine z_vI (M := M_X12_entry) 58 dX12_entry_58 t_X12_answer l_X12_147 (m_rr_of rfl) (rest := []) (c_X12_answer h3 ((x2 + 1) - 1) G3 ⟨by omega, by omega⟩) o_108 rfl rfl rfl (Nat.le_of_ble_eq_true rfl) ⟨rfl, rfl⟩ (fun x5 h4 qx5 => ?_)
      obtain ⟨G4, S4, rfl⟩ := qx5
      have R4 := R3.call S4 (by decide +kernel)
      have e1_ : h0 110 0 = x2 := (congrFun row_ 0).symm.trans ex2
      have ra_ : h3 110 = rE (h0 110) a1 a2 a3 a4 := fx4_2.trans (by rw [row_])
      have e2_ : h3 110 0 = h0 110 0 + 1 := congrFun ra_ 0
      have e3_ : h3 110 0 = (x2 + 1) := (eq_ad fx4_0 ex2)
      exact z_retI (M := M_X12_entry) 61 dX12_entry_61 rfl ⟨G4, R4, ⟨by unfold spEntry; rw [cif_pos (by unfold canE; omega), cif_pos (by omega)]; show ((x2 + 1) - 1) = h0 110 0; omega, by unfold spEntry; rw [cif_pos (by unfold canE; omega), cif_pos (by omega)]; exact (rowz S4 (fun _ => rfl)).trans ra_⟩, (NPi.call (NPi.tr (NPi.put NPi.rf E1 (by decide)) npx4) S4 (fun _ => rfl) (fun _ => rfl) (fun _ => rfl))⟩
    · refine z_aload_n (M := M_X12_entry) 33 dX12_entry_33 rfl ?_
      refine z_bipush (M := M_X12_entry) 34 dX12_entry_34 ?_
      refine z_vI (M := M_X12_entry) 36 dX12_entry_36 t_X12_answer l_X12_147 (m_rr_of rfl) (rest := []) (c_X12_answer h1 (-5) G1 ⟨by omega, by omega⟩) o_108 rfl rfl rfl (Nat.le_of_ble_eq_true rfl) ⟨rfl, rfl⟩ (fun x6 h5 qx6 => ?_)
      obtain ⟨G5, S5, rfl⟩ := qx6
      have R5 := R1.call S5 (by decide +kernel)
      have e1_ : h0 110 0 = x2 := (congrFun row_ 0).symm.trans ex2
      exact z_retI (M := M_X12_entry) 39 dX12_entry_39 rfl ⟨G5, R5, ⟨by unfold spEntry; rw [cif_pos (by unfold canE; omega), cif_neg (by omega)], by unfold spEntry; rw [cif_pos (by unfold canE; omega), cif_neg (by omega)]; exact (rowz S5 (fun _ => rfl)).trans row_⟩, (NPi.call (NPi.put NPi.rf E1 (by decide)) S5 (fun _ => rfl) (fun _ => rfl) (fun _ => rfl))⟩
  · refine z_if_ne_F (M := M_X12_entry) 13 dX12_entry_13 22 rfl (by omega) ?_
    refine z_aload_n (M := M_X12_entry) 16 dX12_entry_16 rfl ?_
    refine z_iconst (M := M_X12_entry) 17 dX12_entry_17 ?_
    refine z_vI (M := M_X12_entry) 18 dX12_entry_18 t_X12_answer l_X12_147 (m_rr_of rfl) (rest := []) (c_X12_answer h1 (-1) G1 ⟨by omega, by omega⟩) o_108 rfl rfl rfl (Nat.le_of_ble_eq_true rfl) ⟨rfl, rfl⟩ (fun x7 h6 qx7 => ?_)
    obtain ⟨G6, S6, rfl⟩ := qx7
    have R6 := R1.call S6 (by decide +kernel)
    exact z_retI (M := M_X12_entry) 21 dX12_entry_21 rfl ⟨G6, R6, ⟨by unfold spEntry; rw [cif_neg (by unfold canE; omega)], by unfold spEntry; rw [cif_neg (by unfold canE; omega)]; exact (rowz S6 (fun _ => rfl)).trans row_⟩, (NPi.call (NPi.put NPi.rf E1 (by decide)) S6 (fun _ => rfl) (fun _ => rfl) (fun _ => rfl))⟩
abbrev P_X12_row3 (h0 : m_H) : Int → m_H → Prop := fun x h' => GI h' ∧ FR [109, 110] [(108, 0), (108, 1), (108, 6), (108, 8)] h0 h' ∧ h' 108 8 = 0 ∧ rwM (h0 113) (h0 108 8) (h0 110) x (h0 108 6) (h' 108 6) h' ∧ NPi h0 h'
def q_X12_row3 (h0 : m_H) (n : Nat) : Prop := (∀ (l1 l2 l3 y_108_8 : Int) (h : m_H), GI h → FR [109, 110] [(108, 0), (108, 1), (108, 6), (108, 8)] h0 h → 1 ≤ l1 → l1 ≤ 400 → 0 ≤ l2 → l2 ≤ 101 → 0 ≤ l3 → l3 ≤ 403 → 0 ≤ y_108_8 → y_108_8 ≤ 0 → (h 108 8 = y_108_8) → (∃ i : Nat, l3 = 4 * (i : Int) ∧ h 110 = (rwL (h0 113) (h0 108 8) (h0 110) i).2.2 ∧ h 108 6 = (rwL (h0 113) (h0 108 8) (h0 110) i).2.1 ∧ l2 = (rwL (h0 113) (h0 108 8) (h0 110) i).1) → (l1 = h0 108 8) → (l3 ≤ l1 + 3 ∧ h0 108 8 ≠ 0 ∧ 4 * l2 ≤ l3) → (NPi h0 h) → 2 * (403 - l3) + (1) ≤ (n : Int) → m_Z oF M_X12_row 35 [some (mR 108), some (mI l1), some (mI l2), some (mI l3), none] [] h (m_QI (P_X12_row3 h0)))
set_option maxHeartbeats 4000000 in
set_option maxRecDepth 100000 in
theorem s_X12_row3_35 (h0 : m_H) (G0 : GI h0) (n : Nat) (ih : q_X12_row3 h0 n) : ∀ (l1 l2 l3 y_108_8 : Int) (h : m_H), GI h → FR [109, 110] [(108, 0), (108, 1), (108, 6), (108, 8)] h0 h → 1 ≤ l1 → l1 ≤ 400 → 0 ≤ l2 → l2 ≤ 101 → 0 ≤ l3 → l3 ≤ 403 → 0 ≤ y_108_8 → y_108_8 ≤ 0 → (h 108 8 = y_108_8) → (∃ i : Nat, l3 = 4 * (i : Int) ∧ h 110 = (rwL (h0 113) (h0 108 8) (h0 110) i).2.2 ∧ h 108 6 = (rwL (h0 113) (h0 108 8) (h0 110) i).2.1 ∧ l2 = (rwL (h0 113) (h0 108 8) (h0 110) i).1) → (l1 = h0 108 8) → (l3 ≤ l1 + 3 ∧ h0 108 8 ≠ 0 ∧ 4 * l2 ≤ l3) → (NPi h0 h) → 2 * (403 - l3) + (1) ≤ ((n + 1 : Nat) : Int) → m_Z oF M_X12_row 35 [some (mR 108), some (mI l1), some (mI l2), some (mI l3), none] [] h (m_QI (P_X12_row3 h0)) := by
  intro l1 l2 l3 y_108_8 h G R v0 v1 v2 v3 v4 v5 v6 v7 t_108_8 i0 i1 i2 i3 hr
  obtain ⟨i_, ki_, ri_, bi_, ci_⟩ := i0
  refine z_iload_n (M := M_X12_row) 35 dX12_row_35 rfl ?_
  refine z_iload_n (M := M_X12_row) 36 dX12_row_36 rfl ?_
  refine z_icmp_ge (M := M_X12_row) 37 dX12_row_37 174 rfl (fun c1 => ?_) (fun c1 => ?_)
  · refine z_aload_n (M := M_X12_row) 174 dX12_row_174 rfl ?_
    refine z_iload_n (M := M_X12_row) 175 dX12_row_175 rfl ?_
    refine z_vI (M := M_X12_row) 176 dX12_row_176 t_X12_answer l_X12_147 (m_rr_of rfl) (rest := []) (c_X12_answer h l2 G ⟨by omega, by omega⟩) o_108 rfl rfl rfl (Nat.le_of_ble_eq_true rfl) ⟨rfl, rfl⟩ (fun x2 h1 qx2 => ?_)
    obtain ⟨G1, S1, rfl⟩ := qx2
    have R1 := R.call S1 (by decide +kernel)
    have z8 : h1 108 8 = y_108_8 := ((S1 108 8 rfl).trans t_108_8)
    have hi_ : rwN (h0 108 8) = i_ := by unfold rwN; omega
    exact z_retI (M := M_X12_row) 179 dX12_row_179 rfl ⟨G1, R1, by omega, Or.inr ⟨by omega, by rw [hi_]; exact ci_, by rw [hi_]; exact (S1 108 6 rfl).trans bi_, by rw [hi_]; exact (rowz S1 (fun _ => rfl)).trans ri_⟩, (NPi.call i3 S1 (fun _ => rfl) (fun _ => rfl) (fun _ => rfl))⟩
  · refine z_iload_n (M := M_X12_row) 40 dX12_row_40 rfl ?_
    refine z_iconst (M := M_X12_row) 41 dX12_row_41 ?_
    refine z_iaddN (M := M_X12_row) 42 dX12_row_42 (by omega) (by omega) ?_
    refine z_iload_n (M := M_X12_row) 43 dX12_row_43 rfl ?_
    refine z_icmp_ge (M := M_X12_row) 44 dX12_row_44 62 rfl (fun c3 => ?_) (fun c3 => ?_)
    · refine z_iconst (M := M_X12_row) 62 dX12_row_62 ?_
      refine z_istore (M := M_X12_row) 63 dX12_row_63 (ls' := [some (mR 108), some (mI l1), some (mI l2), some (mI l3), some (mI 0)]) (by decide) rfl ?_
      refine z_iload (M := M_X12_row) 65 dX12_row_65 rfl ?_
      refine z_if_eq_T (M := M_X12_row) 67 dX12_row_67 110 rfl (by omega) ?_
      refine z_iconst (M := M_X12_row) 110 dX12_row_110 ?_
      refine z_istore (M := M_X12_row) 111 dX12_row_111 (ls' := [some (mR 108), some (mI l1), some (mI l2), some (mI l3), some (mI 0)]) (by decide) rfl ?_
      refine z_iload (M := M_X12_row) 113 dX12_row_113 rfl ?_
      refine z_if_eq_T (M := M_X12_row) 115 dX12_row_115 158 rfl (by omega) ?_
      refine z_aload_n (M := M_X12_row) 158 dX12_row_158 rfl ?_
      refine z_dup (M := M_X12_row) 159 dX12_row_159 rfl ?_
      refine z_getIV (M := M_X12_row) 160 dX12_row_160 f_X12_204 o_108 (by decide) (fun x4 ex4 => ?_)
      refine z_ok (fun ox4 _ _ => ?_)
      have ox4 := ox4.1; unfold m_ok m_32 at ox4
      refine z_iconst (M := M_X12_row) 163 dX12_row_163 ?_
      have rb_ := rwL_b (b := h0 113) (n := h0 108 8) (r := h0 110) i_
      have x5_ : x4 = (rwL (h0 113) (h0 108 8) (h0 110) i_).2.1 := ex4.symm.trans bi_
      refine z_iaddN (M := M_X12_row) 164 dX12_row_164 (by omega) (by omega) ?_
      refine z_topBI (lo := 1) (hi := 102) ⟨by omega, by omega⟩ (fun x5 ex5 ax5 bx5 => ?_)
      refine z_putIH (M := M_X12_row) 165 dX12_row_165 p_X12_204 o_108 rfl (u_108_6 G) (R.up rfl) (fun h2 E2 G2 R2 => ?_)
      refine z_iincN (M := M_X12_row) 168 dX12_row_168 (ls' := [some (mR 108), some (mI l1), some (mI l2), some (mI (l3 + 4)), some (mI 0)]) (by decide) rfl (by (unfold m_32; decide)) (by omega) (by omega) rfl ?_
      refine z_goto (M := M_X12_row) 171 dX12_row_171 35 rfl ?_
      exact z_mask [true, true, true, true, false] rfl (ih l1 l2 (l3 + 4) y_108_8 h2 G2 R2 (by omega) (by omega) (by omega) (by omega) (by omega) (by omega) (by omega) (by omega) ((upN E2 (fun q => absurd q.2 (by decide))).trans t_108_8) ⟨i_ + 1, (by omega), (by rw [rw_n ki_ (fun z => by have z2 := z.1.1; omega)]; exact (tl_r E2 (by decide)).trans ri_), (by rw [rw_n ki_ (fun z => by have z2 := z.1.1; omega)]; show _ = _ + 1; rw [upE E2, ← bi_]; have w_ := ex4; omega), (by rw [rw_n ki_ (fun z => by have z2 := z.1.1; omega)]; exact ci_)⟩ (by omega) (by omega) (NPi.put i3 E2 (by decide)) (by omega))
    · refine z_aload_n (M := M_X12_row) 47 dX12_row_47 rfl ?_
      refine z_getR (M := M_X12_row) 48 dX12_row_48 f_X12_13 o_108 rfl (g_108_3 G) ?_
      refine z_iconst (M := M_X12_row) 51 dX12_row_51 ?_
      refine z_ialdG (M := M_X12_row) 52 dX12_row_52 o_110 (by omega) (by omega) (gw_0 G) (fun x6 ex6 ax6 bx6 => ?_)
      refine z_bipush (M := M_X12_row) 53 dX12_row_53 ?_
      refine z_icmp_ge (M := M_X12_row) 55 dX12_row_55 62 rfl (fun c7 => ?_) (fun c7 => ?_)
      · refine z_iconst (M := M_X12_row) 62 dX12_row_62 ?_
        refine z_istore (M := M_X12_row) 63 dX12_row_63 (ls' := [some (mR 108), some (mI l1), some (mI l2), some (mI l3), some (mI 0)]) (by decide) rfl ?_
        refine z_iload (M := M_X12_row) 65 dX12_row_65 rfl ?_
        refine z_if_eq_T (M := M_X12_row) 67 dX12_row_67 110 rfl (by omega) ?_
        refine z_iconst (M := M_X12_row) 110 dX12_row_110 ?_
        refine z_istore (M := M_X12_row) 111 dX12_row_111 (ls' := [some (mR 108), some (mI l1), some (mI l2), some (mI l3), some (mI 0)]) (by decide) rfl ?_
        refine z_iload (M := M_X12_row) 113 dX12_row_113 rfl ?_
        refine z_if_eq_T (M := M_X12_row) 115 dX12_row_115 158 rfl (by omega) ?_
        refine z_aload_n (M := M_X12_row) 158 dX12_row_158 rfl ?_
        refine z_dup (M := M_X12_row) 159 dX12_row_159 rfl ?_
        refine z_getIV (M := M_X12_row) 160 dX12_row_160 f_X12_204 o_108 (by decide) (fun x8 ex8 => ?_)
        refine z_ok (fun ox8 _ _ => ?_)
        have ox8 := ox8.1; unfold m_ok m_32 at ox8
        refine z_iconst (M := M_X12_row) 163 dX12_row_163 ?_
        have rb_ := rwL_b (b := h0 113) (n := h0 108 8) (r := h0 110) i_
        have x5_ : x8 = (rwL (h0 113) (h0 108 8) (h0 110) i_).2.1 := ex8.symm.trans bi_
        refine z_iaddN (M := M_X12_row) 164 dX12_row_164 (by omega) (by omega) ?_
        refine z_topBI (lo := 1) (hi := 102) ⟨by omega, by omega⟩ (fun x9 ex9 ax9 bx9 => ?_)
        refine z_putIH (M := M_X12_row) 165 dX12_row_165 p_X12_204 o_108 rfl (u_108_6 G) (R.up rfl) (fun h3 E3 G3 R3 => ?_)
        refine z_iincN (M := M_X12_row) 168 dX12_row_168 (ls' := [some (mR 108), some (mI l1), some (mI l2), some (mI (l3 + 4)), some (mI 0)]) (by decide) rfl (by (unfold m_32; decide)) (by omega) (by omega) rfl ?_
        refine z_goto (M := M_X12_row) 171 dX12_row_171 35 rfl ?_
        exact z_mask [true, true, true, true, false] rfl (ih l1 l2 (l3 + 4) y_108_8 h3 G3 R3 (by omega) (by omega) (by omega) (by omega) (by omega) (by omega) (by omega) (by omega) ((upN E3 (fun q => absurd q.2 (by decide))).trans t_108_8) ⟨i_ + 1, (by omega), (by rw [rw_n ki_ (fun z => by have z2 := z.1.2; rw [← ri_] at z2; have z_ := (show h 110 0 = x6 from ex6); omega)]; exact (tl_r E3 (by decide)).trans ri_), (by rw [rw_n ki_ (fun z => by have z2 := z.1.2; rw [← ri_] at z2; have z_ := (show h 110 0 = x6 from ex6); omega)]; show _ = _ + 1; rw [upE E3, ← bi_]; have w_ := ex8; omega), (by rw [rw_n ki_ (fun z => by have z2 := z.1.2; rw [← ri_] at z2; have z_ := (show h 110 0 = x6 from ex6); omega)]; exact ci_)⟩ (by omega) (by omega) (NPi.put i3 E3 (by decide)) (by omega))
      · refine z_iconst (M := M_X12_row) 58 dX12_row_58 ?_
        refine z_goto (M := M_X12_row) 59 dX12_row_59 63 rfl ?_
        refine z_istore (M := M_X12_row) 63 dX12_row_63 (ls' := [some (mR 108), some (mI l1), some (mI l2), some (mI l3), some (mI 1)]) (by decide) rfl ?_
        refine z_iload (M := M_X12_row) 65 dX12_row_65 rfl ?_
        refine z_if_eq_F (M := M_X12_row) 67 dX12_row_67 110 rfl (by omega) ?_
        refine z_aload_n (M := M_X12_row) 70 dX12_row_70 rfl ?_
        refine z_getR (M := M_X12_row) 71 dX12_row_71 f_X12_23 o_108 rfl (g_108_7 G) ?_
        refine z_iload_n (M := M_X12_row) 74 dX12_row_74 rfl ?_
        refine z_ialdG (M := M_X12_row) 75 dX12_row_75 o_113 (by omega) (by omega) (g_113 G (by omega)) (fun x10 ex10 ax10 bx10 => ?_)
        refine z_aload_n (M := M_X12_row) 76 dX12_row_76 rfl ?_
        refine z_getR (M := M_X12_row) 77 dX12_row_77 f_X12_23 o_108 rfl (g_108_7 G) ?_
        refine z_iload_n (M := M_X12_row) 80 dX12_row_80 rfl ?_
        refine z_iconst (M := M_X12_row) 81 dX12_row_81 ?_
        refine z_iaddN (M := M_X12_row) 82 dX12_row_82 (by omega) (by omega) ?_
        refine z_ialdG (M := M_X12_row) 83 dX12_row_83 o_113 (by omega) (by omega) (g_113 G (by omega)) (fun x11 ex11 ax11 bx11 => ?_)
        refine z_aload_n (M := M_X12_row) 84 dX12_row_84 rfl ?_
        refine z_getR (M := M_X12_row) 85 dX12_row_85 f_X12_23 o_108 rfl (g_108_7 G) ?_
        refine z_iload_n (M := M_X12_row) 88 dX12_row_88 rfl ?_
        refine z_iconst (M := M_X12_row) 89 dX12_row_89 ?_
        refine z_iaddN (M := M_X12_row) 90 dX12_row_90 (by omega) (by omega) ?_
        refine z_ialdG (M := M_X12_row) 91 dX12_row_91 o_113 (by omega) (by omega) (g_113 G (by omega)) (fun x12 ex12 ax12 bx12 => ?_)
        refine z_aload_n (M := M_X12_row) 92 dX12_row_92 rfl ?_
        refine z_getR (M := M_X12_row) 93 dX12_row_93 f_X12_23 o_108 rfl (g_108_7 G) ?_
        refine z_iload_n (M := M_X12_row) 96 dX12_row_96 rfl ?_
        refine z_iconst (M := M_X12_row) 97 dX12_row_97 ?_
        refine z_iaddN (M := M_X12_row) 98 dX12_row_98 (by omega) (by omega) ?_
        refine z_ialdG (M := M_X12_row) 99 dX12_row_99 o_113 (by omega) (by omega) (g_113 G (by omega)) (fun x13 ex13 ax13 bx13 => ?_)
        have b75_ : h0 113 l3.toNat = x10 := (R 113 _ rfl).symm.trans ex10
        have b83_ : h0 113 (l3 + 1).toNat = x11 := (R 113 _ rfl).symm.trans ex11
        have b91_ : h0 113 (l3 + 2).toNat = x12 := (R 113 _ rfl).symm.trans ex12
        have b99_ : h0 113 (l3 + 3).toNat = x13 := (R 113 _ rfl).symm.trans ex13
        refine z_sI (M := M_X12_row) 100 dX12_row_100 t_X12_canEnter l_X12_184 (m_rr_of rfl) (rest := []) (c_X12_canEnter h x10 x11 x12 x13 G) rfl rfl (Nat.le_of_ble_eq_true rfl) ⟨rfl, rfl⟩ (fun x14 h4 qx14 => ?_)
        obtain ⟨rfl, ⟨rfl, cx14⟩ | ⟨rfl, cx14⟩⟩ := qx14
        · refine z_if_eq_F (M := M_X12_row) 103 dX12_row_103 110 rfl (by omega) ?_
          refine z_iconst (M := M_X12_row) 106 dX12_row_106 ?_
          refine z_goto (M := M_X12_row) 107 dX12_row_107 111 rfl ?_
          refine z_istore (M := M_X12_row) 111 dX12_row_111 (ls' := [some (mR 108), some (mI l1), some (mI l2), some (mI l3), some (mI 1)]) (by decide) rfl ?_
          refine z_iload (M := M_X12_row) 113 dX12_row_113 rfl ?_
          refine z_if_eq_F (M := M_X12_row) 115 dX12_row_115 158 rfl (by omega) ?_
          refine z_aload_n (M := M_X12_row) 118 dX12_row_118 rfl ?_
          refine z_aload_n (M := M_X12_row) 119 dX12_row_119 rfl ?_
          refine z_getR (M := M_X12_row) 120 dX12_row_120 f_X12_23 o_108 rfl (g_108_7 G) ?_
          refine z_iload_n (M := M_X12_row) 123 dX12_row_123 rfl ?_
          refine z_ialdE (M := M_X12_row) 124 dX12_row_124 o_113 (by omega) (by omega) ex10 ?_
          refine z_aload_n (M := M_X12_row) 125 dX12_row_125 rfl ?_
          refine z_getR (M := M_X12_row) 126 dX12_row_126 f_X12_23 o_108 rfl (g_108_7 G) ?_
          refine z_iload_n (M := M_X12_row) 129 dX12_row_129 rfl ?_
          refine z_iconst (M := M_X12_row) 130 dX12_row_130 ?_
          refine z_iaddN (M := M_X12_row) 131 dX12_row_131 (by omega) (by omega) ?_
          refine z_ialdE (M := M_X12_row) 132 dX12_row_132 o_113 (by omega) (by omega) ex11 ?_
          refine z_aload_n (M := M_X12_row) 133 dX12_row_133 rfl ?_
          refine z_getR (M := M_X12_row) 134 dX12_row_134 f_X12_23 o_108 rfl (g_108_7 G) ?_
          refine z_iload_n (M := M_X12_row) 137 dX12_row_137 rfl ?_
          refine z_iconst (M := M_X12_row) 138 dX12_row_138 ?_
          refine z_iaddN (M := M_X12_row) 139 dX12_row_139 (by omega) (by omega) ?_
          refine z_ialdE (M := M_X12_row) 140 dX12_row_140 o_113 (by omega) (by omega) ex12 ?_
          refine z_aload_n (M := M_X12_row) 141 dX12_row_141 rfl ?_
          refine z_getR (M := M_X12_row) 142 dX12_row_142 f_X12_23 o_108 rfl (g_108_7 G) ?_
          refine z_iload_n (M := M_X12_row) 145 dX12_row_145 rfl ?_
          refine z_iconst (M := M_X12_row) 146 dX12_row_146 ?_
          refine z_iaddN (M := M_X12_row) 147 dX12_row_147 (by omega) (by omega) ?_
          refine z_ialdE (M := M_X12_row) 148 dX12_row_148 o_113 (by omega) (by omega) ex13 ?_
          refine z_vV (M := M_X12_row) 149 dX12_row_149 t_X12_addEntry l_X12_188 (m_rr_of rfl) (rest := []) (c_X12_addEntry2 h x10 x11 x12 x13 G ⟨by omega, by omega⟩ ⟨by omega, by omega⟩ ⟨by omega, by omega⟩ ⟨by omega, by omega⟩ (le_e ex6 (by omega))) o_108 rfl rfl rfl (Nat.le_of_ble_eq_true rfl) ⟨rfl, rfl⟩ (fun h5 qx15 => ?_)
          obtain ⟨G5, S5, fx15_0, fx15_1, fx15_2, npx15⟩ := qx15
          have R5 := R.call S5 (by decide +kernel)
          refine z_iincN (M := M_X12_row) 152 dX12_row_152 (ls' := [some (mR 108), some (mI l1), some (mI (l2 + 1)), some (mI l3), some (mI 1)]) (by decide) rfl (by (unfold m_32; decide)) (by omega) (by omega) rfl ?_
          refine z_goto (M := M_X12_row) 155 dX12_row_155 168 rfl ?_
          refine z_iincN (M := M_X12_row) 168 dX12_row_168 (ls' := [some (mR 108), some (mI l1), some (mI (l2 + 1)), some (mI (l3 + 4)), some (mI 1)]) (by decide) rfl (by (unfold m_32; decide)) (by omega) (by omega) rfl ?_
          refine z_goto (M := M_X12_row) 171 dX12_row_171 35 rfl ?_
          exact z_mask [true, true, true, true, false] rfl (ih l1 (l2 + 1) (l3 + 4) y_108_8 h5 G5 R5 (by omega) (by omega) (by omega) (by omega) (by omega) (by omega) (by omega) (by omega) ((S5 108 8 rfl).trans t_108_8) ⟨i_ + 1, (by omega), (by rw [rw_y ki_ ⟨⟨by omega, by rw [← ri_]; have z_ := (show h 110 0 = x6 from ex6); omega⟩, (by unfold canE; rw [b75_, b83_, b91_, b99_]; omega)⟩]; show _ = rE _ _ _ _ _; rw [b75_, b83_, b91_, b99_, ← ri_]; exact fx15_2), (by rw [rw_y ki_ ⟨⟨by omega, by rw [← ri_]; have z_ := (show h 110 0 = x6 from ex6); omega⟩, (by unfold canE; rw [b75_, b83_, b91_, b99_]; omega)⟩]; exact (S5 108 6 rfl).trans bi_), (by rw [rw_y ki_ ⟨⟨by omega, by rw [← ri_]; have z_ := (show h 110 0 = x6 from ex6); omega⟩, (by unfold canE; rw [b75_, b83_, b91_, b99_]; omega)⟩]; show _ = _ + 1; rw [← ci_])⟩ (by omega) (by omega) (NPi.tr i3 npx15) (by omega))
        · refine z_if_eq_T (M := M_X12_row) 103 dX12_row_103 110 rfl (by omega) ?_
          refine z_iconst (M := M_X12_row) 110 dX12_row_110 ?_
          refine z_istore (M := M_X12_row) 111 dX12_row_111 (ls' := [some (mR 108), some (mI l1), some (mI l2), some (mI l3), some (mI 0)]) (by decide) rfl ?_
          refine z_iload (M := M_X12_row) 113 dX12_row_113 rfl ?_
          refine z_if_eq_T (M := M_X12_row) 115 dX12_row_115 158 rfl (by omega) ?_
          refine z_aload_n (M := M_X12_row) 158 dX12_row_158 rfl ?_
          refine z_dup (M := M_X12_row) 159 dX12_row_159 rfl ?_
          refine z_getIV (M := M_X12_row) 160 dX12_row_160 f_X12_204 o_108 (by decide) (fun x16 ex16 => ?_)
          refine z_ok (fun ox16 _ _ => ?_)
          have ox16 := ox16.1; unfold m_ok m_32 at ox16
          refine z_iconst (M := M_X12_row) 163 dX12_row_163 ?_
          have rb_ := rwL_b (b := h0 113) (n := h0 108 8) (r := h0 110) i_
          have x5_ : x16 = (rwL (h0 113) (h0 108 8) (h0 110) i_).2.1 := ex16.symm.trans bi_
          refine z_iaddN (M := M_X12_row) 164 dX12_row_164 (by omega) (by omega) ?_
          refine z_topBI (lo := 1) (hi := 102) ⟨by omega, by omega⟩ (fun x17 ex17 ax17 bx17 => ?_)
          refine z_putIH (M := M_X12_row) 165 dX12_row_165 p_X12_204 o_108 rfl (u_108_6 G) (R.up rfl) (fun h6 E6 G6 R6 => ?_)
          refine z_iincN (M := M_X12_row) 168 dX12_row_168 (ls' := [some (mR 108), some (mI l1), some (mI l2), some (mI (l3 + 4)), some (mI 0)]) (by decide) rfl (by (unfold m_32; decide)) (by omega) (by omega) rfl ?_
          refine z_goto (M := M_X12_row) 171 dX12_row_171 35 rfl ?_
          exact z_mask [true, true, true, true, false] rfl (ih l1 l2 (l3 + 4) y_108_8 h6 G6 R6 (by omega) (by omega) (by omega) (by omega) (by omega) (by omega) (by omega) (by omega) ((upN E6 (fun q => absurd q.2 (by decide))).trans t_108_8) ⟨i_ + 1, (by omega), (by rw [rw_n ki_ (fun z => by have z2 := z.2; unfold canE at z2; rw [b75_, b83_, b91_, b99_] at z2; omega)]; exact (tl_r E6 (by decide)).trans ri_), (by rw [rw_n ki_ (fun z => by have z2 := z.2; unfold canE at z2; rw [b75_, b83_, b91_, b99_] at z2; omega)]; show _ = _ + 1; rw [upE E6, ← bi_]; have w_ := ex16; omega), (by rw [rw_n ki_ (fun z => by have z2 := z.2; unfold canE at z2; rw [b75_, b83_, b91_, b99_] at z2; omega)]; exact ci_)⟩ (by omega) (by omega) (NPi.put i3 E6 (by decide)) (by omega))
theorem a_X12_row3 (h0 : m_H) (G0 : GI h0) : ∀ n, q_X12_row3 h0 n := by
  intro n
  induction n with
  | zero => unfold q_X12_row3; intros; omega
  | succ n ih => exact s_X12_row3_35 h0 G0 n ih
set_option maxHeartbeats 4000000 in
set_option maxRecDepth 100000 in
theorem c_X12_row3 (h0 : m_H) (G0 : GI h0) : m_CI M_X12_row [mR 108] h0 (P_X12_row3 h0) := by
  refine m_CI_of ⟨by decide, rfl, by simp [m_arg, m_isL, M_X12_row], ⟨rfl, rfl⟩, rfl, rfl⟩ (ls := [some (mR 108), none, none, none, none]) rfl ?_
  have ih := a_X12_row3 h0 G0 814
  obtain ⟨x1, ex1⟩ : ∃ y : Int, h0 108 8 = y := ⟨_, rfl⟩
  have bx1 : 0 ≤ x1 ∧ x1 ≤ 400 := ex1 ▸ g_108_8 G0
  refine z_aload_n (M := M_X12_row) 0 dX12_row_0 rfl ?_
  refine z_iconst (M := M_X12_row) 1 dX12_row_1 ?_
  refine z_putIH (M := M_X12_row) 2 dX12_row_2 p_X12_133 o_108 rfl (u_108_0 G0) ((FR.rf (cs := [109, 110]) (ss := [(108, 0), (108, 1), (108, 6), (108, 8)]) (h := h0)).up rfl) (fun h1 E1 G1 R1 => ?_)
  refine z_aload_n (M := M_X12_row) 5 dX12_row_5 rfl ?_
  refine z_getIE (M := M_X12_row) 6 dX12_row_6 f_X12_201 o_108 (by decide) ((upN E1 (fun q => absurd q.2 (by decide))).trans ex1) ?_
  refine z_istore_n (M := M_X12_row) 9 dX12_row_9 (ls' := [some (mR 108), some (mI x1), none, none, none]) (by decide) rfl ?_
  refine z_aload_n (M := M_X12_row) 10 dX12_row_10 rfl ?_
  refine z_iconst (M := M_X12_row) 11 dX12_row_11 ?_
  refine z_putIH (M := M_X12_row) 12 dX12_row_12 p_X12_201 o_108 rfl (u_108_8 G1 (by omega) (by omega)) (R1.up rfl) (fun h2 E2 G2 R2 => ?_)
  refine z_iload_n (M := M_X12_row) 15 dX12_row_15 rfl ?_
  refine z_if_ne (M := M_X12_row) 16 dX12_row_16 26 rfl (fun c2 => ?_) (fun c2 => ?_)
  · refine z_aload_n (M := M_X12_row) 26 dX12_row_26 rfl ?_
    refine z_iconst (M := M_X12_row) 27 dX12_row_27 ?_
    refine z_putIH (M := M_X12_row) 28 dX12_row_28 p_X12_204 o_108 rfl (u_108_6 G2) (R2.up rfl) (fun h3 E3 G3 R3 => ?_)
    refine z_iconst (M := M_X12_row) 31 dX12_row_31 ?_
    refine z_istore_n (M := M_X12_row) 32 dX12_row_32 (ls' := [some (mR 108), some (mI x1), some (mI 0), none, none]) (by decide) rfl ?_
    refine z_iconst (M := M_X12_row) 33 dX12_row_33 ?_
    refine z_istore_n (M := M_X12_row) 34 dX12_row_34 (ls' := [some (mR 108), some (mI x1), some (mI 0), some (mI 0), none]) (by decide) rfl ?_
    exact z_mask [true, true, true, true, false] rfl (ih x1 0 0 0 h3 G3 R3 (by omega) (by omega) (by omega) (by omega) (by omega) (by omega) (by omega) (by omega) ((upN E3 (fun q => absurd q.2 (by decide))).trans (upE E2)) ⟨0, rfl, ((tl_r E3 (by decide)).trans ((tl_r E2 (by decide)).trans (tl_r E1 (by decide)))), (upE E3), rfl⟩ (by have y_ := ex1; omega) (by omega) (NPi.put (NPi.put (NPi.put NPi.rf E1 (by decide)) E2 (by decide)) E3 (by decide)) (by omega))
  · refine z_aload_n (M := M_X12_row) 19 dX12_row_19 rfl ?_
    refine z_bipush (M := M_X12_row) 20 dX12_row_20 ?_
    refine z_vI (M := M_X12_row) 22 dX12_row_22 t_X12_answer l_X12_147 (m_rr_of rfl) (rest := []) (c_X12_answer h2 (-6) G2 ⟨by omega, by omega⟩) o_108 rfl rfl rfl (Nat.le_of_ble_eq_true rfl) ⟨rfl, rfl⟩ (fun x3 h4 qx3 => ?_)
    obtain ⟨G4, S4, rfl⟩ := qx3
    have R4 := R2.call S4 (by decide +kernel)
    have z8 : h4 108 8 = 0 := ((S4 108 8 rfl).trans (upE E2))
    exact z_retI (M := M_X12_row) 25 dX12_row_25 rfl ⟨G4, R4, by omega, Or.inl ⟨by have y_ := ex1; omega, rfl, (S4 108 6 rfl).trans ((upN E2 (by decide)).trans (upN E1 (by decide))), (rowz S4 (fun _ => rfl)).trans ((tl_r E2 (by decide)).trans (tl_r E1 (by decide)))⟩, (NPi.call (NPi.put (NPi.put NPi.rf E1 (by decide)) E2 (by decide)) S4 (fun _ => rfl) (fun _ => rfl) (fun _ => rfl))⟩
/-! the tape's bytes -/
def byt (v k : Int) : Int := m_and (m_shr v k) 255
def tp4 (b : Nat → Int) (n v : Int) : Nat → Int := fun j => if j = n.toNat then byt v 24 else if j = (n + 1).toNat then byt v 16 else if j = (n + 2).toNat then byt v 8 else if j = (n + 3).toNat then byt v 0 else b j
theorem tp4_c {b b' : Nat → Int} {n v : Int} (h0 : 0 ≤ n) (e : ∀ j : Nat, (j : Int) < n → b' j = b j) : ∀ j : Nat, (j : Int) < n + 4 → tp4 b' n v j = tp4 b n v j := by
  intro j hj
  unfold tp4
  by_cases c0 : j = n.toNat
  · rw [if_pos c0, if_pos c0]
  by_cases c1 : j = (n + 1).toNat
  · rw [if_neg c0, if_neg c0, if_pos c1, if_pos c1]
  by_cases c2 : j = (n + 2).toNat
  · rw [if_neg c0, if_neg c0, if_neg c1, if_neg c1, if_pos c2, if_pos c2]
  by_cases c3 : j = (n + 3).toNat
  · rw [if_neg c0, if_neg c0, if_neg c1, if_neg c1, if_neg c2, if_neg c2, if_pos c3, if_pos c3]
  · rw [if_neg c0, if_neg c0, if_neg c1, if_neg c1, if_neg c2, if_neg c2, if_neg c3, if_neg c3]; exact e j (by omega)
def tp20 (b : Nat → Int) (n v1 v2 v3 v4 v5 : Int) : Nat → Int := tp4 (tp4 (tp4 (tp4 (tp4 b n v1) (n + 4) v2) (n + 8) v3) (n + 12) v4) (n + 16) v5
theorem tp20_c {b b' : Nat → Int} {n v1 v2 v3 v4 v5 : Int} (h0 : 0 ≤ n) (e : ∀ j : Nat, (j : Int) < n → b' j = b j) : ∀ j : Nat, (j : Int) < n + 20 → tp20 b' n v1 v2 v3 v4 v5 j = tp20 b n v1 v2 v3 v4 v5 j := by
  have a1 := tp4_c (v := v1) h0 e
  have a2 := tp4_c (v := v2) (n := n + 4) (by omega) a1
  have a3 := tp4_c (v := v3) (n := n + 8) (by omega) (fun j hj => a2 j (by omega))
  have a4 := tp4_c (v := v4) (n := n + 12) (by omega) (fun j hj => a3 j (by omega))
  have a5 := tp4_c (v := v5) (n := n + 16) (by omega) (fun j hj => a4 j (by omega))
  exact fun j hj => a5 j (by omega)
theorem sh24 : ∀ v : BitVec 32, v >>> 24 = (v.sshiftRight 24) &&& 255#32 := by
  intro v
  apply BitVec.eq_of_getLsbD_eq
  intro i hi
  rw [BitVec.getLsbD_ushiftRight, BitVec.getLsbD_and, BitVec.getLsbD_sshiftRight]
  by_cases g : i < 8
  · have e : (255#32).getLsbD i = true := by
      have : ∀ i : Fin 8, (255#32).getLsbD i.1 = true := by decide
      exact this ⟨i, g⟩
    rw [e, Bool.and_true]
    have h1 : ¬ 32 ≤ i := by omega
    have h2 : 24 + i < 32 := by omega
    simp [h1, h2]
  · have e : (255#32).getLsbD i = false := by
      have : ∀ i : Fin 32, 8 ≤ i.1 → (255#32).getLsbD i.1 = false := by decide
      exact this ⟨i, hi⟩ (show 8 ≤ i by omega)
    rw [e, Bool.and_false]
    exact BitVec.getLsbD_of_ge _ _ (by omega)
theorem shk {k : Nat} (hk : k ≤ 24) : ∀ v : BitVec 32, (v >>> k) &&& 255#32 = (v.sshiftRight k) &&& 255#32 := by
  intro v
  apply BitVec.eq_of_getLsbD_eq
  intro i hi
  rw [BitVec.getLsbD_and, BitVec.getLsbD_and, BitVec.getLsbD_ushiftRight, BitVec.getLsbD_sshiftRight]
  by_cases g : i < 8
  · have h1 : ¬ 32 ≤ i := by omega
    have h2 : k + i < 32 := by omega
    simp [h1, h2]
  · have e : (255#32).getLsbD i = false := by
      have : ∀ i : Fin 32, 8 ≤ i.1 → (255#32).getLsbD i.1 = false := by decide
      exact this ⟨i, hi⟩ (show 8 ≤ i by omega)
    rw [e, Bool.and_false, Bool.and_false]
theorem us_b {v : Int} {k : Nat} (hk : k < 32) : (((Int32.ofInt v).toUInt32 >>> ((Int32.ofInt (k : Int)).toUInt32 &&& Int32.toUInt32 31)).toInt32).toBitVec = (Int32.ofInt v).toBitVec >>> k := by
  show ((Int32.ofInt v).toUInt32 >>> ((Int32.ofInt (k : Int)).toUInt32 &&& Int32.toUInt32 31)).toBitVec = _
  rw [UInt32.toBitVec_shiftRight, us_am ⟨k, hk⟩]
  show (Int32.ofInt v).toBitVec >>> (BitVec.ofNat 32 k % 32#32) = _
  rw [us_mod ⟨k, hk⟩, BitVec.ushiftRight_eq', BitVec.toNat_ofNat, Nat.mod_eq_of_lt (show k < 2 ^ 32 by omega)]
theorem sr_b {v : Int} {k : Nat} (hk : k < 32) : (Int32.ofInt v >>> (Int32.ofInt (k : Int) &&& 31)).toBitVec = (Int32.ofInt v).toBitVec.sshiftRight k := by
  rw [Int32.toBitVec_shiftRight, sh_am ⟨k, hk⟩, BitVec.sshiftRight_eq', BitVec.toNat_ofNat, Nat.mod_eq_of_lt (show k < 2 ^ 32 by omega)]
theorem byt_24 {v : Int} : m_ushr v 24 = byt v 24 := by
  unfold m_ushr byt m_and m_shr
  rw [Int32.ofInt_toInt]
  show (BitVec.toInt _) = BitVec.toInt _
  congr 1
  show (((Int32.ofInt v).toUInt32 >>> ((Int32.ofInt ((24 : Nat) : Int)).toUInt32 &&& Int32.toUInt32 31)).toInt32).toBitVec = (Int32.ofInt v >>> (Int32.ofInt ((24 : Nat) : Int) &&& 31) &&& Int32.ofInt 255).toBitVec
  rw [us_b (by decide), Int32.toBitVec_and, sr_b (by decide)]
  exact sh24 _
theorem byt_k {v : Int} {k : Nat} (hk : k ≤ 24) : m_and (m_ushr v (k : Int)) 255 = byt v (k : Int) := by
  unfold m_ushr byt m_and m_shr
  rw [Int32.ofInt_toInt, Int32.ofInt_toInt]
  show (BitVec.toInt _) = BitVec.toInt _
  congr 1
  rw [Int32.toBitVec_and, Int32.toBitVec_and, us_b (by omega), sr_b (by omega)]
  exact shk hk _
theorem byt_0 {v : Int} (h1 : -2147483648 ≤ v) (h2 : v ≤ 2147483647) : m_and v 255 = byt v 0 := by
  unfold byt m_shr m_and
  rw [Int32.ofInt_toInt]
  show (BitVec.toInt _) = BitVec.toInt _
  congr 1
  show (Int32.ofInt v &&& Int32.ofInt 255).toBitVec = (Int32.ofInt v >>> (Int32.ofInt ((0 : Nat) : Int) &&& 31) &&& Int32.ofInt 255).toBitVec
  rw [Int32.toBitVec_and, Int32.toBitVec_and, sr_b (by decide)]
  congr 1
  simp
theorem tp4_up {h0 h1 h2 h3 h4 h5 : m_H} {L : Nat} {n v v1 v2 v3 v4 w : Int} (h0n : 0 ≤ n) (hL : ¬ L = 35) (E1 : h1 = m_up h0 L n.toNat v1) (E2 : h2 = m_up h1 L (n + 1).toNat v2) (E3 : h3 = m_up h2 L (n + 2).toNat v3) (E4 : h4 = m_up h3 L (n + 3).toNat v4) (E5 : h5 = m_up h4 35 1 w) (b1 : v1 = byt v 24) (b2 : v2 = byt v 16) (b3 : v3 = byt v 8) (b4 : v4 = byt v 0) : h5 L = tp4 (h0 L) n v := by
  funext j
  rw [upN E5 (fun q => hL q.1)]
  unfold tp4
  by_cases c0 : j = n.toNat
  · rw [if_pos c0, upN E4 (fun q => by omega), upN E3 (fun q => by omega), upN E2 (fun q => by omega), c0, upE E1, b1]
  rw [if_neg c0]
  by_cases c1 : j = (n + 1).toNat
  · rw [if_pos c1, upN E4 (fun q => by omega), upN E3 (fun q => by omega), c1, upE E2, b2]
  rw [if_neg c1]
  by_cases c2 : j = (n + 2).toNat
  · rw [if_pos c2, upN E4 (fun q => by omega), c2, upE E3, b3]
  rw [if_neg c2]
  by_cases c3 : j = (n + 3).toNat
  · rw [if_pos c3, c3, upE E4, b4]
  rw [if_neg c3, upN E4 (fun q => c3 q.2), upN E3 (fun q => c2 q.2), upN E2 (fun q => c1 q.2), upN E1 (fun q => c0 q.2)]
def tq (b : Nat → Int) (n v y : Int) : Nat → Int := fun j => if n ≤ (j : Int) ∧ (j : Int) < y then byt v (24 - 8 * ((j : Int) - n)) else b j
theorem tq_0 {b : Nat → Int} {n v : Int} : b = tq b n v n := by
  funext j; unfold tq; rw [if_neg (by omega)]
theorem tq_s {h h1 h2 : m_H} {b : Nat → Int} {n v y l x : Int} {w : Int} (hn : 0 ≤ n) (hy : n ≤ y) (k : h 113 = tq b n v y) (e : l = 24 - 8 * (y - n)) (ex : byt v l = x) (E1 : h1 = m_up h 113 y.toNat x) (E2 : h2 = m_up h1 108 8 w) : h2 113 = tq b n v (y + 1) := by
  funext j
  rw [upN E2 (fun q => absurd q.1 (by decide))]
  by_cases c : j = y.toNat
  · rw [c, upE E1, ← ex, e]
    unfold tq
    rw [if_pos (by omega), Int.toNat_of_nonneg (by omega)]
  · rw [upN E1 (fun q => c q.2), k]
    unfold tq
    by_cases d : n ≤ (j : Int) ∧ (j : Int) < y
    · rw [if_pos d, if_pos (by omega)]
    · rw [if_neg d, if_neg (by omega)]
theorem tq_4 {b : Nat → Int} {n v y : Int} (hn : 0 ≤ n) (e : y = n + 4) : tq b n v y = tp4 b n v := by
  subst e
  funext j
  unfold tq tp4
  by_cases c0 : j = n.toNat
  · rw [if_pos (by omega), if_pos c0, show 24 - 8 * ((j : Int) - n) = 24 by omega]
  by_cases c1 : j = (n + 1).toNat
  · rw [if_pos (by omega), if_neg c0, if_pos c1, show 24 - 8 * ((j : Int) - n) = 16 by omega]
  by_cases c2 : j = (n + 2).toNat
  · rw [if_pos (by omega), if_neg c0, if_neg c1, if_pos c2, show 24 - 8 * ((j : Int) - n) = 8 by omega]
  by_cases c3 : j = (n + 3).toNat
  · rw [if_pos (by omega), if_neg c0, if_neg c1, if_neg c2, if_pos c3, show 24 - 8 * ((j : Int) - n) = 0 by omega]
  · rw [if_neg (by omega), if_neg c0, if_neg c1, if_neg c2, if_neg c3]
theorem tp20_ch {b0 b1 b2 b3 b4 b5 : Nat → Int} {n0 n1 n2 n3 n4 v1 v2 v3 v4 v5 : Int} (k1 : b1 = tp4 b0 n0 v1) (e1 : n1 = n0 + 4) (k2 : b2 = tp4 b1 n1 v2) (e2 : n2 = n1 + 4) (k3 : b3 = tp4 b2 n2 v3) (e3 : n3 = n2 + 4) (k4 : b4 = tp4 b3 n3 v4) (e4 : n4 = n3 + 4) (k5 : b5 = tp4 b4 n4 v5) : b5 = tp20 b0 n0 v1 v2 v3 v4 v5 := by
  have f2 : n2 = n0 + 8 := by omega
  have f3 : n3 = n0 + 12 := by omega
  have f4 : n4 = n0 + 16 := by omega
  rw [k5, k4, k3, k2, k1, f4, f3, f2, e1]; rfl
abbrev P_X8_append3 (h0 : m_H) (a1 : Int) : m_H → Prop := fun h' => GI h' ∧ FR [36] [(35, 1)] h0 h' ∧ h' 35 1 = h0 35 1 + 4 ∧ h' 36 = tp4 (h0 36) (h0 35 1) a1
set_option maxHeartbeats 4000000 in
set_option maxRecDepth 100000 in
theorem c_X8_append3 (h0 : m_H) (a1 : Int) (G0 : GI h0) (ht : h0 35 1 ≤ 396) : m_CV M_X8_append [mR 35, mI a1] h0 (P_X8_append3 h0 a1) := by
  refine m_CV_of ⟨by decide, rfl, by simp [m_arg, m_isL, M_X8_append], ⟨rfl, rfl⟩, rfl, rfl⟩ (ls := [some (mR 35), some (mI a1)]) rfl ?_
  refine z_ok (fun _ _ ok => ?_)
  have oa1 : m_32 a1 := ok 1 _ rfl
  unfold m_32 at oa1
  obtain ⟨x1, ex1⟩ : ∃ y : Int, h0 35 1 = y := ⟨_, rfl⟩
  have bx1 : 0 ≤ x1 ∧ x1 ≤ 400 := ex1 ▸ g_35_1 G0
  refine z_aload_n (M := M_X8_append) 0 dX8_append_0 rfl ?_
  refine z_getIE (M := M_X8_append) 1 dX8_append_1 f_X8_15 o_35 (by decide) ex1 ?_
  refine z_iconst (M := M_X8_append) 4 dX8_append_4 ?_
  refine z_iaddN (M := M_X8_append) 5 dX8_append_5 (by omega) (by omega) ?_
  refine z_sipush (M := M_X8_append) 6 dX8_append_6 ?_
  refine z_icmp_le (M := M_X8_append) 9 dX8_append_9 13 rfl (fun c2 => ?_) (fun c2 => ?_)
  · refine z_aload_n (M := M_X8_append) 13 dX8_append_13 rfl ?_
    refine z_getR (M := M_X8_append) 14 dX8_append_14 f_X8_9 o_35 rfl (g_35_0 G0) ?_
    refine z_aload_n (M := M_X8_append) 17 dX8_append_17 rfl ?_
    refine z_getIE (M := M_X8_append) 18 dX8_append_18 f_X8_15 o_35 (by decide) ex1 ?_
    refine z_iload_n (M := M_X8_append) 21 dX8_append_21 rfl ?_
    refine z_bipush (M := M_X8_append) 22 dX8_append_22 ?_
    refine z_iushr (M := M_X8_append) 24 dX8_append_24 ?_
    refine z_topBI (m_ushr_24 _) (fun x3 ex3 ax3 bx3 => ?_)
    refine z_iastH (M := M_X8_append) 25 dX8_append_25 o_36 (by omega) (by omega) (u_36 G0 (by omega) (by omega)) ((FR.rf (cs := [36]) (ss := [(35, 1)]) (h := h0)).up rfl) (fun h1 E1 G1 R1 => ?_)
    refine z_aload_n (M := M_X8_append) 26 dX8_append_26 rfl ?_
    refine z_getR (M := M_X8_append) 27 dX8_append_27 f_X8_9 o_35 rfl (g_35_0 G1) ?_
    refine z_aload_n (M := M_X8_append) 30 dX8_append_30 rfl ?_
    refine z_getIE (M := M_X8_append) 31 dX8_append_31 f_X8_15 o_35 (by decide) ((upN E1 (fun q => absurd q.1 (by decide))).trans ex1) ?_
    refine z_iconst (M := M_X8_append) 34 dX8_append_34 ?_
    refine z_iaddN (M := M_X8_append) 35 dX8_append_35 (by omega) (by omega) ?_
    refine z_iload_n (M := M_X8_append) 36 dX8_append_36 rfl ?_
    refine z_bipush (M := M_X8_append) 37 dX8_append_37 ?_
    refine z_iushr (M := M_X8_append) 39 dX8_append_39 ?_
    refine z_topm (fun x4 ex4 ox4 => ?_)
    unfold m_32 at ox4
    refine z_sipush (M := M_X8_append) 40 dX8_append_40 ?_
    refine z_iand (M := M_X8_append) 43 dX8_append_43 ?_
    refine z_topBI (m_and_255 _) (fun x5 ex5 ax5 bx5 => ?_)
    refine z_iastH (M := M_X8_append) 44 dX8_append_44 o_36 (by omega) (by omega) (u_36 G1 (by omega) (by omega)) (R1.up rfl) (fun h2 E2 G2 R2 => ?_)
    refine z_aload_n (M := M_X8_append) 45 dX8_append_45 rfl ?_
    refine z_getR (M := M_X8_append) 46 dX8_append_46 f_X8_9 o_35 rfl (g_35_0 G2) ?_
    refine z_aload_n (M := M_X8_append) 49 dX8_append_49 rfl ?_
    refine z_getIE (M := M_X8_append) 50 dX8_append_50 f_X8_15 o_35 (by decide) ((upN E2 (fun q => absurd q.1 (by decide))).trans ((upN E1 (fun q => absurd q.1 (by decide))).trans ex1)) ?_
    refine z_iconst (M := M_X8_append) 53 dX8_append_53 ?_
    refine z_iaddN (M := M_X8_append) 54 dX8_append_54 (by omega) (by omega) ?_
    refine z_iload_n (M := M_X8_append) 55 dX8_append_55 rfl ?_
    refine z_bipush (M := M_X8_append) 56 dX8_append_56 ?_
    refine z_iushr (M := M_X8_append) 58 dX8_append_58 ?_
    refine z_topm (fun x6 ex6 ox6 => ?_)
    unfold m_32 at ox6
    refine z_sipush (M := M_X8_append) 59 dX8_append_59 ?_
    refine z_iand (M := M_X8_append) 62 dX8_append_62 ?_
    refine z_topBI (m_and_255 _) (fun x7 ex7 ax7 bx7 => ?_)
    refine z_iastH (M := M_X8_append) 63 dX8_append_63 o_36 (by omega) (by omega) (u_36 G2 (by omega) (by omega)) (R2.up rfl) (fun h3 E3 G3 R3 => ?_)
    refine z_aload_n (M := M_X8_append) 64 dX8_append_64 rfl ?_
    refine z_getR (M := M_X8_append) 65 dX8_append_65 f_X8_9 o_35 rfl (g_35_0 G3) ?_
    refine z_aload_n (M := M_X8_append) 68 dX8_append_68 rfl ?_
    refine z_getIE (M := M_X8_append) 69 dX8_append_69 f_X8_15 o_35 (by decide) ((upN E3 (fun q => absurd q.1 (by decide))).trans ((upN E2 (fun q => absurd q.1 (by decide))).trans ((upN E1 (fun q => absurd q.1 (by decide))).trans ex1))) ?_
    refine z_iconst (M := M_X8_append) 72 dX8_append_72 ?_
    refine z_iaddN (M := M_X8_append) 73 dX8_append_73 (by omega) (by omega) ?_
    refine z_iload_n (M := M_X8_append) 74 dX8_append_74 rfl ?_
    refine z_sipush (M := M_X8_append) 75 dX8_append_75 ?_
    refine z_iand (M := M_X8_append) 78 dX8_append_78 ?_
    refine z_topBI (m_and_255 _) (fun x8 ex8 ax8 bx8 => ?_)
    refine z_iastH (M := M_X8_append) 79 dX8_append_79 o_36 (by omega) (by omega) (u_36 G3 (by omega) (by omega)) (R3.up rfl) (fun h4 E4 G4 R4 => ?_)
    refine z_aload_n (M := M_X8_append) 80 dX8_append_80 rfl ?_
    refine z_dup (M := M_X8_append) 81 dX8_append_81 rfl ?_
    refine z_getIE (M := M_X8_append) 82 dX8_append_82 f_X8_15 o_35 (by decide) ((upN E4 (fun q => absurd q.1 (by decide))).trans ((upN E3 (fun q => absurd q.1 (by decide))).trans ((upN E2 (fun q => absurd q.1 (by decide))).trans ((upN E1 (fun q => absurd q.1 (by decide))).trans ex1)))) ?_
    refine z_iconst (M := M_X8_append) 85 dX8_append_85 ?_
    refine z_iaddN (M := M_X8_append) 86 dX8_append_86 (by omega) (by omega) ?_
    refine z_putIH (M := M_X8_append) 87 dX8_append_87 p_X8_15 o_35 rfl (u_35_1 G4 (by omega) (by omega)) (R4.up rfl) (fun h5 E5 G5 R5 => ?_)
    have z8 : h5 35 1 = (x1 + 4) := (upE E5)
    exact z_retV (M := M_X8_append) 90 dX8_append_90 rfl ⟨G5, R5, by omega, by rw [ex1]; exact tp4_up (by omega) (by decide) E1 E2 E3 E4 E5 (ex3.symm.trans byt_24) (by rw [← ex5, ← ex4]; exact byt_k (k := 16) (by decide)) (by rw [← ex7, ← ex6]; exact byt_k (k := 8) (by decide)) (ex8.symm.trans (byt_0 (by omega) (by omega)))⟩
  · have z8 : h0 35 1 = x1 := ex1
    exact z_retV (M := M_X8_append) 12 dX8_append_12 rfl ⟨G0, (FR.rf (cs := [36]) (ss := [(35, 1)]) (h := h0)), by omega, by exfalso; omega⟩
abbrev P_X11_feed3 (h0 : m_H) (a1 a2 a3 a4 a5 : Int) : Int → m_H → Prop := fun x h' => GI h' ∧ FR [36] [(35, 1)] h0 h' ∧ ((380 < h0 35 1 ∧ x = -1 ∧ h' 35 1 = h0 35 1) ∨ (h0 35 1 ≤ 380 ∧ x = h0 35 1 + 20 ∧ h' 35 1 = h0 35 1 + 20)) ∧ h' 36 = (if h0 35 1 ≤ 380 then tp20 (h0 36) (h0 35 1) a1 a2 a3 a4 a5 else h0 36)
set_option maxHeartbeats 4000000 in
set_option maxRecDepth 100000 in
theorem c_X11_feed3 (h0 : m_H) (a1 a2 a3 a4 a5 : Int) (G0 : GI h0) : m_CI M_X11_feed [mR 0, mI a1, mI a2, mI a3, mI a4, mI a5] h0 (P_X11_feed3 h0 a1 a2 a3 a4 a5) := by
  refine m_CI_of ⟨by decide, rfl, by simp [m_arg, m_isL, M_X11_feed], ⟨rfl, rfl⟩, rfl, rfl⟩ (ls := [some (mR 0), some (mI a1), some (mI a2), some (mI a3), some (mI a4), some (mI a5)]) rfl ?_
  refine z_ok (fun _ _ ok => ?_)
  have oa1 : m_32 a1 := ok 1 _ rfl
  unfold m_32 at oa1
  have oa2 : m_32 a2 := ok 2 _ rfl
  unfold m_32 at oa2
  have oa3 : m_32 a3 := ok 3 _ rfl
  unfold m_32 at oa3
  have oa4 : m_32 a4 := ok 4 _ rfl
  unfold m_32 at oa4
  have oa5 : m_32 a5 := ok 5 _ rfl
  unfold m_32 at oa5
  obtain ⟨x1, ex1⟩ : ∃ y : Int, h0 35 1 = y := ⟨_, rfl⟩
  have bx1 : 0 ≤ x1 ∧ x1 ≤ 400 := ex1 ▸ g_35_1 G0
  refine z_aload_n (M := M_X11_feed) 0 dX11_feed_0 rfl ?_
  refine z_getR (M := M_X11_feed) 1 dX11_feed_1 f_X11_30 o_0 rfl (g_0_4 G0) ?_
  refine z_getIE (M := M_X11_feed) 4 dX11_feed_4 f_X11_187 o_35 (by decide) ex1 ?_
  refine z_bipush (M := M_X11_feed) 7 dX11_feed_7 ?_
  refine z_iaddN (M := M_X11_feed) 9 dX11_feed_9 (by omega) (by omega) ?_
  refine z_sipush (M := M_X11_feed) 10 dX11_feed_10 ?_
  refine z_icmp_le (M := M_X11_feed) 13 dX11_feed_13 18 rfl (fun c2 => ?_) (fun c2 => ?_)
  · refine z_aload_n (M := M_X11_feed) 18 dX11_feed_18 rfl ?_
    refine z_getR (M := M_X11_feed) 19 dX11_feed_19 f_X11_30 o_0 rfl (g_0_4 G0) ?_
    refine z_iload_n (M := M_X11_feed) 22 dX11_feed_22 rfl ?_
    refine z_vV (M := M_X11_feed) 23 dX11_feed_23 t_X8_append l_X11_190 (m_rr_of rfl) (rest := []) (c_X8_append3 h0 a1 G0 (le_e ex1 (by omega))) o_35 rfl rfl rfl (Nat.le_of_ble_eq_true rfl) ⟨rfl, rfl⟩ (fun h1 qx3 => ?_)
    obtain ⟨G1, S1, fx3_0, K3⟩ := qx3
    have R1 := (FR.rf (cs := [36]) (ss := [(35, 1)]) (h := h0)).call S1 (by decide +kernel)
    refine z_aload_n (M := M_X11_feed) 26 dX11_feed_26 rfl ?_
    refine z_getR (M := M_X11_feed) 27 dX11_feed_27 f_X11_30 o_0 rfl (g_0_4 G1) ?_
    refine z_iload_n (M := M_X11_feed) 30 dX11_feed_30 rfl ?_
    refine z_vV (M := M_X11_feed) 31 dX11_feed_31 t_X8_append l_X11_190 (m_rr_of rfl) (rest := []) (c_X8_append3 h1 a2 G1 (le_e (eq_ad fx3_0 ex1) (by omega))) o_35 rfl rfl rfl (Nat.le_of_ble_eq_true rfl) ⟨rfl, rfl⟩ (fun h2 qx4 => ?_)
    obtain ⟨G2, S2, fx4_0, K4⟩ := qx4
    have R2 := R1.call S2 (by decide +kernel)
    refine z_aload_n (M := M_X11_feed) 34 dX11_feed_34 rfl ?_
    refine z_getR (M := M_X11_feed) 35 dX11_feed_35 f_X11_30 o_0 rfl (g_0_4 G2) ?_
    refine z_iload_n (M := M_X11_feed) 38 dX11_feed_38 rfl ?_
    refine z_vV (M := M_X11_feed) 39 dX11_feed_39 t_X8_append l_X11_190 (m_rr_of rfl) (rest := []) (c_X8_append3 h2 a3 G2 (le_e (eq_ad fx4_0 (eq_ad fx3_0 ex1)) (by omega))) o_35 rfl rfl rfl (Nat.le_of_ble_eq_true rfl) ⟨rfl, rfl⟩ (fun h3 qx5 => ?_)
    obtain ⟨G3, S3, fx5_0, K5⟩ := qx5
    have R3 := R2.call S3 (by decide +kernel)
    refine z_aload_n (M := M_X11_feed) 42 dX11_feed_42 rfl ?_
    refine z_getR (M := M_X11_feed) 43 dX11_feed_43 f_X11_30 o_0 rfl (g_0_4 G3) ?_
    refine z_iload (M := M_X11_feed) 46 dX11_feed_46 rfl ?_
    refine z_vV (M := M_X11_feed) 48 dX11_feed_48 t_X8_append l_X11_190 (m_rr_of rfl) (rest := []) (c_X8_append3 h3 a4 G3 (le_e (eq_ad fx5_0 (eq_ad fx4_0 (eq_ad fx3_0 ex1))) (by omega))) o_35 rfl rfl rfl (Nat.le_of_ble_eq_true rfl) ⟨rfl, rfl⟩ (fun h4 qx6 => ?_)
    obtain ⟨G4, S4, fx6_0, K6⟩ := qx6
    have R4 := R3.call S4 (by decide +kernel)
    refine z_aload_n (M := M_X11_feed) 51 dX11_feed_51 rfl ?_
    refine z_getR (M := M_X11_feed) 52 dX11_feed_52 f_X11_30 o_0 rfl (g_0_4 G4) ?_
    refine z_iload (M := M_X11_feed) 55 dX11_feed_55 rfl ?_
    refine z_vV (M := M_X11_feed) 57 dX11_feed_57 t_X8_append l_X11_190 (m_rr_of rfl) (rest := []) (c_X8_append3 h4 a5 G4 (le_e (eq_ad fx6_0 (eq_ad fx5_0 (eq_ad fx4_0 (eq_ad fx3_0 ex1)))) (by omega))) o_35 rfl rfl rfl (Nat.le_of_ble_eq_true rfl) ⟨rfl, rfl⟩ (fun h5 qx7 => ?_)
    obtain ⟨G5, S5, fx7_0, K7⟩ := qx7
    have R5 := R4.call S5 (by decide +kernel)
    refine z_aload_n (M := M_X11_feed) 60 dX11_feed_60 rfl ?_
    refine z_getR (M := M_X11_feed) 61 dX11_feed_61 f_X11_30 o_0 rfl (g_0_4 G5) ?_
    refine z_getIE (M := M_X11_feed) 64 dX11_feed_64 f_X11_187 o_35 (by decide) (eq_ad fx7_0 (eq_ad fx6_0 (eq_ad fx5_0 (eq_ad fx4_0 (eq_ad fx3_0 ex1))))) ?_
    have z8 : h5 35 1 = (((((x1 + 4) + 4) + 4) + 4) + 4) := (eq_ad fx7_0 (eq_ad fx6_0 (eq_ad fx5_0 (eq_ad fx4_0 (eq_ad fx3_0 ex1)))))
    exact z_retI (M := M_X11_feed) 67 dX11_feed_67 rfl ⟨G5, R5, by omega, by rw [if_pos (by omega)]; exact tp20_ch K3 fx3_0 K4 fx4_0 K5 fx5_0 K6 fx6_0 K7⟩
  · refine z_iconst (M := M_X11_feed) 16 dX11_feed_16 ?_
    have z8 : h0 35 1 = x1 := ex1
    exact z_retI (M := M_X11_feed) 17 dX11_feed_17 rfl ⟨G0, (FR.rf (cs := [36]) (ss := [(35, 1)]) (h := h0)), by omega, by rw [if_neg (by omega)]⟩
abbrev P_X12_four3 (h0 : m_H) (a1 : Int) : m_H → Prop := fun h' => GI h' ∧ FR [113] [(108, 8)] h0 h' ∧ h' 108 8 = h0 108 8 + 4 ∧ h' 113 = tp4 (h0 113) (h0 108 8) a1
def q_X12_four3 (h0 : m_H) (a1 : Int) (n : Nat) : Prop := (∀ (l2 y_108_8 : Int) (h : m_H), GI h → FR [113] [(108, 8)] h0 h → (-8) ≤ l2 → l2 ≤ 24 → 0 ≤ y_108_8 → y_108_8 ≤ 400 → (-2147483648) ≤ a1 → a1 ≤ 2147483647 → (h 108 8 = y_108_8) → (8 * y_108_8 = 8 * h0 108 8 + 24 - l2) → (h 113 = tq (h0 113) (h0 108 8) a1 y_108_8) → 2 * (l2 - (-8)) + (1) ≤ (n : Int) → m_Z oF M_X12_four 3 [some (mR 108), some (mI a1), some (mI l2)] [] h (m_QV (P_X12_four3 h0 a1)))
set_option maxHeartbeats 4000000 in
set_option maxRecDepth 100000 in
theorem s_X12_four3_3 (h0 : m_H) (a1 : Int) (G0 : GI h0) (ht : h0 108 8 ≤ 396) (n : Nat) (ih : q_X12_four3 h0 a1 n) : ∀ (l2 y_108_8 : Int) (h : m_H), GI h → FR [113] [(108, 8)] h0 h → (-8) ≤ l2 → l2 ≤ 24 → 0 ≤ y_108_8 → y_108_8 ≤ 400 → (-2147483648) ≤ a1 → a1 ≤ 2147483647 → (h 108 8 = y_108_8) → (8 * y_108_8 = 8 * h0 108 8 + 24 - l2) → (h 113 = tq (h0 113) (h0 108 8) a1 y_108_8) → 2 * (l2 - (-8)) + (1) ≤ ((n + 1 : Nat) : Int) → m_Z oF M_X12_four 3 [some (mR 108), some (mI a1), some (mI l2)] [] h (m_QV (P_X12_four3 h0 a1)) := by
  intro l2 y_108_8 h G R v0 v1 v2 v3 v4 v5 t_108_8 i0 i1 hr
  refine z_iload_n (M := M_X12_four) 3 dX12_four_3 rfl ?_
  refine z_if_lt (M := M_X12_four) 4 dX12_four_4 39 rfl (fun c1 => ?_) (fun c1 => ?_)
  · exact z_retV (M := M_X12_four) 39 dX12_four_39 rfl ⟨G, R, by omega, by have := (g_108_8 G0); rw [i1]; exact tq_4 (by omega) (by omega)⟩
  · refine z_aload_n (M := M_X12_four) 7 dX12_four_7 rfl ?_
    refine z_getR (M := M_X12_four) 8 dX12_four_8 f_X12_23 o_108 rfl (g_108_7 G) ?_
    refine z_aload_n (M := M_X12_four) 11 dX12_four_11 rfl ?_
    refine z_getIE (M := M_X12_four) 12 dX12_four_12 f_X12_201 o_108 (by decide) t_108_8 ?_
    refine z_iload_n (M := M_X12_four) 15 dX12_four_15 rfl ?_
    refine z_iload_n (M := M_X12_four) 16 dX12_four_16 rfl ?_
    refine z_ishr (M := M_X12_four) 17 dX12_four_17 ?_
    refine z_topm (fun x2 ex2 ox2 => ?_)
    unfold m_32 at ox2
    refine z_sipush (M := M_X12_four) 18 dX12_four_18 ?_
    refine z_iand (M := M_X12_four) 21 dX12_four_21 ?_
    refine z_topBI (m_and_255 _) (fun x3 ex3 ax3 bx3 => ?_)
    refine z_iastH (M := M_X12_four) 22 dX12_four_22 o_113 (by omega) (by omega) (u_113 G (by omega) (by omega)) (R.up rfl) (fun h1 E1 G1 R1 => ?_)
    refine z_aload_n (M := M_X12_four) 23 dX12_four_23 rfl ?_
    refine z_dup (M := M_X12_four) 24 dX12_four_24 rfl ?_
    refine z_getIE (M := M_X12_four) 25 dX12_four_25 f_X12_201 o_108 (by decide) ((upN E1 (fun q => absurd q.1 (by decide))).trans t_108_8) ?_
    refine z_iconst (M := M_X12_four) 28 dX12_four_28 ?_
    refine z_iaddN (M := M_X12_four) 29 dX12_four_29 (by omega) (by omega) ?_
    refine z_putIH (M := M_X12_four) 30 dX12_four_30 p_X12_201 o_108 rfl (u_108_8 G1 (by omega) (by omega)) (R1.up rfl) (fun h2 E2 G2 R2 => ?_)
    refine z_iincN (M := M_X12_four) 33 dX12_four_33 (ls' := [some (mR 108), some (mI a1), some (mI (l2 + (-8)))]) (by decide) rfl (by (unfold m_32; decide)) (by omega) (by omega) rfl ?_
    refine z_goto (M := M_X12_four) 36 dX12_four_36 3 rfl ?_
    exact z_mask [true, true, true] rfl (ih (l2 + (-8)) (y_108_8 + 1) h2 G2 R2 (by omega) (by omega) (by omega) (by omega) (by omega) (by omega) (upE E2) (by omega) (by have := (g_108_8 G0); exact tq_s (l := l2) (by omega) (by omega) i1 (by omega) (by rw [← ex3, ← ex2]; rfl) E1 E2) (by omega))
theorem a_X12_four3 (h0 : m_H) (a1 : Int) (G0 : GI h0) (ht : h0 108 8 ≤ 396) : ∀ n, q_X12_four3 h0 a1 n := by
  intro n
  induction n with
  | zero => unfold q_X12_four3; intros; omega
  | succ n ih => exact s_X12_four3_3 h0 a1 G0 ht n ih
set_option maxHeartbeats 4000000 in
set_option maxRecDepth 100000 in
theorem c_X12_four3 (h0 : m_H) (a1 : Int) (G0 : GI h0) (ht : h0 108 8 ≤ 396) : m_CV M_X12_four [mR 108, mI a1] h0 (P_X12_four3 h0 a1) := by
  refine m_CV_of ⟨by decide, rfl, by simp [m_arg, m_isL, M_X12_four], ⟨rfl, rfl⟩, rfl, rfl⟩ (ls := [some (mR 108), some (mI a1), none]) rfl ?_
  have ih := a_X12_four3 h0 a1 G0 ht 72
  refine z_ok (fun _ _ ok => ?_)
  have oa1 : m_32 a1 := ok 1 _ rfl
  unfold m_32 at oa1
  obtain ⟨x1, ex1⟩ : ∃ y : Int, h0 108 8 = y := ⟨_, rfl⟩
  have bx1 : 0 ≤ x1 ∧ x1 ≤ 400 := ex1 ▸ g_108_8 G0
  refine z_bipush (M := M_X12_four) 0 dX12_four_0 ?_
  refine z_istore_n (M := M_X12_four) 2 dX12_four_2 (ls' := [some (mR 108), some (mI a1), some (mI 24)]) (by decide) rfl ?_
  exact z_mask [true, true, true] rfl (ih 24 x1 h0 G0 (FR.rf (cs := [113]) (ss := [(108, 8)]) (h := h0)) (by omega) (by omega) (by omega) (by omega) (by omega) (by omega) ex1 (by omega) (by rw [← ex1]; exact tq_0) (by omega))
abbrev P_X12_feed3 (h0 : m_H) (a1 a2 a3 a4 a5 : Int) : Int → m_H → Prop := fun x h' => GI h' ∧ FR [113] [(108, 0), (108, 8)] h0 h' ∧ ((380 < h0 108 8 ∧ x = -1 ∧ h' 108 8 = h0 108 8) ∨ (h0 108 8 ≤ 380 ∧ x = h0 108 8 + 20 ∧ h' 108 8 = h0 108 8 + 20)) ∧ h' 113 = (if h0 108 8 ≤ 380 then tp20 (h0 113) (h0 108 8) a1 a2 a3 a4 a5 else h0 113)
set_option maxHeartbeats 4000000 in
set_option maxRecDepth 100000 in
theorem c_X12_feed3 (h0 : m_H) (a1 a2 a3 a4 a5 : Int) (G0 : GI h0) : m_CI M_X12_feed [mR 108, mI a1, mI a2, mI a3, mI a4, mI a5] h0 (P_X12_feed3 h0 a1 a2 a3 a4 a5) := by
  refine m_CI_of ⟨by decide, rfl, by simp [m_arg, m_isL, M_X12_feed], ⟨rfl, rfl⟩, rfl, rfl⟩ (ls := [some (mR 108), some (mI a1), some (mI a2), some (mI a3), some (mI a4), some (mI a5)]) rfl ?_
  refine z_ok (fun _ _ ok => ?_)
  have oa1 : m_32 a1 := ok 1 _ rfl
  unfold m_32 at oa1
  have oa2 : m_32 a2 := ok 2 _ rfl
  unfold m_32 at oa2
  have oa3 : m_32 a3 := ok 3 _ rfl
  unfold m_32 at oa3
  have oa4 : m_32 a4 := ok 4 _ rfl
  unfold m_32 at oa4
  have oa5 : m_32 a5 := ok 5 _ rfl
  unfold m_32 at oa5
  obtain ⟨x1, ex1⟩ : ∃ y : Int, h0 108 8 = y := ⟨_, rfl⟩
  have bx1 : 0 ≤ x1 ∧ x1 ≤ 400 := ex1 ▸ g_108_8 G0
  refine z_aload_n (M := M_X12_feed) 0 dX12_feed_0 rfl ?_
  refine z_iconst (M := M_X12_feed) 1 dX12_feed_1 ?_
  refine z_putIH (M := M_X12_feed) 2 dX12_feed_2 p_X12_133 o_108 rfl (u_108_0 G0) ((FR.rf (cs := [113]) (ss := [(108, 0), (108, 8)]) (h := h0)).up rfl) (fun h1 E1 G1 R1 => ?_)
  refine z_aload_n (M := M_X12_feed) 5 dX12_feed_5 rfl ?_
  refine z_getIE (M := M_X12_feed) 6 dX12_feed_6 f_X12_201 o_108 (by decide) ((upN E1 (fun q => absurd q.2 (by decide))).trans ex1) ?_
  refine z_bipush (M := M_X12_feed) 9 dX12_feed_9 ?_
  refine z_iaddN (M := M_X12_feed) 11 dX12_feed_11 (by omega) (by omega) ?_
  refine z_sipush (M := M_X12_feed) 12 dX12_feed_12 ?_
  refine z_icmp_le (M := M_X12_feed) 15 dX12_feed_15 20 rfl (fun c2 => ?_) (fun c2 => ?_)
  · refine z_aload_n (M := M_X12_feed) 20 dX12_feed_20 rfl ?_
    refine z_iload_n (M := M_X12_feed) 21 dX12_feed_21 rfl ?_
    refine z_vV (M := M_X12_feed) 22 dX12_feed_22 t_X12_four l_X12_207 (m_rr_of rfl) (rest := []) (c_X12_four3 h1 a1 G1 (le_e ((upN E1 (fun q => absurd q.2 (by decide))).trans ex1) (by omega))) o_108 rfl rfl rfl (Nat.le_of_ble_eq_true rfl) ⟨rfl, rfl⟩ (fun h2 qx3 => ?_)
    obtain ⟨G2, S2, fx3_0, K3⟩ := qx3
    have R2 := R1.call S2 (by decide +kernel)
    refine z_aload_n (M := M_X12_feed) 25 dX12_feed_25 rfl ?_
    refine z_iload_n (M := M_X12_feed) 26 dX12_feed_26 rfl ?_
    refine z_vV (M := M_X12_feed) 27 dX12_feed_27 t_X12_four l_X12_207 (m_rr_of rfl) (rest := []) (c_X12_four3 h2 a2 G2 (le_e (eq_ad fx3_0 ((upN E1 (fun q => absurd q.2 (by decide))).trans ex1)) (by omega))) o_108 rfl rfl rfl (Nat.le_of_ble_eq_true rfl) ⟨rfl, rfl⟩ (fun h3 qx4 => ?_)
    obtain ⟨G3, S3, fx4_0, K4⟩ := qx4
    have R3 := R2.call S3 (by decide +kernel)
    refine z_aload_n (M := M_X12_feed) 30 dX12_feed_30 rfl ?_
    refine z_iload_n (M := M_X12_feed) 31 dX12_feed_31 rfl ?_
    refine z_vV (M := M_X12_feed) 32 dX12_feed_32 t_X12_four l_X12_207 (m_rr_of rfl) (rest := []) (c_X12_four3 h3 a3 G3 (le_e (eq_ad fx4_0 (eq_ad fx3_0 ((upN E1 (fun q => absurd q.2 (by decide))).trans ex1))) (by omega))) o_108 rfl rfl rfl (Nat.le_of_ble_eq_true rfl) ⟨rfl, rfl⟩ (fun h4 qx5 => ?_)
    obtain ⟨G4, S4, fx5_0, K5⟩ := qx5
    have R4 := R3.call S4 (by decide +kernel)
    refine z_aload_n (M := M_X12_feed) 35 dX12_feed_35 rfl ?_
    refine z_iload (M := M_X12_feed) 36 dX12_feed_36 rfl ?_
    refine z_vV (M := M_X12_feed) 38 dX12_feed_38 t_X12_four l_X12_207 (m_rr_of rfl) (rest := []) (c_X12_four3 h4 a4 G4 (le_e (eq_ad fx5_0 (eq_ad fx4_0 (eq_ad fx3_0 ((upN E1 (fun q => absurd q.2 (by decide))).trans ex1)))) (by omega))) o_108 rfl rfl rfl (Nat.le_of_ble_eq_true rfl) ⟨rfl, rfl⟩ (fun h5 qx6 => ?_)
    obtain ⟨G5, S5, fx6_0, K6⟩ := qx6
    have R5 := R4.call S5 (by decide +kernel)
    refine z_aload_n (M := M_X12_feed) 41 dX12_feed_41 rfl ?_
    refine z_iload (M := M_X12_feed) 42 dX12_feed_42 rfl ?_
    refine z_vV (M := M_X12_feed) 44 dX12_feed_44 t_X12_four l_X12_207 (m_rr_of rfl) (rest := []) (c_X12_four3 h5 a5 G5 (le_e (eq_ad fx6_0 (eq_ad fx5_0 (eq_ad fx4_0 (eq_ad fx3_0 ((upN E1 (fun q => absurd q.2 (by decide))).trans ex1))))) (by omega))) o_108 rfl rfl rfl (Nat.le_of_ble_eq_true rfl) ⟨rfl, rfl⟩ (fun h6 qx7 => ?_)
    obtain ⟨G6, S6, fx7_0, K7⟩ := qx7
    have R6 := R5.call S6 (by decide +kernel)
    refine z_aload_n (M := M_X12_feed) 47 dX12_feed_47 rfl ?_
    refine z_getIE (M := M_X12_feed) 48 dX12_feed_48 f_X12_201 o_108 (by decide) (eq_ad fx7_0 (eq_ad fx6_0 (eq_ad fx5_0 (eq_ad fx4_0 (eq_ad fx3_0 ((upN E1 (fun q => absurd q.2 (by decide))).trans ex1)))))) ?_
    have z8 : h6 108 8 = (((((x1 + 4) + 4) + 4) + 4) + 4) := (eq_ad fx7_0 (eq_ad fx6_0 (eq_ad fx5_0 (eq_ad fx4_0 (eq_ad fx3_0 ((upN E1 (fun q => absurd q.2 (by decide))).trans ex1))))))
    exact z_retI (M := M_X12_feed) 51 dX12_feed_51 rfl ⟨G6, R6, by omega, by rw [if_pos (by omega), show h0 113 = h1 113 from (funext fun j => (upN E1 (fun q => absurd q.1 (by decide))).symm), show h0 108 8 = h1 108 8 from (upN E1 (fun q => absurd q.2 (by decide))).symm]; exact tp20_ch K3 fx3_0 K4 fx4_0 K5 fx5_0 K6 fx6_0 K7⟩
  · refine z_iconst (M := M_X12_feed) 18 dX12_feed_18 ?_
    have z8 : h1 108 8 = x1 := ((upN E1 (fun q => absurd q.2 (by decide))).trans ex1)
    exact z_retI (M := M_X12_feed) 19 dX12_feed_19 rfl ⟨G1, R1, by omega, by rw [if_neg (by omega)]; exact (funext fun j => upN E1 (fun q => absurd q.1 (by decide)))⟩
/-! both, wholly alike -/
abbrev P_X11_image3 (h0 : m_H) (a1 : Int) : Int → m_H → Prop := fun x h' => GI h' ∧ FR [18, 19, 20, 21, 22, 23, 24, 25, 26, 27, 28, 29, 30, 31, 32, 33, 34, 107] [(0, 14)] h0 h' ∧ imQ 34 a1 x h0 h' ∧ imC a1 h0 h'
set_option maxHeartbeats 4000000 in
set_option maxRecDepth 100000 in
theorem c_X11_image3 (h0 : m_H) (a1 : Int) (G0 : GI h0) : m_CI M_X11_image [mR 0, mI a1] h0 (P_X11_image3 h0 a1) := by
  refine m_CI_of ⟨by decide, rfl, by simp [m_arg, m_isL, M_X11_image], ⟨rfl, rfl⟩, rfl, rfl⟩ (ls := [some (mR 0), some (mI a1)]) rfl ?_
  refine z_ok (fun _ _ ok => ?_)
  have oa1 : m_32 a1 := ok 1 _ rfl
  unfold m_32 at oa1
  refine z_iload_n (M := M_X11_image) 0 dX11_image_0 rfl ?_
  refine z_iconst (M := M_X11_image) 1 dX11_image_1 ?_
  refine z_iconst (M := M_X11_image) 2 dX11_image_2 ?_
  refine z_sI (M := M_X11_image) 3 dX11_image_3 t_X11_within l_X11_112 (m_rr_of rfl) (rest := []) (c_X11_within h0 a1 0 1 G0) rfl rfl (Nat.le_of_ble_eq_true rfl) ⟨rfl, rfl⟩ (fun x1 h1 qx1 => ?_)
  obtain ⟨rfl, ⟨rfl, cx1⟩ | ⟨rfl, cx1⟩⟩ := qx1
  · refine z_if_ne_T (M := M_X11_image) 6 dX11_image_6 15 rfl (by omega) ?_
    refine z_aload_n (M := M_X11_image) 15 dX11_image_15 rfl ?_
    refine z_getR (M := M_X11_image) 16 dX11_image_16 f_X11_19 o_0 rfl (g_0_2 G0) ?_
    refine z_iload_n (M := M_X11_image) 19 dX11_image_19 rfl ?_
    have hi2 := isL_17 (i := a1) (by omega) (by omega)
    refine z_aaldL (M := M_X11_image) 20 dX11_image_20 o_17 (by omega) (by omega) (g_17 G0 (by omega)) ?_
    refine z_aload_n (M := M_X11_image) 21 dX11_image_21 rfl ?_
    refine z_getR (M := M_X11_image) 22 dX11_image_22 f_X11_12 o_0 rfl (g_0_0 G0) ?_
    refine z_vV (M := M_X11_image) 25 dX11_image_25 t_X4_copyFrom l_X11_197 (m_rr_of rfl) (rest := []) (c_X4_copyFrom2 h0 (18 + 8 * (a1).toNat) 1 hi2 (Or.inl rfl) G0) (oL hi2) rfl rfl rfl (Nat.le_of_ble_eq_true rfl) ⟨rfl, rfl⟩ (fun h2 qx3 => ?_)
    obtain ⟨G2, S2, C2⟩ := qx3
    have R2 := (FR.rf (cs := [18, 19, 20, 21, 22, 23, 24, 25, 26, 27, 28, 29, 30, 31, 32, 33, 34, 107]) (ss := [(0, 14)]) (h := h0)).call S2 (by rcases (show a1 = 0 ∨ a1 = 1 by omega) with rfl | rfl <;> decide +kernel)
    refine z_aload_n (M := M_X11_image) 28 dX11_image_28 rfl ?_
    refine z_getR (M := M_X11_image) 29 dX11_image_29 f_X11_23 o_0 rfl (g_0_3 G2) ?_
    refine z_iload_n (M := M_X11_image) 32 dX11_image_32 rfl ?_
    refine z_iconst (M := M_X11_image) 33 dX11_image_33 ?_
    refine z_zastH (M := M_X11_image) 34 dX11_image_34 o_34 (by omega) (by omega) (by omega) (u_34 G2 (by omega) (by omega)) (R2.up rfl) (fun h3 E3 G3 R3 => ?_)
    refine z_aload_n (M := M_X11_image) 35 dX11_image_35 rfl ?_
    refine z_iconst (M := M_X11_image) 36 dX11_image_36 ?_
    refine z_vI (M := M_X11_image) 37 dX11_image_37 t_X11_accept l_X11_123 (m_rr_of rfl) (rest := []) (c_X11_accept h3 0 G3) o_0 rfl rfl rfl (Nat.le_of_ble_eq_true rfl) ⟨rfl, rfl⟩ (fun x4 h4 qx4 => ?_)
    obtain ⟨G4, S4, rfl⟩ := qx4
    have R4 := R3.call S4 (by decide +kernel)
    exact z_retI (M := M_X11_image) 40 dX11_image_40 rfl ⟨G4, R4, Or.inr ⟨by omega, by omega, rfl, (S4 34 _ rfl).trans (upE E3), fun j hj => ((S4 34 j rfl).trans (upN E3 (fun q => hj q.2))).trans (S2 34 j (by rcases (show a1 = 0 ∨ a1 = 1 by omega) with rfl | rfl <;> rfl))⟩, imC_ok (by omega) (by omega) rfl S2 C2 E3 S4 (by decide)⟩
  · refine z_if_ne_F (M := M_X11_image) 6 dX11_image_6 15 rfl (by omega) ?_
    refine z_aload_n (M := M_X11_image) 9 dX11_image_9 rfl ?_
    refine z_iconst (M := M_X11_image) 10 dX11_image_10 ?_
    refine z_vI (M := M_X11_image) 11 dX11_image_11 t_X11_refuse l_X11_116 (m_rr_of rfl) (rest := []) (c_X11_refuse h0 (-1) G0 ⟨by omega, by omega⟩) o_0 rfl rfl rfl (Nat.le_of_ble_eq_true rfl) ⟨rfl, rfl⟩ (fun x5 h5 qx5 => ?_)
    obtain ⟨G5, S5, rfl⟩ := qx5
    have R5 := (FR.rf (cs := [18, 19, 20, 21, 22, 23, 24, 25, 26, 27, 28, 29, 30, 31, 32, 33, 34, 107]) (ss := [(0, 14)]) (h := h0)).call S5 (by decide +kernel)
    exact z_retI (M := M_X11_image) 14 dX11_image_14 rfl ⟨G5, R5, Or.inl ⟨by omega, rfl, fun j => S5 34 j rfl⟩, imC_no (by omega) S5 (by decide)⟩
abbrev P_X11_blurred3 (h0 : m_H) : Int → m_H → Prop := fun x h' => GI h' ∧ FR [] [] h0 h' ∧ h0 0 15 = x
set_option maxHeartbeats 4000000 in
set_option maxRecDepth 100000 in
theorem c_X11_blurred3 (h0 : m_H) (G0 : GI h0) : m_CI M_X11_blurred [mR 0] h0 (P_X11_blurred3 h0) := by
  refine m_CI_of ⟨by decide, rfl, by simp [m_arg, m_isL, M_X11_blurred], ⟨rfl, rfl⟩, rfl, rfl⟩ (ls := [some (mR 0)]) rfl ?_
  refine z_aload_n (M := M_X11_blurred) 0 dX11_blurred_0 rfl ?_
  refine z_getIV (M := M_X11_blurred) 1 dX11_blurred_1 f_X11_102 o_0 (by decide) (fun x1 ex1 => ?_)
  refine z_ok (fun ox1 _ _ => ?_)
  have ox1 := ox1.1; unfold m_ok m_32 at ox1
  exact z_retI (M := M_X11_blurred) 4 dX11_blurred_4 rfl ⟨G0, (FR.rf (cs := []) (ss := []) (h := h0)), ex1⟩
abbrev P_X12_blurred3 (h0 : m_H) : Int → m_H → Prop := fun x h' => GI h' ∧ FR [] [(108, 0)] h0 h' ∧ h0 108 6 = x
set_option maxHeartbeats 4000000 in
set_option maxRecDepth 100000 in
theorem c_X12_blurred3 (h0 : m_H) (G0 : GI h0) : m_CI M_X12_blurred [mR 108] h0 (P_X12_blurred3 h0) := by
  refine m_CI_of ⟨by decide, rfl, by simp [m_arg, m_isL, M_X12_blurred], ⟨rfl, rfl⟩, rfl, rfl⟩ (ls := [some (mR 108)]) rfl ?_
  refine z_aload_n (M := M_X12_blurred) 0 dX12_blurred_0 rfl ?_
  refine z_iconst (M := M_X12_blurred) 1 dX12_blurred_1 ?_
  refine z_putIH (M := M_X12_blurred) 2 dX12_blurred_2 p_X12_133 o_108 rfl (u_108_0 G0) ((FR.rf (cs := []) (ss := [(108, 0)]) (h := h0)).up rfl) (fun h1 E1 G1 R1 => ?_)
  refine z_aload_n (M := M_X12_blurred) 5 dX12_blurred_5 rfl ?_
  refine z_getIV (M := M_X12_blurred) 6 dX12_blurred_6 f_X12_204 o_108 (by decide) (fun x1 ex1 => ?_)
  refine z_ok (fun ox1 _ _ => ?_)
  have ox1 := ox1.1; unfold m_ok m_32 at ox1
  exact z_retI (M := M_X12_blurred) 9 dX12_blurred_9 rfl ⟨G1, R1, (upN E1 (fun q => absurd q.2 (by decide))).symm.trans ex1⟩
abbrev P_X11_fault3 (h0 : m_H) : Int → m_H → Prop := fun x h' => GI h' ∧ FR [] [] h0 h' ∧ h0 0 16 = x
set_option maxHeartbeats 4000000 in
set_option maxRecDepth 100000 in
theorem c_X11_fault3 (h0 : m_H) (G0 : GI h0) : m_CI M_X11_fault [mR 0] h0 (P_X11_fault3 h0) := by
  refine m_CI_of ⟨by decide, rfl, by simp [m_arg, m_isL, M_X11_fault], ⟨rfl, rfl⟩, rfl, rfl⟩ (ls := [some (mR 0)]) rfl ?_
  refine z_aload_n (M := M_X11_fault) 0 dX11_fault_0 rfl ?_
  refine z_getIV (M := M_X11_fault) 1 dX11_fault_1 f_X11_105 o_0 (by decide) (fun x1 ex1 => ?_)
  refine z_ok (fun ox1 _ _ => ?_)
  have ox1 := ox1.1; unfold m_ok m_32 at ox1
  exact z_retI (M := M_X11_fault) 4 dX11_fault_4 rfl ⟨G0, (FR.rf (cs := []) (ss := []) (h := h0)), ex1⟩
abbrev P_X12_fault3 (h0 : m_H) : Int → m_H → Prop := fun x h' => GI h' ∧ FR [] [(108, 0)] h0 h' ∧ h0 108 13 = x
set_option maxHeartbeats 4000000 in
set_option maxRecDepth 100000 in
theorem c_X12_fault3 (h0 : m_H) (G0 : GI h0) : m_CI M_X12_fault [mR 108] h0 (P_X12_fault3 h0) := by
  refine m_CI_of ⟨by decide, rfl, by simp [m_arg, m_isL, M_X12_fault], ⟨rfl, rfl⟩, rfl, rfl⟩ (ls := [some (mR 108)]) rfl ?_
  refine z_aload_n (M := M_X12_fault) 0 dX12_fault_0 rfl ?_
  refine z_iconst (M := M_X12_fault) 1 dX12_fault_1 ?_
  refine z_putIH (M := M_X12_fault) 2 dX12_fault_2 p_X12_133 o_108 rfl (u_108_0 G0) ((FR.rf (cs := []) (ss := [(108, 0)]) (h := h0)).up rfl) (fun h1 E1 G1 R1 => ?_)
  refine z_aload_n (M := M_X12_fault) 5 dX12_fault_5 rfl ?_
  refine z_getIV (M := M_X12_fault) 6 dX12_fault_6 f_X12_26 o_108 (by decide) (fun x1 ex1 => ?_)
  refine z_ok (fun ox1 _ _ => ?_)
  have ox1 := ox1.1; unfold m_ok m_32 at ox1
  exact z_retI (M := M_X12_fault) 9 dX12_fault_9 rfl ⟨G1, R1, (upN E1 (fun q => absurd q.2 (by decide))).symm.trans ex1⟩
def LX (h : m_H) : Prop := KP h ∧ LR 1 h (h 110) ∧ (∀ k, k < 2 → h 34 k ≠ 0 → LR (18 + 8 * k) h (fun j => h 111 (200 * k + j))) ∧ h 36 = h 113 ∧ h 0 15 = h 108 6 ∧ h 0 16 = h 108 13
theorem LX.gen {h h' : m_H} (R : LX h) (L : LR 1 h' (h' 110)) (eI : ∀ c, 18 ≤ c → c ≤ 34 → ∀ j, h' c j = h c j) (e1 : ∀ j, h' 111 j = h 111 j) (e2 : ∀ j, h' 112 j = h 112 j) (t : h' 36 = h' 113) (b : h' 0 15 = h' 108 6) (f : h' 0 16 = h' 108 13) : LX h' := by
  obtain ⟨r1, r2, r3, -⟩ := R
  refine ⟨r1.call (eI 34 (by decide) (by decide)) e2, L, fun k hk hn => ?_, t, b, f⟩
  rw [eI 34 (by decide) (by decide)] at hn
  exact LR.same (r3 k hk hn) (fun i hi j => eI _ (by omega) (by omega) j) (fun j _ => e1 _)
/-- a frame leaves the images; the tape's bytes; what is kept of row and book -/
def fzI (cs : List Nat) (ss : List (Nat × Nat)) : Bool := out 18 34 cs ss && out 111 112 cs ss
def fzT (cs : List Nat) (ss : List (Nat × Nat)) : Bool := out 36 36 cs ss && out 113 113 cs ss
def fzB (cs : List Nat) (ss : List (Nat × Nat)) : Bool := !fr cs ss 0 15 && !fr cs ss 0 16 && !fr cs ss 108 6 && !fr cs ss 108 13
theorem fzI_1 {cs : List Nat} {ss : List (Nat × Nat)} {h h' : m_H} (o : fzI cs ss = true) (S : FR cs ss h h') : (∀ c, 18 ≤ c → c ≤ 34 → ∀ j, h' c j = h c j) ∧ (∀ j, h' 111 j = h 111 j) ∧ (∀ j, h' 112 j = h 112 j) := by
  unfold fzI at o; rw [Bool.and_eq_true] at o
  exact ⟨fun c u v j => S _ _ (fr_out o.1 u v j), fun j => S _ _ (fr_out o.2 (by decide) (by decide) j), fun j => S _ _ (fr_out o.2 (by decide) (by decide) j)⟩
theorem fzT_1 {cs : List Nat} {ss : List (Nat × Nat)} {h h' : m_H} (o : fzT cs ss = true) (S : FR cs ss h h') : h' 36 = h 36 ∧ h' 113 = h 113 := by
  unfold fzT at o; rw [Bool.and_eq_true] at o
  exact ⟨rowz S (fr_out o.1 (by decide) (by decide)), rowz S (fr_out o.2 (by decide) (by decide))⟩
theorem fzB_1 {cs : List Nat} {ss : List (Nat × Nat)} {h h' : m_H} (o : fzB cs ss = true) (S : FR cs ss h h') : h' 0 15 = h 0 15 ∧ h' 0 16 = h 0 16 ∧ h' 108 6 = h 108 6 ∧ h' 108 13 = h 108 13 := by
  unfold fzB at o
  simp only [Bool.and_eq_true, Bool.not_eq_true'] at o
  exact ⟨S _ _ o.1.1.1, S _ _ o.1.1.2, S _ _ o.1.2, S _ _ o.2⟩
theorem LX.cls {h h' : m_H} {cs : List Nat} {ss : List (Nat × Nat)} (R : LX h) (S : FR cs ss h h') (o1 : fzI cs ss = true) (o2 : fzT cs ss = true) (o3 : fzB cs ss = true) (o4 : out 1 8 cs ss = true) (o5 : out 110 110 cs ss = true) : LX h' := by
  obtain ⟨a1, a2, a3⟩ := fzI_1 o1 S
  obtain ⟨t1, t2⟩ := fzT_1 o2 S
  obtain ⟨b1, b2, b3, b4⟩ := fzB_1 o3 S
  have e : h' 110 = h 110 := rowz S (fr_out o5 (by decide) (by decide))
  obtain ⟨_, r2, _, r4, r5, r6⟩ := R
  refine LX.gen (h := h) ⟨‹_›, r2, ‹_›, r4, r5, r6⟩ (by rw [e]; exact r2.S S o4) a1 a2 a3 (by rw [t1, t2, r4]) (by rw [b1, b3, r5]) (by rw [b2, b4, r6])
/-- both calls leave images, tape and what is kept, and the ledger stays the row -/
theorem LX.mut {h h1 h2 : m_H} {cs cs' : List Nat} {ss ss' : List (Nat × Nat)} (R : LX h) (S1 : FR cs ss h h1) (S2 : FR cs' ss' h1 h2) (L : LR 1 h2 (h2 110)) (o1 : fzI cs ss = true) (o2 : fzT cs ss = true) (o3 : fzB cs ss = true) (q1 : fzI cs' ss' = true) (q2 : fzT cs' ss' = true) (q3 : fzB cs' ss' = true) : LX h2 := by
  obtain ⟨a1, a2, a3⟩ := fzI_1 o1 S1
  obtain ⟨t1, t2⟩ := fzT_1 o2 S1
  obtain ⟨b1, b2, b3, b4⟩ := fzB_1 o3 S1
  obtain ⟨c1, c2, c3⟩ := fzI_1 q1 S2
  obtain ⟨u1, u2⟩ := fzT_1 q2 S2
  obtain ⟨v1, v2, v3, v4⟩ := fzB_1 q3 S2
  obtain ⟨r1, r2, r3, r4, r5, r6⟩ := R
  exact LX.gen (h := h) ⟨r1, r2, r3, r4, r5, r6⟩ L (fun c x y j => (c1 c x y j).trans (a1 c x y j)) (fun j => (c2 j).trans (a2 j)) (fun j => (c3 j).trans (a3 j)) (by rw [u1, u2, t1, t2, r4]) (by rw [v1, v3, b1, b3, r5]) (by rw [v2, v4, b2, b4, r6])
theorem both2 {a1 a2 : Int} {cs cs' : List Nat} {ss ss' : List (Nat × Nat)} {h h1 h2 : m_H} (A : LR 1 h1 (spCount a1 a2 (h 110))) (B : h2 110 = spCount a1 a2 (h1 110)) (S1 : FR cs ss h h1) (S2 : FR cs' ss' h1 h2) (o1 : ∀ j, fr cs ss 110 j = false) (o2 : out 1 8 cs' ss' = true) : LR 1 h2 (h2 110) := by
  have e : h1 110 = h 110 := rowz S1 o1
  rw [e] at B
  rw [B]; exact A.S S2 o2
theorem LX.row {h h1 h2 : m_H} {cs cs' : List Nat} {ss ss' : List (Nat × Nat)} {x y : Int} (R : LX h) (T : h 35 1 = h 108 8) (S1 : FR cs ss h h1) (S2 : FR cs' ss' h1 h2) (A : rwQ (h 36) (h 35 1) (h 110) x (h 0 15) (h1 0 15) h1) (B : rwM (h1 113) (h1 108 8) (h1 110) y (h1 108 6) (h2 108 6) h2) (o1 : fzI cs ss = true) (o2 : fzT cs ss = true) (o3 : out 108 110 cs ss = true) (o4 : fr cs ss 0 16 = false) (q1 : fzI cs' ss' = true) (q2 : fzT cs' ss' = true) (q3 : out 0 8 cs' ss' = true) (q4 : fr cs' ss' 108 13 = false) : LX h2 ∧ x = y := by
  obtain ⟨a1, a2, a3⟩ := fzI_1 o1 S1
  obtain ⟨t1, t2⟩ := fzT_1 o2 S1
  obtain ⟨c1, c2, c3⟩ := fzI_1 q1 S2
  obtain ⟨u1, u2⟩ := fzT_1 q2 S2
  obtain ⟨r1, r2, r3, r4, r5, r6⟩ := R
  have e110 : h1 110 = h 110 := rowz S1 (fr_out o3 (by decide) (by decide))
  have e108 : ∀ j, h1 108 j = h 108 j := fun j => S1 _ _ (fr_out o3 (by decide) (by decide) j)
  have f0 : ∀ j, h2 0 j = h1 0 j := fun j => S2 _ _ (fr_out q3 (by decide) (by decide) j)
  have o8 : out 1 8 cs' ss' = true := by
    unfold out at q3 ⊢
    rw [Bool.and_eq_true, List.all_eq_true, List.all_eq_true] at q3 ⊢
    refine ⟨fun c hc => ?_, fun p hp => ?_⟩
    · have z := q3.1 c hc
      simp only [Bool.or_eq_true, decide_eq_true_eq] at z ⊢
      omega
    · have z := q3.2 p hp
      simp only [Bool.or_eq_true, decide_eq_true_eq] at z ⊢
      omega
  rw [t2, e108, e108, e110, ← r4, ← T, ← r5] at B
  have key : LR 1 h2 (h2 110) ∧ x = y ∧ h1 0 15 = h2 108 6 := by
    rcases A with ⟨n0, x0, b0, L0⟩ | ⟨n0, x0, b0, L0⟩
    · rcases B with ⟨_, y0, d0, g0⟩ | ⟨m0, _⟩
      · exact ⟨by rw [g0]; exact L0.S S2 o8, by rw [x0, y0], by rw [b0, d0]⟩
      · exact absurd n0 m0
    · rcases B with ⟨m0, _⟩ | ⟨_, y0, d0, g0⟩
      · exact absurd m0 n0
      · exact ⟨by rw [g0]; exact L0.S S2 o8, by rw [x0, y0], by rw [b0, d0]⟩
  refine ⟨LX.gen (h := h) ⟨r1, r2, r3, r4, r5, r6⟩ key.1 (fun c x y j => (c1 c x y j).trans (a1 c x y j)) (fun j => (c2 j).trans (a2 j)) (fun j => (c3 j).trans (a3 j)) (by rw [u1, u2, t1, t2, r4]) (by rw [f0, key.2.2]) ?_, key.2.1⟩
  rw [f0, S1 0 16 o4, S2 108 13 q4, e108, r6]
theorem LX.book {h h1 h2 : m_H} {cs cs' : List Nat} {ss ss' : List (Nat × Nat)} {x y : Int} (R : LX h) (T : h 35 1 = h 108 8) (S1 : FR cs ss h h1) (S2 : FR cs' ss' h1 h2) (A : boQ (rdBook (h 36) (h 35 1) 400 (nx (h 36) (h 35 1) 0) (h 110) 1) (h 110) x h1) (B : bmQ (rdBook (h1 113) (h1 108 8) 400 (nx (h1 113) (h1 108 8) 0) (h1 110) 1) y h1 h2) (o1 : fzI cs ss = true) (o2 : fzT cs ss = true) (o3 : out 108 110 cs ss = true) (o4 : fr cs ss 0 15 = false) (q1 : fzI cs' ss' = true) (q2 : fzT cs' ss' = true) (q3 : out 0 8 cs' ss' = true) (q4 : fr cs' ss' 108 6 = false) (q5 : out 1 8 cs' ss' = true) : LX h2 ∧ x = y := by
  obtain ⟨a1, a2, a3⟩ := fzI_1 o1 S1
  obtain ⟨t1, t2⟩ := fzT_1 o2 S1
  obtain ⟨c1, c2, c3⟩ := fzI_1 q1 S2
  obtain ⟨u1, u2⟩ := fzT_1 q2 S2
  obtain ⟨r1, r2, r3, r4, r5, r6⟩ := R
  have e110 : h1 110 = h 110 := rowz S1 (fr_out o3 (by decide) (by decide))
  have e108 : ∀ j, h1 108 j = h 108 j := fun j => S1 _ _ (fr_out o3 (by decide) (by decide) j)
  have f0 : ∀ j, h2 0 j = h1 0 j := fun j => S2 _ _ (fr_out q3 (by decide) (by decide) j)
  rw [t2, e108, e110, ← r4, ← T] at B
  have key : LR 1 h2 (h2 110) ∧ x = y ∧ h1 0 16 = h2 108 13 := by
    generalize rdBook (h 36) (h 35 1) 400 (nx (h 36) (h 35 1) 0) (h 110) 1 = z at A B
    unfold boQ at A; unfold bmQ at B
    cases z with
    | ok p =>
      obtain ⟨x0, L0, d0⟩ := A
      obtain ⟨y0, g0, e0⟩ := B
      exact ⟨by rw [g0]; exact L0.S S2 q5, by rw [x0, y0], by rw [d0, e0]⟩
    | error e =>
      obtain ⟨x0, L0, d0⟩ := A
      obtain ⟨y0, g0, e0⟩ := B
      exact ⟨by rw [g0, e110]; exact L0.S S2 q5, by rw [x0, y0], by rw [d0, e0]⟩
  refine ⟨LX.gen (h := h) ⟨r1, r2, r3, r4, r5, r6⟩ key.1 (fun c x y j => (c1 c x y j).trans (a1 c x y j)) (fun j => (c2 j).trans (a2 j)) (fun j => (c3 j).trans (a3 j)) (by rw [u1, u2, t1, t2, r4]) ?_ (by rw [f0, key.2.2]), key.2.1⟩
  rw [f0, S1 0 15 o4, S2 108 6 q4, e108, r5]
theorem LX.feed {h h1 h2 : m_H} {cs cs' : List Nat} {ss ss' : List (Nat × Nat)} {v1 v2 v3 v4 v5 : Int} (R : LX h) (T : h 35 1 = h 108 8) (S1 : FR cs ss h h1) (S2 : FR cs' ss' h1 h2) (A : h1 36 = (if h 35 1 ≤ 380 then tp20 (h 36) (h 35 1) v1 v2 v3 v4 v5 else h 36)) (B : h2 113 = (if h1 108 8 ≤ 380 then tp20 (h1 113) (h1 108 8) v1 v2 v3 v4 v5 else h1 113)) (o1 : fzI cs ss = true) (o2 : out 108 113 cs ss = true) (o3 : fzB cs ss = true) (o4 : out 1 8 cs ss = true) (q1 : fzI cs' ss' = true) (q2 : out 36 36 cs' ss' = true) (q3 : fzB cs' ss' = true) (q4 : out 1 8 cs' ss' = true) (q5 : out 110 110 cs' ss' = true) : LX h2 := by
  obtain ⟨a1, a2, a3⟩ := fzI_1 o1 S1
  obtain ⟨b1, b2, b3, b4⟩ := fzB_1 o3 S1
  obtain ⟨c1, c2, c3⟩ := fzI_1 q1 S2
  obtain ⟨v1', v2', v3', v4'⟩ := fzB_1 q3 S2
  obtain ⟨r1, r2, r3, r4, r5, r6⟩ := R
  have e113 : h1 113 = h 113 := rowz S1 (fr_out o2 (by decide) (by decide))
  have e108 : h1 108 8 = h 108 8 := S1 _ _ (fr_out o2 (by decide) (by decide) 8)
  have e110 : h2 110 = h 110 := (rowz S2 (fr_out q5 (by decide) (by decide))).trans (rowz S1 (fr_out o2 (by decide) (by decide)))
  have e36 : h2 36 = h1 36 := rowz S2 (fr_out q2 (by decide) (by decide))
  exact LX.gen (h := h) ⟨r1, r2, r3, r4, r5, r6⟩ (by rw [e110]; exact (r2.S S1 o4).S S2 q4) (fun c x y j => (c1 c x y j).trans (a1 c x y j)) (fun j => (c2 j).trans (a2 j)) (fun j => (c3 j).trans (a3 j)) (by rw [e36, A, B, e113, e108, ← T, r4]) (by rw [v1', v3', b1, b3, r5]) (by rw [v2', v4', b2, b4, r6])
theorem LX.image {h h1 h2 : m_H} {cs cs' : List Nat} {ss ss' : List (Nat × Nat)} {a1 x y : Int} (R : LX h) (S1 : FR cs ss h h1) (S2 : FR cs' ss' h1 h2) (A : imQ 34 a1 x h h1) (A2 : imC a1 h h1) (B : imQ 112 a1 y h1 h2) (B2 : imM a1 h1 h2) (o1 : out 1 8 cs ss = true) (o2 : fzT cs ss = true) (o3 : fzB cs ss = true) (o4 : out 110 112 cs ss = true) (q1 : out 1 8 cs' ss' = true) (q2 : fzT cs' ss' = true) (q3 : fzB cs' ss' = true) (q4 : out 18 34 cs' ss' = true) (q5 : out 110 110 cs' ss' = true) : LX h2 ∧ x = y := by
  obtain ⟨t1, t2⟩ := fzT_1 o2 S1
  obtain ⟨b1, b2, b3, b4⟩ := fzB_1 o3 S1
  obtain ⟨u1, u2⟩ := fzT_1 q2 S2
  obtain ⟨v1, v2, v3, v4⟩ := fzB_1 q3 S2
  obtain ⟨r1, r2, r3, r4, r5, r6⟩ := R
  have k2 := imKP r1 A B (fun j => S1 _ _ (fr_out o4 (by decide) (by decide) j)) (fun j => S2 _ _ (fr_out q4 (by decide) (by decide) j))
  have f34 : ∀ c, 18 ≤ c → c ≤ 34 → ∀ j, h2 c j = h1 c j := fun c u v j => S2 _ _ (fr_out q4 u v j)
  have g110 : h1 110 = h 110 := rowz S1 (fr_out o4 (by decide) (by decide))
  have g111 : ∀ j, h1 111 j = h 111 j := fun j => S1 _ _ (fr_out o4 (by decide) (by decide) j)
  have f110 : h2 110 = h 110 := (rowz S2 (fr_out q5 (by decide) (by decide))).trans g110
  refine ⟨⟨k2.1, by rw [f110]; exact (r2.S S1 o1).S S2 q1, fun k hk hn => ?_, by rw [u1, u2, t1, t2, r4], by rw [v1, v3, b1, b3, r5], by rw [v2, v4, b2, b4, r6]⟩, k2.2⟩
  by_cases w : (k : Int) = a1
  · have hk2 : a1.toNat = k := by omega
    have l := A2.1 (by omega) (by omega)
    have m := B2.1 (by omega) (by omega)
    rw [hk2] at l m
    refine LR.same (r := h 110) (LR.copy r2 l) (fun i hi j => f34 _ (by omega) (by omega) j) (fun j hj => ?_)
    rw [m j hj, g110]
  · have l := A2.2 k hk w
    have m := B2.2 k hk w
    have hn1 : h 34 k ≠ 0 := by
      rw [f34 34 (by decide) (by decide)] at hn
      rcases A with ⟨_, _, e⟩ | ⟨_, _, _, _, e⟩
      · rw [e] at hn; exact hn
      · rw [e k (by omega)] at hn; exact hn
    refine LR.same (r3 k hk hn1) (fun i hi j => (f34 _ (by omega) (by omega) j).trans (l i hi j)) (fun j hj => ?_)
    show h2 111 _ = _
    rw [m j hj, g111]
theorem LX.back {h h1 h2 : m_H} {cs cs' : List Nat} {ss ss' : List (Nat × Nat)} {a1 x y : Int} (R : LX h) (S1 : FR cs ss h h1) (S2 : FR cs' ss' h1 h2) (A : bkQ 34 a1 x h) (A2 : bkC a1 x h h1) (B : bkQ 112 a1 y h1) (B2 : bkM a1 y h1 h2) (o1 : fzI cs ss = true) (o2 : fzT cs ss = true) (o3 : fzB cs ss = true) (o4 : out 110 112 cs ss = true) (q1 : fzI cs' ss' = true) (q2 : fzT cs' ss' = true) (q3 : fzB cs' ss' = true) (q4 : out 1 8 cs' ss' = true) : LX h2 ∧ x = y := by
  have e := bkE R.1 A B (fun j => S1 _ _ (fr_out o4 (by decide) (by decide) j))
  have g110 : ∀ c, 110 ≤ c → c ≤ 112 → ∀ j, h1 c j = h c j := fun c u v j => S1 _ _ (fr_out o4 u v j)
  obtain ⟨r1, r2, r3, r4, r5, r6⟩ := R
  refine ⟨LX.mut (h := h) ⟨r1, r2, r3, r4, r5, r6⟩ S1 S2 ?_ o1 o2 o3 q1 q2 q3, e⟩
  by_cases w : x = 0
  · obtain ⟨a, b, c⟩ := A2.1 w
    obtain ⟨_, _, d⟩ := B2.1 (by omega)
    have hn : h 34 a1.toNat ≠ 0 := by
      rcases A with ⟨_, q⟩ | ⟨_, _, _, q⟩ | ⟨_, _, q, _⟩
      · omega
      · omega
      · exact q
    refine LR.S ?_ S2 q4
    refine LR.same (LR.copy (r3 a1.toNat (by omega) hn) c) (fun _ _ _ => rfl) (fun j hj => ?_)
    rw [d j hj, g110 111 (by decide) (by decide)]
  · have l := A2.2 w
    refine LR.S ?_ S2 q4
    refine LR.same r2 (fun i hi j => l i hi j) (fun j _ => ?_)
    rw [B2.2 (by omega), g110 110 (by decide) (by decide)]
/-! the start: an empty ledger is an empty row -/
theorem LR_0 {h : m_H} {r : Nat → Int} (hr : ∀ j, r j = rwF 32 6 16 j) (k : ∀ j, j < 32 → h 2 j = (-1)) (c : ∀ j, j < 6 → h 3 j = (-1)) (w : ∀ j, j < 16 → h 8 j = 100) (n : h 1 7 = 0) (cb : h 1 8 = 0) (sb : h 1 9 = 0) : LR 1 h r := by
  have r0 : r 0 = 0 := (hr 0).trans rfl
  have r1 : r 1 = 0 := (hr 1).trans rfl
  have b0 : ∀ e, bt 0 e = false := fun e => by
    have z := bt_div (x := 0) (by decide) (p := e)
    rw [Nat.zero_div] at z
    exact z
  refine ⟨⟨by omega, by omega, by omega, by omega⟩, fun j hj => ?_, fun j hj => ?_, fun j hj => ?_, by rw [r0]; exact n, fun e he => by omega, fun e he => ?_, ?_⟩
  · rw [hr]; unfold rwF; rw [if_pos (by omega)]; exact k j hj
  · rw [hr]; unfold rwF; rw [if_neg (by omega), if_pos (by omega)]; exact c j hj
  · rw [hr]; unfold rwF; rw [if_neg (by omega), if_neg (by omega), if_pos (by omega)]; exact w j hj
  · rw [cb, b0]
    exact ⟨fun z => absurd z (by decide), fun z => by have := z.1; omega⟩
  · rw [sb]
    refine ⟨Int.le_refl _, by decide, ?_, fun p hp => ?_⟩
    · rw [r1]; decide
    · rw [b0]
      exact ⟨fun z => absurd z (by decide), fun ⟨k', z, _⟩ => by omega⟩
/-! of, exact in both -/
def lnV (c t w : Int) : Int := if c = -1 ∨ w < c then t else t + 6
abbrev P_X4_lengthIn2 (h0 : m_H) (L : Nat) (a1 a2 : Int) : Int → m_H → Prop := fun x h' => GI h' ∧ FR [] [] h0 h' ∧ 0 ≤ x ∧ x ≤ 11 ∧ lnV (h0 (L + 2) a1.toNat) a1 a2 = x
set_option maxHeartbeats 4000000 in
set_option maxRecDepth 100000 in
theorem c_X4_lengthIn2 (h0 : m_H) (L : Nat) (a1 a2 : Int) (hL : isL L) (G0 : GI h0) (pa1 : 0 ≤ a1 ∧ a1 ≤ 5) : m_CI M_X4_lengthIn [mR L, mI a1, mI a2] h0 (P_X4_lengthIn2 h0 L a1 a2) := by
  refine m_CI_of ⟨by decide, rfl, by simp [m_arg, m_isL, M_X4_lengthIn], ⟨rfl, rfl⟩, rfl, rfl⟩ (ls := [some (mR L), some (mI a1), some (mI a2), none]) rfl ?_
  refine z_ok (fun _ _ ok => ?_)
  have oa2 : m_32 a2 := ok 2 _ rfl
  unfold m_32 at oa2
  refine z_aload_n (M := M_X4_lengthIn) 0 dX4_lengthIn_0 rfl ?_
  refine z_getR (M := M_X4_lengthIn) 1 dX4_lengthIn_1 f_X4_15 (oL hL) rfl (rL_1 hL G0) ?_
  refine z_iload_n (M := M_X4_lengthIn) 4 dX4_lengthIn_4 rfl ?_
  refine z_ialdG (M := M_X4_lengthIn) 5 dX4_lengthIn_5 (oL_2 hL) (by omega) (by omega) (gL_2 hL G0 (by omega)) (fun x1 ex1 ax1 bx1 => ?_)
  refine z_istore_n (M := M_X4_lengthIn) 6 dX4_lengthIn_6 (ls' := [some (mR L), some (mI a1), some (mI a2), some (mI x1)]) (by decide) rfl ?_
  refine z_iload_n (M := M_X4_lengthIn) 7 dX4_lengthIn_7 rfl ?_
  refine z_iconst (M := M_X4_lengthIn) 8 dX4_lengthIn_8 ?_
  refine z_icmp_eq (M := M_X4_lengthIn) 9 dX4_lengthIn_9 24 rfl (fun c2 => ?_) (fun c2 => ?_)
  · refine z_iload_n (M := M_X4_lengthIn) 24 dX4_lengthIn_24 rfl ?_
    exact z_retI (M := M_X4_lengthIn) 25 dX4_lengthIn_25 rfl ⟨G0, (FR.rf (cs := []) (ss := []) (h := h0)), by omega, by omega, by rw [ex1]; unfold lnV; rw [if_pos (by omega)]⟩
  · refine z_iload_n (M := M_X4_lengthIn) 12 dX4_lengthIn_12 rfl ?_
    refine z_iload_n (M := M_X4_lengthIn) 13 dX4_lengthIn_13 rfl ?_
    refine z_icmp_lt (M := M_X4_lengthIn) 14 dX4_lengthIn_14 24 rfl (fun c3 => ?_) (fun c3 => ?_)
    · refine z_iload_n (M := M_X4_lengthIn) 24 dX4_lengthIn_24 rfl ?_
      exact z_retI (M := M_X4_lengthIn) 25 dX4_lengthIn_25 rfl ⟨G0, (FR.rf (cs := []) (ss := []) (h := h0)), by omega, by omega, by rw [ex1]; unfold lnV; rw [if_pos (by omega)]⟩
    · refine z_iload_n (M := M_X4_lengthIn) 17 dX4_lengthIn_17 rfl ?_
      refine z_bipush (M := M_X4_lengthIn) 18 dX4_lengthIn_18 ?_
      refine z_iaddN (M := M_X4_lengthIn) 20 dX4_lengthIn_20 (by omega) (by omega) ?_
      refine z_goto (M := M_X4_lengthIn) 21 dX4_lengthIn_21 25 rfl ?_
      exact z_retI (M := M_X4_lengthIn) 25 dX4_lengthIn_25 rfl ⟨G0, (FR.rf (cs := []) (ss := []) (h := h0)), by omega, by omega, by rw [ex1]; unfold lnV; rw [if_neg (by omega)]⟩
abbrev P_X4_lengthOf2 (h0 : m_H) (L : Nat) (a1 : Int) : Int → m_H → Prop := fun x h' => GI h' ∧ FR [] [] h0 h' ∧ 0 ≤ x ∧ x ≤ 11 ∧ lnV (h0 (L + 2) (h0 (L + 3) a1.toNat).toNat) (h0 (L + 3) a1.toNat) (h0 (L + 4) a1.toNat) = x
set_option maxHeartbeats 4000000 in
set_option maxRecDepth 100000 in
theorem c_X4_lengthOf2 (h0 : m_H) (L : Nat) (a1 : Int) (hL : isL L) (G0 : GI h0) (pa1 : 0 ≤ a1 ∧ a1 ≤ 23) : m_CI M_X4_lengthOf [mR L, mI a1] h0 (P_X4_lengthOf2 h0 L a1) := by
  refine m_CI_of ⟨by decide, rfl, by simp [m_arg, m_isL, M_X4_lengthOf], ⟨rfl, rfl⟩, rfl, rfl⟩ (ls := [some (mR L), some (mI a1)]) rfl ?_
  refine z_aload_n (M := M_X4_lengthOf) 0 dX4_lengthOf_0 rfl ?_
  refine z_aload_n (M := M_X4_lengthOf) 1 dX4_lengthOf_1 rfl ?_
  refine z_getR (M := M_X4_lengthOf) 2 dX4_lengthOf_2 f_X4_18 (oL hL) rfl (rL_2 hL G0) ?_
  refine z_iload_n (M := M_X4_lengthOf) 5 dX4_lengthOf_5 rfl ?_
  refine z_ialdG (M := M_X4_lengthOf) 6 dX4_lengthOf_6 (oL_3 hL) (by omega) (by omega) (gL_3 hL G0 (by omega)) (fun x1 ex1 ax1 bx1 => ?_)
  refine z_aload_n (M := M_X4_lengthOf) 7 dX4_lengthOf_7 rfl ?_
  refine z_getR (M := M_X4_lengthOf) 8 dX4_lengthOf_8 f_X4_21 (oL hL) rfl (rL_3 hL G0) ?_
  refine z_iload_n (M := M_X4_lengthOf) 11 dX4_lengthOf_11 rfl ?_
  refine z_ialdG (M := M_X4_lengthOf) 12 dX4_lengthOf_12 (oL_4 hL) (by omega) (by omega) (gL_4 hL G0 (by omega)) (fun x2 ex2 ax2 bx2 => ?_)
  refine z_vI (M := M_X4_lengthOf) 13 dX4_lengthOf_13 t_X4_lengthIn l_X4_77 (m_rr_of rfl) (rest := []) (c_X4_lengthIn2 h0 L x1 x2 hL G0 ⟨by omega, by omega⟩) (oL hL) rfl rfl rfl (Nat.le_of_ble_eq_true rfl) ⟨rfl, rfl⟩ (fun x3 h1 qx3 => ?_)
  obtain ⟨G1, S1, ax3, bx3, fx3⟩ := qx3
  have R1 := (FR.rf (cs := []) (ss := []) (h := h0)).call S1 (by decide +kernel)
  exact z_retI (M := M_X4_lengthOf) 16 dX4_lengthOf_16 rfl ⟨G1, R1, by omega, by omega, by rw [ex1, ex2]; exact fx3⟩
abbrev P_X4_isCounting2 (h0 : m_H) (L : Nat) (a1 : Int) : Int → m_H → Prop := fun x h' => GI h' ∧ FR [] [] h0 h' ∧ 0 ≤ x ∧ x ≤ 1 ∧ (x = 1 ↔ m_and (m_shr (h0 L 8) a1) 1 = 1)
set_option maxHeartbeats 4000000 in
set_option maxRecDepth 100000 in
theorem c_X4_isCounting2 (h0 : m_H) (L : Nat) (a1 : Int) (hL : isL L) (G0 : GI h0) : m_CI M_X4_isCounting [mR L, mI a1] h0 (P_X4_isCounting2 h0 L a1) := by
  refine m_CI_of ⟨by decide, rfl, by simp [m_arg, m_isL, M_X4_isCounting], ⟨rfl, rfl⟩, rfl, rfl⟩ (ls := [some (mR L), some (mI a1)]) rfl ?_
  refine z_ok (fun _ _ ok => ?_)
  have oa1 : m_32 a1 := ok 1 _ rfl
  unfold m_32 at oa1
  refine z_aload_n (M := M_X4_isCounting) 0 dX4_isCounting_0 rfl ?_
  refine z_getIV (M := M_X4_isCounting) 1 dX4_isCounting_1 f_X4_49 (oL hL) (by decide) (fun x1 ex1 => ?_)
  refine z_ok (fun ox1 _ _ => ?_)
  have ox1 := ox1.1; unfold m_ok m_32 at ox1
  refine z_iload_n (M := M_X4_isCounting) 4 dX4_isCounting_4 rfl ?_
  refine z_nI (M := M_X4_isCounting) 5 dX4_isCounting_5 t_X11_hasBit l_X4_59 (m_rr_of rfl) (rest := []) (c_X11_hasBit h0 x1 a1 G0) rfl rfl (Nat.le_of_ble_eq_true rfl) ⟨rfl, rfl⟩ (fun x2 h1 qx2 => ?_)
  obtain ⟨rfl, ⟨rfl, cx2⟩ | ⟨rfl, cx2⟩⟩ := qx2
  · exact z_retZ (M := M_X4_isCounting) 8 dX4_isCounting_8 rfl (by omega) ⟨G0, (FR.rf (cs := []) (ss := []) (h := h0)), by omega, by omega, by rw [ex1]; exact ⟨fun _ => cx2, fun _ => rfl⟩⟩
  · exact z_retZ (M := M_X4_isCounting) 8 dX4_isCounting_8 rfl (by omega) ⟨G0, (FR.rf (cs := []) (ss := []) (h := h0)), by omega, by omega, by rw [ex1]; exact ⟨fun z => absurd z (by decide), fun z => absurd z cx2⟩⟩
noncomputable def ofC (h : m_H) (e w : Int) : Int := cif (0 ≤ e ∧ e < h 1 7) (if w = 0 then h 4 e.toNat else if w = 1 then h 5 e.toNat else if w = 2 then h 6 e.toNat else if w = 3 then h 7 e.toNat else if w = 4 then cif (m_and (m_shr (h 1 8) e) 1 = 1) 1 0 else if w = 5 then lnV (h 3 (h 4 e.toNat).toNat) (h 4 e.toNat) (h 5 e.toNat) else -1) (-1)
noncomputable def ofM (r : Nat → Int) (e w : Int) : Int := cif (0 ≤ e ∧ e < r 0) (if w = 5 then lnV (r (42 + r (5 * e.toNat + 80)).toNat) (r (5 * e.toNat + 80)) (r (5 * e.toNat + 81)) else if 0 ≤ w ∧ w ≤ 4 then r (80 + 5 * e + w).toNat else -1) (-1)
abbrev P_X11_of3 (h0 : m_H) (a1 a2 : Int) : Int → m_H → Prop := fun x h' => GI h' ∧ FR [] [] h0 h' ∧ (-1) ≤ x ∧ x ≤ 99 ∧ ofC h0 a1 a2 = x
set_option maxHeartbeats 4000000 in
set_option maxRecDepth 100000 in
theorem c_X11_of3 (h0 : m_H) (a1 a2 : Int) (G0 : GI h0) : m_CI M_X11_of [mR 0, mI a1, mI a2] h0 (P_X11_of3 h0 a1 a2) := by
  refine m_CI_of ⟨by decide, rfl, by simp [m_arg, m_isL, M_X11_of], ⟨rfl, rfl⟩, rfl, rfl⟩ (ls := [some (mR 0), some (mI a1), some (mI a2)]) rfl ?_
  refine z_ok (fun _ _ ok => ?_)
  have oa1 : m_32 a1 := ok 1 _ rfl
  unfold m_32 at oa1
  have oa2 : m_32 a2 := ok 2 _ rfl
  unfold m_32 at oa2
  refine z_iload_n (M := M_X11_of) 0 dX11_of_0 rfl ?_
  refine z_iconst (M := M_X11_of) 1 dX11_of_1 ?_
  refine z_aload_n (M := M_X11_of) 2 dX11_of_2 rfl ?_
  refine z_getR (M := M_X11_of) 3 dX11_of_3 f_X11_12 o_0 rfl (g_0_0 G0) ?_
  refine z_getIG (M := M_X11_of) 6 dX11_of_6 f_X11_162 o_1 (by decide) (g_1_7 G0) (fun x1 ex1 ax1 bx1 => ?_)
  refine z_iconst (M := M_X11_of) 9 dX11_of_9 ?_
  refine z_isubN (M := M_X11_of) 10 dX11_of_10 (by omega) (by omega) ?_
  refine z_sI (M := M_X11_of) 11 dX11_of_11 t_X11_within l_X11_112 (m_rr_of rfl) (rest := []) (c_X11_within h0 a1 0 (x1 - 1) G0) rfl rfl (Nat.le_of_ble_eq_true rfl) ⟨rfl, rfl⟩ (fun x2 h1 qx2 => ?_)
  obtain ⟨rfl, ⟨rfl, cx2⟩ | ⟨rfl, cx2⟩⟩ := qx2
  · refine z_if_ne_T (M := M_X11_of) 14 dX11_of_14 19 rfl (by omega) ?_
    refine z_iload_n (M := M_X11_of) 19 dX11_of_19 rfl ?_
    by_cases c3 : a2 = 0 ∨ a2 = 1 ∨ a2 = 2 ∨ a2 = 3 ∨ a2 = 4 ∨ a2 = 5
    · rcases c3 with c3_0 | c3_1 | c3_2 | c3_3 | c3_4 | c3_5
      · refine z_tabIn (M := M_X11_of) 20 dX11_of_20 (off := 40) 60 (by omega) (by omega) (by rw [c3_0]; rfl) rfl ?_
        refine z_aload_n (M := M_X11_of) 60 dX11_of_60 rfl ?_
        refine z_getR (M := M_X11_of) 61 dX11_of_61 f_X11_12 o_0 rfl (g_0_0 G0) ?_
        refine z_getR (M := M_X11_of) 64 dX11_of_64 f_X11_172 o_1 rfl (g_1_2 G0) ?_
        refine z_iload_n (M := M_X11_of) 67 dX11_of_67 rfl ?_
        refine z_ialdG (M := M_X11_of) 68 dX11_of_68 o_4 (by omega) (by omega) (g_4 G0 (by omega)) (fun x4 ex4 ax4 bx4 => ?_)
        exact z_retI (M := M_X11_of) 69 dX11_of_69 rfl ⟨G0, (FR.rf (cs := []) (ss := []) (h := h0)), by omega, by omega, by unfold ofC; rw [cif_pos (by omega), if_pos c3_0]; exact ex4⟩
      · refine z_tabIn (M := M_X11_of) 20 dX11_of_20 (off := 50) 70 (by omega) (by omega) (by rw [c3_1]; rfl) rfl ?_
        refine z_aload_n (M := M_X11_of) 70 dX11_of_70 rfl ?_
        refine z_getR (M := M_X11_of) 71 dX11_of_71 f_X11_12 o_0 rfl (g_0_0 G0) ?_
        refine z_getR (M := M_X11_of) 74 dX11_of_74 f_X11_175 o_1 rfl (g_1_3 G0) ?_
        refine z_iload_n (M := M_X11_of) 77 dX11_of_77 rfl ?_
        refine z_ialdG (M := M_X11_of) 78 dX11_of_78 o_5 (by omega) (by omega) (g_5 G0 (by omega)) (fun x5 ex5 ax5 bx5 => ?_)
        exact z_retI (M := M_X11_of) 79 dX11_of_79 rfl ⟨G0, (FR.rf (cs := []) (ss := []) (h := h0)), by omega, by omega, by unfold ofC; rw [cif_pos (by omega), if_neg (by omega), if_pos c3_1]; exact ex5⟩
      · refine z_tabIn (M := M_X11_of) 20 dX11_of_20 (off := 60) 80 (by omega) (by omega) (by rw [c3_2]; rfl) rfl ?_
        refine z_aload_n (M := M_X11_of) 80 dX11_of_80 rfl ?_
        refine z_getR (M := M_X11_of) 81 dX11_of_81 f_X11_12 o_0 rfl (g_0_0 G0) ?_
        refine z_getR (M := M_X11_of) 84 dX11_of_84 f_X11_178 o_1 rfl (g_1_4 G0) ?_
        refine z_iload_n (M := M_X11_of) 87 dX11_of_87 rfl ?_
        refine z_ialdG (M := M_X11_of) 88 dX11_of_88 o_6 (by omega) (by omega) (g_6 G0 (by omega)) (fun x6 ex6 ax6 bx6 => ?_)
        exact z_retI (M := M_X11_of) 89 dX11_of_89 rfl ⟨G0, (FR.rf (cs := []) (ss := []) (h := h0)), by omega, by omega, by unfold ofC; rw [cif_pos (by omega), if_neg (by omega), if_neg (by omega), if_pos c3_2]; exact ex6⟩
      · refine z_tabIn (M := M_X11_of) 20 dX11_of_20 (off := 70) 90 (by omega) (by omega) (by rw [c3_3]; rfl) rfl ?_
        refine z_aload_n (M := M_X11_of) 90 dX11_of_90 rfl ?_
        refine z_getR (M := M_X11_of) 91 dX11_of_91 f_X11_12 o_0 rfl (g_0_0 G0) ?_
        refine z_getR (M := M_X11_of) 94 dX11_of_94 f_X11_181 o_1 rfl (g_1_5 G0) ?_
        refine z_iload_n (M := M_X11_of) 97 dX11_of_97 rfl ?_
        refine z_ialdG (M := M_X11_of) 98 dX11_of_98 o_7 (by omega) (by omega) (g_7 G0 (by omega)) (fun x7 ex7 ax7 bx7 => ?_)
        exact z_retI (M := M_X11_of) 99 dX11_of_99 rfl ⟨G0, (FR.rf (cs := []) (ss := []) (h := h0)), by omega, by omega, by unfold ofC; rw [cif_pos (by omega), if_neg (by omega), if_neg (by omega), if_neg (by omega), if_pos c3_3]; exact ex7⟩
      · refine z_tabIn (M := M_X11_of) 20 dX11_of_20 (off := 80) 100 (by omega) (by omega) (by rw [c3_4]; rfl) rfl ?_
        refine z_aload_n (M := M_X11_of) 100 dX11_of_100 rfl ?_
        refine z_getR (M := M_X11_of) 101 dX11_of_101 f_X11_12 o_0 rfl (g_0_0 G0) ?_
        refine z_iload_n (M := M_X11_of) 104 dX11_of_104 rfl ?_
        refine z_vI (M := M_X11_of) 105 dX11_of_105 t_X4_isCounting l_X11_165 (m_rr_of rfl) (rest := []) (c_X4_isCounting2 h0 1 a1 (Or.inl rfl) G0) o_1 rfl rfl rfl (Nat.le_of_ble_eq_true rfl) ⟨rfl, rfl⟩ (fun x8 h2 qx8 => ?_)
        obtain ⟨G2, S2, ax8, bx8, fx8⟩ := qx8
        have R2 := (FR.rf (cs := []) (ss := []) (h := h0)).call S2 (by decide +kernel)
        refine z_if_eq (M := M_X11_of) 108 dX11_of_108 115 rfl (fun c9 => ?_) (fun c9 => ?_)
        · refine z_iconst (M := M_X11_of) 115 dX11_of_115 ?_
          exact z_retI (M := M_X11_of) 116 dX11_of_116 rfl ⟨G2, R2, by omega, by omega, by unfold ofC; rw [cif_pos (by omega), if_neg (by omega), if_neg (by omega), if_neg (by omega), if_neg (by omega), if_pos c3_4, cif_neg (fun z => by have := fx8.mpr z; omega)]⟩
        · refine z_iconst (M := M_X11_of) 111 dX11_of_111 ?_
          refine z_goto (M := M_X11_of) 112 dX11_of_112 116 rfl ?_
          exact z_retI (M := M_X11_of) 116 dX11_of_116 rfl ⟨G2, R2, by omega, by omega, by unfold ofC; rw [cif_pos (by omega), if_neg (by omega), if_neg (by omega), if_neg (by omega), if_neg (by omega), if_pos c3_4, cif_pos (fx8.mp (by omega))]⟩
      · refine z_tabIn (M := M_X11_of) 20 dX11_of_20 (off := 97) 117 (by omega) (by omega) (by rw [c3_5]; rfl) rfl ?_
        refine z_aload_n (M := M_X11_of) 117 dX11_of_117 rfl ?_
        refine z_getR (M := M_X11_of) 118 dX11_of_118 f_X11_12 o_0 rfl (g_0_0 G0) ?_
        refine z_iload_n (M := M_X11_of) 121 dX11_of_121 rfl ?_
        refine z_vI (M := M_X11_of) 122 dX11_of_122 t_X4_lengthOf l_X11_184 (m_rr_of rfl) (rest := []) (c_X4_lengthOf2 h0 1 a1 (Or.inl rfl) G0 ⟨by omega, by omega⟩) o_1 rfl rfl rfl (Nat.le_of_ble_eq_true rfl) ⟨rfl, rfl⟩ (fun x10 h3 qx10 => ?_)
        obtain ⟨G3, S3, ax10, bx10, fx10⟩ := qx10
        have R3 := (FR.rf (cs := []) (ss := []) (h := h0)).call S3 (by decide +kernel)
        exact z_retI (M := M_X11_of) 125 dX11_of_125 rfl ⟨G3, R3, by omega, by omega, by unfold ofC; rw [cif_pos (by omega), if_neg (by omega), if_neg (by omega), if_neg (by omega), if_neg (by omega), if_neg (by omega), if_pos c3_5]; exact fx10⟩
    · refine z_tabOut (M := M_X11_of) 20 dX11_of_20 126 (by omega) rfl ?_
      refine z_iconst (M := M_X11_of) 126 dX11_of_126 ?_
      exact z_retI (M := M_X11_of) 127 dX11_of_127 rfl ⟨G0, (FR.rf (cs := []) (ss := []) (h := h0)), by omega, by omega, by unfold ofC; rw [cif_pos (by omega), if_neg (by omega), if_neg (by omega), if_neg (by omega), if_neg (by omega), if_neg (by omega), if_neg (by omega)]⟩
  · refine z_if_ne_F (M := M_X11_of) 14 dX11_of_14 19 rfl (by omega) ?_
    refine z_iconst (M := M_X11_of) 17 dX11_of_17 ?_
    exact z_retI (M := M_X11_of) 18 dX11_of_18 rfl ⟨G0, (FR.rf (cs := []) (ss := []) (h := h0)), by omega, by omega, by unfold ofC; rw [cif_neg (by omega)]⟩
abbrev P_X12_lengthOf2 (h0 : m_H) (a1 : Int) : Int → m_H → Prop := fun x h' => GI h' ∧ FR [] [] h0 h' ∧ 0 ≤ x ∧ x ≤ 11 ∧ lnV (h0 110 (42 + h0 110 (5 * a1.toNat + 80)).toNat) (h0 110 (5 * a1.toNat + 80)) (h0 110 (5 * a1.toNat + 81)) = x
set_option maxHeartbeats 4000000 in
set_option maxRecDepth 100000 in
theorem c_X12_lengthOf2 (h0 : m_H) (a1 : Int) (G0 : GI h0) (pa1 : 0 ≤ a1 ∧ a1 ≤ 23) : m_CI M_X12_lengthOf [mR 108, mI a1] h0 (P_X12_lengthOf2 h0 a1) := by
  refine m_CI_of ⟨by decide, rfl, by simp [m_arg, m_isL, M_X12_lengthOf], ⟨rfl, rfl⟩, rfl, rfl⟩ (ls := [some (mR 108), some (mI a1), none]) rfl ?_
  refine z_aload_n (M := M_X12_lengthOf) 0 dX12_lengthOf_0 rfl ?_
  refine z_iload_n (M := M_X12_lengthOf) 1 dX12_lengthOf_1 rfl ?_
  refine z_iconst (M := M_X12_lengthOf) 2 dX12_lengthOf_2 ?_
  refine z_vI (M := M_X12_lengthOf) 3 dX12_lengthOf_3 t_X12_ofEntry l_X12_195 (m_rr_of rfl) (rest := []) (c_X12_ofEntry h0 a1 0 G0 ⟨by omega, by omega⟩ ⟨by omega, by omega⟩) o_108 rfl rfl rfl (Nat.le_of_ble_eq_true rfl) ⟨rfl, rfl⟩ (fun x1 h1 qx1 => ?_)
  obtain ⟨rfl, fx1⟩ := qx1
  have gx1 := gw_e0 G0 (i := (80 + 5 * a1 + 0)) (e := a1) (by omega) (by omega) (by omega)
  rw [fx1] at gx1
  have kx1 : h0 110 (5 * a1.toNat + 80) = x1 := by rw [← fx1, show (80 + 5 * a1 + 0).toNat = 5 * a1.toNat + 80 by omega]
  refine z_istore_n (M := M_X12_lengthOf) 6 dX12_lengthOf_6 (ls' := [some (mR 108), some (mI a1), some (mI x1)]) (by decide) rfl ?_
  refine z_aload_n (M := M_X12_lengthOf) 7 dX12_lengthOf_7 rfl ?_
  refine z_getR (M := M_X12_lengthOf) 8 dX12_lengthOf_8 f_X12_13 o_108 rfl (g_108_3 G0) ?_
  refine z_bipush (M := M_X12_lengthOf) 11 dX12_lengthOf_11 ?_
  refine z_iload_n (M := M_X12_lengthOf) 13 dX12_lengthOf_13 rfl ?_
  refine z_iaddN (M := M_X12_lengthOf) 14 dX12_lengthOf_14 (by omega) (by omega) ?_
  refine z_ialdG (M := M_X12_lengthOf) 15 dX12_lengthOf_15 o_110 (by omega) (by omega) (gw_c G0 (by omega) (by omega)) (fun x2 ex2 ax2 bx2 => ?_)
  refine z_iconst (M := M_X12_lengthOf) 16 dX12_lengthOf_16 ?_
  refine z_icmp_eq (M := M_X12_lengthOf) 17 dX12_lengthOf_17 45 rfl (fun c3 => ?_) (fun c3 => ?_)
  · refine z_iload_n (M := M_X12_lengthOf) 45 dX12_lengthOf_45 rfl ?_
    exact z_retI (M := M_X12_lengthOf) 46 dX12_lengthOf_46 rfl ⟨G0, (FR.rf (cs := []) (ss := []) (h := h0)), by omega, by omega, by rw [kx1, ex2]; unfold lnV; rw [if_pos (by omega)]⟩
  · refine z_aload_n (M := M_X12_lengthOf) 20 dX12_lengthOf_20 rfl ?_
    refine z_iload_n (M := M_X12_lengthOf) 21 dX12_lengthOf_21 rfl ?_
    refine z_iconst (M := M_X12_lengthOf) 22 dX12_lengthOf_22 ?_
    refine z_vI (M := M_X12_lengthOf) 23 dX12_lengthOf_23 t_X12_ofEntry l_X12_195 (m_rr_of rfl) (rest := []) (c_X12_ofEntry h0 a1 1 G0 ⟨by omega, by omega⟩ ⟨by omega, by omega⟩) o_108 rfl rfl rfl (Nat.le_of_ble_eq_true rfl) ⟨rfl, rfl⟩ (fun x4 h2 qx4 => ?_)
    obtain ⟨rfl, fx4⟩ := qx4
    have gx4 := gw_e1 G0 (i := (80 + 5 * a1 + 1)) (e := a1) (by omega) (by omega) (by omega)
    rw [fx4] at gx4
    have kx4 : h0 110 (5 * a1.toNat + 81) = x4 := by rw [← fx4, show (80 + 5 * a1 + 1).toNat = 5 * a1.toNat + 81 by omega]
    refine z_aload_n (M := M_X12_lengthOf) 26 dX12_lengthOf_26 rfl ?_
    refine z_getR (M := M_X12_lengthOf) 27 dX12_lengthOf_27 f_X12_13 o_108 rfl (g_108_3 G0) ?_
    refine z_bipush (M := M_X12_lengthOf) 30 dX12_lengthOf_30 ?_
    refine z_iload_n (M := M_X12_lengthOf) 32 dX12_lengthOf_32 rfl ?_
    refine z_iaddN (M := M_X12_lengthOf) 33 dX12_lengthOf_33 (by omega) (by omega) ?_
    refine z_ialdE (M := M_X12_lengthOf) 34 dX12_lengthOf_34 o_110 (by omega) (by omega) ex2 ?_
    refine z_icmp_lt (M := M_X12_lengthOf) 35 dX12_lengthOf_35 45 rfl (fun c5 => ?_) (fun c5 => ?_)
    · refine z_iload_n (M := M_X12_lengthOf) 45 dX12_lengthOf_45 rfl ?_
      exact z_retI (M := M_X12_lengthOf) 46 dX12_lengthOf_46 rfl ⟨G0, (FR.rf (cs := []) (ss := []) (h := h0)), by omega, by omega, by rw [kx1, ex2, kx4]; unfold lnV; rw [if_pos (by omega)]⟩
    · refine z_bipush (M := M_X12_lengthOf) 38 dX12_lengthOf_38 ?_
      refine z_iload_n (M := M_X12_lengthOf) 40 dX12_lengthOf_40 rfl ?_
      refine z_iaddN (M := M_X12_lengthOf) 41 dX12_lengthOf_41 (by omega) (by omega) ?_
      refine z_goto (M := M_X12_lengthOf) 42 dX12_lengthOf_42 46 rfl ?_
      exact z_retI (M := M_X12_lengthOf) 46 dX12_lengthOf_46 rfl ⟨G0, (FR.rf (cs := []) (ss := []) (h := h0)), by omega, by omega, by rw [kx1, ex2, kx4]; unfold lnV; rw [if_neg (by omega)]; omega⟩
abbrev P_X12_of3 (h0 : m_H) (a1 a2 : Int) : Int → m_H → Prop := fun x h' => GI h' ∧ FR [] [(108, 0)] h0 h' ∧ (-1) ≤ x ∧ x ≤ 99 ∧ ofM (h0 110) a1 a2 = x
set_option maxHeartbeats 4000000 in
set_option maxRecDepth 100000 in
theorem c_X12_of3 (h0 : m_H) (a1 a2 : Int) (G0 : GI h0) : m_CI M_X12_of [mR 108, mI a1, mI a2] h0 (P_X12_of3 h0 a1 a2) := by
  refine m_CI_of ⟨by decide, rfl, by simp [m_arg, m_isL, M_X12_of], ⟨rfl, rfl⟩, rfl, rfl⟩ (ls := [some (mR 108), some (mI a1), some (mI a2)]) rfl ?_
  refine z_ok (fun _ _ ok => ?_)
  have oa1 : m_32 a1 := ok 1 _ rfl
  unfold m_32 at oa1
  have oa2 : m_32 a2 := ok 2 _ rfl
  unfold m_32 at oa2
  refine z_aload_n (M := M_X12_of) 0 dX12_of_0 rfl ?_
  refine z_iconst (M := M_X12_of) 1 dX12_of_1 ?_
  refine z_putIH (M := M_X12_of) 2 dX12_of_2 p_X12_133 o_108 rfl (u_108_0 G0) ((FR.rf (cs := []) (ss := [(108, 0)]) (h := h0)).up rfl) (fun h1 E1 G1 R1 => ?_)
  have row_ : h1 110 = h0 110 := tl_r E1 (by decide)
  have q0_ : h1 110 (0 : Int).toNat = h1 110 0 := rfl
  have g0_ := gw_0 G1
  refine z_aload_n (M := M_X12_of) 5 dX12_of_5 rfl ?_
  refine z_iload_n (M := M_X12_of) 6 dX12_of_6 rfl ?_
  refine z_vI (M := M_X12_of) 7 dX12_of_7 t_X12_isEntry l_X12_192 (m_rr_of rfl) (rest := []) (c_X12_isEntry h1 a1 G1) o_108 rfl rfl rfl (Nat.le_of_ble_eq_true rfl) ⟨rfl, rfl⟩ (fun x1 h2 qx1 => ?_)
  obtain ⟨rfl, ⟨rfl, cx1⟩ | ⟨rfl, cx1⟩⟩ := qx1
  · refine z_if_eq_F (M := M_X12_of) 10 dX12_of_10 25 rfl (by omega) ?_
    refine z_iload_n (M := M_X12_of) 13 dX12_of_13 rfl ?_
    refine z_i2l (M := M_X12_of) 14 dX12_of_14 ?_
    refine z_lconst (M := M_X12_of) 15 dX12_of_15 (v := 0) ?_
    refine z_ldc2 (M := M_X12_of) 16 dX12_of_16 k_X12_150 ?_
    refine z_sI (M := M_X12_of) 19 dX12_of_19 t_X12_in l_X12_143 (m_rr_of rfl) (rest := []) (c_X12_in h1 a2 0 5 G1) rfl rfl (Nat.le_of_ble_eq_true rfl) ⟨rfl, rfl⟩ (fun x2 h3 qx2 => ?_)
    obtain ⟨rfl, ⟨rfl, cx2⟩ | ⟨rfl, cx2⟩⟩ := qx2
    · refine z_if_ne_T (M := M_X12_of) 22 dX12_of_22 27 rfl (by omega) ?_
      refine z_iload_n (M := M_X12_of) 27 dX12_of_27 rfl ?_
      refine z_iconst (M := M_X12_of) 28 dX12_of_28 ?_
      refine z_icmp_ne (M := M_X12_of) 29 dX12_of_29 40 rfl (fun c3 => ?_) (fun c3 => ?_)
      · refine z_aload_n (M := M_X12_of) 40 dX12_of_40 rfl ?_
        refine z_iload_n (M := M_X12_of) 41 dX12_of_41 rfl ?_
        refine z_iload_n (M := M_X12_of) 42 dX12_of_42 rfl ?_
        refine z_vI (M := M_X12_of) 43 dX12_of_43 t_X12_ofEntry l_X12_195 (m_rr_of rfl) (rest := []) (c_X12_ofEntry h1 a1 a2 G1 ⟨by omega, by omega⟩ ⟨by omega, by omega⟩) o_108 rfl rfl rfl (Nat.le_of_ble_eq_true rfl) ⟨rfl, rfl⟩ (fun x4 h4 qx4 => ?_)
        obtain ⟨rfl, fx4⟩ := qx4
        have gx4 := gw_e G1 (i := (80 + 5 * a1 + a2)) (by omega) (by omega)
        rw [fx4] at gx4
        exact z_retI (M := M_X12_of) 46 dX12_of_46 rfl ⟨G1, R1, by omega, by omega, by unfold ofM; rw [← row_, cif_pos (by omega), if_neg (by omega), if_pos (by omega)]; exact fx4⟩
      · refine z_aload_n (M := M_X12_of) 32 dX12_of_32 rfl ?_
        refine z_iload_n (M := M_X12_of) 33 dX12_of_33 rfl ?_
        refine z_vI (M := M_X12_of) 34 dX12_of_34 t_X12_lengthOf l_X12_198 (m_rr_of rfl) (rest := []) (c_X12_lengthOf2 h1 a1 G1 ⟨by omega, by omega⟩) o_108 rfl rfl rfl (Nat.le_of_ble_eq_true rfl) ⟨rfl, rfl⟩ (fun x5 h5 qx5 => ?_)
        obtain ⟨G5, S5, ax5, bx5, fx5⟩ := qx5
        have R5 := R1.call S5 (by decide +kernel)
        refine z_goto (M := M_X12_of) 37 dX12_of_37 46 rfl ?_
        exact z_retI (M := M_X12_of) 46 dX12_of_46 rfl ⟨G5, R5, by omega, by omega, by unfold ofM; rw [← row_, cif_pos (by omega), if_pos (by omega)]; exact fx5⟩
    · refine z_if_ne_F (M := M_X12_of) 22 dX12_of_22 27 rfl (by omega) ?_
      refine z_iconst (M := M_X12_of) 25 dX12_of_25 ?_
      exact z_retI (M := M_X12_of) 26 dX12_of_26 rfl ⟨G1, R1, by omega, by omega, by unfold ofM; rw [← row_, cif_pos (by omega), if_neg (by omega), if_neg (by omega)]⟩
  · refine z_if_eq_T (M := M_X12_of) 10 dX12_of_10 25 rfl (by omega) ?_
    refine z_iconst (M := M_X12_of) 25 dX12_of_25 ?_
    exact z_retI (M := M_X12_of) 26 dX12_of_26 rfl ⟨G1, R1, by omega, by omega, by unfold ofM; rw [← row_, cif_neg (by omega)]⟩
theorem of_eq {h : m_H} {e w : Int} (R : LR 1 h (h 110)) (G : GI h) : ofC h e w = ofM (h 110) e w := by
  obtain ⟨b, k, c, wd, n, q, cb, sb⟩ := R
  obtain ⟨b1, b2, b3, b4⟩ := b
  unfold ofC ofM
  by_cases g : 0 ≤ e ∧ e < h 110 0
  · have lt : ((e.toNat : Nat) : Int) < h 110 0 := by omega
    obtain ⟨q1, q2, q3, q4⟩ := q e.toNat lt
    have he : e = ((e.toNat : Nat) : Int) := by omega
    have q1' : h 4 e.toNat = h 110 (5 * e.toNat + 80) := q1
    have q2' : h 5 e.toNat = h 110 (5 * e.toNat + 81) := q2
    have q3' : h 6 e.toNat = h 110 (5 * e.toNat + 82) := q3
    have q4' : h 7 e.toNat = h 110 (5 * e.toNat + 83) := q4
    have gn := gw_n G (e := e.toNat) (by omega)
    have g4 := gw_e4 G (i := 80 + 5 * e + 4) (e := e) rfl (by omega) (by omega)
    have i4 : (80 + 5 * e + 4).toNat = 5 * e.toNat + 84 := by omega
    rw [i4] at g4
    rw [cif_pos (show 0 ≤ e ∧ e < h 1 7 by omega), cif_pos g]
    by_cases w0 : w = 0
    · rw [if_pos w0, if_neg (by omega), if_pos (by omega), q1', show (80 + 5 * e + w).toNat = 5 * e.toNat + 80 by omega]
    by_cases w1 : w = 1
    · rw [if_neg w0, if_pos w1, if_neg (by omega), if_pos (by omega), q2', show (80 + 5 * e + w).toNat = 5 * e.toNat + 81 by omega]
    by_cases w2 : w = 2
    · rw [if_neg w0, if_neg w1, if_pos w2, if_neg (by omega), if_pos (by omega), q3', show (80 + 5 * e + w).toNat = 5 * e.toNat + 82 by omega]
    by_cases w3 : w = 3
    · rw [if_neg w0, if_neg w1, if_neg w2, if_pos w3, if_neg (by omega), if_pos (by omega), q4', show (80 + 5 * e + w).toNat = 5 * e.toNat + 83 by omega]
    by_cases w4 : w = 4
    · rw [if_neg w0, if_neg w1, if_neg w2, if_neg w3, if_pos w4, if_neg (by omega), if_pos (by omega), show (80 + 5 * e + w).toNat = 5 * e.toNat + 84 by omega]
      have z := cb e.toNat (by omega)
      have y : m_and (m_shr (h 1 8) e) 1 = 1 ↔ h 110 (5 * e.toNat + 84) = 1 := by
        rw [he, hasBit_iff (by omega), Int.toNat_natCast, z]
        exact ⟨fun u => u.2, fun u => ⟨lt, u⟩⟩
      by_cases v : h 110 (5 * e.toNat + 84) = 1
      · rw [cif_pos (y.mpr v), v]
      · rw [cif_neg (fun u => v (y.mp u))]; omega
    by_cases w5 : w = 5
    · rw [if_neg w0, if_neg w1, if_neg w2, if_neg w3, if_neg w4, if_pos w5, if_pos w5, q1', q2']
      have cc := c (h 110 (5 * e.toNat + 80)).toNat (by omega)
      have cc' : h 3 (h 110 (5 * e.toNat + 80)).toNat = h 110 (42 + (h 110 (5 * e.toNat + 80)).toNat) := cc
      rw [cc', show (42 + h 110 (5 * e.toNat + 80)).toNat = 42 + (h 110 (5 * e.toNat + 80)).toNat by omega]
    rw [if_neg w0, if_neg w1, if_neg w2, if_neg w3, if_neg w4, if_neg w5, if_neg w5, if_neg (by omega)]
  · rw [cif_neg (by omega), cif_neg g]
theorem LX.of {h h1 : m_H} {e w x y : Int} {cs : List Nat} {ss : List (Nat × Nat)} (R : LX h) (G : GI h) (S1 : FR cs ss h h1) (A : ofC h e w = x) (B : ofM (h1 110) e w = y) (o : out 110 110 cs ss = true) : x = y := by
  rw [rowz S1 (fr_out o (by decide) (by decide))] at B
  rw [← A, ← B]; exact of_eq R.2.1 G
/-! told, exact in both -/
def tdS (f : Nat → Int) : Nat → Int
  | 0 => 0
  | k + 1 => m_w (tdS f k + f k)
theorem tdS_c {f g : Nat → Int} : ∀ n : Nat, (∀ k, k < n → f k = g k) → tdS f n = tdS g n
  | 0, _ => rfl
  | n + 1, e => by
    show m_w (tdS f n + f n) = m_w (tdS g n + g n)
    rw [tdS_c n (fun k hk => e k (by omega)), e n (by omega)]
theorem tdS_s {f : Nat → Int} {l k x y : Int} (h0 : 0 ≤ k) (i : l = tdS f k.toNat) (e : x = f k.toNat) (ey : m_w (l + x) = y) : y = tdS f (k + 1).toNat := by
  rw [show (k + 1).toNat = k.toNat + 1 by omega, ← ey, i, e]; rfl
def tfC (h : m_H) (a : Int) : Nat → Int := fun w => h 8 (lnV (h 3 a.toNat) a (w : Int)).toNat / h 8 (12 + h 106 w).toNat
def tfM (h : m_H) (a : Int) : Nat → Int := fun w => h 110 (60 + lnV (h 110 (42 + a).toNat) a (w : Int)).toNat / h 110 (72 + h 147 w).toNat
theorem td_C {h0 h h1 : m_H} {a l x2 x3 x4 : Int} (R : FR [] [] h0 h) (R1 : FR [] [] h0 h1) (hl : 0 ≤ l) (f2 : lnV (h (1 + 2) a.toNat) a l = x2) (e3 : h1 106 l.toNat = x3) (f4 : h1 (1 + 7) x2.toNat / h1 (1 + 7) (12 + x3).toNat = x4) : x4 = tfC h0 a l.toNat := by
  have e : h = h0 := funext fun c => funext fun j => R c j rfl
  have e1 : h1 = h0 := funext fun c => funext fun j => R1 c j rfl
  subst e; subst e1
  unfold tfC
  rw [Int.toNat_of_nonneg hl, e3]
  rw [← f4, ← f2]
theorem td_M {h0 h : m_H} {a l ln x2 x4 x5 : Int} (R : FR [] [(108, 0)] h0 h) (hl : 0 ≤ l) (e2 : h 110 (42 + a).toNat = x2) (en : lnV x2 a l = ln) (e4 : h 147 l.toNat = x4) (f5 : h 110 (60 + ln).toNat / h 110 (72 + x4).toNat = x5) : x5 = tfM h0 a l.toNat := by
  have e : h 110 = h0 110 := rowz R (fun _ => rfl)
  have e1 : h 147 = h0 147 := rowz R (fun _ => rfl)
  unfold tfM
  rw [Int.toNat_of_nonneg hl, ← e, ← e1, e4, e2, en]
  exact f5.symm
def tdQ (o s : Nat) (f : Nat → Int) (a x : Int) (h : m_H) : Prop := ((h o s = 0 ∨ a < 0 ∨ 5 < a) ∧ x = -1) ∨ (h o s ≠ 0 ∧ 0 ≤ a ∧ a ≤ 5 ∧ x = tdS f 32)
abbrev P_X11_told3 (h0 : m_H) (a1 : Int) : Int → m_H → Prop := fun x h' => GI h' ∧ FR [] [] h0 h' ∧ tdQ 105 1 (tfC h0 a1) a1 x h0
def q_X11_told3 (h0 : m_H) (a1 : Int) (n : Nat) : Prop := (∀ (l2 l3 : Int) (h : m_H), GI h → FR [] [] h0 h → 0 ≤ l3 → l3 ≤ 32 → 0 ≤ a1 → a1 ≤ 5 → (l2 = tdS (tfC h0 a1) l3.toNat) → (h0 105 1 ≠ 0) → 2 * (32 - l3) + (1) ≤ (n : Int) → m_Z oF M_X11_told 23 [some (mR 0), some (mI a1), some (mI l2), some (mI l3)] [] h (m_QI (P_X11_told3 h0 a1)))
set_option maxHeartbeats 4000000 in
set_option maxRecDepth 100000 in
theorem s_X11_told3_23 (h0 : m_H) (a1 : Int) (G0 : GI h0) (n : Nat) (ih : q_X11_told3 h0 a1 n) : ∀ (l2 l3 : Int) (h : m_H), GI h → FR [] [] h0 h → 0 ≤ l3 → l3 ≤ 32 → 0 ≤ a1 → a1 ≤ 5 → (l2 = tdS (tfC h0 a1) l3.toNat) → (h0 105 1 ≠ 0) → 2 * (32 - l3) + (1) ≤ ((n + 1 : Nat) : Int) → m_Z oF M_X11_told 23 [some (mR 0), some (mI a1), some (mI l2), some (mI l3)] [] h (m_QI (P_X11_told3 h0 a1)) := by
  intro l2 l3 h G R v0 v1 v2 v3 i0 i1 hr
  refine z_ok (fun ostk _ olocs => ?_)
  have ol2 : m_32 l2 := olocs 2 _ rfl
  unfold m_32 at ol2
  refine z_iload_n (M := M_X11_told) 23 dX11_told_23 rfl ?_
  refine z_bipush (M := M_X11_told) 24 dX11_told_24 ?_
  refine z_icmp_ge (M := M_X11_told) 26 dX11_told_26 63 rfl (fun c1 => ?_) (fun c1 => ?_)
  · refine z_iload_n (M := M_X11_told) 63 dX11_told_63 rfl ?_
    exact z_retI (M := M_X11_told) 64 dX11_told_64 rfl ⟨G, R, Or.inr ⟨i1, by omega, by omega, by rw [i0, show l3.toNat = 32 by omega]⟩⟩
  · refine z_iload_n (M := M_X11_told) 29 dX11_told_29 rfl ?_
    refine z_aload_n (M := M_X11_told) 30 dX11_told_30 rfl ?_
    refine z_getR (M := M_X11_told) 31 dX11_told_31 f_X11_12 o_0 rfl (g_0_0 G) ?_
    refine z_aload_n (M := M_X11_told) 34 dX11_told_34 rfl ?_
    refine z_getR (M := M_X11_told) 35 dX11_told_35 f_X11_12 o_0 rfl (g_0_0 G) ?_
    refine z_iload_n (M := M_X11_told) 38 dX11_told_38 rfl ?_
    refine z_iload_n (M := M_X11_told) 39 dX11_told_39 rfl ?_
    refine z_vI (M := M_X11_told) 40 dX11_told_40 t_X4_lengthIn l_X11_409 (m_rr_of rfl) (rest := [mR 1, mI l2]) (c_X4_lengthIn2 h 1 a1 l3 (Or.inl rfl) G ⟨by omega, by omega⟩) o_1 rfl rfl rfl (Nat.le_of_ble_eq_true rfl) ⟨rfl, rfl⟩ (fun x2 h1 qx2 => ?_)
    obtain ⟨G1, S1, ax2, bx2, fx2⟩ := qx2
    have R1 := R.call S1 (by decide +kernel)
    refine z_aload_n (M := M_X11_told) 43 dX11_told_43 rfl ?_
    refine z_getR (M := M_X11_told) 44 dX11_told_44 f_X11_90 o_0 rfl (g_0_12 G1) ?_
    refine z_getR (M := M_X11_told) 47 dX11_told_47 f_X11_408 o_105 rfl (g_105_0 G1) ?_
    refine z_iload_n (M := M_X11_told) 50 dX11_told_50 rfl ?_
    refine z_ialdG (M := M_X11_told) 51 dX11_told_51 o_106 (by omega) (by omega) (g_106 G1 (by omega)) (fun x3 ex3 ax3 bx3 => ?_)
    refine z_vI (M := M_X11_told) 52 dX11_told_52 t_X4_wholeFeet l_X11_412 (m_rr_of rfl) (rest := [mI l2]) (c_X4_wholeFeet2 h1 1 x2 x3 (Or.inl rfl) G1 ⟨by omega, by omega⟩ ⟨by omega, by omega⟩) o_1 rfl rfl rfl (Nat.le_of_ble_eq_true rfl) ⟨rfl, rfl⟩ (fun x4 h2 qx4 => ?_)
    obtain ⟨G2, S2, ax4, bx4, fx4⟩ := qx4
    have R2 := R1.call S2 (by decide +kernel)
    refine z_ok (fun ox4 _ _ => ?_)
    have ox4 := ox4.1; unfold m_ok m_32 at ox4
    refine z_iadd (M := M_X11_told) 55 dX11_told_55 ?_
    refine z_topm (fun x5 ex5 ox5 => ?_)
    unfold m_32 at ox5
    refine z_istore_n (M := M_X11_told) 56 dX11_told_56 (ls' := [some (mR 0), some (mI a1), some (mI x5), some (mI l3)]) (by decide) rfl ?_
    refine z_iincN (M := M_X11_told) 57 dX11_told_57 (ls' := [some (mR 0), some (mI a1), some (mI x5), some (mI (l3 + 1))]) (by decide) rfl (by (unfold m_32; decide)) (by omega) (by omega) rfl ?_
    refine z_goto (M := M_X11_told) 60 dX11_told_60 23 rfl ?_
    exact z_mask [true, true, true, true] rfl (ih x5 (l3 + 1) h2 G2 R2 (by omega) (by omega) (by omega) (by omega) (tdS_s (by omega) i0 (td_C R R1 (by omega) fx2 ex3 fx4) ex5) i1 (by omega))
theorem a_X11_told3 (h0 : m_H) (a1 : Int) (G0 : GI h0) : ∀ n, q_X11_told3 h0 a1 n := by
  intro n
  induction n with
  | zero => unfold q_X11_told3; intros; omega
  | succ n ih => exact s_X11_told3_23 h0 a1 G0 n ih
set_option maxHeartbeats 4000000 in
set_option maxRecDepth 100000 in
theorem c_X11_told3 (h0 : m_H) (a1 : Int) (G0 : GI h0) : m_CI M_X11_told [mR 0, mI a1] h0 (P_X11_told3 h0 a1) := by
  refine m_CI_of ⟨by decide, rfl, by simp [m_arg, m_isL, M_X11_told], ⟨rfl, rfl⟩, rfl, rfl⟩ (ls := [some (mR 0), some (mI a1), none, none]) rfl ?_
  have ih := a_X11_told3 h0 a1 G0 72
  refine z_ok (fun _ _ ok => ?_)
  have oa1 : m_32 a1 := ok 1 _ rfl
  unfold m_32 at oa1
  refine z_aload_n (M := M_X11_told) 0 dX11_told_0 rfl ?_
  refine z_getR (M := M_X11_told) 1 dX11_told_1 f_X11_90 o_0 rfl (g_0_12 G0) ?_
  refine z_getIG (M := M_X11_told) 4 dX11_told_4 f_X11_399 o_105 (by decide) (g_105_1 G0) (fun x1 ex1 ax1 bx1 => ?_)
  refine z_if_eq (M := M_X11_told) 7 dX11_told_7 17 rfl (fun c2 => ?_) (fun c2 => ?_)
  · refine z_iconst (M := M_X11_told) 17 dX11_told_17 ?_
    exact z_retI (M := M_X11_told) 18 dX11_told_18 rfl ⟨G0, (FR.rf (cs := []) (ss := []) (h := h0)), Or.inl ⟨by omega, rfl⟩⟩
  · refine z_iload_n (M := M_X11_told) 10 dX11_told_10 rfl ?_
    refine z_sI (M := M_X11_told) 11 dX11_told_11 t_X11_isThing l_X11_126 (m_rr_of rfl) (rest := []) (c_X11_isThing h0 a1 G0) rfl rfl (Nat.le_of_ble_eq_true rfl) ⟨rfl, rfl⟩ (fun x3 h1 qx3 => ?_)
    obtain ⟨rfl, ⟨rfl, cx3⟩ | ⟨rfl, cx3⟩⟩ := qx3
    · refine z_if_ne_T (M := M_X11_told) 14 dX11_told_14 19 rfl (by omega) ?_
      refine z_iconst (M := M_X11_told) 19 dX11_told_19 ?_
      refine z_istore_n (M := M_X11_told) 20 dX11_told_20 (ls' := [some (mR 0), some (mI a1), some (mI 0), none]) (by decide) rfl ?_
      refine z_iconst (M := M_X11_told) 21 dX11_told_21 ?_
      refine z_istore_n (M := M_X11_told) 22 dX11_told_22 (ls' := [some (mR 0), some (mI a1), some (mI 0), some (mI 0)]) (by decide) rfl ?_
      exact z_mask [true, true, true, true] rfl (ih 0 0 h0 G0 (FR.rf (cs := []) (ss := []) (h := h0)) (by omega) (by omega) (by omega) (by omega) rfl (by omega) (by omega))
    · refine z_if_ne_F (M := M_X11_told) 14 dX11_told_14 19 rfl (by omega) ?_
      refine z_iconst (M := M_X11_told) 17 dX11_told_17 ?_
      exact z_retI (M := M_X11_told) 18 dX11_told_18 rfl ⟨G0, (FR.rf (cs := []) (ss := []) (h := h0)), Or.inl ⟨by omega, rfl⟩⟩
abbrev P_X12_told3 (h0 : m_H) (a1 : Int) : Int → m_H → Prop := fun x h' => GI h' ∧ FR [] [(108, 0)] h0 h' ∧ tdQ 108 60 (tfM h0 a1) a1 x h0
def q_X12_told3 (h0 : m_H) (a1 : Int) (n : Nat) : Prop := (∀ (l2 l3 : Int) (h : m_H), GI h → FR [] [(108, 0)] h0 h → 0 ≤ l3 → l3 ≤ 32 → 0 ≤ a1 → a1 ≤ 5 → (l2 = tdS (tfM h0 a1) l3.toNat) → (h0 108 60 ≠ 0) → 2 * (32 - l3) + (1) ≤ (n : Int) → m_Z oF M_X12_told 25 [some (mR 108), some (mI a1), some (mI l2), some (mI l3), none] [] h (m_QI (P_X12_told3 h0 a1)))
set_option maxHeartbeats 4000000 in
set_option maxRecDepth 100000 in
theorem s_X12_told3_25 (h0 : m_H) (a1 : Int) (G0 : GI h0) (n : Nat) (ih : q_X12_told3 h0 a1 n) : ∀ (l2 l3 : Int) (h : m_H), GI h → FR [] [(108, 0)] h0 h → 0 ≤ l3 → l3 ≤ 32 → 0 ≤ a1 → a1 ≤ 5 → (l2 = tdS (tfM h0 a1) l3.toNat) → (h0 108 60 ≠ 0) → 2 * (32 - l3) + (1) ≤ ((n + 1 : Nat) : Int) → m_Z oF M_X12_told 25 [some (mR 108), some (mI a1), some (mI l2), some (mI l3), none] [] h (m_QI (P_X12_told3 h0 a1)) := by
  intro l2 l3 h G R v0 v1 v2 v3 i0 i1 hr
  refine z_ok (fun ostk _ olocs => ?_)
  have ol2 : m_32 l2 := olocs 2 _ rfl
  unfold m_32 at ol2
  refine z_iload_n (M := M_X12_told) 25 dX12_told_25 rfl ?_
  refine z_bipush (M := M_X12_told) 26 dX12_told_26 ?_
  refine z_icmp_ge (M := M_X12_told) 28 dX12_told_28 88 rfl (fun c1 => ?_) (fun c1 => ?_)
  · refine z_iload_n (M := M_X12_told) 88 dX12_told_88 rfl ?_
    exact z_retI (M := M_X12_told) 89 dX12_told_89 rfl ⟨G, R, Or.inr ⟨i1, by omega, by omega, by rw [i0, show l3.toNat = 32 by omega]⟩⟩
  · refine z_aload_n (M := M_X12_told) 31 dX12_told_31 rfl ?_
    refine z_getR (M := M_X12_told) 32 dX12_told_32 f_X12_13 o_108 rfl (g_108_3 G) ?_
    refine z_bipush (M := M_X12_told) 35 dX12_told_35 ?_
    refine z_iload_n (M := M_X12_told) 37 dX12_told_37 rfl ?_
    refine z_iaddN (M := M_X12_told) 38 dX12_told_38 (by omega) (by omega) ?_
    refine z_ialdG (M := M_X12_told) 39 dX12_told_39 o_110 (by omega) (by omega) (gw_c G (by omega) (by omega)) (fun x2 ex2 ax2 bx2 => ?_)
    refine z_iconst (M := M_X12_told) 40 dX12_told_40 ?_
    refine z_icmp_eq (M := M_X12_told) 41 dX12_told_41 64 rfl (fun c3 => ?_) (fun c3 => ?_)
    · refine z_iload_n (M := M_X12_told) 64 dX12_told_64 rfl ?_
      refine z_istore (M := M_X12_told) 65 dX12_told_65 (ls' := [some (mR 108), some (mI a1), some (mI l2), some (mI l3), some (mI a1)]) (by decide) rfl ?_
      refine z_iload_n (M := M_X12_told) 67 dX12_told_67 rfl ?_
      refine z_aload_n (M := M_X12_told) 68 dX12_told_68 rfl ?_
      refine z_iload (M := M_X12_told) 69 dX12_told_69 rfl ?_
      refine z_aload_n (M := M_X12_told) 71 dX12_told_71 rfl ?_
      refine z_getR (M := M_X12_told) 72 dX12_told_72 f_X12_130 o_108 rfl (g_108_59 G) ?_
      refine z_iload_n (M := M_X12_told) 75 dX12_told_75 rfl ?_
      refine z_ialdG (M := M_X12_told) 76 dX12_told_76 o_147 (by omega) (by omega) (g_147 G (by omega)) (fun x4 ex4 ax4 bx4 => ?_)
      refine z_vI (M := M_X12_told) 77 dX12_told_77 t_X12_feetOf l_X12_521 (m_rr_of rfl) (rest := [mI l2]) (c_X12_feetOf2 h a1 x4 G ⟨by omega, by omega⟩ ⟨by omega, by omega⟩) o_108 rfl rfl rfl (Nat.le_of_ble_eq_true rfl) ⟨rfl, rfl⟩ (fun x5 h1 qx5 => ?_)
      obtain ⟨G1, S1, ax5, bx5, fx5⟩ := qx5
      have R1 := R.call S1 (by decide +kernel)
      refine z_iadd (M := M_X12_told) 80 dX12_told_80 ?_
      refine z_topm (fun x6 ex6 ox6 => ?_)
      unfold m_32 at ox6
      refine z_istore_n (M := M_X12_told) 81 dX12_told_81 (ls' := [some (mR 108), some (mI a1), some (mI x6), some (mI l3), some (mI a1)]) (by decide) rfl ?_
      refine z_iincN (M := M_X12_told) 82 dX12_told_82 (ls' := [some (mR 108), some (mI a1), some (mI x6), some (mI (l3 + 1)), some (mI a1)]) (by decide) rfl (by (unfold m_32; decide)) (by omega) (by omega) rfl ?_
      refine z_goto (M := M_X12_told) 85 dX12_told_85 25 rfl ?_
      exact z_mask [true, true, true, true, false] rfl (ih x6 (l3 + 1) h1 G1 R1 (by omega) (by omega) (by omega) (by omega) (tdS_s (by omega) i0 (td_M R (by omega) ex2 (by unfold lnV; rw [if_pos (by omega)]) ex4 fx5) ex6) i1 (by omega))
    · refine z_iload_n (M := M_X12_told) 44 dX12_told_44 rfl ?_
      refine z_aload_n (M := M_X12_told) 45 dX12_told_45 rfl ?_
      refine z_getR (M := M_X12_told) 46 dX12_told_46 f_X12_13 o_108 rfl (g_108_3 G) ?_
      refine z_bipush (M := M_X12_told) 49 dX12_told_49 ?_
      refine z_iload_n (M := M_X12_told) 51 dX12_told_51 rfl ?_
      refine z_iaddN (M := M_X12_told) 52 dX12_told_52 (by omega) (by omega) ?_
      refine z_ialdE (M := M_X12_told) 53 dX12_told_53 o_110 (by omega) (by omega) ex2 ?_
      refine z_icmp_lt (M := M_X12_told) 54 dX12_told_54 64 rfl (fun c7 => ?_) (fun c7 => ?_)
      · refine z_iload_n (M := M_X12_told) 64 dX12_told_64 rfl ?_
        refine z_istore (M := M_X12_told) 65 dX12_told_65 (ls' := [some (mR 108), some (mI a1), some (mI l2), some (mI l3), some (mI a1)]) (by decide) rfl ?_
        refine z_iload_n (M := M_X12_told) 67 dX12_told_67 rfl ?_
        refine z_aload_n (M := M_X12_told) 68 dX12_told_68 rfl ?_
        refine z_iload (M := M_X12_told) 69 dX12_told_69 rfl ?_
        refine z_aload_n (M := M_X12_told) 71 dX12_told_71 rfl ?_
        refine z_getR (M := M_X12_told) 72 dX12_told_72 f_X12_130 o_108 rfl (g_108_59 G) ?_
        refine z_iload_n (M := M_X12_told) 75 dX12_told_75 rfl ?_
        refine z_ialdG (M := M_X12_told) 76 dX12_told_76 o_147 (by omega) (by omega) (g_147 G (by omega)) (fun x8 ex8 ax8 bx8 => ?_)
        refine z_vI (M := M_X12_told) 77 dX12_told_77 t_X12_feetOf l_X12_521 (m_rr_of rfl) (rest := [mI l2]) (c_X12_feetOf2 h a1 x8 G ⟨by omega, by omega⟩ ⟨by omega, by omega⟩) o_108 rfl rfl rfl (Nat.le_of_ble_eq_true rfl) ⟨rfl, rfl⟩ (fun x9 h2 qx9 => ?_)
        obtain ⟨G2, S2, ax9, bx9, fx9⟩ := qx9
        have R2 := R.call S2 (by decide +kernel)
        refine z_iadd (M := M_X12_told) 80 dX12_told_80 ?_
        refine z_topm (fun x10 ex10 ox10 => ?_)
        unfold m_32 at ox10
        refine z_istore_n (M := M_X12_told) 81 dX12_told_81 (ls' := [some (mR 108), some (mI a1), some (mI x10), some (mI l3), some (mI a1)]) (by decide) rfl ?_
        refine z_iincN (M := M_X12_told) 82 dX12_told_82 (ls' := [some (mR 108), some (mI a1), some (mI x10), some (mI (l3 + 1)), some (mI a1)]) (by decide) rfl (by (unfold m_32; decide)) (by omega) (by omega) rfl ?_
        refine z_goto (M := M_X12_told) 85 dX12_told_85 25 rfl ?_
        exact z_mask [true, true, true, true, false] rfl (ih x10 (l3 + 1) h2 G2 R2 (by omega) (by omega) (by omega) (by omega) (tdS_s (by omega) i0 (td_M R (by omega) ex2 (by unfold lnV; rw [if_pos (by omega)]) ex8 fx9) ex10) i1 (by omega))
      · refine z_bipush (M := M_X12_told) 57 dX12_told_57 ?_
        refine z_iload_n (M := M_X12_told) 59 dX12_told_59 rfl ?_
        refine z_iaddN (M := M_X12_told) 60 dX12_told_60 (by omega) (by omega) ?_
        refine z_goto (M := M_X12_told) 61 dX12_told_61 65 rfl ?_
        refine z_istore (M := M_X12_told) 65 dX12_told_65 (ls' := [some (mR 108), some (mI a1), some (mI l2), some (mI l3), some (mI (6 + a1))]) (by decide) rfl ?_
        refine z_iload_n (M := M_X12_told) 67 dX12_told_67 rfl ?_
        refine z_aload_n (M := M_X12_told) 68 dX12_told_68 rfl ?_
        refine z_iload (M := M_X12_told) 69 dX12_told_69 rfl ?_
        refine z_aload_n (M := M_X12_told) 71 dX12_told_71 rfl ?_
        refine z_getR (M := M_X12_told) 72 dX12_told_72 f_X12_130 o_108 rfl (g_108_59 G) ?_
        refine z_iload_n (M := M_X12_told) 75 dX12_told_75 rfl ?_
        refine z_ialdG (M := M_X12_told) 76 dX12_told_76 o_147 (by omega) (by omega) (g_147 G (by omega)) (fun x11 ex11 ax11 bx11 => ?_)
        refine z_vI (M := M_X12_told) 77 dX12_told_77 t_X12_feetOf l_X12_521 (m_rr_of rfl) (rest := [mI l2]) (c_X12_feetOf2 h (6 + a1) x11 G ⟨by omega, by omega⟩ ⟨by omega, by omega⟩) o_108 rfl rfl rfl (Nat.le_of_ble_eq_true rfl) ⟨rfl, rfl⟩ (fun x12 h3 qx12 => ?_)
        obtain ⟨G3, S3, ax12, bx12, fx12⟩ := qx12
        have R3 := R.call S3 (by decide +kernel)
        refine z_iadd (M := M_X12_told) 80 dX12_told_80 ?_
        refine z_topm (fun x13 ex13 ox13 => ?_)
        unfold m_32 at ox13
        refine z_istore_n (M := M_X12_told) 81 dX12_told_81 (ls' := [some (mR 108), some (mI a1), some (mI x13), some (mI l3), some (mI (6 + a1))]) (by decide) rfl ?_
        refine z_iincN (M := M_X12_told) 82 dX12_told_82 (ls' := [some (mR 108), some (mI a1), some (mI x13), some (mI (l3 + 1)), some (mI (6 + a1))]) (by decide) rfl (by (unfold m_32; decide)) (by omega) (by omega) rfl ?_
        refine z_goto (M := M_X12_told) 85 dX12_told_85 25 rfl ?_
        exact z_mask [true, true, true, true, false] rfl (ih x13 (l3 + 1) h3 G3 R3 (by omega) (by omega) (by omega) (by omega) (tdS_s (by omega) i0 (td_M R (by omega) ex2 (by unfold lnV; rw [if_neg (by omega)]; omega) ex11 fx12) ex13) i1 (by omega))
theorem a_X12_told3 (h0 : m_H) (a1 : Int) (G0 : GI h0) : ∀ n, q_X12_told3 h0 a1 n := by
  intro n
  induction n with
  | zero => unfold q_X12_told3; intros; omega
  | succ n ih => exact s_X12_told3_25 h0 a1 G0 n ih
set_option maxHeartbeats 4000000 in
set_option maxRecDepth 100000 in
theorem c_X12_told3 (h0 : m_H) (a1 : Int) (G0 : GI h0) : m_CI M_X12_told [mR 108, mI a1] h0 (P_X12_told3 h0 a1) := by
  refine m_CI_of ⟨by decide, rfl, by simp [m_arg, m_isL, M_X12_told], ⟨rfl, rfl⟩, rfl, rfl⟩ (ls := [some (mR 108), some (mI a1), none, none, none]) rfl ?_
  have ih := a_X12_told3 h0 a1 G0 72
  refine z_ok (fun _ _ ok => ?_)
  have oa1 : m_32 a1 := ok 1 _ rfl
  unfold m_32 at oa1
  refine z_aload_n (M := M_X12_told) 0 dX12_told_0 rfl ?_
  refine z_iconst (M := M_X12_told) 1 dX12_told_1 ?_
  refine z_putIH (M := M_X12_told) 2 dX12_told_2 p_X12_133 o_108 rfl (u_108_0 G0) ((FR.rf (cs := []) (ss := [(108, 0)]) (h := h0)).up rfl) (fun h1 E1 G1 R1 => ?_)
  refine z_aload_n (M := M_X12_told) 5 dX12_told_5 rfl ?_
  refine z_getIG (M := M_X12_told) 6 dX12_told_6 f_X12_512 o_108 (by decide) (g_108_60 G1) (fun x1 ex1 ax1 bx1 => ?_)
  have d60_ : h1 108 60 = h0 108 60 := upN E1 (fun q => absurd q.2 (by decide))
  refine z_if_eq (M := M_X12_told) 9 dX12_told_9 19 rfl (fun c2 => ?_) (fun c2 => ?_)
  · refine z_iconst (M := M_X12_told) 19 dX12_told_19 ?_
    exact z_retI (M := M_X12_told) 20 dX12_told_20 rfl ⟨G1, R1, Or.inl ⟨by omega, rfl⟩⟩
  · refine z_iload_n (M := M_X12_told) 12 dX12_told_12 rfl ?_
    refine z_sI (M := M_X12_told) 13 dX12_told_13 t_X12_isThing l_X12_166 (m_rr_of rfl) (rest := []) (c_X12_isThing h1 a1 G1) rfl rfl (Nat.le_of_ble_eq_true rfl) ⟨rfl, rfl⟩ (fun x3 h2 qx3 => ?_)
    obtain ⟨rfl, ⟨rfl, cx3⟩ | ⟨rfl, cx3⟩⟩ := qx3
    · refine z_if_ne_T (M := M_X12_told) 16 dX12_told_16 21 rfl (by omega) ?_
      refine z_iconst (M := M_X12_told) 21 dX12_told_21 ?_
      refine z_istore_n (M := M_X12_told) 22 dX12_told_22 (ls' := [some (mR 108), some (mI a1), some (mI 0), none, none]) (by decide) rfl ?_
      refine z_iconst (M := M_X12_told) 23 dX12_told_23 ?_
      refine z_istore_n (M := M_X12_told) 24 dX12_told_24 (ls' := [some (mR 108), some (mI a1), some (mI 0), some (mI 0), none]) (by decide) rfl ?_
      exact z_mask [true, true, true, true, false] rfl (ih 0 0 h1 G1 R1 (by omega) (by omega) (by omega) (by omega) rfl (by omega) (by omega))
    · refine z_if_ne_F (M := M_X12_told) 16 dX12_told_16 21 rfl (by omega) ?_
      refine z_iconst (M := M_X12_told) 19 dX12_told_19 ?_
      exact z_retI (M := M_X12_told) 20 dX12_told_20 rfl ⟨G1, R1, Or.inl ⟨by omega, rfl⟩⟩
theorem LX.told {h h1 : m_H} {a x y : Int} {cs : List Nat} {ss : List (Nat × Nat)} (R : LX h) (D : DR h) (G : GI h) (S1 : FR cs ss h h1) (A : tdQ 105 1 (tfC h a) a x h) (B : tdQ 108 60 (tfM h1 a) a y h1) (o : out 108 147 cs ss = true) : x = y := by
  have e110 : h1 110 = h 110 := rowz S1 (fr_out o (by decide) (by decide))
  have e147 : h1 147 = h 147 := rowz S1 (fr_out o (by decide) (by decide))
  have e60 : h1 108 60 = h 108 60 := S1 _ _ (fr_out o (by decide) (by decide) 60)
  have d := D.1
  rcases A with ⟨a1, a2⟩ | ⟨a1, a2, a3, a4⟩
  · rcases B with ⟨b1, b2⟩ | ⟨b1, b2, b3, b4⟩
    · rw [a2, b2]
    · omega
  · rcases B with ⟨b1, b2⟩ | ⟨b1, b2, b3, b4⟩
    · omega
    · rw [a4, b4]
      have l := R.2.1
      have dd := (D.2 a1).2.2
      refine tdS_c 32 (fun w hw => ?_)
      have c3 : h 3 a.toNat = h 110 (42 + a.toNat) := l.2.2.1 a.toNat (by omega)
      have i3 : (42 + a).toNat = 42 + a.toNat := by omega
      unfold tfC tfM
      rw [e110, e147, i3, ← c3, ← dd w hw]
      generalize hv : lnV (h 3 a.toNat) a (w : Int) = v
      have hb : 0 ≤ v ∧ v ≤ 11 := by
        rw [← hv]; unfold lnV; split <;> omega
      have g := g_106 G (j := w) hw
      have k1 : h 8 v.toNat = h 110 (60 + v.toNat) := l.2.2.2.1 v.toNat (by omega)
      have k2 : h 8 (12 + h 106 w).toNat = h 110 (60 + (12 + h 106 w).toNat) := l.2.2.2.1 _ (by omega)
      rw [k1, k2, show (60 + v).toNat = 60 + v.toNat by omega, show (72 + h 106 w).toNat = 60 + (12 + h 106 w).toNat by omega]
/-! an entry by the told world, exact in both -/
theorem frE {h h' : m_H} (R : FR [] [] h h') : h' = h := funext fun c => funext fun j => R c j rfl
def soV (l f n k : Int) : Prop := if k = 0 then l = n * f else if k = 1 then n * f ≤ l ∧ l < (n + 1) * f else (2 * n - 1) * f ≤ 2 * l ∧ 2 * l < (2 * n + 1) * f
def hvL (n k : Int) : Int := 2 * n - (if k = 2 then 1 else 0)
def hvE (n k : Int) : Int := if k = 0 then 2 * n else hvL n k + 2
theorem mul_b {a b : Int} (h1 : 0 ≤ a) (h2 : a ≤ 99) (h3 : 1 ≤ b) (h4 : b ≤ 9999) : 0 ≤ a * b ∧ a * b ≤ 989901 := by
  refine ⟨Int.mul_nonneg h1 (by omega), ?_⟩
  have z := Int.mul_le_mul h2 h4 (by omega) (by omega)
  omega
theorem so_0 {l f n k : Int} (h1 : 0 ≤ n) (h2 : n ≤ 99) (h3 : 1 ≤ f) (h4 : f ≤ 9999) (hk : k = 0) : soV l f n k ↔ l = m_w (n * f) := by
  have b := mul_b h1 h2 h3 h4
  unfold soV
  rw [if_pos hk, m_w_id (by omega) (by omega)]
theorem so_1 {l f n k : Int} (h1 : 0 ≤ n) (h2 : n ≤ 99) (h3 : 1 ≤ f) (h4 : f ≤ 9999) (hk : k = 1) : soV l f n k ↔ m_w (n * f) ≤ l ∧ l < m_w ((n + 1) * f) := by
  have b := mul_b h1 h2 h3 h4
  have e : (n + 1) * f = n * f + f := by rw [Int.add_mul, Int.one_mul]
  unfold soV
  rw [if_neg (by omega), if_pos hk, m_w_id (by omega) (by omega), e, m_w_id (by omega) (by omega)]
theorem so_2 {l f n k : Int} (h1 : 0 ≤ n) (h2 : n ≤ 99) (h3 : 1 ≤ f) (h4 : f ≤ 9999) (hk : ¬ k = 0) (hk1 : ¬ k = 1) : soV l f n k ↔ m_w ((2 * n - 1) * f) ≤ 2 * l ∧ 2 * l < m_w ((2 * n + 1) * f) := by
  have b := mul_b h1 h2 h3 h4
  have e1 : (2 * n - 1) * f = 2 * (n * f) - f := by rw [Int.sub_mul, Int.one_mul, Int.mul_assoc]
  have e2 : (2 * n + 1) * f = 2 * (n * f) + f := by rw [Int.add_mul, Int.one_mul, Int.mul_assoc]
  unfold soV
  rw [if_neg hk, if_neg hk1, e1, e2, m_w_id (by omega) (by omega), m_w_id (by omega) (by omega)]
theorem so_C {l f n k lo en x7 x9 : Int} (h1 : 0 ≤ n) (h2 : n ≤ 99) (h3 : 1 ≤ f) (h4 : f ≤ 9999) (k0 : 0 ≤ k) (k2 : k ≤ 2) (el : hvL n k = lo) (ee : hvE n k = en) (e7 : m_w (lo * f) = x7) (e9 : m_w (en * f) = x9) : soV l f n k ↔ (if k = 0 then 2 * l = x9 else x7 ≤ 2 * l ∧ 2 * l < x9) := by
  have b := mul_b h1 h2 h3 h4
  have e1 : (2 * n) * f = 2 * (n * f) := Int.mul_assoc _ _ _
  unfold hvE at ee
  unfold hvL at el ee
  unfold soV
  by_cases c0 : k = 0
  · rw [if_pos c0] at ee ⊢
    rw [if_pos c0, ← e9, ← ee, e1, m_w_id (by omega) (by omega)]; omega
  rw [if_neg c0] at ee ⊢
  rw [if_neg c0]
  by_cases c1 : k = 1
  · rw [if_neg (by omega)] at el ee
    rw [if_pos c1]
    have e2 : (2 * n - 0) * f = 2 * (n * f) := by rw [show 2 * n - 0 = 2 * n by omega, e1]
    have e3 : (2 * n - 0 + 2) * f = 2 * (n * f) + 2 * f := by rw [show 2 * n - 0 + 2 = 2 * n + 2 by omega, Int.add_mul, e1]
    have e4 : (n + 1) * f = n * f + f := by rw [Int.add_mul, Int.one_mul]
    rw [← e7, ← e9, ← el, ← ee, e2, e3, e4, m_w_id (by omega) (by omega), m_w_id (by omega) (by omega)]; omega
  · rw [if_pos (show k = 2 by omega)] at el ee
    rw [if_neg c1]
    have e2 : (2 * n - 1) * f = 2 * (n * f) - f := by rw [Int.sub_mul, Int.one_mul, e1]
    have e3 : (2 * n - 1 + 2) * f = 2 * (n * f) + f := by rw [show 2 * n - 1 + 2 = 2 * n + 1 by omega, Int.add_mul, Int.one_mul, e1]
    have e4 : (2 * n + 1) * f = 2 * (n * f) + f := by rw [Int.add_mul, Int.one_mul, e1]
    rw [← e7, ← e9, ← el, ← ee, e2, e3, e4, m_w_id (by omega) (by omega), m_w_id (by omega) (by omega)]
def soC (h : m_H) (L : Nat) (e : Int) : Prop := h (L + 1) (h (L + 4) e.toNat).toNat = -1 ∨ soV (h (L + 7) (lnV (h (L + 2) (h (L + 3) e.toNat).toNat) (h (L + 3) e.toNat) (h (L + 4) e.toNat)).toNat) (h (L + 7) (12 + h (L + 1) (h (L + 4) e.toNat).toNat).toNat) (h (L + 5) e.toNat) (h (L + 6) e.toNat)
def soM (r : Nat → Int) (e : Int) : Prop := soV (r (60 + lnV (r (42 + r (5 * e.toNat + 80)).toNat) (r (5 * e.toNat + 80)) (r (5 * e.toNat + 81))).toNat) (r (72 + r (10 + r (5 * e.toNat + 81)).toNat).toNat) (r (5 * e.toNat + 82)) (r (5 * e.toNat + 83))
abbrev P_X4_keeperOf2 (h0 : m_H) (L : Nat) (a1 : Int) : Int → m_H → Prop := fun x h' => GI h' ∧ FR [] [] h0 h' ∧ (-1) ≤ x ∧ x ≤ 3 ∧ h0 (L + 1) (h0 (L + 4) a1.toNat).toNat = x
set_option maxHeartbeats 4000000 in
set_option maxRecDepth 100000 in
theorem c_X4_keeperOf2 (h0 : m_H) (L : Nat) (a1 : Int) (hL : isL L) (G0 : GI h0) (pa1 : 0 ≤ a1 ∧ a1 ≤ 23) : m_CI M_X4_keeperOf [mR L, mI a1] h0 (P_X4_keeperOf2 h0 L a1) := by
  refine m_CI_of ⟨by decide, rfl, by simp [m_arg, m_isL, M_X4_keeperOf], ⟨rfl, rfl⟩, rfl, rfl⟩ (ls := [some (mR L), some (mI a1)]) rfl ?_
  refine z_aload_n (M := M_X4_keeperOf) 0 dX4_keeperOf_0 rfl ?_
  refine z_getR (M := M_X4_keeperOf) 1 dX4_keeperOf_1 f_X4_9 (oL hL) rfl (rL_0 hL G0) ?_
  refine z_aload_n (M := M_X4_keeperOf) 4 dX4_keeperOf_4 rfl ?_
  refine z_getR (M := M_X4_keeperOf) 5 dX4_keeperOf_5 f_X4_21 (oL hL) rfl (rL_3 hL G0) ?_
  refine z_iload_n (M := M_X4_keeperOf) 8 dX4_keeperOf_8 rfl ?_
  refine z_ialdG (M := M_X4_keeperOf) 9 dX4_keeperOf_9 (oL_4 hL) (by omega) (by omega) (gL_4 hL G0 (by omega)) (fun x1 ex1 ax1 bx1 => ?_)
  refine z_ialdG (M := M_X4_keeperOf) 10 dX4_keeperOf_10 (oL_1 hL) (by omega) (by omega) (gL_1 hL G0 (by omega)) (fun x2 ex2 ax2 bx2 => ?_)
  exact z_retI (M := M_X4_keeperOf) 11 dX4_keeperOf_11 rfl ⟨G0, (FR.rf (cs := []) (ss := []) (h := h0)), by omega, by omega, by rw [ex1]; exact ex2⟩
abbrev P_X4_leastHalves2 (h0 : m_H) (L : Nat) (a1 : Int) : Int → m_H → Prop := fun x h' => GI h' ∧ FR [] [] h0 h' ∧ (-1) ≤ x ∧ x ≤ 198 ∧ hvL (h0 (L + 5) a1.toNat) (h0 (L + 6) a1.toNat) = x
set_option maxHeartbeats 4000000 in
set_option maxRecDepth 100000 in
theorem c_X4_leastHalves2 (h0 : m_H) (L : Nat) (a1 : Int) (hL : isL L) (G0 : GI h0) (pa1 : 0 ≤ a1 ∧ a1 ≤ 23) : m_CI M_X4_leastHalves [mR L, mI a1] h0 (P_X4_leastHalves2 h0 L a1) := by
  refine m_CI_of ⟨by decide, rfl, by simp [m_arg, m_isL, M_X4_leastHalves], ⟨rfl, rfl⟩, rfl, rfl⟩ (ls := [some (mR L), some (mI a1)]) rfl ?_
  refine z_iconst (M := M_X4_leastHalves) 0 dX4_leastHalves_0 ?_
  refine z_aload_n (M := M_X4_leastHalves) 1 dX4_leastHalves_1 rfl ?_
  refine z_getR (M := M_X4_leastHalves) 2 dX4_leastHalves_2 f_X4_24 (oL hL) rfl (rL_4 hL G0) ?_
  refine z_iload_n (M := M_X4_leastHalves) 5 dX4_leastHalves_5 rfl ?_
  refine z_ialdG (M := M_X4_leastHalves) 6 dX4_leastHalves_6 (oL_5 hL) (by omega) (by omega) (gL_5 hL G0 (by omega)) (fun x1 ex1 ax1 bx1 => ?_)
  refine z_imulN (M := M_X4_leastHalves) 7 dX4_leastHalves_7 (by omega) (by omega) ?_
  refine z_aload_n (M := M_X4_leastHalves) 8 dX4_leastHalves_8 rfl ?_
  refine z_getR (M := M_X4_leastHalves) 9 dX4_leastHalves_9 f_X4_27 (oL hL) rfl (rL_5 hL G0) ?_
  refine z_iload_n (M := M_X4_leastHalves) 12 dX4_leastHalves_12 rfl ?_
  refine z_ialdG (M := M_X4_leastHalves) 13 dX4_leastHalves_13 (oL_6 hL) (by omega) (by omega) (gL_6 hL G0 (by omega)) (fun x2 ex2 ax2 bx2 => ?_)
  refine z_iconst (M := M_X4_leastHalves) 14 dX4_leastHalves_14 ?_
  refine z_icmp_ne (M := M_X4_leastHalves) 15 dX4_leastHalves_15 22 rfl (fun c3 => ?_) (fun c3 => ?_)
  · refine z_iconst (M := M_X4_leastHalves) 22 dX4_leastHalves_22 ?_
    refine z_isubN (M := M_X4_leastHalves) 23 dX4_leastHalves_23 (by omega) (by omega) ?_
    exact z_retI (M := M_X4_leastHalves) 24 dX4_leastHalves_24 rfl ⟨G0, (FR.rf (cs := []) (ss := []) (h := h0)), by omega, by omega, by rw [ex1, ex2]; unfold hvL; rw [if_neg (by omega)]⟩
  · refine z_iconst (M := M_X4_leastHalves) 18 dX4_leastHalves_18 ?_
    refine z_goto (M := M_X4_leastHalves) 19 dX4_leastHalves_19 23 rfl ?_
    refine z_isubN (M := M_X4_leastHalves) 23 dX4_leastHalves_23 (by omega) (by omega) ?_
    exact z_retI (M := M_X4_leastHalves) 24 dX4_leastHalves_24 rfl ⟨G0, (FR.rf (cs := []) (ss := []) (h := h0)), by omega, by omega, by rw [ex1, ex2]; unfold hvL; rw [if_pos (by omega)]⟩
abbrev P_X4_endHalves2 (h0 : m_H) (L : Nat) (a1 : Int) : Int → m_H → Prop := fun x h' => GI h' ∧ FR [] [] h0 h' ∧ 0 ≤ x ∧ x ≤ 200 ∧ hvE (h0 (L + 5) a1.toNat) (h0 (L + 6) a1.toNat) = x
set_option maxHeartbeats 4000000 in
set_option maxRecDepth 100000 in
theorem c_X4_endHalves2 (h0 : m_H) (L : Nat) (a1 : Int) (hL : isL L) (G0 : GI h0) (pa1 : 0 ≤ a1 ∧ a1 ≤ 23) : m_CI M_X4_endHalves [mR L, mI a1] h0 (P_X4_endHalves2 h0 L a1) := by
  refine m_CI_of ⟨by decide, rfl, by simp [m_arg, m_isL, M_X4_endHalves], ⟨rfl, rfl⟩, rfl, rfl⟩ (ls := [some (mR L), some (mI a1)]) rfl ?_
  refine z_aload_n (M := M_X4_endHalves) 0 dX4_endHalves_0 rfl ?_
  refine z_getR (M := M_X4_endHalves) 1 dX4_endHalves_1 f_X4_27 (oL hL) rfl (rL_5 hL G0) ?_
  refine z_iload_n (M := M_X4_endHalves) 4 dX4_endHalves_4 rfl ?_
  refine z_ialdG (M := M_X4_endHalves) 5 dX4_endHalves_5 (oL_6 hL) (by omega) (by omega) (gL_6 hL G0 (by omega)) (fun x1 ex1 ax1 bx1 => ?_)
  refine z_if_ne (M := M_X4_endHalves) 6 dX4_endHalves_6 18 rfl (fun c2 => ?_) (fun c2 => ?_)
  · refine z_aload_n (M := M_X4_endHalves) 18 dX4_endHalves_18 rfl ?_
    refine z_iload_n (M := M_X4_endHalves) 19 dX4_endHalves_19 rfl ?_
    refine z_vI (M := M_X4_endHalves) 20 dX4_endHalves_20 t_X4_leastHalves l_X4_81 (m_rr_of rfl) (rest := []) (c_X4_leastHalves2 h0 L a1 hL G0 ⟨by omega, by omega⟩) (oL hL) rfl rfl rfl (Nat.le_of_ble_eq_true rfl) ⟨rfl, rfl⟩ (fun x3 h1 qx3 => ?_)
    obtain ⟨G1, S1, ax3, bx3, fx3⟩ := qx3
    have R1 := (FR.rf (cs := []) (ss := []) (h := h0)).call S1 (by decide +kernel)
    refine z_iconst (M := M_X4_endHalves) 23 dX4_endHalves_23 ?_
    refine z_iaddN (M := M_X4_endHalves) 24 dX4_endHalves_24 (by omega) (by omega) ?_
    exact z_retI (M := M_X4_endHalves) 25 dX4_endHalves_25 rfl ⟨G1, R1, by omega, by omega, by rw [← fx3]; unfold hvE; rw [if_neg (by omega)]⟩
  · refine z_iconst (M := M_X4_endHalves) 9 dX4_endHalves_9 ?_
    refine z_aload_n (M := M_X4_endHalves) 10 dX4_endHalves_10 rfl ?_
    refine z_getR (M := M_X4_endHalves) 11 dX4_endHalves_11 f_X4_24 (oL hL) rfl (rL_4 hL G0) ?_
    refine z_iload_n (M := M_X4_endHalves) 14 dX4_endHalves_14 rfl ?_
    refine z_ialdG (M := M_X4_endHalves) 15 dX4_endHalves_15 (oL_5 hL) (by omega) (by omega) (gL_5 hL G0 (by omega)) (fun x4 ex4 ax4 bx4 => ?_)
    refine z_imulN (M := M_X4_endHalves) 16 dX4_endHalves_16 (by omega) (by omega) ?_
    exact z_retI (M := M_X4_endHalves) 17 dX4_endHalves_17 rfl ⟨G0, (FR.rf (cs := []) (ss := []) (h := h0)), by omega, by omega, by unfold hvE; rw [if_pos (by omega), ex4]⟩
abbrev P_X4_isSoByWorld2 (h0 : m_H) (L : Nat) (a1 : Int) : Int → m_H → Prop := fun x h' => GI h' ∧ FR [] [] h0 h' ∧ 0 ≤ x ∧ x ≤ 1 ∧ (x = 1 ↔ soC h0 L a1)
set_option maxHeartbeats 4000000 in
set_option maxRecDepth 100000 in
theorem c_X4_isSoByWorld2 (h0 : m_H) (L : Nat) (a1 : Int) (hL : isL L) (G0 : GI h0) (pa1 : 0 ≤ a1 ∧ a1 ≤ 23) : m_CI M_X4_isSoByWorld [mR L, mI a1] h0 (P_X4_isSoByWorld2 h0 L a1) := by
  refine m_CI_of ⟨by decide, rfl, by simp [m_arg, m_isL, M_X4_isSoByWorld], ⟨rfl, rfl⟩, rfl, rfl⟩ (ls := [some (mR L), some (mI a1), none, none, none, none, none]) rfl ?_
  refine z_aload_n (M := M_X4_isSoByWorld) 0 dX4_isSoByWorld_0 rfl ?_
  refine z_iload_n (M := M_X4_isSoByWorld) 1 dX4_isSoByWorld_1 rfl ?_
  refine z_vI (M := M_X4_isSoByWorld) 2 dX4_isSoByWorld_2 t_X4_keeperOf l_X4_88 (m_rr_of rfl) (rest := []) (c_X4_keeperOf2 h0 L a1 hL G0 ⟨by omega, by omega⟩) (oL hL) rfl rfl rfl (Nat.le_of_ble_eq_true rfl) ⟨rfl, rfl⟩ (fun x1 h1 qx1 => ?_)
  obtain ⟨G1, S1, ax1, bx1, fx1⟩ := qx1
  have R1 := (FR.rf (cs := []) (ss := []) (h := h0)).call S1 (by decide +kernel)
  refine z_istore_n (M := M_X4_isSoByWorld) 5 dX4_isSoByWorld_5 (ls' := [some (mR L), some (mI a1), some (mI x1), none, none, none, none]) (by decide) rfl ?_
  refine z_iload_n (M := M_X4_isSoByWorld) 6 dX4_isSoByWorld_6 rfl ?_
  refine z_iconst (M := M_X4_isSoByWorld) 7 dX4_isSoByWorld_7 ?_
  refine z_icmp_ne (M := M_X4_isSoByWorld) 8 dX4_isSoByWorld_8 13 rfl (fun c2 => ?_) (fun c2 => ?_)
  · refine z_aload_n (M := M_X4_isSoByWorld) 13 dX4_isSoByWorld_13 rfl ?_
    refine z_getR (M := M_X4_isSoByWorld) 14 dX4_isSoByWorld_14 f_X4_30 (oL hL) rfl (rL_6 hL G1) ?_
    refine z_bipush (M := M_X4_isSoByWorld) 17 dX4_isSoByWorld_17 ?_
    refine z_iload_n (M := M_X4_isSoByWorld) 19 dX4_isSoByWorld_19 rfl ?_
    refine z_iaddN (M := M_X4_isSoByWorld) 20 dX4_isSoByWorld_20 (by omega) (by omega) ?_
    refine z_ialdG (M := M_X4_isSoByWorld) 21 dX4_isSoByWorld_21 (oL_7 hL) (by omega) (by omega) (gL_7 hL G1 (by omega)) (fun x3 ex3 ax3 bx3 => ?_)
    refine z_istore_n (M := M_X4_isSoByWorld) 22 dX4_isSoByWorld_22 (ls' := [some (mR L), some (mI a1), some (mI x1), some (mI x3), none, none, none]) (by decide) rfl ?_
    refine z_iconst (M := M_X4_isSoByWorld) 23 dX4_isSoByWorld_23 ?_
    refine z_aload_n (M := M_X4_isSoByWorld) 24 dX4_isSoByWorld_24 rfl ?_
    refine z_getR (M := M_X4_isSoByWorld) 25 dX4_isSoByWorld_25 f_X4_30 (oL hL) rfl (rL_6 hL G1) ?_
    refine z_aload_n (M := M_X4_isSoByWorld) 28 dX4_isSoByWorld_28 rfl ?_
    refine z_iload_n (M := M_X4_isSoByWorld) 29 dX4_isSoByWorld_29 rfl ?_
    refine z_vI (M := M_X4_isSoByWorld) 30 dX4_isSoByWorld_30 t_X4_lengthOf l_X4_91 (m_rr_of rfl) (rest := [mR (L + 7), mI 2]) (c_X4_lengthOf2 h1 L a1 hL G1 ⟨by omega, by omega⟩) (oL hL) rfl rfl rfl (Nat.le_of_ble_eq_true rfl) ⟨rfl, rfl⟩ (fun x4 h2 qx4 => ?_)
    obtain ⟨G2, S2, ax4, bx4, fx4⟩ := qx4
    have R2 := R1.call S2 (by decide +kernel)
    refine z_ialdG (M := M_X4_isSoByWorld) 33 dX4_isSoByWorld_33 (oL_7 hL) (by omega) (by omega) (gL_7 hL G2 (by omega)) (fun x5 ex5 ax5 bx5 => ?_)
    refine z_imulN (M := M_X4_isSoByWorld) 34 dX4_isSoByWorld_34 (by omega) (by omega) ?_
    refine z_istore (M := M_X4_isSoByWorld) 35 dX4_isSoByWorld_35 (ls' := [some (mR L), some (mI a1), some (mI x1), some (mI x3), some (mI (2 * x5)), none, none]) (by decide) rfl ?_
    refine z_aload_n (M := M_X4_isSoByWorld) 37 dX4_isSoByWorld_37 rfl ?_
    refine z_iload_n (M := M_X4_isSoByWorld) 38 dX4_isSoByWorld_38 rfl ?_
    refine z_vI (M := M_X4_isSoByWorld) 39 dX4_isSoByWorld_39 t_X4_leastHalves l_X4_81 (m_rr_of rfl) (rest := []) (c_X4_leastHalves2 h2 L a1 hL G2 ⟨by omega, by omega⟩) (oL hL) rfl rfl rfl (Nat.le_of_ble_eq_true rfl) ⟨rfl, rfl⟩ (fun x6 h3 qx6 => ?_)
    obtain ⟨G3, S3, ax6, bx6, fx6⟩ := qx6
    have R3 := R2.call S3 (by decide +kernel)
    refine z_iload_n (M := M_X4_isSoByWorld) 42 dX4_isSoByWorld_42 rfl ?_
    refine z_imul (M := M_X4_isSoByWorld) 43 dX4_isSoByWorld_43 ?_
    refine z_topm (fun x7 ex7 ox7 => ?_)
    unfold m_32 at ox7
    refine z_istore (M := M_X4_isSoByWorld) 44 dX4_isSoByWorld_44 (ls' := [some (mR L), some (mI a1), some (mI x1), some (mI x3), some (mI (2 * x5)), some (mI x7), none]) (by decide) rfl ?_
    refine z_aload_n (M := M_X4_isSoByWorld) 46 dX4_isSoByWorld_46 rfl ?_
    refine z_iload_n (M := M_X4_isSoByWorld) 47 dX4_isSoByWorld_47 rfl ?_
    refine z_vI (M := M_X4_isSoByWorld) 48 dX4_isSoByWorld_48 t_X4_endHalves l_X4_94 (m_rr_of rfl) (rest := []) (c_X4_endHalves2 h3 L a1 hL G3 ⟨by omega, by omega⟩) (oL hL) rfl rfl rfl (Nat.le_of_ble_eq_true rfl) ⟨rfl, rfl⟩ (fun x8 h4 qx8 => ?_)
    obtain ⟨G4, S4, ax8, bx8, fx8⟩ := qx8
    have R4 := R3.call S4 (by decide +kernel)
    refine z_iload_n (M := M_X4_isSoByWorld) 51 dX4_isSoByWorld_51 rfl ?_
    refine z_imul (M := M_X4_isSoByWorld) 52 dX4_isSoByWorld_52 ?_
    refine z_topm (fun x9 ex9 ox9 => ?_)
    unfold m_32 at ox9
    refine z_istore (M := M_X4_isSoByWorld) 53 dX4_isSoByWorld_53 (ls' := [some (mR L), some (mI a1), some (mI x1), some (mI x3), some (mI (2 * x5)), some (mI x7), some (mI x9)]) (by decide) rfl ?_
    refine z_aload_n (M := M_X4_isSoByWorld) 55 dX4_isSoByWorld_55 rfl ?_
    refine z_getR (M := M_X4_isSoByWorld) 56 dX4_isSoByWorld_56 f_X4_27 (oL hL) rfl (rL_5 hL G4) ?_
    refine z_iload_n (M := M_X4_isSoByWorld) 59 dX4_isSoByWorld_59 rfl ?_
    refine z_ialdG (M := M_X4_isSoByWorld) 60 dX4_isSoByWorld_60 (oL_6 hL) (by omega) (by omega) (gL_6 hL G4 (by omega)) (fun x10 ex10 ax10 bx10 => ?_)
    have so_ : soC h0 L a1 ↔ (if x10 = 0 then 2 * x5 = x9 else x7 ≤ 2 * x5 ∧ 2 * x5 < x9) := by
      rw [frE R1] at ex3 fx4
      rw [frE R2] at ex5 fx6
      rw [frE R3] at fx8
      rw [frE R4] at ex10
      rw [ex10] at fx6 fx8
      have gn := gL_5 hL G0 (j := a1.toNat) (by omega)
      unfold soC
      rw [fx1, fx4, ex5, ex3, ex10, or_iff_right (by omega)]
      exact so_C (by omega) (by omega) (by omega) (by omega) (by omega) (by omega) fx6 fx8 ex7 ex9
    refine z_if_ne (M := M_X4_isSoByWorld) 61 dX4_isSoByWorld_61 79 rfl (fun c11 => ?_) (fun c11 => ?_)
    · refine z_iload (M := M_X4_isSoByWorld) 79 dX4_isSoByWorld_79 rfl ?_
      refine z_iload (M := M_X4_isSoByWorld) 81 dX4_isSoByWorld_81 rfl ?_
      refine z_icmp_lt (M := M_X4_isSoByWorld) 83 dX4_isSoByWorld_83 97 rfl (fun c12 => ?_) (fun c12 => ?_)
      · refine z_iconst (M := M_X4_isSoByWorld) 97 dX4_isSoByWorld_97 ?_
        exact z_retZ (M := M_X4_isSoByWorld) 98 dX4_isSoByWorld_98 rfl (by omega) ⟨G4, R4, by omega, by omega, ⟨fun z => absurd z (by decide), fun z => by have y := so_.mp z; rw [if_neg (by omega)] at y; omega⟩⟩
      · refine z_iload (M := M_X4_isSoByWorld) 86 dX4_isSoByWorld_86 rfl ?_
        refine z_iload (M := M_X4_isSoByWorld) 88 dX4_isSoByWorld_88 rfl ?_
        refine z_icmp_ge (M := M_X4_isSoByWorld) 90 dX4_isSoByWorld_90 97 rfl (fun c13 => ?_) (fun c13 => ?_)
        · refine z_iconst (M := M_X4_isSoByWorld) 97 dX4_isSoByWorld_97 ?_
          exact z_retZ (M := M_X4_isSoByWorld) 98 dX4_isSoByWorld_98 rfl (by omega) ⟨G4, R4, by omega, by omega, ⟨fun z => absurd z (by decide), fun z => by have y := so_.mp z; rw [if_neg (by omega)] at y; omega⟩⟩
        · refine z_iconst (M := M_X4_isSoByWorld) 93 dX4_isSoByWorld_93 ?_
          refine z_goto (M := M_X4_isSoByWorld) 94 dX4_isSoByWorld_94 98 rfl ?_
          exact z_retZ (M := M_X4_isSoByWorld) 98 dX4_isSoByWorld_98 rfl (by omega) ⟨G4, R4, by omega, by omega, ⟨fun _ => so_.mpr (by rw [if_neg (by omega)]; omega), fun _ => rfl⟩⟩
    · refine z_iload (M := M_X4_isSoByWorld) 64 dX4_isSoByWorld_64 rfl ?_
      refine z_iload (M := M_X4_isSoByWorld) 66 dX4_isSoByWorld_66 rfl ?_
      refine z_icmp_ne (M := M_X4_isSoByWorld) 68 dX4_isSoByWorld_68 75 rfl (fun c14 => ?_) (fun c14 => ?_)
      · refine z_iconst (M := M_X4_isSoByWorld) 75 dX4_isSoByWorld_75 ?_
        refine z_goto (M := M_X4_isSoByWorld) 76 dX4_isSoByWorld_76 98 rfl ?_
        exact z_retZ (M := M_X4_isSoByWorld) 98 dX4_isSoByWorld_98 rfl (by omega) ⟨G4, R4, by omega, by omega, ⟨fun z => absurd z (by decide), fun z => by have y := so_.mp z; rw [if_pos (by omega)] at y; omega⟩⟩
      · refine z_iconst (M := M_X4_isSoByWorld) 71 dX4_isSoByWorld_71 ?_
        refine z_goto (M := M_X4_isSoByWorld) 72 dX4_isSoByWorld_72 98 rfl ?_
        exact z_retZ (M := M_X4_isSoByWorld) 98 dX4_isSoByWorld_98 rfl (by omega) ⟨G4, R4, by omega, by omega, ⟨fun _ => so_.mpr (by rw [if_pos (by omega)]; omega), fun _ => rfl⟩⟩
  · refine z_iconst (M := M_X4_isSoByWorld) 11 dX4_isSoByWorld_11 ?_
    exact z_retZ (M := M_X4_isSoByWorld) 12 dX4_isSoByWorld_12 rfl (by omega) ⟨G1, R1, by omega, by omega, ⟨fun _ => Or.inl (by omega), fun _ => rfl⟩⟩
abbrev P_X12_isSo2 (h0 : m_H) (a1 : Int) : Int → m_H → Prop := fun x h' => GI h' ∧ FR [] [] h0 h' ∧ 0 ≤ x ∧ x ≤ 1 ∧ (x = 1 ↔ soM (h0 110) a1)
set_option maxHeartbeats 4000000 in
set_option maxRecDepth 100000 in
theorem c_X12_isSo2 (h0 : m_H) (a1 : Int) (G0 : GI h0) (pa1 : 0 ≤ a1 ∧ a1 ≤ 23) : m_CI M_X12_isSo [mR 108, mI a1] h0 (P_X12_isSo2 h0 a1) := by
  refine m_CI_of ⟨by decide, rfl, by simp [m_arg, m_isL, M_X12_isSo], ⟨rfl, rfl⟩, rfl, rfl⟩ (ls := [some (mR 108), some (mI a1), none, none, none]) rfl ?_
  refine z_aload_n (M := M_X12_isSo) 0 dX12_isSo_0 rfl ?_
  refine z_getR (M := M_X12_isSo) 1 dX12_isSo_1 f_X12_13 o_108 rfl (g_108_3 G0) ?_
  refine z_bipush (M := M_X12_isSo) 4 dX12_isSo_4 ?_
  refine z_aload_n (M := M_X12_isSo) 6 dX12_isSo_6 rfl ?_
  refine z_iload_n (M := M_X12_isSo) 7 dX12_isSo_7 rfl ?_
  refine z_vI (M := M_X12_isSo) 8 dX12_isSo_8 t_X12_lengthOf l_X12_198 (m_rr_of rfl) (rest := [mI 60, mR 110]) (c_X12_lengthOf2 h0 a1 G0 ⟨by omega, by omega⟩) o_108 rfl rfl rfl (Nat.le_of_ble_eq_true rfl) ⟨rfl, rfl⟩ (fun x1 h1 qx1 => ?_)
  obtain ⟨G1, S1, ax1, bx1, fx1⟩ := qx1
  have R1 := (FR.rf (cs := []) (ss := []) (h := h0)).call S1 (by decide +kernel)
  refine z_iaddN (M := M_X12_isSo) 11 dX12_isSo_11 (by omega) (by omega) ?_
  refine z_ialdG (M := M_X12_isSo) 12 dX12_isSo_12 o_110 (by omega) (by omega) (gw_l G1 (by omega) (by omega)) (fun x2 ex2 ax2 bx2 => ?_)
  refine z_istore_n (M := M_X12_isSo) 13 dX12_isSo_13 (ls' := [some (mR 108), some (mI a1), some (mI x2), none, none]) (by decide) rfl ?_
  refine z_aload_n (M := M_X12_isSo) 14 dX12_isSo_14 rfl ?_
  refine z_getR (M := M_X12_isSo) 15 dX12_isSo_15 f_X12_13 o_108 rfl (g_108_3 G1) ?_
  refine z_bipush (M := M_X12_isSo) 18 dX12_isSo_18 ?_
  refine z_aload_n (M := M_X12_isSo) 20 dX12_isSo_20 rfl ?_
  refine z_getR (M := M_X12_isSo) 21 dX12_isSo_21 f_X12_13 o_108 rfl (g_108_3 G1) ?_
  refine z_bipush (M := M_X12_isSo) 24 dX12_isSo_24 ?_
  refine z_aload_n (M := M_X12_isSo) 26 dX12_isSo_26 rfl ?_
  refine z_iload_n (M := M_X12_isSo) 27 dX12_isSo_27 rfl ?_
  refine z_iconst (M := M_X12_isSo) 28 dX12_isSo_28 ?_
  refine z_vI (M := M_X12_isSo) 29 dX12_isSo_29 t_X12_ofEntry l_X12_195 (m_rr_of rfl) (rest := [mI 10, mR 110, mI 72, mR 110]) (c_X12_ofEntry h1 a1 1 G1 ⟨by omega, by omega⟩ ⟨by omega, by omega⟩) o_108 rfl rfl rfl (Nat.le_of_ble_eq_true rfl) ⟨rfl, rfl⟩ (fun x3 h2 qx3 => ?_)
  obtain ⟨rfl, fx3⟩ := qx3
  have gx3 := gw_e1 G1 (i := (80 + 5 * a1 + 1)) (e := a1) (by omega) (by omega) (by omega)
  rw [fx3] at gx3
  refine z_iaddN (M := M_X12_isSo) 32 dX12_isSo_32 (by omega) (by omega) ?_
  refine z_ialdG (M := M_X12_isSo) 33 dX12_isSo_33 o_110 (by omega) (by omega) (gw_w G1 (by omega) (by omega)) (fun x4 ex4 ax4 bx4 => ?_)
  refine z_iaddN (M := M_X12_isSo) 34 dX12_isSo_34 (by omega) (by omega) ?_
  refine z_ialdG (M := M_X12_isSo) 35 dX12_isSo_35 o_110 (by omega) (by omega) (gw_l G1 (by omega) (by omega)) (fun x5 ex5 ax5 bx5 => ?_)
  refine z_istore_n (M := M_X12_isSo) 36 dX12_isSo_36 (ls' := [some (mR 108), some (mI a1), some (mI x2), some (mI x5), none]) (by decide) rfl ?_
  refine z_aload_n (M := M_X12_isSo) 37 dX12_isSo_37 rfl ?_
  refine z_iload_n (M := M_X12_isSo) 38 dX12_isSo_38 rfl ?_
  refine z_iconst (M := M_X12_isSo) 39 dX12_isSo_39 ?_
  refine z_vI (M := M_X12_isSo) 40 dX12_isSo_40 t_X12_ofEntry l_X12_195 (m_rr_of rfl) (rest := []) (c_X12_ofEntry h1 a1 2 G1 ⟨by omega, by omega⟩ ⟨by omega, by omega⟩) o_108 rfl rfl rfl (Nat.le_of_ble_eq_true rfl) ⟨rfl, rfl⟩ (fun x6 h3 qx6 => ?_)
  obtain ⟨rfl, fx6⟩ := qx6
  have gx6 := gw_e2 G1 (i := (80 + 5 * a1 + 2)) (e := a1) (by omega) (by omega) (by omega)
  rw [fx6] at gx6
  refine z_istore (M := M_X12_isSo) 43 dX12_isSo_43 (ls' := [some (mR 108), some (mI a1), some (mI x2), some (mI x5), some (mI x6)]) (by decide) rfl ?_
  refine z_aload_n (M := M_X12_isSo) 45 dX12_isSo_45 rfl ?_
  refine z_iload_n (M := M_X12_isSo) 46 dX12_isSo_46 rfl ?_
  refine z_iconst (M := M_X12_isSo) 47 dX12_isSo_47 ?_
  refine z_vI (M := M_X12_isSo) 48 dX12_isSo_48 t_X12_ofEntry l_X12_195 (m_rr_of rfl) (rest := []) (c_X12_ofEntry h1 a1 3 G1 ⟨by omega, by omega⟩ ⟨by omega, by omega⟩) o_108 rfl rfl rfl (Nat.le_of_ble_eq_true rfl) ⟨rfl, rfl⟩ (fun x7 h4 qx7 => ?_)
  obtain ⟨rfl, fx7⟩ := qx7
  have gx7 := gw_e3 G1 (i := (80 + 5 * a1 + 3)) (e := a1) (by omega) (by omega) (by omega)
  rw [fx7] at gx7
  have so_ : soM (h0 110) a1 ↔ soV x2 x5 x6 x7 := by
    have i1 : (80 + 5 * a1 + 1).toNat = 5 * a1.toNat + 81 := by omega
    have i2 : (80 + 5 * a1 + 2).toNat = 5 * a1.toNat + 82 := by omega
    have i3 : (80 + 5 * a1 + 3).toNat = 5 * a1.toNat + 83 := by omega
    rw [frE R1] at ex2 ex4 ex5 fx3 fx6 fx7
    rw [i1] at fx3
    rw [i2] at fx6
    rw [i3] at fx7
    unfold soM
    rw [fx1, ex2, fx3, ex4, ex5, fx6, fx7]
  by_cases c8 : x7 = 0 ∨ x7 = 1
  · rcases c8 with c8_0 | c8_1
    · refine z_lookup (M := M_X12_isSo) 51 dX12_isSo_51 (off := 25) 76 (by decide) (by rw [c8_0]; rfl) rfl ?_
      refine z_iload_n (M := M_X12_isSo) 76 dX12_isSo_76 rfl ?_
      refine z_iload (M := M_X12_isSo) 77 dX12_isSo_77 rfl ?_
      refine z_iload_n (M := M_X12_isSo) 79 dX12_isSo_79 rfl ?_
      refine z_imul (M := M_X12_isSo) 80 dX12_isSo_80 ?_
      refine z_topm (fun x9 ex9 ox9 => ?_)
      unfold m_32 at ox9
      refine z_icmp_ne (M := M_X12_isSo) 81 dX12_isSo_81 88 rfl (fun c10 => ?_) (fun c10 => ?_)
      · refine z_iconst (M := M_X12_isSo) 88 dX12_isSo_88 ?_
        exact z_retZ (M := M_X12_isSo) 89 dX12_isSo_89 rfl (by omega) ⟨G1, R1, by omega, by omega, ⟨fun z => absurd z (by decide), fun z => by have y := (so_0 (by omega) (by omega) (by omega) (by omega) c8_0).mp (so_.mp z); rw [ex9] at y; omega⟩⟩
      · refine z_iconst (M := M_X12_isSo) 84 dX12_isSo_84 ?_
        refine z_goto (M := M_X12_isSo) 85 dX12_isSo_85 89 rfl ?_
        exact z_retZ (M := M_X12_isSo) 89 dX12_isSo_89 rfl (by omega) ⟨G1, R1, by omega, by omega, ⟨fun _ => so_.mpr ((so_0 (by omega) (by omega) (by omega) (by omega) c8_0).mpr (by rw [ex9]; omega)), fun _ => rfl⟩⟩
    · refine z_lookup (M := M_X12_isSo) 51 dX12_isSo_51 (off := 39) 90 (by decide) (by rw [c8_1]; rfl) rfl ?_
      refine z_iload_n (M := M_X12_isSo) 90 dX12_isSo_90 rfl ?_
      refine z_iload (M := M_X12_isSo) 91 dX12_isSo_91 rfl ?_
      refine z_iload_n (M := M_X12_isSo) 93 dX12_isSo_93 rfl ?_
      refine z_imul (M := M_X12_isSo) 94 dX12_isSo_94 ?_
      refine z_topm (fun x11 ex11 ox11 => ?_)
      unfold m_32 at ox11
      refine z_icmp_lt (M := M_X12_isSo) 95 dX12_isSo_95 112 rfl (fun c12 => ?_) (fun c12 => ?_)
      · refine z_iconst (M := M_X12_isSo) 112 dX12_isSo_112 ?_
        exact z_retZ (M := M_X12_isSo) 113 dX12_isSo_113 rfl (by omega) ⟨G1, R1, by omega, by omega, ⟨fun z => absurd z (by decide), fun z => by have y := (so_1 (by omega) (by omega) (by omega) (by omega) c8_1).mp (so_.mp z); rw [ex11] at y; omega⟩⟩
      · refine z_iload_n (M := M_X12_isSo) 98 dX12_isSo_98 rfl ?_
        refine z_iload (M := M_X12_isSo) 99 dX12_isSo_99 rfl ?_
        refine z_iconst (M := M_X12_isSo) 101 dX12_isSo_101 ?_
        refine z_iaddN (M := M_X12_isSo) 102 dX12_isSo_102 (by omega) (by omega) ?_
        refine z_iload_n (M := M_X12_isSo) 103 dX12_isSo_103 rfl ?_
        refine z_imul (M := M_X12_isSo) 104 dX12_isSo_104 ?_
        refine z_topm (fun x13 ex13 ox13 => ?_)
        unfold m_32 at ox13
        refine z_icmp_ge (M := M_X12_isSo) 105 dX12_isSo_105 112 rfl (fun c14 => ?_) (fun c14 => ?_)
        · refine z_iconst (M := M_X12_isSo) 112 dX12_isSo_112 ?_
          exact z_retZ (M := M_X12_isSo) 113 dX12_isSo_113 rfl (by omega) ⟨G1, R1, by omega, by omega, ⟨fun z => absurd z (by decide), fun z => by have y := (so_1 (by omega) (by omega) (by omega) (by omega) c8_1).mp (so_.mp z); rw [ex11, ex13] at y; omega⟩⟩
        · refine z_iconst (M := M_X12_isSo) 108 dX12_isSo_108 ?_
          refine z_goto (M := M_X12_isSo) 109 dX12_isSo_109 113 rfl ?_
          exact z_retZ (M := M_X12_isSo) 113 dX12_isSo_113 rfl (by omega) ⟨G1, R1, by omega, by omega, ⟨fun _ => so_.mpr ((so_1 (by omega) (by omega) (by omega) (by omega) c8_1).mpr (by rw [ex11, ex13]; omega)), fun _ => rfl⟩⟩
  · refine z_lookup (M := M_X12_isSo) 51 dX12_isSo_51 (off := 63) 114 (by decide) (by simp only [Op.lookupswitch.offset]; split <;> (try omega) <;> (split <;> omega)) rfl ?_
    refine z_iconst (M := M_X12_isSo) 114 dX12_isSo_114 ?_
    refine z_iload_n (M := M_X12_isSo) 115 dX12_isSo_115 rfl ?_
    refine z_imulN (M := M_X12_isSo) 116 dX12_isSo_116 (by omega) (by omega) ?_
    refine z_iconst (M := M_X12_isSo) 117 dX12_isSo_117 ?_
    refine z_iload (M := M_X12_isSo) 118 dX12_isSo_118 rfl ?_
    refine z_imulN (M := M_X12_isSo) 120 dX12_isSo_120 (by omega) (by omega) ?_
    refine z_iconst (M := M_X12_isSo) 121 dX12_isSo_121 ?_
    refine z_isubN (M := M_X12_isSo) 122 dX12_isSo_122 (by omega) (by omega) ?_
    refine z_iload_n (M := M_X12_isSo) 123 dX12_isSo_123 rfl ?_
    refine z_imul (M := M_X12_isSo) 124 dX12_isSo_124 ?_
    refine z_topm (fun x15 ex15 ox15 => ?_)
    unfold m_32 at ox15
    refine z_icmp_lt (M := M_X12_isSo) 125 dX12_isSo_125 146 rfl (fun c16 => ?_) (fun c16 => ?_)
    · refine z_iconst (M := M_X12_isSo) 146 dX12_isSo_146 ?_
      exact z_retZ (M := M_X12_isSo) 147 dX12_isSo_147 rfl (by omega) ⟨G1, R1, by omega, by omega, ⟨fun z => absurd z (by decide), fun z => by have y := (so_2 (by omega) (by omega) (by omega) (by omega) (by omega) (by omega)).mp (so_.mp z); rw [ex15] at y; omega⟩⟩
    · refine z_iconst (M := M_X12_isSo) 128 dX12_isSo_128 ?_
      refine z_iload_n (M := M_X12_isSo) 129 dX12_isSo_129 rfl ?_
      refine z_imulN (M := M_X12_isSo) 130 dX12_isSo_130 (by omega) (by omega) ?_
      refine z_iconst (M := M_X12_isSo) 131 dX12_isSo_131 ?_
      refine z_iload (M := M_X12_isSo) 132 dX12_isSo_132 rfl ?_
      refine z_imulN (M := M_X12_isSo) 134 dX12_isSo_134 (by omega) (by omega) ?_
      refine z_iconst (M := M_X12_isSo) 135 dX12_isSo_135 ?_
      refine z_iaddN (M := M_X12_isSo) 136 dX12_isSo_136 (by omega) (by omega) ?_
      refine z_iload_n (M := M_X12_isSo) 137 dX12_isSo_137 rfl ?_
      refine z_imul (M := M_X12_isSo) 138 dX12_isSo_138 ?_
      refine z_topm (fun x17 ex17 ox17 => ?_)
      unfold m_32 at ox17
      refine z_icmp_ge (M := M_X12_isSo) 139 dX12_isSo_139 146 rfl (fun c18 => ?_) (fun c18 => ?_)
      · refine z_iconst (M := M_X12_isSo) 146 dX12_isSo_146 ?_
        exact z_retZ (M := M_X12_isSo) 147 dX12_isSo_147 rfl (by omega) ⟨G1, R1, by omega, by omega, ⟨fun z => absurd z (by decide), fun z => by have y := (so_2 (by omega) (by omega) (by omega) (by omega) (by omega) (by omega)).mp (so_.mp z); rw [ex15, ex17] at y; omega⟩⟩
      · refine z_iconst (M := M_X12_isSo) 142 dX12_isSo_142 ?_
        refine z_goto (M := M_X12_isSo) 143 dX12_isSo_143 147 rfl ?_
        exact z_retZ (M := M_X12_isSo) 147 dX12_isSo_147 rfl (by omega) ⟨G1, R1, by omega, by omega, ⟨fun _ => so_.mpr ((so_2 (by omega) (by omega) (by omega) (by omega) (by omega) (by omega)).mpr (by rw [ex15, ex17]; omega)), fun _ => rfl⟩⟩
theorem so_eq {h : m_H} {e : Int} (R : LR 1 h (h 110)) (G : GI h) (h0 : 0 ≤ e) (h1 : e < h 110 0) : ¬ soC h 1 e ↔ (h 110 (10 + h 110 (5 * e.toNat + 81)).toNat ≠ -1 ∧ ¬ soM (h 110) e) := by
  obtain ⟨b, k, c, wd, n, q, cb, sb⟩ := R
  obtain ⟨b1, b2, b3, b4⟩ := b
  obtain ⟨q1, q2, q3, q4⟩ := q e.toNat (by omega)
  have q1' : h (1 + 3) e.toNat = h 110 (5 * e.toNat + 80) := q1
  have q2' : h (1 + 4) e.toNat = h 110 (5 * e.toNat + 81) := q2
  have q3' : h (1 + 5) e.toNat = h 110 (5 * e.toNat + 82) := q3
  have q4' : h (1 + 6) e.toNat = h 110 (5 * e.toNat + 83) := q4
  have gn := gw_n G (e := e.toNat) (by omega)
  obtain ⟨⟨g1, g2⟩, ⟨g3, g4⟩, _⟩ := gn
  have kk := k (h 110 (5 * e.toNat + 81)).toNat (by omega)
  have cc := c (h 110 (5 * e.toNat + 80)).toNat (by omega)
  have ik : (10 + h 110 (5 * e.toNat + 81)).toNat = 10 + (h 110 (5 * e.toNat + 81)).toNat := by omega
  have ic : (42 + h 110 (5 * e.toNat + 80)).toNat = 42 + (h 110 (5 * e.toNat + 80)).toNat := by omega
  unfold soC soM
  rw [q1', q2', q3', q4', kk, cc, ik, ic]
  generalize hv : lnV (h 110 (42 + (h 110 (5 * e.toNat + 80)).toNat)) (h 110 (5 * e.toNat + 80)) (h 110 (5 * e.toNat + 81)) = v
  have hb : 0 ≤ v ∧ v ≤ 11 := by
    rw [← hv]; unfold lnV; split <;> omega
  have gk := gw_w G (i := 10 + h 110 (5 * e.toNat + 81)) (by omega) (by omega)
  rw [ik] at gk
  generalize h 110 (10 + (h 110 (5 * e.toNat + 81)).toNat) = kp at gk ⊢
  by_cases g : kp = -1
  · exact ⟨fun z => absurd (Or.inl g) z, fun z => absurd g z.1⟩
  · have w1 := wd v.toNat (by omega)
    have w2 := wd (12 + kp).toNat (by omega)
    rw [w1, w2, show (60 + v).toNat = 60 + v.toNat by omega, show (72 + kp).toNat = 60 + (12 + kp).toNat by omega, or_iff_right g]
    exact ⟨fun z => ⟨g, z⟩, fun z => z.2⟩
/-! judge, exact in both -/
noncomputable def jS (W : Int → Prop) (n : Int) : Nat → Int × Int
  | 0 => (-1, 0)
  | d + 1 => cif (W (n - 1 - (d : Int))) (n - 1 - (d : Int), (jS W n d).2 + 1) (jS W n d)
theorem jS_c {W V : Int → Prop} {n : Int} (e : ∀ k, 0 ≤ k → k < n → (W k ↔ V k)) : ∀ d : Nat, (d : Int) ≤ n → jS W n d = jS V n d
  | 0, _ => rfl
  | d + 1, hd => by
    have i := jS_c e d (by omega)
    have z := e (n - 1 - (d : Int)) (by omega) (by omega)
    show cif (W (n - 1 - (d : Int))) _ _ = cif (V (n - 1 - (d : Int))) _ _
    rw [i]
    by_cases g : W (n - 1 - (d : Int))
    · rw [cif_pos g, cif_pos (z.mp g)]
    · rw [cif_neg g, cif_neg (fun y => g (z.mpr y))]
theorem jS_b {W : Int → Prop} {n : Int} : ∀ d : Nat, 0 ≤ (jS W n d).2 ∧ (jS W n d).2 ≤ (d : Int)
  | 0 => ⟨Int.le_refl _, Int.le_refl _⟩
  | d + 1 => by
    have i := jS_b (W := W) (n := n) d
    show 0 ≤ (cif (W (n - 1 - (d : Int))) (n - 1 - (d : Int), (jS W n d).2 + 1) (jS W n d)).2 ∧ (cif (W (n - 1 - (d : Int))) (n - 1 - (d : Int), (jS W n d).2 + 1) (jS W n d)).2 ≤ _
    by_cases g : W (n - 1 - (d : Int))
    · rw [cif_pos g]; show 0 ≤ (jS W n d).2 + 1 ∧ (jS W n d).2 + 1 ≤ _; omega
    · rw [cif_neg g]; omega
def jI (W : Int → Prop) (n l f m : Int) : Prop := f = (jS W n (n - 1 - l).toNat).1 ∧ m = (jS W n (n - 1 - l).toNat).2
theorem jI_0 {W : Int → Prop} {n l : Int} (e : l = n - 1) : jI W n l (-1) 0 := by
  unfold jI; rw [show (n - 1 - l).toNat = 0 by omega]; exact ⟨rfl, rfl⟩
theorem jI_b {W : Int → Prop} {n l f m : Int} (i : jI W n l f m) (h : l ≤ n - 1) : 0 ≤ m ∧ m ≤ n - 1 - l := by
  have z := jS_b (W := W) (n := n) (n - 1 - l).toNat
  rw [i.2]; omega
theorem jI_y {W : Int → Prop} {n l f m : Int} (i : jI W n l f m) (h : l ≤ n - 1) (w : W l) : jI W n (l + (-1)) l (m + 1) := by
  have e : (n - 1 - (l + (-1))).toNat = (n - 1 - l).toNat + 1 := by omega
  have e2 : n - 1 - ((n - 1 - l).toNat : Int) = l := by omega
  unfold jI
  rw [e]
  show l = (cif (W (n - 1 - ((n - 1 - l).toNat : Int))) (n - 1 - ((n - 1 - l).toNat : Int), (jS W n (n - 1 - l).toNat).2 + 1) (jS W n (n - 1 - l).toNat)).1 ∧ m + 1 = (cif (W (n - 1 - ((n - 1 - l).toNat : Int))) (n - 1 - ((n - 1 - l).toNat : Int), (jS W n (n - 1 - l).toNat).2 + 1) (jS W n (n - 1 - l).toNat)).2
  rw [e2, cif_pos w, i.2]; exact ⟨rfl, rfl⟩
theorem jI_n {W : Int → Prop} {n l f m : Int} (i : jI W n l f m) (h : l ≤ n - 1) (w : ¬ W l) : jI W n (l + (-1)) f m := by
  have e : (n - 1 - (l + (-1))).toNat = (n - 1 - l).toNat + 1 := by omega
  have e2 : n - 1 - ((n - 1 - l).toNat : Int) = l := by omega
  unfold jI
  rw [e]
  show f = (cif (W (n - 1 - ((n - 1 - l).toNat : Int))) (n - 1 - ((n - 1 - l).toNat : Int), (jS W n (n - 1 - l).toNat).2 + 1) (jS W n (n - 1 - l).toNat)).1 ∧ m = (cif (W (n - 1 - ((n - 1 - l).toNat : Int))) (n - 1 - ((n - 1 - l).toNat : Int), (jS W n (n - 1 - l).toNat).2 + 1) (jS W n (n - 1 - l).toNat)).2
  rw [e2, cif_neg w]; exact i
theorem jI_e {W : Int → Prop} {n l f m : Int} (i : jI W n l f m) (h : l = -1) : f = (jS W n n.toNat).1 ∧ m = (jS W n n.toNat).2 := by
  unfold jI at i; rw [show (n - 1 - l).toNat = n.toNat by omega] at i; exact i
/-- shorters and cuts by the world -/
def shC (h : m_H) (L : Nat) (p : Int) : Prop := m_and (m_shr (h L 9) p) 1 = 1 → h (L + 7) (12 + p / 4).toNat < h (L + 7) (12 + p % 4).toNat
def cuC (h : m_H) (L : Nat) (t : Int) : Prop := h (L + 2) t.toNat = -1 ∨ h (L + 7) (t + 6).toNat ≤ h (L + 7) t.toNat
def al (P : Int → Prop) (n : Int) : Prop := ∀ k, 0 ≤ k → k < n → P k
theorem al_s {P : Int → Prop} {n : Int} (i : al P n) (p : P n) : al P (n + 1) := fun k h0 h1 => by
  by_cases g : k = n
  · rw [g]; exact p
  · exact i k h0 (by omega)
theorem al_0 {P : Int → Prop} : al P 0 := fun k h0 h1 => by omega
abbrev P_X4_hasShortersByWorld2 (h0 : m_H) (L : Nat) : Int → m_H → Prop := fun x h' => GI h' ∧ FR [] [] h0 h' ∧ 0 ≤ x ∧ x ≤ 1 ∧ (x = 1 ↔ al (shC h0 L) 16)
def q_X4_hasShortersByWorld2 (h0 : m_H) (L : Nat) (n : Nat) : Prop := (∀ (l1 : Int) (h : m_H), GI h → FR [] [] h0 h → 0 ≤ l1 → l1 ≤ 16 → (al (shC h0 L) l1) → 2 * (16 - l1) + (1) ≤ (n : Int) → m_Z oF M_X4_hasShortersByWorld 2 [some (mR L), some (mI l1), none, none] [] h (m_QI (P_X4_hasShortersByWorld2 h0 L)))
set_option maxHeartbeats 4000000 in
set_option maxRecDepth 100000 in
theorem s_X4_hasShortersByWorld2_2 (h0 : m_H) (L : Nat) (hL : isL L) (G0 : GI h0) (n : Nat) (ih : q_X4_hasShortersByWorld2 h0 L n) : ∀ (l1 : Int) (h : m_H), GI h → FR [] [] h0 h → 0 ≤ l1 → l1 ≤ 16 → (al (shC h0 L) l1) → 2 * (16 - l1) + (1) ≤ ((n + 1 : Nat) : Int) → m_Z oF M_X4_hasShortersByWorld 2 [some (mR L), some (mI l1), none, none] [] h (m_QI (P_X4_hasShortersByWorld2 h0 L)) := by
  intro l1 h G R v0 v1 i0 hr
  have e_ := frE R
  refine z_iload_n (M := M_X4_hasShortersByWorld) 2 dX4_hasShortersByWorld_2 rfl ?_
  refine z_bipush (M := M_X4_hasShortersByWorld) 3 dX4_hasShortersByWorld_3 ?_
  refine z_icmp_ge (M := M_X4_hasShortersByWorld) 5 dX4_hasShortersByWorld_5 56 rfl (fun c1 => ?_) (fun c1 => ?_)
  · refine z_iconst (M := M_X4_hasShortersByWorld) 56 dX4_hasShortersByWorld_56 ?_
    exact z_retZ (M := M_X4_hasShortersByWorld) 57 dX4_hasShortersByWorld_57 rfl (by omega) ⟨G, R, by omega, by omega, ⟨fun _ => by rw [show (16 : Int) = l1 by omega]; exact i0, fun _ => rfl⟩⟩
  · refine z_aload_n (M := M_X4_hasShortersByWorld) 8 dX4_hasShortersByWorld_8 rfl ?_
    refine z_getR (M := M_X4_hasShortersByWorld) 9 dX4_hasShortersByWorld_9 f_X4_30 (oL hL) rfl (rL_6 hL G) ?_
    refine z_bipush (M := M_X4_hasShortersByWorld) 12 dX4_hasShortersByWorld_12 ?_
    refine z_iload_n (M := M_X4_hasShortersByWorld) 14 dX4_hasShortersByWorld_14 rfl ?_
    refine z_iconst (M := M_X4_hasShortersByWorld) 15 dX4_hasShortersByWorld_15 ?_
    refine z_idivN (M := M_X4_hasShortersByWorld) 16 dX4_hasShortersByWorld_16 (by omega) (by omega) ?_
    refine z_topBI (lo := 0) (hi := 3) ⟨by omega, by omega⟩ (fun x2 ex2 ax2 bx2 => ?_)
    refine z_iaddN (M := M_X4_hasShortersByWorld) 17 dX4_hasShortersByWorld_17 (by omega) (by omega) ?_
    refine z_ialdG (M := M_X4_hasShortersByWorld) 18 dX4_hasShortersByWorld_18 (oL_7 hL) (by omega) (by omega) (gL_7 hL G (by omega)) (fun x3 ex3 ax3 bx3 => ?_)
    refine z_istore_n (M := M_X4_hasShortersByWorld) 19 dX4_hasShortersByWorld_19 (ls' := [some (mR L), some (mI l1), some (mI x3), none]) (by decide) rfl ?_
    refine z_aload_n (M := M_X4_hasShortersByWorld) 20 dX4_hasShortersByWorld_20 rfl ?_
    refine z_getR (M := M_X4_hasShortersByWorld) 21 dX4_hasShortersByWorld_21 f_X4_30 (oL hL) rfl (rL_6 hL G) ?_
    refine z_bipush (M := M_X4_hasShortersByWorld) 24 dX4_hasShortersByWorld_24 ?_
    refine z_iload_n (M := M_X4_hasShortersByWorld) 26 dX4_hasShortersByWorld_26 rfl ?_
    refine z_iconst (M := M_X4_hasShortersByWorld) 27 dX4_hasShortersByWorld_27 ?_
    refine z_iremN (M := M_X4_hasShortersByWorld) 28 dX4_hasShortersByWorld_28 (by omega) (by omega) ?_
    refine z_topBI (lo := 0) (hi := 3) ⟨by omega, by omega⟩ (fun x4 ex4 ax4 bx4 => ?_)
    refine z_iaddN (M := M_X4_hasShortersByWorld) 29 dX4_hasShortersByWorld_29 (by omega) (by omega) ?_
    refine z_ialdG (M := M_X4_hasShortersByWorld) 30 dX4_hasShortersByWorld_30 (oL_7 hL) (by omega) (by omega) (gL_7 hL G (by omega)) (fun x5 ex5 ax5 bx5 => ?_)
    refine z_istore_n (M := M_X4_hasShortersByWorld) 31 dX4_hasShortersByWorld_31 (ls' := [some (mR L), some (mI l1), some (mI x3), some (mI x5)]) (by decide) rfl ?_
    refine z_aload_n (M := M_X4_hasShortersByWorld) 32 dX4_hasShortersByWorld_32 rfl ?_
    refine z_getIV (M := M_X4_hasShortersByWorld) 33 dX4_hasShortersByWorld_33 f_X4_52 (oL hL) (by decide) (fun x6 ex6 => ?_)
    refine z_ok (fun ox6 _ _ => ?_)
    have ox6 := ox6.1; unfold m_ok m_32 at ox6
    refine z_iload_n (M := M_X4_hasShortersByWorld) 36 dX4_hasShortersByWorld_36 rfl ?_
    refine z_nI (M := M_X4_hasShortersByWorld) 37 dX4_hasShortersByWorld_37 t_X11_hasBit l_X4_59 (m_rr_of rfl) (rest := []) (c_X11_hasBit h x6 l1 G) rfl rfl (Nat.le_of_ble_eq_true rfl) ⟨rfl, rfl⟩ (fun x7 h1 qx7 => ?_)
    obtain ⟨rfl, ⟨rfl, cx7⟩ | ⟨rfl, cx7⟩⟩ := qx7
    · refine z_if_eq_F (M := M_X4_hasShortersByWorld) 40 dX4_hasShortersByWorld_40 50 rfl (by omega) ?_
      refine z_iload_n (M := M_X4_hasShortersByWorld) 43 dX4_hasShortersByWorld_43 rfl ?_
      refine z_iload_n (M := M_X4_hasShortersByWorld) 44 dX4_hasShortersByWorld_44 rfl ?_
      refine z_icmp_lt (M := M_X4_hasShortersByWorld) 45 dX4_hasShortersByWorld_45 50 rfl (fun c8 => ?_) (fun c8 => ?_)
      · refine z_iincN (M := M_X4_hasShortersByWorld) 50 dX4_hasShortersByWorld_50 (ls' := [some (mR L), some (mI (l1 + 1)), some (mI x3), some (mI x5)]) (by decide) rfl (by (unfold m_32; decide)) (by omega) (by omega) rfl ?_
        refine z_goto (M := M_X4_hasShortersByWorld) 53 dX4_hasShortersByWorld_53 2 rfl ?_
        exact z_mask [true, true, false, false] rfl (ih (l1 + 1) h G R (by omega) (by omega) (al_s i0 (fun z => by rw [← e_, ex2, ex4, ex3, ex5]; omega)) (by omega))
      · refine z_iconst (M := M_X4_hasShortersByWorld) 48 dX4_hasShortersByWorld_48 ?_
        exact z_retZ (M := M_X4_hasShortersByWorld) 49 dX4_hasShortersByWorld_49 rfl (by omega) ⟨G, R, by omega, by omega, ⟨fun z => absurd z (by decide), fun z => by have y := z l1 (by omega) (by omega) (by rw [← e_, ex6]; exact cx7); rw [← e_, ex2, ex4, ex3, ex5] at y; omega⟩⟩
    · refine z_if_eq_T (M := M_X4_hasShortersByWorld) 40 dX4_hasShortersByWorld_40 50 rfl (by omega) ?_
      refine z_iincN (M := M_X4_hasShortersByWorld) 50 dX4_hasShortersByWorld_50 (ls' := [some (mR L), some (mI (l1 + 1)), some (mI x3), some (mI x5)]) (by decide) rfl (by (unfold m_32; decide)) (by omega) (by omega) rfl ?_
      refine z_goto (M := M_X4_hasShortersByWorld) 53 dX4_hasShortersByWorld_53 2 rfl ?_
      exact z_mask [true, true, false, false] rfl (ih (l1 + 1) h G R (by omega) (by omega) (al_s i0 (fun z => absurd (by rw [← e_, ex6] at z; exact z) cx7)) (by omega))
theorem a_X4_hasShortersByWorld2 (h0 : m_H) (L : Nat) (hL : isL L) (G0 : GI h0) : ∀ n, q_X4_hasShortersByWorld2 h0 L n := by
  intro n
  induction n with
  | zero => unfold q_X4_hasShortersByWorld2; intros; omega
  | succ n ih => exact s_X4_hasShortersByWorld2_2 h0 L hL G0 n ih
set_option maxHeartbeats 4000000 in
set_option maxRecDepth 100000 in
theorem c_X4_hasShortersByWorld2 (h0 : m_H) (L : Nat) (hL : isL L) (G0 : GI h0) : m_CI M_X4_hasShortersByWorld [mR L] h0 (P_X4_hasShortersByWorld2 h0 L) := by
  refine m_CI_of ⟨by decide, rfl, by simp [m_arg, m_isL, M_X4_hasShortersByWorld], ⟨rfl, rfl⟩, rfl, rfl⟩ (ls := [some (mR L), none, none, none]) rfl ?_
  have ih := a_X4_hasShortersByWorld2 h0 L hL G0 40
  refine z_iconst (M := M_X4_hasShortersByWorld) 0 dX4_hasShortersByWorld_0 ?_
  refine z_istore_n (M := M_X4_hasShortersByWorld) 1 dX4_hasShortersByWorld_1 (ls' := [some (mR L), some (mI 0), none, none]) (by decide) rfl ?_
  exact z_mask [true, true, false, false] rfl (ih 0 h0 G0 (FR.rf (cs := []) (ss := []) (h := h0)) (by omega) (by omega) al_0 (by omega))
abbrev P_X4_hasCutsByWorld2 (h0 : m_H) (L : Nat) : Int → m_H → Prop := fun x h' => GI h' ∧ FR [] [] h0 h' ∧ 0 ≤ x ∧ x ≤ 1 ∧ (x = 1 ↔ al (cuC h0 L) 6)
def q_X4_hasCutsByWorld2 (h0 : m_H) (L : Nat) (n : Nat) : Prop := (∀ (l1 : Int) (h : m_H), GI h → FR [] [] h0 h → 0 ≤ l1 → l1 ≤ 6 → (al (cuC h0 L) l1) → 2 * (6 - l1) + (1) ≤ (n : Int) → m_Z oF M_X4_hasCutsByWorld 2 [some (mR L), some (mI l1)] [] h (m_QI (P_X4_hasCutsByWorld2 h0 L)))
set_option maxHeartbeats 4000000 in
set_option maxRecDepth 100000 in
theorem s_X4_hasCutsByWorld2_2 (h0 : m_H) (L : Nat) (hL : isL L) (G0 : GI h0) (n : Nat) (ih : q_X4_hasCutsByWorld2 h0 L n) : ∀ (l1 : Int) (h : m_H), GI h → FR [] [] h0 h → 0 ≤ l1 → l1 ≤ 6 → (al (cuC h0 L) l1) → 2 * (6 - l1) + (1) ≤ ((n + 1 : Nat) : Int) → m_Z oF M_X4_hasCutsByWorld 2 [some (mR L), some (mI l1)] [] h (m_QI (P_X4_hasCutsByWorld2 h0 L)) := by
  intro l1 h G R v0 v1 i0 hr
  have e_ := frE R
  refine z_iload_n (M := M_X4_hasCutsByWorld) 2 dX4_hasCutsByWorld_2 rfl ?_
  refine z_bipush (M := M_X4_hasCutsByWorld) 3 dX4_hasCutsByWorld_3 ?_
  refine z_icmp_ge (M := M_X4_hasCutsByWorld) 5 dX4_hasCutsByWorld_5 44 rfl (fun c1 => ?_) (fun c1 => ?_)
  · refine z_iconst (M := M_X4_hasCutsByWorld) 44 dX4_hasCutsByWorld_44 ?_
    exact z_retZ (M := M_X4_hasCutsByWorld) 45 dX4_hasCutsByWorld_45 rfl (by omega) ⟨G, R, by omega, by omega, ⟨fun _ => by rw [show (6 : Int) = l1 by omega]; exact i0, fun _ => rfl⟩⟩
  · refine z_aload_n (M := M_X4_hasCutsByWorld) 8 dX4_hasCutsByWorld_8 rfl ?_
    refine z_getR (M := M_X4_hasCutsByWorld) 9 dX4_hasCutsByWorld_9 f_X4_15 (oL hL) rfl (rL_1 hL G) ?_
    refine z_iload_n (M := M_X4_hasCutsByWorld) 12 dX4_hasCutsByWorld_12 rfl ?_
    refine z_ialdG (M := M_X4_hasCutsByWorld) 13 dX4_hasCutsByWorld_13 (oL_2 hL) (by omega) (by omega) (gL_2 hL G (by omega)) (fun x2 ex2 ax2 bx2 => ?_)
    refine z_iconst (M := M_X4_hasCutsByWorld) 14 dX4_hasCutsByWorld_14 ?_
    refine z_icmp_eq (M := M_X4_hasCutsByWorld) 15 dX4_hasCutsByWorld_15 38 rfl (fun c3 => ?_) (fun c3 => ?_)
    · refine z_iincN (M := M_X4_hasCutsByWorld) 38 dX4_hasCutsByWorld_38 (ls' := [some (mR L), some (mI (l1 + 1))]) (by decide) rfl (by (unfold m_32; decide)) (by omega) (by omega) rfl ?_
      refine z_goto (M := M_X4_hasCutsByWorld) 41 dX4_hasCutsByWorld_41 2 rfl ?_
      exact z_mask [true, true] rfl (ih (l1 + 1) h G R (by omega) (by omega) (al_s i0 (Or.inl (by rw [← e_, ex2]; omega))) (by omega))
    · refine z_aload_n (M := M_X4_hasCutsByWorld) 18 dX4_hasCutsByWorld_18 rfl ?_
      refine z_getR (M := M_X4_hasCutsByWorld) 19 dX4_hasCutsByWorld_19 f_X4_30 (oL hL) rfl (rL_6 hL G) ?_
      refine z_iload_n (M := M_X4_hasCutsByWorld) 22 dX4_hasCutsByWorld_22 rfl ?_
      refine z_bipush (M := M_X4_hasCutsByWorld) 23 dX4_hasCutsByWorld_23 ?_
      refine z_iaddN (M := M_X4_hasCutsByWorld) 25 dX4_hasCutsByWorld_25 (by omega) (by omega) ?_
      refine z_ialdG (M := M_X4_hasCutsByWorld) 26 dX4_hasCutsByWorld_26 (oL_7 hL) (by omega) (by omega) (gL_7 hL G (by omega)) (fun x4 ex4 ax4 bx4 => ?_)
      refine z_aload_n (M := M_X4_hasCutsByWorld) 27 dX4_hasCutsByWorld_27 rfl ?_
      refine z_getR (M := M_X4_hasCutsByWorld) 28 dX4_hasCutsByWorld_28 f_X4_30 (oL hL) rfl (rL_6 hL G) ?_
      refine z_iload_n (M := M_X4_hasCutsByWorld) 31 dX4_hasCutsByWorld_31 rfl ?_
      refine z_ialdG (M := M_X4_hasCutsByWorld) 32 dX4_hasCutsByWorld_32 (oL_7 hL) (by omega) (by omega) (gL_7 hL G (by omega)) (fun x5 ex5 ax5 bx5 => ?_)
      refine z_icmp_le (M := M_X4_hasCutsByWorld) 33 dX4_hasCutsByWorld_33 38 rfl (fun c6 => ?_) (fun c6 => ?_)
      · refine z_iincN (M := M_X4_hasCutsByWorld) 38 dX4_hasCutsByWorld_38 (ls' := [some (mR L), some (mI (l1 + 1))]) (by decide) rfl (by (unfold m_32; decide)) (by omega) (by omega) rfl ?_
        refine z_goto (M := M_X4_hasCutsByWorld) 41 dX4_hasCutsByWorld_41 2 rfl ?_
        exact z_mask [true, true] rfl (ih (l1 + 1) h G R (by omega) (by omega) (al_s i0 (Or.inr (by rw [← e_, ex4, ex5]; omega))) (by omega))
      · refine z_iconst (M := M_X4_hasCutsByWorld) 36 dX4_hasCutsByWorld_36 ?_
        exact z_retZ (M := M_X4_hasCutsByWorld) 37 dX4_hasCutsByWorld_37 rfl (by omega) ⟨G, R, by omega, by omega, ⟨fun z => absurd z (by decide), fun z => by have y := z l1 (by omega) (by omega); unfold cuC at y; rw [← e_, ex2, ex4, ex5] at y; omega⟩⟩
theorem a_X4_hasCutsByWorld2 (h0 : m_H) (L : Nat) (hL : isL L) (G0 : GI h0) : ∀ n, q_X4_hasCutsByWorld2 h0 L n := by
  intro n
  induction n with
  | zero => unfold q_X4_hasCutsByWorld2; intros; omega
  | succ n ih => exact s_X4_hasCutsByWorld2_2 h0 L hL G0 n ih
set_option maxHeartbeats 4000000 in
set_option maxRecDepth 100000 in
theorem c_X4_hasCutsByWorld2 (h0 : m_H) (L : Nat) (hL : isL L) (G0 : GI h0) : m_CI M_X4_hasCutsByWorld [mR L] h0 (P_X4_hasCutsByWorld2 h0 L) := by
  refine m_CI_of ⟨by decide, rfl, by simp [m_arg, m_isL, M_X4_hasCutsByWorld], ⟨rfl, rfl⟩, rfl, rfl⟩ (ls := [some (mR L), none]) rfl ?_
  have ih := a_X4_hasCutsByWorld2 h0 L hL G0 20
  refine z_iconst (M := M_X4_hasCutsByWorld) 0 dX4_hasCutsByWorld_0 ?_
  refine z_istore_n (M := M_X4_hasCutsByWorld) 1 dX4_hasCutsByWorld_1 (ls' := [some (mR L), some (mI 0)]) (by decide) rfl ?_
  exact z_mask [true, true] rfl (ih 0 h0 G0 (FR.rf (cs := []) (ss := []) (h := h0)) (by omega) (by omega) al_0 (by omega))
def wrC (h : m_H) (e : Int) : Prop := m_and (m_shr (h 1 8) e) 1 = 1 ∧ ¬ soC h 1 e
def jdQ (W : Int → Prop) (n : Int) (A B : Prop) (a x : Int) : Prop := ((a < 0 ∨ 2 < a) ∧ x = -1) ∨ (a = 0 ∧ x = (jS W n n.toNat).1) ∨ (a = 1 ∧ x = (jS W n n.toNat).2) ∨ (a = 2 ∧ (x = 0 ∨ x = 1) ∧ (x = 1 ↔ ((jS W n n.toNat).2 = 0 ∧ A ∧ B)))
abbrev P_X11_judge3 (h0 : m_H) (a1 : Int) : Int → m_H → Prop := fun x h' => GI h' ∧ FR [] [] h0 h' ∧ jdQ (wrC h0) (h0 1 7) (al (shC h0 1) 16) (al (cuC h0 1) 6) a1 x
def q_X11_judge3 (h0 : m_H) (a1 : Int) (n : Nat) : Prop := (∀ (l2 l3 l4 : Int) (h : m_H), GI h → FR [] [] h0 h → (-1) ≤ l2 → l2 ≤ 23 → (-1) ≤ l4 → l4 ≤ 23 → 0 ≤ a1 → a1 ≤ 2 → (jI (wrC h0) (h0 1 7) l4 l2 l3) → (l4 ≤ h0 1 7 - 1) → 2 * (l4 - (-1)) + (1) ≤ (n : Int) → m_Z oF M_X11_judge 26 [some (mR 0), some (mI a1), some (mI l2), some (mI l3), some (mI l4)] [] h (m_QI (P_X11_judge3 h0 a1)))
set_option maxHeartbeats 4000000 in
set_option maxRecDepth 100000 in
theorem s_X11_judge3_26 (h0 : m_H) (a1 : Int) (G0 : GI h0) (n : Nat) (ih : q_X11_judge3 h0 a1 n) : ∀ (l2 l3 l4 : Int) (h : m_H), GI h → FR [] [] h0 h → (-1) ≤ l2 → l2 ≤ 23 → (-1) ≤ l4 → l4 ≤ 23 → 0 ≤ a1 → a1 ≤ 2 → (jI (wrC h0) (h0 1 7) l4 l2 l3) → (l4 ≤ h0 1 7 - 1) → 2 * (l4 - (-1)) + (1) ≤ ((n + 1 : Nat) : Int) → m_Z oF M_X11_judge 26 [some (mR 0), some (mI a1), some (mI l2), some (mI l3), some (mI l4)] [] h (m_QI (P_X11_judge3 h0 a1)) := by
  intro l2 l3 l4 h G R v0 v1 v2 v3 v4 v5 i0 i1 hr
  have e_ := frE R
  have b0_ := jI_b i0 i1
  have g17_ := g_1_7 G0
  refine z_ok (fun ostk _ olocs => ?_)
  have ol3 : m_32 l3 := olocs 3 _ rfl
  unfold m_32 at ol3
  refine z_iload (M := M_X11_judge) 26 dX11_judge_26 rfl ?_
  refine z_if_lt (M := M_X11_judge) 28 dX11_judge_28 67 rfl (fun c1 => ?_) (fun c1 => ?_)
  · refine z_iload_n (M := M_X11_judge) 67 dX11_judge_67 rfl ?_
    refine z_iconst (M := M_X11_judge) 68 dX11_judge_68 ?_
    refine z_icmp_ne (M := M_X11_judge) 69 dX11_judge_69 102 rfl (fun c2 => ?_) (fun c2 => ?_)
    · refine z_iload_n (M := M_X11_judge) 102 dX11_judge_102 rfl ?_
      refine z_if_ne (M := M_X11_judge) 103 dX11_judge_103 110 rfl (fun c3 => ?_) (fun c3 => ?_)
      · refine z_iload_n (M := M_X11_judge) 110 dX11_judge_110 rfl ?_
        exact z_retI (M := M_X11_judge) 111 dX11_judge_111 rfl ⟨G, R, by obtain ⟨e1, e2⟩ := jI_e i0 (by omega); exact Or.inr (Or.inr (Or.inl ⟨by omega, e2⟩))⟩
      · refine z_iload_n (M := M_X11_judge) 106 dX11_judge_106 rfl ?_
        refine z_goto (M := M_X11_judge) 107 dX11_judge_107 111 rfl ?_
        exact z_retI (M := M_X11_judge) 111 dX11_judge_111 rfl ⟨G, R, by obtain ⟨e1, e2⟩ := jI_e i0 (by omega); exact Or.inr (Or.inl ⟨by omega, e1⟩)⟩
    · refine z_iload_n (M := M_X11_judge) 72 dX11_judge_72 rfl ?_
      refine z_if_ne (M := M_X11_judge) 73 dX11_judge_73 100 rfl (fun c4 => ?_) (fun c4 => ?_)
      · refine z_iconst (M := M_X11_judge) 100 dX11_judge_100 ?_
        exact z_retI (M := M_X11_judge) 101 dX11_judge_101 rfl ⟨G, R, by obtain ⟨e1, e2⟩ := jI_e i0 (by omega); exact Or.inr (Or.inr (Or.inr ⟨by omega, Or.inl rfl, fun z => absurd z (by decide), fun z => by have y := z.1; omega⟩))⟩
      · refine z_aload_n (M := M_X11_judge) 76 dX11_judge_76 rfl ?_
        refine z_getR (M := M_X11_judge) 77 dX11_judge_77 f_X11_12 o_0 rfl (g_0_0 G) ?_
        refine z_vI (M := M_X11_judge) 80 dX11_judge_80 t_X4_hasShortersByWorld l_X11_386 (m_rr_of rfl) (rest := []) (c_X4_hasShortersByWorld2 h 1 (Or.inl rfl) G) o_1 rfl rfl rfl (Nat.le_of_ble_eq_true rfl) ⟨rfl, rfl⟩ (fun x5 h1 qx5 => ?_)
        obtain ⟨G1, S1, ax5, bx5, fx5⟩ := qx5
        have R1 := R.call S1 (by decide +kernel)
        refine z_if_eq (M := M_X11_judge) 83 dX11_judge_83 100 rfl (fun c6 => ?_) (fun c6 => ?_)
        · refine z_iconst (M := M_X11_judge) 100 dX11_judge_100 ?_
          exact z_retI (M := M_X11_judge) 101 dX11_judge_101 rfl ⟨G1, R1, by obtain ⟨e1, e2⟩ := jI_e i0 (by omega); exact Or.inr (Or.inr (Or.inr ⟨by omega, Or.inl rfl, fun z => absurd z (by decide), fun z => by have y := fx5.mpr (by rw [e_]; exact z.2.1); omega⟩))⟩
        · refine z_aload_n (M := M_X11_judge) 86 dX11_judge_86 rfl ?_
          refine z_getR (M := M_X11_judge) 87 dX11_judge_87 f_X11_12 o_0 rfl (g_0_0 G1) ?_
          refine z_vI (M := M_X11_judge) 90 dX11_judge_90 t_X4_hasCutsByWorld l_X11_389 (m_rr_of rfl) (rest := []) (c_X4_hasCutsByWorld2 h1 1 (Or.inl rfl) G1) o_1 rfl rfl rfl (Nat.le_of_ble_eq_true rfl) ⟨rfl, rfl⟩ (fun x7 h2 qx7 => ?_)
          obtain ⟨G2, S2, ax7, bx7, fx7⟩ := qx7
          have R2 := R1.call S2 (by decide +kernel)
          refine z_if_eq (M := M_X11_judge) 93 dX11_judge_93 100 rfl (fun c8 => ?_) (fun c8 => ?_)
          · refine z_iconst (M := M_X11_judge) 100 dX11_judge_100 ?_
            exact z_retI (M := M_X11_judge) 101 dX11_judge_101 rfl ⟨G2, R2, by obtain ⟨e1, e2⟩ := jI_e i0 (by omega); exact Or.inr (Or.inr (Or.inr ⟨by omega, Or.inl rfl, fun z => absurd z (by decide), fun z => by have y := fx7.mpr (by rw [frE R1]; exact z.2.2); omega⟩))⟩
          · refine z_iconst (M := M_X11_judge) 96 dX11_judge_96 ?_
            refine z_goto (M := M_X11_judge) 97 dX11_judge_97 101 rfl ?_
            exact z_retI (M := M_X11_judge) 101 dX11_judge_101 rfl ⟨G2, R2, by obtain ⟨e1, e2⟩ := jI_e i0 (by omega); exact Or.inr (Or.inr (Or.inr ⟨by omega, Or.inr rfl, fun _ => ⟨by omega, by rw [← e_]; exact fx5.mp (by omega), by rw [← frE R1]; exact fx7.mp (by omega)⟩, fun _ => rfl⟩))⟩
  · refine z_aload_n (M := M_X11_judge) 31 dX11_judge_31 rfl ?_
    refine z_getR (M := M_X11_judge) 32 dX11_judge_32 f_X11_12 o_0 rfl (g_0_0 G) ?_
    refine z_iload (M := M_X11_judge) 35 dX11_judge_35 rfl ?_
    refine z_vI (M := M_X11_judge) 37 dX11_judge_37 t_X4_isCounting l_X11_165 (m_rr_of rfl) (rest := []) (c_X4_isCounting2 h 1 l4 (Or.inl rfl) G) o_1 rfl rfl rfl (Nat.le_of_ble_eq_true rfl) ⟨rfl, rfl⟩ (fun x9 h3 qx9 => ?_)
    obtain ⟨G3, S3, ax9, bx9, fx9⟩ := qx9
    have R3 := R.call S3 (by decide +kernel)
    refine z_if_eq (M := M_X11_judge) 40 dX11_judge_40 61 rfl (fun c10 => ?_) (fun c10 => ?_)
    · refine z_iincN (M := M_X11_judge) 61 dX11_judge_61 (ls' := [some (mR 0), some (mI a1), some (mI l2), some (mI l3), some (mI (l4 + (-1)))]) (by decide) rfl (by (unfold m_32; decide)) (by omega) (by omega) rfl ?_
      refine z_goto (M := M_X11_judge) 64 dX11_judge_64 26 rfl ?_
      exact z_mask [true, true, true, true, true] rfl (ih l2 l3 (l4 + (-1)) h3 G3 R3 (by omega) (by omega) (by omega) (by omega) (by omega) (by omega) (jI_n i0 i1 (fun z => by have y := z.1; rw [← e_] at y; have := fx9.mpr y; omega)) (by omega) (by omega))
    · refine z_aload_n (M := M_X11_judge) 43 dX11_judge_43 rfl ?_
      refine z_getR (M := M_X11_judge) 44 dX11_judge_44 f_X11_12 o_0 rfl (g_0_0 G3) ?_
      refine z_iload (M := M_X11_judge) 47 dX11_judge_47 rfl ?_
      refine z_vI (M := M_X11_judge) 49 dX11_judge_49 t_X4_isSoByWorld l_X11_383 (m_rr_of rfl) (rest := []) (c_X4_isSoByWorld2 h3 1 l4 (Or.inl rfl) G3 ⟨by omega, by omega⟩) o_1 rfl rfl rfl (Nat.le_of_ble_eq_true rfl) ⟨rfl, rfl⟩ (fun x11 h4 qx11 => ?_)
      obtain ⟨G4, S4, ax11, bx11, fx11⟩ := qx11
      have R4 := R3.call S4 (by decide +kernel)
      refine z_if_ne (M := M_X11_judge) 52 dX11_judge_52 61 rfl (fun c12 => ?_) (fun c12 => ?_)
      · refine z_iincN (M := M_X11_judge) 61 dX11_judge_61 (ls' := [some (mR 0), some (mI a1), some (mI l2), some (mI l3), some (mI (l4 + (-1)))]) (by decide) rfl (by (unfold m_32; decide)) (by omega) (by omega) rfl ?_
        refine z_goto (M := M_X11_judge) 64 dX11_judge_64 26 rfl ?_
        exact z_mask [true, true, true, true, true] rfl (ih l2 l3 (l4 + (-1)) h4 G4 R4 (by omega) (by omega) (by omega) (by omega) (by omega) (by omega) (jI_n i0 i1 (fun z => z.2 (by rw [← e_, ← frE S3]; exact fx11.mp (by omega)))) (by omega) (by omega))
      · refine z_iload (M := M_X11_judge) 55 dX11_judge_55 rfl ?_
        refine z_istore_n (M := M_X11_judge) 57 dX11_judge_57 (ls' := [some (mR 0), some (mI a1), some (mI l4), some (mI l3), some (mI l4)]) (by decide) rfl ?_
        refine z_iincN (M := M_X11_judge) 58 dX11_judge_58 (ls' := [some (mR 0), some (mI a1), some (mI l4), some (mI (l3 + 1)), some (mI l4)]) (by decide) rfl (by (unfold m_32; decide)) (by omega) (by omega) rfl ?_
        refine z_iincN (M := M_X11_judge) 61 dX11_judge_61 (ls' := [some (mR 0), some (mI a1), some (mI l4), some (mI (l3 + 1)), some (mI (l4 + (-1)))]) (by decide) rfl (by (unfold m_32; decide)) (by omega) (by omega) rfl ?_
        refine z_goto (M := M_X11_judge) 64 dX11_judge_64 26 rfl ?_
        exact z_mask [true, true, true, true, true] rfl (ih l4 (l3 + 1) (l4 + (-1)) h4 G4 R4 (by omega) (by omega) (by omega) (by omega) (by omega) (by omega) (jI_y i0 i1 ⟨by rw [← e_]; exact fx9.mp (by omega), fun z => by rw [← e_, ← frE S3] at z; have := fx11.mpr z; omega⟩) (by omega) (by omega))
theorem a_X11_judge3 (h0 : m_H) (a1 : Int) (G0 : GI h0) : ∀ n, q_X11_judge3 h0 a1 n := by
  intro n
  induction n with
  | zero => unfold q_X11_judge3; intros; omega
  | succ n ih => exact s_X11_judge3_26 h0 a1 G0 n ih
set_option maxHeartbeats 4000000 in
set_option maxRecDepth 100000 in
theorem c_X11_judge3 (h0 : m_H) (a1 : Int) (G0 : GI h0) : m_CI M_X11_judge [mR 0, mI a1] h0 (P_X11_judge3 h0 a1) := by
  refine m_CI_of ⟨by decide, rfl, by simp [m_arg, m_isL, M_X11_judge], ⟨rfl, rfl⟩, rfl, rfl⟩ (ls := [some (mR 0), some (mI a1), none, none, none]) rfl ?_
  have ih := a_X11_judge3 h0 a1 G0 56
  refine z_ok (fun _ _ ok => ?_)
  have oa1 : m_32 a1 := ok 1 _ rfl
  unfold m_32 at oa1
  refine z_iload_n (M := M_X11_judge) 0 dX11_judge_0 rfl ?_
  refine z_iconst (M := M_X11_judge) 1 dX11_judge_1 ?_
  refine z_iconst (M := M_X11_judge) 2 dX11_judge_2 ?_
  refine z_sI (M := M_X11_judge) 3 dX11_judge_3 t_X11_within l_X11_112 (m_rr_of rfl) (rest := []) (c_X11_within h0 a1 0 2 G0) rfl rfl (Nat.le_of_ble_eq_true rfl) ⟨rfl, rfl⟩ (fun x1 h1 qx1 => ?_)
  obtain ⟨rfl, ⟨rfl, cx1⟩ | ⟨rfl, cx1⟩⟩ := qx1
  · refine z_if_ne_T (M := M_X11_judge) 6 dX11_judge_6 11 rfl (by omega) ?_
    refine z_iconst (M := M_X11_judge) 11 dX11_judge_11 ?_
    refine z_istore_n (M := M_X11_judge) 12 dX11_judge_12 (ls' := [some (mR 0), some (mI a1), some (mI (-1)), none, none]) (by decide) rfl ?_
    refine z_iconst (M := M_X11_judge) 13 dX11_judge_13 ?_
    refine z_istore_n (M := M_X11_judge) 14 dX11_judge_14 (ls' := [some (mR 0), some (mI a1), some (mI (-1)), some (mI 0), none]) (by decide) rfl ?_
    refine z_aload_n (M := M_X11_judge) 15 dX11_judge_15 rfl ?_
    refine z_getR (M := M_X11_judge) 16 dX11_judge_16 f_X11_12 o_0 rfl (g_0_0 G0) ?_
    refine z_getIG (M := M_X11_judge) 19 dX11_judge_19 f_X11_162 o_1 (by decide) (g_1_7 G0) (fun x2 ex2 ax2 bx2 => ?_)
    refine z_iconst (M := M_X11_judge) 22 dX11_judge_22 ?_
    refine z_isubN (M := M_X11_judge) 23 dX11_judge_23 (by omega) (by omega) ?_
    refine z_istore (M := M_X11_judge) 24 dX11_judge_24 (ls' := [some (mR 0), some (mI a1), some (mI (-1)), some (mI 0), some (mI (x2 - 1))]) (by decide) rfl ?_
    exact z_mask [true, true, true, true, true] rfl (ih (-1) 0 (x2 - 1) h0 G0 (FR.rf (cs := []) (ss := []) (h := h0)) (by omega) (by omega) (by omega) (by omega) (by omega) (by omega) (jI_0 (by omega)) (by omega) (by omega))
  · refine z_if_ne_F (M := M_X11_judge) 6 dX11_judge_6 11 rfl (by omega) ?_
    refine z_iconst (M := M_X11_judge) 9 dX11_judge_9 ?_
    exact z_retI (M := M_X11_judge) 10 dX11_judge_10 rfl ⟨G0, (FR.rf (cs := []) (ss := []) (h := h0)), Or.inl ⟨by omega, rfl⟩⟩
/-! judge, exact in the reference -/
def shM (r : Nat → Int) (k : Int) : Prop := r (72 + r (48 + 2 * k).toNat).toNat < r (72 + r (48 + 2 * k + 1).toNat).toNat
def cuM (r : Nat → Int) (t : Int) : Prop := r (42 + t).toNat = -1 ∨ r (66 + t).toNat ≤ r (60 + t).toNat
def wrM (r : Nat → Int) (e : Int) : Prop := r (5 * e.toNat + 84) = 1 ∧ (r (10 + r (5 * e.toNat + 81)).toNat ≠ -1 ∧ ¬ soM r e)
abbrev P_X12_judge3 (h0 : m_H) (a1 : Int) : Int → m_H → Prop := fun x h' => GI h' ∧ FR [] [(108, 0)] h0 h' ∧ jdQ (wrM (h0 110)) (h0 110 0) (al (shM (h0 110)) (h0 110 1)) (al (cuM (h0 110)) 6) a1 x
def q_X12_judge3 (h0 : m_H) (a1 : Int) (n : Nat) : Prop := (∀ (l2 l3 l4 : Int) (h : m_H), GI h → FR [] [(108, 0)] h0 h → (-1) ≤ l3 → l3 ≤ 23 → (-1) ≤ l4 → l4 ≤ 23 → 0 ≤ a1 → a1 ≤ 2 → (jI (wrM (h0 110)) (h0 110 0) l4 l3 l2) → (l4 ≤ h0 110 0 - 1) → 2 * (l4 - (-1)) + (31) ≤ (n : Int) → m_Z oF M_X12_judge 33 [some (mR 108), some (mI a1), some (mI l2), some (mI l3), some (mI l4), none] [] h (m_QI (P_X12_judge3 h0 a1))) ∧ (∀ (l4 l5 : Int) (h : m_H), GI h → FR [] [(108, 0)] h0 h → 0 ≤ l4 → l4 ≤ 1 → 0 ≤ l5 → l5 ≤ 6 → 2 ≤ a1 → a1 ≤ 2 → (l4 = 1 ↔ ((jS (wrM (h0 110)) (h0 110 0) (h0 110 0).toNat).2 = 0 ∧ al (shM (h0 110)) l5)) → (l5 ≤ h0 110 1) → 2 * (6 - l5) + (16) ≤ (n : Int) → m_Z oF M_X12_judge 118 [some (mR 108), none, none, none, some (mI l4), some (mI l5)] [] h (m_QI (P_X12_judge3 h0 a1))) ∧ (∀ (l4 l5 : Int) (h : m_H), GI h → FR [] [(108, 0)] h0 h → 0 ≤ l4 → l4 ≤ 1 → 0 ≤ l5 → l5 ≤ 6 → 2 ≤ a1 → a1 ≤ 2 → (l4 = 1 ↔ ((jS (wrM (h0 110)) (h0 110 0) (h0 110 0).toNat).2 = 0 ∧ al (shM (h0 110)) (h0 110 1) ∧ al (cuM (h0 110)) l5)) → 2 * (6 - l5) + (1) ≤ (n : Int) → m_Z oF M_X12_judge 195 [some (mR 108), none, none, none, some (mI l4), some (mI l5)] [] h (m_QI (P_X12_judge3 h0 a1)))
set_option maxHeartbeats 4000000 in
set_option maxRecDepth 100000 in
theorem s_X12_judge3_33 (h0 : m_H) (a1 : Int) (G0 : GI h0) (n : Nat) (ih : q_X12_judge3 h0 a1 n) : ∀ (l2 l3 l4 : Int) (h : m_H), GI h → FR [] [(108, 0)] h0 h → (-1) ≤ l3 → l3 ≤ 23 → (-1) ≤ l4 → l4 ≤ 23 → 0 ≤ a1 → a1 ≤ 2 → (jI (wrM (h0 110)) (h0 110 0) l4 l3 l2) → (l4 ≤ h0 110 0 - 1) → 2 * (l4 - (-1)) + (31) ≤ ((n + 1 : Nat) : Int) → m_Z oF M_X12_judge 33 [some (mR 108), some (mI a1), some (mI l2), some (mI l3), some (mI l4), none] [] h (m_QI (P_X12_judge3 h0 a1)) := by
  intro l2 l3 l4 h G R v0 v1 v2 v3 v4 v5 i0 i1 hr
  have e_ : h 110 = h0 110 := rowz R (fun _ => rfl)
  have g0_ := gw_0 G0
  have g1_ := gw_1 G0
  have q0_ : h0 110 (0 : Int).toNat = h0 110 0 := rfl
  have q1_ : h0 110 (1 : Int).toNat = h0 110 1 := rfl
  have b0_ := jI_b i0 i1
  refine z_ok (fun ostk _ olocs => ?_)
  have ol2 : m_32 l2 := olocs 2 _ rfl
  unfold m_32 at ol2
  refine z_iload (M := M_X12_judge) 33 dX12_judge_33 rfl ?_
  refine z_if_lt (M := M_X12_judge) 35 dX12_judge_35 89 rfl (fun c1 => ?_) (fun c1 => ?_)
  · refine z_iload_n (M := M_X12_judge) 89 dX12_judge_89 rfl ?_
    refine z_iconst (M := M_X12_judge) 90 dX12_judge_90 ?_
    refine z_icmp_ge (M := M_X12_judge) 91 dX12_judge_91 104 rfl (fun c2 => ?_) (fun c2 => ?_)
    · refine z_iload_n (M := M_X12_judge) 104 dX12_judge_104 rfl ?_
      refine z_if_ne (M := M_X12_judge) 105 dX12_judge_105 112 rfl (fun c3 => ?_) (fun c3 => ?_)
      · refine z_iconst (M := M_X12_judge) 112 dX12_judge_112 ?_
        refine z_istore (M := M_X12_judge) 113 dX12_judge_113 (ls' := [some (mR 108), some (mI a1), some (mI l2), some (mI l3), some (mI 0), none]) (by decide) rfl ?_
        refine z_iconst (M := M_X12_judge) 115 dX12_judge_115 ?_
        refine z_istore (M := M_X12_judge) 116 dX12_judge_116 (ls' := [some (mR 108), some (mI a1), some (mI l2), some (mI l3), some (mI 0), some (mI 0)]) (by decide) rfl ?_
        exact z_mask [true, false, false, false, true, true] rfl (ih.2.1 0 0 h G R (by omega) (by omega) (by omega) (by omega) (by omega) (by omega) ⟨fun z => absurd z (by decide), fun z => by have y := z.1; have := (jI_e i0 (by omega)).2; omega⟩ (by omega) (by omega))
      · refine z_iconst (M := M_X12_judge) 108 dX12_judge_108 ?_
        refine z_goto (M := M_X12_judge) 109 dX12_judge_109 113 rfl ?_
        refine z_istore (M := M_X12_judge) 113 dX12_judge_113 (ls' := [some (mR 108), some (mI a1), some (mI l2), some (mI l3), some (mI 1), none]) (by decide) rfl ?_
        refine z_iconst (M := M_X12_judge) 115 dX12_judge_115 ?_
        refine z_istore (M := M_X12_judge) 116 dX12_judge_116 (ls' := [some (mR 108), some (mI a1), some (mI l2), some (mI l3), some (mI 1), some (mI 0)]) (by decide) rfl ?_
        exact z_mask [true, false, false, false, true, true] rfl (ih.2.1 1 0 h G R (by omega) (by omega) (by omega) (by omega) (by omega) (by omega) ⟨fun _ => ⟨by have := (jI_e i0 (by omega)).2; omega, al_0⟩, fun _ => rfl⟩ (by omega) (by omega))
    · refine z_iload_n (M := M_X12_judge) 94 dX12_judge_94 rfl ?_
      refine z_if_ne (M := M_X12_judge) 95 dX12_judge_95 102 rfl (fun c4 => ?_) (fun c4 => ?_)
      · refine z_iload_n (M := M_X12_judge) 102 dX12_judge_102 rfl ?_
        exact z_retI (M := M_X12_judge) 103 dX12_judge_103 rfl ⟨G, R, Or.inr (Or.inr (Or.inl ⟨by omega, (jI_e i0 (by omega)).2⟩))⟩
      · refine z_iload_n (M := M_X12_judge) 98 dX12_judge_98 rfl ?_
        refine z_goto (M := M_X12_judge) 99 dX12_judge_99 103 rfl ?_
        exact z_retI (M := M_X12_judge) 103 dX12_judge_103 rfl ⟨G, R, Or.inr (Or.inl ⟨by omega, (jI_e i0 (by omega)).1⟩)⟩
  · refine z_aload_n (M := M_X12_judge) 38 dX12_judge_38 rfl ?_
    refine z_iload (M := M_X12_judge) 39 dX12_judge_39 rfl ?_
    refine z_iconst (M := M_X12_judge) 41 dX12_judge_41 ?_
    refine z_vI (M := M_X12_judge) 42 dX12_judge_42 t_X12_ofEntry l_X12_195 (m_rr_of rfl) (rest := []) (c_X12_ofEntry h l4 4 G ⟨by omega, by omega⟩ ⟨by omega, by omega⟩) o_108 rfl rfl rfl (Nat.le_of_ble_eq_true rfl) ⟨rfl, rfl⟩ (fun x5 h1 qx5 => ?_)
    obtain ⟨rfl, fx5⟩ := qx5
    have gx5 := gw_e4 G (i := (80 + 5 * l4 + 4)) (e := l4) (by omega) (by omega) (by omega)
    rw [fx5] at gx5
    have k5_ : h0 110 (5 * l4.toNat + 84) = x5 := by rw [← e_, ← fx5, show (80 + 5 * l4 + 4).toNat = 5 * l4.toNat + 84 by omega]
    refine z_iconst (M := M_X12_judge) 45 dX12_judge_45 ?_
    refine z_icmp_ne (M := M_X12_judge) 46 dX12_judge_46 83 rfl (fun c6 => ?_) (fun c6 => ?_)
    · refine z_iincN (M := M_X12_judge) 83 dX12_judge_83 (ls' := [some (mR 108), some (mI a1), some (mI l2), some (mI l3), some (mI (l4 + (-1))), none]) (by decide) rfl (by (unfold m_32; decide)) (by omega) (by omega) rfl ?_
      refine z_goto (M := M_X12_judge) 86 dX12_judge_86 33 rfl ?_
      exact z_mask [true, true, true, true, true, false] rfl (ih.1 l2 l3 (l4 + (-1)) h G R (by omega) (by omega) (by omega) (by omega) (by omega) (by omega) (jI_n i0 i1 (fun z => by have y := z.1; omega)) (by omega) (by omega))
    · refine z_aload_n (M := M_X12_judge) 49 dX12_judge_49 rfl ?_
      refine z_getR (M := M_X12_judge) 50 dX12_judge_50 f_X12_13 o_108 rfl (g_108_3 G) ?_
      refine z_bipush (M := M_X12_judge) 53 dX12_judge_53 ?_
      refine z_aload_n (M := M_X12_judge) 55 dX12_judge_55 rfl ?_
      refine z_iload (M := M_X12_judge) 56 dX12_judge_56 rfl ?_
      refine z_iconst (M := M_X12_judge) 58 dX12_judge_58 ?_
      refine z_vI (M := M_X12_judge) 59 dX12_judge_59 t_X12_ofEntry l_X12_195 (m_rr_of rfl) (rest := [mI 10, mR 110]) (c_X12_ofEntry h l4 1 G ⟨by omega, by omega⟩ ⟨by omega, by omega⟩) o_108 rfl rfl rfl (Nat.le_of_ble_eq_true rfl) ⟨rfl, rfl⟩ (fun x7 h2 qx7 => ?_)
      obtain ⟨rfl, fx7⟩ := qx7
      have gx7 := gw_e1 G (i := (80 + 5 * l4 + 1)) (e := l4) (by omega) (by omega) (by omega)
      rw [fx7] at gx7
      have k7_ : h0 110 (5 * l4.toNat + 81) = x7 := by rw [← e_, ← fx7, show (80 + 5 * l4 + 1).toNat = 5 * l4.toNat + 81 by omega]
      refine z_iaddN (M := M_X12_judge) 62 dX12_judge_62 (by omega) (by omega) ?_
      refine z_ialdG (M := M_X12_judge) 63 dX12_judge_63 o_110 (by omega) (by omega) (gw_w G (by omega) (by omega)) (fun x8 ex8 ax8 bx8 => ?_)
      refine z_iconst (M := M_X12_judge) 64 dX12_judge_64 ?_
      refine z_icmp_eq (M := M_X12_judge) 65 dX12_judge_65 83 rfl (fun c9 => ?_) (fun c9 => ?_)
      · refine z_iincN (M := M_X12_judge) 83 dX12_judge_83 (ls' := [some (mR 108), some (mI a1), some (mI l2), some (mI l3), some (mI (l4 + (-1))), none]) (by decide) rfl (by (unfold m_32; decide)) (by omega) (by omega) rfl ?_
        refine z_goto (M := M_X12_judge) 86 dX12_judge_86 33 rfl ?_
        exact z_mask [true, true, true, true, true, false] rfl (ih.1 l2 l3 (l4 + (-1)) h G R (by omega) (by omega) (by omega) (by omega) (by omega) (by omega) (jI_n i0 i1 (fun z => z.2.1 (by rw [k7_, ← e_, ex8]; omega))) (by omega) (by omega))
      · refine z_aload_n (M := M_X12_judge) 68 dX12_judge_68 rfl ?_
        refine z_iload (M := M_X12_judge) 69 dX12_judge_69 rfl ?_
        refine z_vI (M := M_X12_judge) 71 dX12_judge_71 t_X12_isSo l_X12_501 (m_rr_of rfl) (rest := []) (c_X12_isSo2 h l4 G ⟨by omega, by omega⟩) o_108 rfl rfl rfl (Nat.le_of_ble_eq_true rfl) ⟨rfl, rfl⟩ (fun x10 h3 qx10 => ?_)
        obtain ⟨G3, S3, ax10, bx10, fx10⟩ := qx10
        have R3 := R.call S3 (by decide +kernel)
        refine z_if_ne (M := M_X12_judge) 74 dX12_judge_74 83 rfl (fun c11 => ?_) (fun c11 => ?_)
        · refine z_iincN (M := M_X12_judge) 83 dX12_judge_83 (ls' := [some (mR 108), some (mI a1), some (mI l2), some (mI l3), some (mI (l4 + (-1))), none]) (by decide) rfl (by (unfold m_32; decide)) (by omega) (by omega) rfl ?_
          refine z_goto (M := M_X12_judge) 86 dX12_judge_86 33 rfl ?_
          exact z_mask [true, true, true, true, true, false] rfl (ih.1 l2 l3 (l4 + (-1)) h3 G3 R3 (by omega) (by omega) (by omega) (by omega) (by omega) (by omega) (jI_n i0 i1 (fun z => z.2.2 (by rw [← e_]; exact fx10.mp (by omega)))) (by omega) (by omega))
        · refine z_iincN (M := M_X12_judge) 77 dX12_judge_77 (ls' := [some (mR 108), some (mI a1), some (mI (l2 + 1)), some (mI l3), some (mI l4), none]) (by decide) rfl (by (unfold m_32; decide)) (by omega) (by omega) rfl ?_
          refine z_iload (M := M_X12_judge) 80 dX12_judge_80 rfl ?_
          refine z_istore_n (M := M_X12_judge) 82 dX12_judge_82 (ls' := [some (mR 108), some (mI a1), some (mI (l2 + 1)), some (mI l4), some (mI l4), none]) (by decide) rfl ?_
          refine z_iincN (M := M_X12_judge) 83 dX12_judge_83 (ls' := [some (mR 108), some (mI a1), some (mI (l2 + 1)), some (mI l4), some (mI (l4 + (-1))), none]) (by decide) rfl (by (unfold m_32; decide)) (by omega) (by omega) rfl ?_
          refine z_goto (M := M_X12_judge) 86 dX12_judge_86 33 rfl ?_
          exact z_mask [true, true, true, true, true, false] rfl (ih.1 (l2 + 1) l4 (l4 + (-1)) h3 G3 R3 (by omega) (by omega) (by omega) (by omega) (by omega) (by omega) (jI_y i0 i1 ⟨by omega, by rw [k7_, ← e_, ex8]; omega, fun z => by rw [← e_] at z; have := fx10.mpr z; omega⟩) (by omega) (by omega))
set_option maxHeartbeats 4000000 in
set_option maxRecDepth 100000 in
theorem s_X12_judge3_118 (h0 : m_H) (a1 : Int) (G0 : GI h0) (n : Nat) (ih : q_X12_judge3 h0 a1 n) : ∀ (l4 l5 : Int) (h : m_H), GI h → FR [] [(108, 0)] h0 h → 0 ≤ l4 → l4 ≤ 1 → 0 ≤ l5 → l5 ≤ 6 → 2 ≤ a1 → a1 ≤ 2 → (l4 = 1 ↔ ((jS (wrM (h0 110)) (h0 110 0) (h0 110 0).toNat).2 = 0 ∧ al (shM (h0 110)) l5)) → (l5 ≤ h0 110 1) → 2 * (6 - l5) + (16) ≤ ((n + 1 : Nat) : Int) → m_Z oF M_X12_judge 118 [some (mR 108), none, none, none, some (mI l4), some (mI l5)] [] h (m_QI (P_X12_judge3 h0 a1)) := by
  intro l4 l5 h G R v0 v1 v2 v3 v4 v5 i0 i1 hr
  have e_ : h 110 = h0 110 := rowz R (fun _ => rfl)
  have g0_ := gw_0 G0
  have g1_ := gw_1 G0
  have q0_ : h0 110 (0 : Int).toNat = h0 110 0 := rfl
  have q1_ : h0 110 (1 : Int).toNat = h0 110 1 := rfl
  refine z_iload (M := M_X12_judge) 118 dX12_judge_118 rfl ?_
  refine z_aload_n (M := M_X12_judge) 120 dX12_judge_120 rfl ?_
  refine z_getR (M := M_X12_judge) 121 dX12_judge_121 f_X12_13 o_108 rfl (g_108_3 G) ?_
  refine z_iconst (M := M_X12_judge) 124 dX12_judge_124 ?_
  refine z_ialdG (M := M_X12_judge) 125 dX12_judge_125 o_110 (by omega) (by omega) (gw_1 G) (fun x1 ex1 ax1 bx1 => ?_)
  have k1_ : h0 110 1 = x1 := (congrFun e_ 1).symm.trans ex1
  refine z_icmp_ge (M := M_X12_judge) 126 dX12_judge_126 192 rfl (fun c2 => ?_) (fun c2 => ?_)
  · refine z_iconst (M := M_X12_judge) 192 dX12_judge_192 ?_
    refine z_istore (M := M_X12_judge) 193 dX12_judge_193 (ls' := [some (mR 108), none, none, none, some (mI l4), some (mI 0)]) (by decide) rfl ?_
    exact z_mask [true, false, false, false, true, true] rfl (ih.2.2 l4 0 h G R (by omega) (by omega) (by omega) (by omega) (by omega) (by omega) ⟨fun z => ⟨(i0.mp z).1, by have y := (i0.mp z).2; rw [show l5 = h0 110 1 by omega] at y; exact y, al_0⟩, fun z => i0.mpr ⟨z.1, by rw [show l5 = h0 110 1 by omega]; exact z.2.1⟩⟩ (by omega))
  · refine z_iload (M := M_X12_judge) 129 dX12_judge_129 rfl ?_
    refine z_if_eq (M := M_X12_judge) 131 dX12_judge_131 183 rfl (fun c3 => ?_) (fun c3 => ?_)
    · refine z_iconst (M := M_X12_judge) 183 dX12_judge_183 ?_
      refine z_istore (M := M_X12_judge) 184 dX12_judge_184 (ls' := [some (mR 108), none, none, none, some (mI 0), some (mI l5)]) (by decide) rfl ?_
      refine z_iincN (M := M_X12_judge) 186 dX12_judge_186 (ls' := [some (mR 108), none, none, none, some (mI 0), some (mI (l5 + 1))]) (by decide) rfl (by (unfold m_32; decide)) (by omega) (by omega) rfl ?_
      refine z_goto (M := M_X12_judge) 189 dX12_judge_189 118 rfl ?_
      exact z_mask [true, false, false, false, true, true] rfl (ih.2.1 0 (l5 + 1) h G R (by omega) (by omega) (by omega) (by omega) (by omega) (by omega) ⟨fun z => absurd z (by decide), fun z => by have y := i0.mpr ⟨z.1, fun k u v => z.2 k u (by omega)⟩; omega⟩ (by omega) (by omega))
    · refine z_aload_n (M := M_X12_judge) 134 dX12_judge_134 rfl ?_
      refine z_getR (M := M_X12_judge) 135 dX12_judge_135 f_X12_13 o_108 rfl (g_108_3 G) ?_
      refine z_bipush (M := M_X12_judge) 138 dX12_judge_138 ?_
      refine z_aload_n (M := M_X12_judge) 140 dX12_judge_140 rfl ?_
      refine z_getR (M := M_X12_judge) 141 dX12_judge_141 f_X12_13 o_108 rfl (g_108_3 G) ?_
      refine z_bipush (M := M_X12_judge) 144 dX12_judge_144 ?_
      refine z_iconst (M := M_X12_judge) 146 dX12_judge_146 ?_
      refine z_iload (M := M_X12_judge) 147 dX12_judge_147 rfl ?_
      refine z_imulN (M := M_X12_judge) 149 dX12_judge_149 (by omega) (by omega) ?_
      refine z_iaddN (M := M_X12_judge) 150 dX12_judge_150 (by omega) (by omega) ?_
      refine z_ialdG (M := M_X12_judge) 151 dX12_judge_151 o_110 (by omega) (by omega) (gw_s G (by omega) (by omega)) (fun x4 ex4 ax4 bx4 => ?_)
      refine z_iaddN (M := M_X12_judge) 152 dX12_judge_152 (by omega) (by omega) ?_
      refine z_ialdG (M := M_X12_judge) 153 dX12_judge_153 o_110 (by omega) (by omega) (gw_l G (by omega) (by omega)) (fun x5 ex5 ax5 bx5 => ?_)
      refine z_aload_n (M := M_X12_judge) 154 dX12_judge_154 rfl ?_
      refine z_getR (M := M_X12_judge) 155 dX12_judge_155 f_X12_13 o_108 rfl (g_108_3 G) ?_
      refine z_bipush (M := M_X12_judge) 158 dX12_judge_158 ?_
      refine z_aload_n (M := M_X12_judge) 160 dX12_judge_160 rfl ?_
      refine z_getR (M := M_X12_judge) 161 dX12_judge_161 f_X12_13 o_108 rfl (g_108_3 G) ?_
      refine z_bipush (M := M_X12_judge) 164 dX12_judge_164 ?_
      refine z_iconst (M := M_X12_judge) 166 dX12_judge_166 ?_
      refine z_iload (M := M_X12_judge) 167 dX12_judge_167 rfl ?_
      refine z_imulN (M := M_X12_judge) 169 dX12_judge_169 (by omega) (by omega) ?_
      refine z_iaddN (M := M_X12_judge) 170 dX12_judge_170 (by omega) (by omega) ?_
      refine z_iconst (M := M_X12_judge) 171 dX12_judge_171 ?_
      refine z_iaddN (M := M_X12_judge) 172 dX12_judge_172 (by omega) (by omega) ?_
      refine z_ialdG (M := M_X12_judge) 173 dX12_judge_173 o_110 (by omega) (by omega) (gw_s G (by omega) (by omega)) (fun x6 ex6 ax6 bx6 => ?_)
      refine z_iaddN (M := M_X12_judge) 174 dX12_judge_174 (by omega) (by omega) ?_
      refine z_ialdG (M := M_X12_judge) 175 dX12_judge_175 o_110 (by omega) (by omega) (gw_l G (by omega) (by omega)) (fun x7 ex7 ax7 bx7 => ?_)
      refine z_icmp_ge (M := M_X12_judge) 176 dX12_judge_176 183 rfl (fun c8 => ?_) (fun c8 => ?_)
      · refine z_iconst (M := M_X12_judge) 183 dX12_judge_183 ?_
        refine z_istore (M := M_X12_judge) 184 dX12_judge_184 (ls' := [some (mR 108), none, none, none, some (mI 0), some (mI l5)]) (by decide) rfl ?_
        refine z_iincN (M := M_X12_judge) 186 dX12_judge_186 (ls' := [some (mR 108), none, none, none, some (mI 0), some (mI (l5 + 1))]) (by decide) rfl (by (unfold m_32; decide)) (by omega) (by omega) rfl ?_
        refine z_goto (M := M_X12_judge) 189 dX12_judge_189 118 rfl ?_
        exact z_mask [true, false, false, false, true, true] rfl (ih.2.1 0 (l5 + 1) h G R (by omega) (by omega) (by omega) (by omega) (by omega) (by omega) ⟨fun z => absurd z (by decide), fun z => by have y := z.2 l5 (by omega) (by omega); unfold shM at y; rw [← e_, ex4, ex5, ex6, ex7] at y; omega⟩ (by omega) (by omega))
      · refine z_iconst (M := M_X12_judge) 179 dX12_judge_179 ?_
        refine z_goto (M := M_X12_judge) 180 dX12_judge_180 184 rfl ?_
        refine z_istore (M := M_X12_judge) 184 dX12_judge_184 (ls' := [some (mR 108), none, none, none, some (mI 1), some (mI l5)]) (by decide) rfl ?_
        refine z_iincN (M := M_X12_judge) 186 dX12_judge_186 (ls' := [some (mR 108), none, none, none, some (mI 1), some (mI (l5 + 1))]) (by decide) rfl (by (unfold m_32; decide)) (by omega) (by omega) rfl ?_
        refine z_goto (M := M_X12_judge) 189 dX12_judge_189 118 rfl ?_
        exact z_mask [true, false, false, false, true, true] rfl (ih.2.1 1 (l5 + 1) h G R (by omega) (by omega) (by omega) (by omega) (by omega) (by omega) ⟨fun _ => ⟨(i0.mp (by omega)).1, al_s (i0.mp (by omega)).2 (by unfold shM; rw [← e_, ex4, ex5, ex6, ex7]; omega)⟩, fun _ => rfl⟩ (by omega) (by omega))
set_option maxHeartbeats 4000000 in
set_option maxRecDepth 100000 in
theorem s_X12_judge3_195 (h0 : m_H) (a1 : Int) (G0 : GI h0) (n : Nat) (ih : q_X12_judge3 h0 a1 n) : ∀ (l4 l5 : Int) (h : m_H), GI h → FR [] [(108, 0)] h0 h → 0 ≤ l4 → l4 ≤ 1 → 0 ≤ l5 → l5 ≤ 6 → 2 ≤ a1 → a1 ≤ 2 → (l4 = 1 ↔ ((jS (wrM (h0 110)) (h0 110 0) (h0 110 0).toNat).2 = 0 ∧ al (shM (h0 110)) (h0 110 1) ∧ al (cuM (h0 110)) l5)) → 2 * (6 - l5) + (1) ≤ ((n + 1 : Nat) : Int) → m_Z oF M_X12_judge 195 [some (mR 108), none, none, none, some (mI l4), some (mI l5)] [] h (m_QI (P_X12_judge3 h0 a1)) := by
  intro l4 l5 h G R v0 v1 v2 v3 v4 v5 i0 hr
  have e_ : h 110 = h0 110 := rowz R (fun _ => rfl)
  have g0_ := gw_0 G0
  have g1_ := gw_1 G0
  have q0_ : h0 110 (0 : Int).toNat = h0 110 0 := rfl
  have q1_ : h0 110 (1 : Int).toNat = h0 110 1 := rfl
  refine z_iload (M := M_X12_judge) 195 dX12_judge_195 rfl ?_
  refine z_bipush (M := M_X12_judge) 197 dX12_judge_197 ?_
  refine z_icmp_ge (M := M_X12_judge) 199 dX12_judge_199 257 rfl (fun c1 => ?_) (fun c1 => ?_)
  · refine z_iload (M := M_X12_judge) 257 dX12_judge_257 rfl ?_
    refine z_if_eq (M := M_X12_judge) 259 dX12_judge_259 266 rfl (fun c2 => ?_) (fun c2 => ?_)
    · refine z_iconst (M := M_X12_judge) 266 dX12_judge_266 ?_
      exact z_retI (M := M_X12_judge) 267 dX12_judge_267 rfl ⟨G, R, Or.inr (Or.inr (Or.inr ⟨by omega, Or.inl rfl, fun z => absurd z (by decide), fun z => by have y := i0.mpr ⟨z.1, z.2.1, fun k u v => z.2.2 k u (by omega)⟩; omega⟩))⟩
    · refine z_iconst (M := M_X12_judge) 262 dX12_judge_262 ?_
      refine z_goto (M := M_X12_judge) 263 dX12_judge_263 267 rfl ?_
      exact z_retI (M := M_X12_judge) 267 dX12_judge_267 rfl ⟨G, R, Or.inr (Or.inr (Or.inr ⟨by omega, Or.inr rfl, fun _ => ⟨(i0.mp (by omega)).1, (i0.mp (by omega)).2.1, fun k u v => (i0.mp (by omega)).2.2 k u (by omega)⟩, fun _ => rfl⟩))⟩
  · refine z_iload (M := M_X12_judge) 202 dX12_judge_202 rfl ?_
    refine z_if_eq (M := M_X12_judge) 204 dX12_judge_204 248 rfl (fun c3 => ?_) (fun c3 => ?_)
    · refine z_iconst (M := M_X12_judge) 248 dX12_judge_248 ?_
      refine z_istore (M := M_X12_judge) 249 dX12_judge_249 (ls' := [some (mR 108), none, none, none, some (mI 0), some (mI l5)]) (by decide) rfl ?_
      refine z_iincN (M := M_X12_judge) 251 dX12_judge_251 (ls' := [some (mR 108), none, none, none, some (mI 0), some (mI (l5 + 1))]) (by decide) rfl (by (unfold m_32; decide)) (by omega) (by omega) rfl ?_
      refine z_goto (M := M_X12_judge) 254 dX12_judge_254 195 rfl ?_
      exact z_mask [true, false, false, false, true, true] rfl (ih.2.2 0 (l5 + 1) h G R (by omega) (by omega) (by omega) (by omega) (by omega) (by omega) ⟨fun z => absurd z (by decide), fun z => by have y := i0.mpr ⟨z.1, z.2.1, fun k u v => z.2.2 k u (by omega)⟩; omega⟩ (by omega))
    · refine z_aload_n (M := M_X12_judge) 207 dX12_judge_207 rfl ?_
      refine z_getR (M := M_X12_judge) 208 dX12_judge_208 f_X12_13 o_108 rfl (g_108_3 G) ?_
      refine z_bipush (M := M_X12_judge) 211 dX12_judge_211 ?_
      refine z_iload (M := M_X12_judge) 213 dX12_judge_213 rfl ?_
      refine z_iaddN (M := M_X12_judge) 215 dX12_judge_215 (by omega) (by omega) ?_
      refine z_ialdG (M := M_X12_judge) 216 dX12_judge_216 o_110 (by omega) (by omega) (gw_c G (by omega) (by omega)) (fun x4 ex4 ax4 bx4 => ?_)
      refine z_iconst (M := M_X12_judge) 217 dX12_judge_217 ?_
      refine z_icmp_eq (M := M_X12_judge) 218 dX12_judge_218 244 rfl (fun c5 => ?_) (fun c5 => ?_)
      · refine z_iconst (M := M_X12_judge) 244 dX12_judge_244 ?_
        refine z_goto (M := M_X12_judge) 245 dX12_judge_245 249 rfl ?_
        refine z_istore (M := M_X12_judge) 249 dX12_judge_249 (ls' := [some (mR 108), none, none, none, some (mI 1), some (mI l5)]) (by decide) rfl ?_
        refine z_iincN (M := M_X12_judge) 251 dX12_judge_251 (ls' := [some (mR 108), none, none, none, some (mI 1), some (mI (l5 + 1))]) (by decide) rfl (by (unfold m_32; decide)) (by omega) (by omega) rfl ?_
        refine z_goto (M := M_X12_judge) 254 dX12_judge_254 195 rfl ?_
        exact z_mask [true, false, false, false, true, true] rfl (ih.2.2 1 (l5 + 1) h G R (by omega) (by omega) (by omega) (by omega) (by omega) (by omega) ⟨fun _ => ⟨(i0.mp (by omega)).1, (i0.mp (by omega)).2.1, al_s (i0.mp (by omega)).2.2 (Or.inl (by rw [← e_, ex4]; omega))⟩, fun _ => rfl⟩ (by omega))
      · refine z_aload_n (M := M_X12_judge) 221 dX12_judge_221 rfl ?_
        refine z_getR (M := M_X12_judge) 222 dX12_judge_222 f_X12_13 o_108 rfl (g_108_3 G) ?_
        refine z_bipush (M := M_X12_judge) 225 dX12_judge_225 ?_
        refine z_iload (M := M_X12_judge) 227 dX12_judge_227 rfl ?_
        refine z_iaddN (M := M_X12_judge) 229 dX12_judge_229 (by omega) (by omega) ?_
        refine z_ialdG (M := M_X12_judge) 230 dX12_judge_230 o_110 (by omega) (by omega) (gw_l G (by omega) (by omega)) (fun x6 ex6 ax6 bx6 => ?_)
        refine z_aload_n (M := M_X12_judge) 231 dX12_judge_231 rfl ?_
        refine z_getR (M := M_X12_judge) 232 dX12_judge_232 f_X12_13 o_108 rfl (g_108_3 G) ?_
        refine z_bipush (M := M_X12_judge) 235 dX12_judge_235 ?_
        refine z_iload (M := M_X12_judge) 237 dX12_judge_237 rfl ?_
        refine z_iaddN (M := M_X12_judge) 239 dX12_judge_239 (by omega) (by omega) ?_
        refine z_ialdG (M := M_X12_judge) 240 dX12_judge_240 o_110 (by omega) (by omega) (gw_l G (by omega) (by omega)) (fun x7 ex7 ax7 bx7 => ?_)
        refine z_icmp_gt (M := M_X12_judge) 241 dX12_judge_241 248 rfl (fun c8 => ?_) (fun c8 => ?_)
        · refine z_iconst (M := M_X12_judge) 248 dX12_judge_248 ?_
          refine z_istore (M := M_X12_judge) 249 dX12_judge_249 (ls' := [some (mR 108), none, none, none, some (mI 0), some (mI l5)]) (by decide) rfl ?_
          refine z_iincN (M := M_X12_judge) 251 dX12_judge_251 (ls' := [some (mR 108), none, none, none, some (mI 0), some (mI (l5 + 1))]) (by decide) rfl (by (unfold m_32; decide)) (by omega) (by omega) rfl ?_
          refine z_goto (M := M_X12_judge) 254 dX12_judge_254 195 rfl ?_
          exact z_mask [true, false, false, false, true, true] rfl (ih.2.2 0 (l5 + 1) h G R (by omega) (by omega) (by omega) (by omega) (by omega) (by omega) ⟨fun z => absurd z (by decide), fun z => by have y := z.2.2 l5 (by omega) (by omega); unfold cuM at y; rw [← e_, ex4, ex6, ex7] at y; omega⟩ (by omega))
        · refine z_iconst (M := M_X12_judge) 244 dX12_judge_244 ?_
          refine z_goto (M := M_X12_judge) 245 dX12_judge_245 249 rfl ?_
          refine z_istore (M := M_X12_judge) 249 dX12_judge_249 (ls' := [some (mR 108), none, none, none, some (mI 1), some (mI l5)]) (by decide) rfl ?_
          refine z_iincN (M := M_X12_judge) 251 dX12_judge_251 (ls' := [some (mR 108), none, none, none, some (mI 1), some (mI (l5 + 1))]) (by decide) rfl (by (unfold m_32; decide)) (by omega) (by omega) rfl ?_
          refine z_goto (M := M_X12_judge) 254 dX12_judge_254 195 rfl ?_
          exact z_mask [true, false, false, false, true, true] rfl (ih.2.2 1 (l5 + 1) h G R (by omega) (by omega) (by omega) (by omega) (by omega) (by omega) ⟨fun _ => ⟨(i0.mp (by omega)).1, (i0.mp (by omega)).2.1, al_s (i0.mp (by omega)).2.2 (Or.inr (by rw [← e_, ex6, ex7]; omega))⟩, fun _ => rfl⟩ (by omega))
theorem a_X12_judge3 (h0 : m_H) (a1 : Int) (G0 : GI h0) : ∀ n, q_X12_judge3 h0 a1 n := by
  intro n
  induction n with
  | zero => unfold q_X12_judge3; refine ⟨?_, ?_, ?_⟩ <;> (intros; omega)
  | succ n ih => exact ⟨s_X12_judge3_33 h0 a1 G0 n ih, s_X12_judge3_118 h0 a1 G0 n ih, s_X12_judge3_195 h0 a1 G0 n ih⟩
set_option maxHeartbeats 4000000 in
set_option maxRecDepth 100000 in
theorem c_X12_judge3 (h0 : m_H) (a1 : Int) (G0 : GI h0) : m_CI M_X12_judge [mR 108, mI a1] h0 (P_X12_judge3 h0 a1) := by
  refine m_CI_of ⟨by decide, rfl, by simp [m_arg, m_isL, M_X12_judge], ⟨rfl, rfl⟩, rfl, rfl⟩ (ls := [some (mR 108), some (mI a1), none, none, none, none]) rfl ?_
  have ih := a_X12_judge3 h0 a1 G0 86
  refine z_ok (fun _ _ ok => ?_)
  have oa1 : m_32 a1 := ok 1 _ rfl
  unfold m_32 at oa1
  refine z_aload_n (M := M_X12_judge) 0 dX12_judge_0 rfl ?_
  refine z_iconst (M := M_X12_judge) 1 dX12_judge_1 ?_
  refine z_putIH (M := M_X12_judge) 2 dX12_judge_2 p_X12_133 o_108 rfl (u_108_0 G0) ((FR.rf (cs := []) (ss := [(108, 0)]) (h := h0)).up rfl) (fun h1 E1 G1 R1 => ?_)
  refine z_iload_n (M := M_X12_judge) 5 dX12_judge_5 rfl ?_
  refine z_i2l (M := M_X12_judge) 6 dX12_judge_6 ?_
  refine z_lconst (M := M_X12_judge) 7 dX12_judge_7 (v := 0) ?_
  refine z_ldc2 (M := M_X12_judge) 8 dX12_judge_8 k_X12_182 ?_
  refine z_sI (M := M_X12_judge) 11 dX12_judge_11 t_X12_in l_X12_143 (m_rr_of rfl) (rest := []) (c_X12_in h1 a1 0 2 G1) rfl rfl (Nat.le_of_ble_eq_true rfl) ⟨rfl, rfl⟩ (fun x1 h2 qx1 => ?_)
  obtain ⟨rfl, ⟨rfl, cx1⟩ | ⟨rfl, cx1⟩⟩ := qx1
  · refine z_if_ne_T (M := M_X12_judge) 14 dX12_judge_14 19 rfl (by omega) ?_
    refine z_iconst (M := M_X12_judge) 19 dX12_judge_19 ?_
    refine z_istore_n (M := M_X12_judge) 20 dX12_judge_20 (ls' := [some (mR 108), some (mI a1), some (mI 0), none, none, none]) (by decide) rfl ?_
    refine z_iconst (M := M_X12_judge) 21 dX12_judge_21 ?_
    refine z_istore_n (M := M_X12_judge) 22 dX12_judge_22 (ls' := [some (mR 108), some (mI a1), some (mI 0), some (mI (-1)), none, none]) (by decide) rfl ?_
    refine z_aload_n (M := M_X12_judge) 23 dX12_judge_23 rfl ?_
    refine z_getR (M := M_X12_judge) 24 dX12_judge_24 f_X12_13 o_108 rfl (g_108_3 G1) ?_
    refine z_iconst (M := M_X12_judge) 27 dX12_judge_27 ?_
    refine z_ialdG (M := M_X12_judge) 28 dX12_judge_28 o_110 (by omega) (by omega) (gw_0 G1) (fun x2 ex2 ax2 bx2 => ?_)
    have k2_ : h0 110 0 = x2 := (congrFun (rowz R1 (fun _ => rfl)) 0).symm.trans ex2
    refine z_iconst (M := M_X12_judge) 29 dX12_judge_29 ?_
    refine z_isubN (M := M_X12_judge) 30 dX12_judge_30 (by omega) (by omega) ?_
    refine z_istore (M := M_X12_judge) 31 dX12_judge_31 (ls' := [some (mR 108), some (mI a1), some (mI 0), some (mI (-1)), some (mI (x2 - 1)), none]) (by decide) rfl ?_
    exact z_mask [true, true, true, true, true, false] rfl (ih.1 0 (-1) (x2 - 1) h1 G1 R1 (by omega) (by omega) (by omega) (by omega) (by omega) (by omega) (jI_0 (by omega)) (by omega) (by omega))
  · refine z_if_ne_F (M := M_X12_judge) 14 dX12_judge_14 19 rfl (by omega) ?_
    refine z_iconst (M := M_X12_judge) 17 dX12_judge_17 ?_
    exact z_retI (M := M_X12_judge) 18 dX12_judge_18 rfl ⟨G1, R1, Or.inl ⟨by omega, rfl⟩⟩
theorem wr_eq {h : m_H} {e : Int} (R : LR 1 h (h 110)) (G : GI h) (h0 : 0 ≤ e) (h1 : e < h 110 0) : wrC h e ↔ wrM (h 110) e := by
  have b := R.1
  unfold RB at b
  have cb := R.2.2.2.2.2.2.1 e.toNat (by omega)
  have he : e = ((e.toNat : Nat) : Int) := by omega
  have y : m_and (m_shr (h 1 8) e) 1 = 1 ↔ h 110 (5 * e.toNat + 84) = 1 := by
    rw [he, hasBit_iff (by omega), Int.toNat_natCast, cb]
    exact ⟨fun u => u.2, fun u => ⟨by omega, u⟩⟩
  unfold wrC wrM
  rw [y, so_eq R G h0 h1]
theorem sh_eq {h : m_H} (R : LR 1 h (h 110)) (G : GI h) : al (shC h 1) 16 ↔ al (shM (h 110)) (h 110 1) := by
  obtain ⟨b, k, c, wd, n, q, cb, sb⟩ := R
  obtain ⟨b1, b2, b3, b4⟩ := b
  obtain ⟨s1, s2, s3, s4⟩ := sb
  constructor
  · intro z i u v
    have ga := gw_s G (i := 48 + 2 * i) (by omega) (by omega)
    have gb := gw_s G (i := 48 + 2 * i + 1) (by omega) (by omega)
    have ia : (48 + 2 * i).toNat = 2 * i.toNat + 48 := by omega
    have ib : (48 + 2 * i + 1).toNat = 2 * i.toNat + 49 := by omega
    rw [ia] at ga
    rw [ib] at gb
    have hs : iS (h 110) (h 110 (2 * i.toNat + 48)) (h 110 (2 * i.toNat + 49)) := ⟨i.toNat, by omega, rfl, rfl⟩
    unfold shM
    rw [ia, ib]
    generalize h 110 (2 * i.toNat + 48) = a at ga hs ⊢
    generalize h 110 (2 * i.toNat + 49) = d at gb hs ⊢
    obtain ⟨p, hp⟩ : ∃ p : Nat, a * 4 + d = (p : Int) := ⟨(a * 4 + d).toNat, by omega⟩
    have d1 : ((p / 4 : Nat) : Int) = a := by omega
    have d2 : ((p % 4 : Nat) : Int) = d := by omega
    have t := s4 p (by omega)
    rw [d1, d2] at t
    have y := z (p : Int) (by omega) (by omega)
    unfold shC at y
    rw [hasBit_iff (by omega)] at y
    have y2 := y (t.mpr hs)
    have w1 := wd (12 + (p : Int) / 4).toNat (by omega)
    have w2 := wd (12 + (p : Int) % 4).toNat (by omega)
    rw [w1, w2] at y2
    rw [show (72 + a).toNat = 60 + (12 + (p : Int) / 4).toNat by omega, show (72 + d).toNat = 60 + (12 + (p : Int) % 4).toNat by omega]
    exact y2
  · intro z p u v w
    obtain ⟨p', hp⟩ : ∃ p' : Nat, p = (p' : Int) := ⟨p.toNat, by omega⟩
    subst hp
    rw [hasBit_iff (by omega)] at w
    obtain ⟨i, i1, i2, i3⟩ := (s4 p' (by omega)).mp w
    have y := z (i : Int) (by omega) i1
    unfold shM at y
    rw [show (48 + 2 * (i : Int)).toNat = 2 * i + 48 by omega, show (48 + 2 * (i : Int) + 1).toNat = 2 * i + 49 by omega, i2, i3] at y
    have w1 := wd (12 + (p' : Int) / 4).toNat (by omega)
    have w2 := wd (12 + (p' : Int) % 4).toNat (by omega)
    rw [w1, w2]
    rw [show (72 + ((p' / 4 : Nat) : Int)).toNat = 60 + (12 + (p' : Int) / 4).toNat by omega, show (72 + ((p' % 4 : Nat) : Int)).toNat = 60 + (12 + (p' : Int) % 4).toNat by omega] at y
    exact y
theorem cu_eq {h : m_H} (R : LR 1 h (h 110)) : al (cuC h 1) 6 ↔ al (cuM (h 110)) 6 := by
  obtain ⟨b, k, c, wd, n, q, cb, sb⟩ := R
  have e : ∀ t : Int, 0 ≤ t → t < 6 → (cuC h 1 t ↔ cuM (h 110) t) := fun t u v => by
    have c1 := c t.toNat (by omega)
    have w1 := wd (t + 6).toNat (by omega)
    have w2 := wd t.toNat (by omega)
    unfold cuC cuM
    rw [c1, w1, w2, show (42 + t).toNat = 42 + t.toNat by omega, show (66 + t).toNat = 60 + (t + 6).toNat by omega, show (60 + t).toNat = 60 + t.toNat by omega]
  exact ⟨fun z t u v => (e t u v).mp (z t u v), fun z t u v => (e t u v).mpr (z t u v)⟩
theorem LX.judge {h h1 : m_H} {a x y : Int} {cs : List Nat} {ss : List (Nat × Nat)} (R : LX h) (G : GI h) (S1 : FR cs ss h h1) (A : jdQ (wrC h) (h 1 7) (al (shC h 1) 16) (al (cuC h 1) 6) a x) (B : jdQ (wrM (h1 110)) (h1 110 0) (al (shM (h1 110)) (h1 110 1)) (al (cuM (h1 110)) 6) a y) (o : out 110 110 cs ss = true) : x = y := by
  have l := R.2.1
  have n : h 1 7 = h 110 0 := l.2.2.2.2.1
  have bb := l.1
  unfold RB at bb
  rw [rowz S1 (fr_out o (by decide) (by decide))] at B
  have e := jS_c (W := wrC h) (V := wrM (h 110)) (n := h 110 0) (fun k u v => wr_eq l G u v) (h 110 0).toNat (by omega)
  unfold jdQ at A B
  rw [n, e] at A
  rw [← sh_eq l G, ← cu_eq l] at B
  rcases A with ⟨a1, a2⟩ | ⟨a1, a2⟩ | ⟨a1, a2⟩ | ⟨a1, a2, a3⟩
  · rcases B with ⟨b1, b2⟩ | ⟨b1, b2⟩ | ⟨b1, b2⟩ | ⟨b1, b2, b3⟩
    · rw [a2, b2]
    · omega
    · omega
    · omega
  · rcases B with ⟨b1, b2⟩ | ⟨b1, b2⟩ | ⟨b1, b2⟩ | ⟨b1, b2, b3⟩
    · omega
    · rw [a2, b2]
    · omega
    · omega
  · rcases B with ⟨b1, b2⟩ | ⟨b1, b2⟩ | ⟨b1, b2⟩ | ⟨b1, b2, b3⟩
    · omega
    · omega
    · rw [a2, b2]
    · omega
  · rcases B with ⟨b1, b2⟩ | ⟨b1, b2⟩ | ⟨b1, b2⟩ | ⟨b1, b2, b3⟩
    · omega
    · omega
    · omega
    · have t := a3.trans b3.symm
      rcases a2 with rfl | rfl
      · rcases b2 with rfl | rfl
        · rfl
        · exact absurd (t.mpr rfl) (by decide)
      · rcases b2 with rfl | rfl
        · exact absurd (t.mp rfl) (by decide)
        · rfl
/-! walks over the edges: what both solvers decide -/
def wk (L : List gE) : List gE → Nat → Nat → Prop
  | [], a, b => a = b ∧ a < 16
  | e :: w, a, b => (e ∈ L ∧ e.1.1 = a) ∧ wk L w e.1.2 b
def wp : List gE → Int
  | [] => 1
  | e :: w => e.2.1 * wp w
def wq : List gE → Int
  | [] => 1
  | e :: w => e.2.2.1 * wq w
def ws : List gE → Prop
  | [] => False
  | e :: w => e.2.2.2 = 1 ∨ ws w
/-- a closed walk that leads below itself -/
def gain (L : List gE) : Prop := ∃ (a : Nat) (w : List gE), wk L w a a ∧ (wq w < wp w ∨ (wq w = wp w ∧ ws w))
theorem wp_pos {L : List gE} (hE : ∀ e ∈ L, gEo e) : ∀ (w : List gE) (a b : Nat), wk L w a b → (0 < wp w ∧ 0 < wq w) ∧ a < 16 ∧ b < 16
  | [], a, b, h => ⟨⟨by decide, by decide⟩, h.2, h.1 ▸ h.2⟩
  | e :: w, a, b, h => by
    obtain ⟨⟨h1, h2⟩, h3⟩ := h
    have i := wp_pos hE w _ b h3
    have o := hE e h1
    unfold gEo at o
    refine ⟨⟨Int.mul_pos (by omega) i.1.1, Int.mul_pos (by omega) i.1.2⟩, ?_, i.2.2⟩
    rw [← h2]; exact o.1.1
theorem wk_le {L : List gE} {PU PL : Nat → Int} {TT : Nat → Nat → Prop} (hE : ∀ e ∈ L, gEo e) (hP : gP L PU PL TT) : ∀ (w : List gE) (a b : Nat), wk L w a b → PU a * wp w * PL b ≤ PU b * wq w * PL a ∧ (PU a * wp w * PL b = PU b * wq w * PL a → TT a b ∧ (ws w → ¬ TT b a))
  | [], a, b, h => by
    obtain ⟨h1, h2⟩ := h
    subst h1
    exact ⟨Int.le_refl _, fun _ => ⟨hP.2.2.1 a h2, fun z => z.elim⟩⟩
  | e :: w, a, b, h => by
    obtain ⟨⟨h1, h2⟩, h3⟩ := h
    have i := wk_le hE hP w _ b h3
    have ps := wp_pos hE w _ b h3
    have o := hE e h1
    have o2 := o
    unfold gEo at o2
    obtain ⟨p1, p2, p3, p4, p5, p6⟩ := hP
    have e1 := p2 e h1
    subst h2
    have ma : 0 < PU e.1.1 ∧ 0 < PL e.1.1 := p1 _ o2.1.1
    have mm : 0 < PU e.1.2 ∧ 0 < PL e.1.2 := p1 _ o2.1.2
    have mb : 0 < PU b ∧ 0 < PL b := p1 _ ps.2.2
    have hx : 0 < PL e.1.1 * e.2.2.1 := Int.mul_pos ma.2 (by omega)
    -- the ratios
    have r1 : PU e.1.1 * e.2.1 * wp w * PL e.1.2 ≤ PU e.1.2 * wp w * (PL e.1.1 * e.2.2.1) := by
      have z := Int.mul_le_mul_of_nonneg_left e1 (Int.le_of_lt ps.1.1)
      have a1 : wp w * (PU e.1.1 * e.2.1 * PL e.1.2) = PU e.1.1 * e.2.1 * wp w * PL e.1.2 := by ac_rfl
      have a2 : wp w * (PU e.1.2 * (PL e.1.1 * e.2.2.1)) = PU e.1.2 * wp w * (PL e.1.1 * e.2.2.1) := by ac_rfl
      omega
    have r2 : PU e.1.2 * wp w * PL b ≤ PU b * wq w * PL e.1.2 := i.1
    have g1 : PU e.1.1 * (e.2.1 * wp w) * PL b = PU e.1.1 * e.2.1 * wp w * PL b := by ac_rfl
    have g2 : PU b * (e.2.2.1 * wq w) * PL e.1.1 = PU b * wq w * (PL e.1.1 * e.2.2.1) := by ac_rfl
    show PU e.1.1 * (e.2.1 * wp w) * PL b ≤ PU b * (e.2.2.1 * wq w) * PL e.1.1 ∧ (PU e.1.1 * (e.2.1 * wp w) * PL b = PU b * (e.2.2.1 * wq w) * PL e.1.1 → TT e.1.1 b ∧ (e.2.2.2 = 1 ∨ ws w → ¬ TT b e.1.1))
    rw [g1, g2]
    refine ⟨fr_tr (Int.le_of_lt hx) mm.2 (Int.le_of_lt mb.2) r1 r2, fun eq => ?_⟩
    have q1 : PU e.1.1 * e.2.1 * wp w * PL e.1.2 = PU e.1.2 * wp w * (PL e.1.1 * e.2.2.1) := by
      rcases Int.lt_or_eq_of_le r1 with z | z
      · exact absurd eq (Int.ne_of_lt (fr_trl (Int.le_of_lt hx) mm.2 mb.2 z r2))
      · exact z
    have q2 : PU e.1.2 * wp w * PL b = PU b * wq w * PL e.1.2 := by
      rcases Int.lt_or_eq_of_le r2 with z | z
      · exact absurd eq (Int.ne_of_lt (fr_ltr hx mm.2 (Int.le_of_lt mb.2) r1 z))
      · exact z
    have t1 : gti PU PL e := by
      unfold gti
      have a1 : wp w * (PU e.1.1 * e.2.1 * PL e.1.2) = PU e.1.1 * e.2.1 * wp w * PL e.1.2 := by ac_rfl
      have a2 : wp w * (PU e.1.2 * (PL e.1.1 * e.2.2.1)) = PU e.1.2 * wp w * (PL e.1.1 * e.2.2.1) := by ac_rfl
      exact Int.eq_of_mul_eq_mul_left (Int.ne_of_gt ps.1.1) (by omega)
    have t2 := i.2 q2
    have tam := p5 e h1 t1
    refine ⟨p4 _ _ _ o2.1.1 o2.1.2 ps.2.2 tam t2.1, fun st tba => ?_⟩
    rcases st with st | st
    · exact p6 e h1 st t1 (p4 _ _ _ o2.1.2 ps.2.2 o2.1.1 t2.1 tba)
    · exact t2.2 st (p4 _ _ _ ps.2.2 o2.1.1 o2.1.2 tba tam)
/-- the reference's 1: nothing gains -/
theorem gG_no {L : List gE} (hE : ∀ e ∈ L, gEo e) (h : gG L) : ¬ gain L := by
  obtain ⟨PU, PL, TT, hP⟩ := h
  rintro ⟨a, w, hw, hg⟩
  have ps := wp_pos hE w a a hw
  have z := wk_le hE hP w a a hw
  have ma := hP.1 a ps.2.1
  have m : 0 < PU a * PL a := Int.mul_pos ma.1 ma.2
  have a1 : PU a * wp w * PL a = PU a * PL a * wp w := by ac_rfl
  have a2 : PU a * wq w * PL a = PU a * PL a * wq w := by ac_rfl
  rw [a1, a2] at z
  rcases hg with g | ⟨g, s⟩
  · have := Int.mul_lt_mul_of_pos_left g m
    omega
  · exact (z.2 (by rw [g])).2 s (hP.2.2.1 a ps.2.1)
/-- walks go on -/
theorem wk_app {L : List gE} : ∀ (w v : List gE) (a b c : Nat), wk L w a b → wk L v b c → wk L (w ++ v) a c
  | [], v, a, b, c, h, k => by obtain ⟨rfl, _⟩ := h; exact k
  | e :: w, v, a, b, c, h, k => ⟨h.1, wk_app w v _ b c h.2 k⟩
theorem wp_app : ∀ w v : List gE, wp (w ++ v) = wp w * wp v
  | [], v => (Int.one_mul _).symm
  | e :: w, v => by show e.2.1 * wp (w ++ v) = e.2.1 * wp w * wp v; rw [wp_app w v, Int.mul_assoc]
theorem wq_app : ∀ w v : List gE, wq (w ++ v) = wq w * wq v
  | [], v => (Int.one_mul _).symm
  | e :: w, v => by show e.2.2.1 * wq (w ++ v) = e.2.2.1 * wq w * wq v; rw [wq_app w v, Int.mul_assoc]
theorem ws_app : ∀ w v : List gE, ws (w ++ v) ↔ (ws w ∨ ws v)
  | [], v => ⟨Or.inr, fun z => z.elim (fun y => y.elim) id⟩
  | e :: w, v => by
    show (e.2.2.2 = 1 ∨ ws (w ++ v)) ↔ ((e.2.2.2 = 1 ∨ ws w) ∨ ws v)
    rw [ws_app w v, or_assoc]
/-! a long walk goes round -/
def nd : List gE → Nat → List Nat
  | [], a => [a]
  | e :: w, a => a :: nd w e.1.2
theorem nd_len : ∀ (w : List gE) (a : Nat), (nd w a).length = w.length + 1
  | [], _ => rfl
  | e :: w, a => by show (nd w e.1.2).length + 1 = _; rw [nd_len w]; rfl
theorem nd_lt {L : List gE} (hE : ∀ e ∈ L, gEo e) : ∀ (w : List gE) (a b : Nat), wk L w a b → ∀ c ∈ nd w a, c < 16
  | [], a, b, h, c, hc => by
    rcases List.mem_cons.mp hc with rfl | z
    · exact h.2
    · cases z
  | e :: w, a, b, h, c, hc => by
    rcases List.mem_cons.mp hc with rfl | z
    · have o := hE e h.1.1
      unfold gEo at o
      rw [← h.1.2]; exact o.1.1
    · exact nd_lt hE w _ b h.2 c z
theorem nd_mem {L : List gE} (hE : ∀ e ∈ L, gEo e) : ∀ (w : List gE) (a b c : Nat), wk L w a b → c ∈ nd w a → ∃ x z, w = x ++ z ∧ wk L x a c ∧ wk L z c b
  | [], a, b, c, h, hc => by
    rcases List.mem_cons.mp hc with rfl | z
    · exact ⟨[], [], rfl, ⟨rfl, h.2⟩, h⟩
    · cases z
  | e :: w, a, b, c, h, hc => by
    rcases List.mem_cons.mp hc with rfl | z
    · exact ⟨[], e :: w, rfl, ⟨rfl, nd_lt hE (e :: w) c b h c (List.mem_cons_self)⟩, h⟩
    · obtain ⟨x, y, e1, e2, e3⟩ := nd_mem hE w _ b c h.2 z
      exact ⟨e :: x, y, by rw [e1]; rfl, ⟨h.1, e2⟩, e3⟩
theorem nd_split {L : List gE} (hE : ∀ e ∈ L, gEo e) : ∀ (w : List gE) (a b : Nat), wk L w a b → ¬ (nd w a).Nodup → ∃ x y z c, w = x ++ (y ++ z) ∧ y ≠ [] ∧ wk L x a c ∧ wk L y c c ∧ wk L z c b
  | [], a, b, h, hn => absurd (List.nodup_cons.mpr ⟨by simp, List.nodup_nil⟩) hn
  | e :: w, a, b, h, hn => by
    by_cases g : a ∈ nd w e.1.2
    · obtain ⟨x, z, e1, e2, e3⟩ := nd_mem hE w _ b a h.2 g
      have ha := nd_lt hE (e :: w) a b h a (List.mem_cons_self)
      exact ⟨[], e :: x, z, a, by rw [e1]; rfl, by simp, ⟨rfl, ha⟩, ⟨h.1, e2⟩, e3⟩
    · have g2 : ¬ (nd w e.1.2).Nodup := fun z => hn (List.nodup_cons.mpr ⟨g, z⟩)
      obtain ⟨x, y, z, c, e1, e2, e3, e4, e5⟩ := nd_split hE w _ b h.2 g2
      exact ⟨e :: x, y, z, c, by rw [e1]; rfl, e2, ⟨h.1, e3⟩, e4, e5⟩
/-- a walk of 16 edges or more: without a round in it, it is no worse unless the round gains -/
theorem wk_cut {L : List gE} (hE : ∀ e ∈ L, gEo e) (w : List gE) (a b : Nat) (h : wk L w a b) (hl : 16 ≤ w.length) (ng : ¬ gain L) : ∃ v, wk L v a b ∧ v.length < w.length ∧ wp w * wq v ≤ wp v * wq w ∧ (wp w * wq v = wp v * wq w → ws w → ws v) := by
  have hn : ¬ (nd w a).Nodup := fun z => by
    have y := gl_le z (fun u hu => nd_lt hE w a b h u hu)
    rw [nd_len] at y
    omega
  obtain ⟨x, y, z, c, e1, e2, e3, e4, e5⟩ := nd_split hE w a b h hn
  refine ⟨x ++ z, wk_app x z a c b e3 e5, ?_, ?_, ?_⟩
  · rw [e1, List.length_append, List.length_append, List.length_append]
    have : 0 < y.length := List.length_pos_iff.mpr e2
    omega
  all_goals
    have px := wp_pos hE x a c e3
    have py := wp_pos hE y c c e4
    have pz := wp_pos hE z c b e5
    have k1 : wp (x ++ (y ++ z)) * wq (x ++ z) = (wp x * wp z * (wq x * wq z)) * wp y := by rw [wp_app, wp_app, wq_app]; ac_rfl
    have k2 : wp (x ++ z) * wq (x ++ (y ++ z)) = (wp x * wp z * (wq x * wq z)) * wq y := by rw [wp_app, wq_app, wq_app]; ac_rfl
    have m : 0 < wp x * wp z * (wq x * wq z) := Int.mul_pos (Int.mul_pos px.1.1 pz.1.1) (Int.mul_pos px.1.2 pz.1.2)
    have ly : wp y ≤ wq y := by
      rcases Int.lt_or_le (wq y) (wp y) with g | g
      · exact absurd ⟨c, y, e4, Or.inl g⟩ ng
      · exact g
  · rw [e1, k1, k2]
    exact Int.mul_le_mul_of_nonneg_left ly (Int.le_of_lt m)
  · rw [e1, k1, k2, ws_app, ws_app, ws_app]
    intro eq st
    rcases st with s | s | s
    · exact Or.inl s
    · exact absurd ⟨c, y, e4, Or.inr ⟨(Int.eq_of_mul_eq_mul_left (Int.ne_of_gt m) eq).symm, s⟩⟩ ng
    · exact Or.inr s
/-! the reference's rounds: the best of all walks so long -/
def bfI (L : List gE) (k : Nat) (S : gS) : Prop := (∀ l, l < 16 → ∃ (w : List gE) (a : Nat), wk L w a l ∧ w.length ≤ k ∧ (S l).1.1 = wp w ∧ (S l).1.2 = wq w) ∧ ∀ (v : List gE) (a l : Nat), wk L v a l → v.length ≤ k → wp v * (S l).1.2 ≤ (S l).1.1 * wq v
theorem bf_0 {L : List gE} {S : gS} (s : ∀ l, l < 16 → (S l).1 = (1, 1)) : bfI L 0 S := by
  refine ⟨fun l hl => ⟨[], l, ⟨rfl, hl⟩, Nat.le_refl _, by rw [s l hl]; rfl, by rw [s l hl]; rfl⟩, fun v a l h hv => ?_⟩
  have e : v = [] := List.eq_nil_of_length_eq_zero (by omega)
  subst e
  have hl : l < 16 := h.1 ▸ h.2
  rw [s l hl]
  exact Int.le_refl _
theorem wk_last {L : List gE} : ∀ (v : List gE) (a l : Nat), wk L v a l → v ≠ [] → ∃ u e, v = u ++ [e] ∧ e ∈ L ∧ e.1.2 = l ∧ l < 16 ∧ ∃ (_ : True), (e.1.1 < 16 → wk L u a e.1.1)
  | [], a, l, h, hn => absurd rfl hn
  | [e], a, l, h, _ => ⟨[], e, rfl, h.1.1, h.2.1, h.2.1 ▸ h.2.2, trivial, fun q => ⟨h.1.2.symm, h.1.2 ▸ q⟩⟩
  | e :: f :: v, a, l, h, _ => by
    obtain ⟨u, d, e1, e2, e3, e4, t, e5⟩ := wk_last (f :: v) _ l h.2 (by simp)
    exact ⟨e :: u, d, by rw [e1]; rfl, e2, e3, e4, trivial, fun q => ⟨h.1, e5 q⟩⟩
theorem bf_step {L : List gE} {k : Nat} {M : Int} {S : gS} (hE : ∀ e ∈ L, gEo e) (hM : M * 199 < gBig) (h : gM M S) (I : bfI L k S) : bfI L (k + 1) (gi 0 S L L.length).1 ∧ ((gi 0 S L L.length).2 = 0 ∨ ((gi 0 S L L.length).2 = 1 ∧ ∃ l, l < 16 ∧ (S l).1.1 * ((gi 0 S L L.length).1 l).1.2 < ((gi 0 S L L.length).1 l).1.1 * (S l).1.2)) := by
  have hcx := fun (e : gE) (he : e ∈ L) => gc_ex (S := S) (z := 0) (M := M) hM (hE e he) (h _ (hE e he).1.1).2.1 (h _ (hE e he).1.1).2.2
  have hR := gi_ok (z := 0) (S := S) (L := L) (fun e he => (hE e he).1) (fun e he t => by have := (hcx e he).2.2.1; omega) (fun l hl t => by have := (h l hl).2.2; omega) L.length
  have gM' := (gM_step hE hM h).1
  generalize gi 0 S L L.length = p at hR gM' ⊢
  obtain ⟨r1, r2, r3⟩ := hR
  obtain ⟨A, B⟩ := I
  have gbl : ∀ c t : gN, t.2.2 = 1 → c.2.1 = 0 → gb c t → t.1.1 * c.1.2 < c.1.1 * t.1.2 := fun c t h1 h2 g => by
    rcases g with g | g | g
    · exact absurd h1 g
    · exact g
    · omega
  have c0 : ∀ e, (gc 0 S e).2.1 = 0 := fun e => rfl
  have mono : ∀ l, l < 16 → (S l).1.1 * (p.1 l).1.2 ≤ (p.1 l).1.1 * (S l).1.2 := fun l hl => by
    rcases r1 l with q | ⟨⟨e, he, t, s, q⟩, g⟩
    · rw [q]; exact Int.le_refl _
    · exact Int.le_of_lt (gbl _ _ (h l hl).1 (by rw [q]; exact c0 e) g)
  refine ⟨⟨fun l hl => ?_, fun v a l hv hl => ?_⟩, ?_⟩
  · rcases r1 l with q | ⟨⟨e, he, t, s, q⟩, g⟩
    · obtain ⟨w, a, w1, w2, w3, w4⟩ := A l hl
      exact ⟨w, a, w1, by omega, by rw [q]; exact w3, by rw [q]; exact w4⟩
    · obtain ⟨w, a, w1, w2, w3, w4⟩ := A e.1.1 (hE e he).1.1
      have cx := hcx e he
      refine ⟨w ++ [e], a, wk_app w [e] a _ l w1 ⟨⟨he, rfl⟩, t, t ▸ (hE e he).1.2⟩, by rw [List.length_append]; show w.length + 1 ≤ _; omega, ?_, ?_⟩
      · rw [q, wp_app, ← w3, cx.1.1]; show _ = _ * (e.2.1 * 1); rw [Int.mul_one]
      · rw [q, wq_app, ← w4, cx.1.2]; show _ = _ * (e.2.2.1 * 1); rw [Int.mul_one]
  · have pv := wp_pos hE v a l hv
    have l16 := pv.2.2
    have pl := gM' l l16
    have sl := h l l16
    by_cases c : v.length ≤ k
    · have z := B v a l hv c
      exact fr_tr (Int.le_of_lt pv.1.2) (show 0 < (S l).1.2 by omega) (by omega) z (mono l l16)
    · obtain ⟨u, e, e1, e2, e3, e4, _, e5⟩ := wk_last v a l hv (fun y => by rw [y] at c; exact c (Nat.zero_le _))
      have o := (hE e e2).1
      have wu := e5 o.1
      have lu : u.length ≤ k := by rw [e1, List.length_append] at hl; have : [e].length = 1 := rfl; omega
      have z := B u a e.1.1 wu lu
      have pu := wp_pos hE u a e.1.1 wu
      have cx := hcx e e2
      obtain ⟨j, hj⟩ := List.getElem?_of_mem e2
      have nb := r2 j e (List.getElem?_eq_some_iff.mp hj).1 hj (h _ o.1).1
      rw [e3] at nb
      have le : (gc 0 S e).1.1 * (p.1 l).1.2 ≤ (p.1 l).1.1 * (gc 0 S e).1.2 := by
        rcases Int.lt_or_le ((p.1 l).1.1 * (gc 0 S e).1.2) ((gc 0 S e).1.1 * (p.1 l).1.2) with g | g
        · exact absurd (Or.inr (Or.inl g)) nb
        · exact g
      have og := hE e e2
      unfold gEo at og
      have sf := h e.1.1 o.1
      rw [e1, wp_app, wq_app]
      show wp u * (e.2.1 * 1) * (p.1 l).1.2 ≤ (p.1 l).1.1 * (wq u * (e.2.2.1 * 1))
      rw [Int.mul_one, Int.mul_one]
      rw [cx.1.1, cx.1.2] at le
      have p1 : 0 < wq u * e.2.2.1 := Int.mul_pos pu.1.2 (by omega)
      have p2 : 0 < (S e.1.1).1.2 * e.2.2.1 := Int.mul_pos (by omega) (by omega)
      refine fr_tr (b := (S e.1.1).1.1 * e.2.1) (y := (S e.1.1).1.2 * e.2.2.1) (Int.le_of_lt p1) p2 (by omega) ?_ le
      have k1 : wp u * e.2.1 * ((S e.1.1).1.2 * e.2.2.1) = (e.2.1 * e.2.2.1) * (wp u * (S e.1.1).1.2) := by ac_rfl
      have k2 : (S e.1.1).1.1 * e.2.1 * (wq u * e.2.2.1) = (e.2.1 * e.2.2.1) * ((S e.1.1).1.1 * wq u) := by ac_rfl
      rw [k1, k2]
      exact Int.mul_le_mul_of_nonneg_left z (Int.mul_nonneg (by omega) (by omega))
  · rcases r3 with ⟨a1, _⟩ | ⟨a1, l, hl, g, e, he, t, s, q⟩
    · exact Or.inl a1
    · exact Or.inr ⟨a1, l, hl, gbl _ _ (h l hl).1 (by rw [q]; exact c0 e) g⟩
/-- a round past the sixteenth that still gains -/
theorem bf_gain {L : List gE} {S S' : gS} (hE : ∀ e ∈ L, gEo e) (I : bfI L 16 S) (I' : bfI L 17 S') (hS : ∀ l, l < 16 → 0 < (S l).1.2 ∧ 0 < (S' l).1.2) (g : ∃ l, l < 16 ∧ (S l).1.1 * (S' l).1.2 < (S' l).1.1 * (S l).1.2) : gain L := by
  refine Classical.byContradiction fun ng => ?_
  obtain ⟨l, hl, lt⟩ := g
  obtain ⟨w, a, w1, w2, w3, w4⟩ := I'.1 l hl
  have pw := wp_pos hE w a l w1
  have no : ∀ v, wk L v a l → v.length ≤ 16 → wp w * wq v ≤ wp v * wq w → False := fun v v1 v2 v3 => by
    have pv := wp_pos hE v a l v1
    have z := I.2 v a l v1 v2
    have y := fr_tr (a := wp w) (x := wq w) (b := wp v) (y := wq v) (Int.le_of_lt pw.1.2) pv.1.2 (Int.le_of_lt (hS l hl).1) v3 z
    rw [w3, w4] at lt
    have k : (S l).1.1 * wq w = (S l).1.1 * wq w := rfl
    omega
  by_cases c : w.length ≤ 16
  · exact no w w1 c (Int.le_refl _)
  · obtain ⟨v, v1, v2, v3, _⟩ := wk_cut hE w a l w1 (by omega) ng
    exact no v v1 (by omega) v3
/-! tight walks -/
def tw (L : List gE) (S : gS) (a b : Nat) : Prop := ∃ w, wk L w a b ∧ ∀ e ∈ w, gti (fun l => (S l).1.1) (fun l => (S l).1.2) e
theorem tw_nil {L : List gE} {S : gS} {a : Nat} (h : a < 16) : tw L S a a := ⟨[], ⟨rfl, h⟩, fun e he => by cases he⟩
theorem tw_app {L : List gE} {S : gS} {a b c : Nat} (h : tw L S a b) (k : tw L S b c) : tw L S a c := by
  obtain ⟨w, h1, h2⟩ := h
  obtain ⟨v, k1, k2⟩ := k
  refine ⟨w ++ v, wk_app w v a b c h1 k1, fun e he => ?_⟩
  rcases List.mem_append.mp he with z | z
  · exact h2 e z
  · exact k2 e z
theorem tw_one {L : List gE} {S : gS} {e : gE} (hE : ∀ e ∈ L, gEo e) (he : e ∈ L) (t : gti (fun l => (S l).1.1) (fun l => (S l).1.2) e) : tw L S e.1.1 e.1.2 := by
  refine ⟨[e], ⟨⟨he, rfl⟩, rfl, (hE e he).1.2⟩, fun d hd => ?_⟩
  rcases List.mem_cons.mp hd with rfl | z
  · exact t
  · cases z
theorem tw_eq {L : List gE} {PU PL : Nat → Int} (hE : ∀ e ∈ L, gEo e) (hp : ∀ l, l < 16 → 0 < PU l ∧ 0 < PL l) : ∀ (w : List gE) (a b : Nat), wk L w a b → (∀ e ∈ w, gti PU PL e) → PU a * wp w * PL b = PU b * wq w * PL a
  | [], a, b, h, _ => by obtain ⟨rfl, _⟩ := h; rfl
  | e :: w, a, b, h, t => by
    obtain ⟨⟨h1, h2⟩, h3⟩ := h
    subst h2
    have i := tw_eq hE hp w _ b h3 (fun d hd => t d (List.mem_cons_of_mem _ hd))
    have t1 : PU e.1.1 * e.2.1 * PL e.1.2 = PU e.1.2 * (PL e.1.1 * e.2.2.1) := t e List.mem_cons_self
    have mm := hp _ (hE e h1).1.2
    show PU e.1.1 * (e.2.1 * wp w) * PL b = PU b * (e.2.2.1 * wq w) * PL e.1.1
    have m : 0 < PU e.1.2 * PL e.1.2 := Int.mul_pos mm.1 mm.2
    refine Int.eq_of_mul_eq_mul_left (Int.ne_of_gt m) ?_
    have k1 : PU e.1.2 * PL e.1.2 * (PU e.1.1 * (e.2.1 * wp w) * PL b) = (PU e.1.1 * e.2.1 * PL e.1.2) * (PU e.1.2 * wp w * PL b) := by ac_rfl
    have k2 : PU e.1.2 * PL e.1.2 * (PU b * (e.2.2.1 * wq w) * PL e.1.1) = (PU e.1.2 * (PL e.1.1 * e.2.2.1)) * (PU b * wq w * PL e.1.2) := by ac_rfl
    rw [k1, k2, t1, i]
/-- a strict tight edge with a tight way back gains -/
theorem tw_gain {L : List gE} {S : gS} {e : gE} (hE : ∀ e ∈ L, gEo e) (hp : ∀ l, l < 16 → 0 < (S l).1.1 ∧ 0 < (S l).1.2) (he : e ∈ L) (st : e.2.2.2 = 1) (t : gti (fun l => (S l).1.1) (fun l => (S l).1.2) e) (b : tw L S e.1.2 e.1.1) : gain L := by
  obtain ⟨w, h1, h2⟩ := b
  have hw : wk L (e :: w) e.1.1 e.1.1 := ⟨⟨he, rfl⟩, h1⟩
  have q := tw_eq (PU := fun l => (S l).1.1) (PL := fun l => (S l).1.2) hE hp (e :: w) _ _ hw (fun d hd => by
    rcases List.mem_cons.mp hd with rfl | z
    · exact t
    · exact h2 d z)
  have ma := hp _ (hE e he).1.1
  have m : 0 < (S e.1.1).1.1 * (S e.1.1).1.2 := Int.mul_pos ma.1 ma.2
  have k1 : (S e.1.1).1.1 * wp (e :: w) * (S e.1.1).1.2 = (S e.1.1).1.1 * (S e.1.1).1.2 * wp (e :: w) := by ac_rfl
  have k2 : (S e.1.1).1.1 * wq (e :: w) * (S e.1.1).1.2 = (S e.1.1).1.1 * (S e.1.1).1.2 * wq (e :: w) := by ac_rfl
  have q2 : (S e.1.1).1.1 * (S e.1.1).1.2 * wp (e :: w) = (S e.1.1).1.1 * (S e.1.1).1.2 * wq (e :: w) := k1.symm.trans (q.trans k2)
  exact ⟨e.1.1, e :: w, hw, Or.inr ⟨(Int.eq_of_mul_eq_mul_left (Int.ne_of_gt m) q2).symm, Or.inl st⟩⟩
/-! the reference's 0: something gains -/
def tCn (S : gS) (L : List gE) (τ : Nat → Int) (n : Int) : Prop := ∀ a b : Nat, a < 16 → b < 16 → ((16 * a + b : Nat) : Int) < n → τ (16 * a + b) = 1 → tw L S a b
theorem aS_134 {h h' : m_H} {j : Nat} {v : Int} (E : h' = m_up h 134 j v) : aS h' = aS h := aS_same (upo E (by decide)) (upo E (by decide)) (upo E (by decide)) (upo E (by decide))
theorem tC_put {h h1 h' : m_H} {L : List gE} {n m v : Int} {f t i : Nat} (hf : f < 16) (ht : t < 16) (I : tCn (aS h) L (h 134) n) (e1 : h1 134 = h 134) (e2 : aS h1 = aS h) (hi : i = 16 * f + t) (hm : ∀ j : Nat, (j : Int) < m → j ≠ i → (j : Int) < n) (hv : v = 1 → tw L (aS h) f t) (E : h' = m_up h1 134 i v) : tCn (aS h') L (h' 134) m := by
  intro a b ha hb lt h1'
  rw [aS_134 E, e2]
  by_cases g : 16 * a + b = i
  · have ea : a = f := by omega
    have eb : b = t := by omega
    rw [g, upE E] at h1'
    rw [ea, eb]; exact hv h1'
  · rw [upN E (fun z => g z.2), e1] at h1'
    exact I a b ha hb (hm _ lt g) h1'
theorem bfI_c {L : List gE} {k : Nat} {S S' : gS} (hE : ∀ e ∈ L, gEo e) (e : ∀ l, l < 16 → S' l = S l) (I : bfI L k S) : bfI L k S' := by
  refine ⟨fun l hl => ?_, fun v a l h hv => ?_⟩
  · obtain ⟨w, a, w1, w2, w3, w4⟩ := I.1 l hl
    exact ⟨w, a, w1, w2, by rw [e l hl]; exact w3, by rw [e l hl]; exact w4⟩
  · have pv := wp_pos hE v a l h
    rw [e l pv.2.2]; exact I.2 v a l h hv
def cbI2 (h : m_H) (L : List gE) (k m : Int) : Prop := cbI h L k m ∧ bfI L k.toNat (aS h) ∧ (m ≠ 0 → k = 17 → gain L)
theorem cb_02 {h : m_H} {L : List gE} (A : AR h L) (s : ∀ l, l < 16 → aS h l = ((1, 1), (0, if (-1 : Int) = -1 ∨ (l : Int) = -1 then 1 else 0))) : cbI2 h L 0 1 := ⟨cb_0 A s, bf_0 (fun l hl => by rw [s l hl]), fun _ z => absurd z (by decide)⟩
theorem cb_step2 {h h' : m_H} {L : List gE} {k m x : Int} (hE : ∀ q ∈ L, gEo q) (hk : 0 ≤ k) (hk16 : k ≤ 16) (I : cbI2 h L k m) (A : AR h' L) (r : ∀ l, l < 16 → aS h' l = (gi 0 (aS h) L L.length).1 l) (ex : x = (gi 0 (aS h) L L.length).2) : cbI2 h' L (k + 1) x := by
  obtain ⟨I1, I2, -⟩ := I
  obtain ⟨p1, p2⟩ := p199 (k := k.toNat) (by omega)
  have b := bf_step hE p1 I1.2.1 I2
  have c := cb_step hE hk hk16 I1 A r ex
  have n1 : (k + 1).toNat = k.toNat + 1 := by omega
  have B' : bfI L (k + 1).toNat (aS h') := by rw [n1]; exact bfI_c hE r b.1
  refine ⟨c, B', fun hx h17 => ?_⟩
  have k16 : k.toNat = 16 := by omega
  have k17 : (k + 1).toNat = 17 := by omega
  rcases b.2 with z | ⟨z, l, hl, lt⟩
  · exact absurd (ex.trans z) hx
  · rw [k16] at I2
    rw [k17] at B'
    refine bf_gain hE I2 B' (fun l hl => ?_) ⟨l, hl, by rw [r l hl]; exact lt⟩
    have u1 := I1.2.1 l hl
    have u2 := c.2.1 l hl
    exact ⟨by omega, by omega⟩
theorem tCn.ti {h h1 : m_H} {L : List gE} {n : Int} (I : tCn (aS h) L (h 134) n) (S : FR [115, 116, 132, 133] [] h h1) : tCn (aS h1) L (h1 134) n := by
  rw [aS_ti S, FR.row S (c := 134) (fun _ => rfl)]; exact I
theorem tC_i {h h' : m_H} {L : List gE} {l v : Int} (hl : 0 ≤ l) (hb : l < 256) (I : tCn (aS h) L (h 134) l) (hv : v = 1 → l / 16 = l % 16) (E : h' = m_up h 134 l.toNat v) : tCn (aS h') L (h' 134) (l + 1) := by
  refine tC_put (f := (l / 16).toNat) (t := (l % 16).toNat) (by omega) (by omega) I rfl rfl (by omega) (fun j a b => by omega) (fun z => ?_) E
  rw [hv z]
  exact tw_nil (by omega)
theorem tC_e {h h1 h' : m_H} {L : List gE} {e n f t v : Int} (hE : ∀ q ∈ L, gEo q) (J : cbJ h L) (he : 0 ≤ e) (C : tCn (aS h) L (h 134) 256) (en : h 108 21 = n) (hn : e < n) (ef : h 117 e.toNat = f) (et : h 118 e.toNat = t) (e1 : h1 134 = h 134) (e2 : aS h1 = aS h) (hv : v = 1 → (h 134 (16 * f + t).toNat = 1 ∨ tiP (aS h) L e)) (E : h' = m_up h1 134 (16 * f + t).toNat v) : tCn (aS h') L (h' 134) 256 := by
  obtain ⟨q, q1, q2, q3, q4, -⟩ := AR_at J.1 he en hn
  have o := (hE q q2).1
  have i1 : (16 * f + t).toNat = 16 * q.1.1 + q.1.2 := by omega
  refine tC_put o.1 o.2 C e1 e2 i1 (fun j a b => a) (fun z => ?_) E
  rcases hv z with y | y
  · rw [i1] at y
    exact C _ _ o.1 o.2 (by omega) y
  · exact tw_one hE q2 ((ti_iff hE J q1).mp y)
theorem tC_s {h h' : m_H} {L : List gE} {m i k v : Int} (m0 : 0 ≤ m) (m1 : m ≤ 15) (i0 : 0 ≤ i) (i1 : i ≤ 15) (k0 : 0 ≤ k) (k1 : k ≤ 15) (C : tCn (aS h) L (h 134) 256) (hv : v = 1 → (h 134 (16 * i + k).toNat = 1 ∨ (h 134 (16 * i + m).toNat = 1 ∧ h 134 (16 * m + k).toNat = 1))) (E : h' = m_up h 134 (16 * i + k).toNat v) : tCn (aS h') L (h' 134) 256 := by
  have j1 : (16 * i + k).toNat = 16 * i.toNat + k.toNat := by omega
  have j2 : (16 * i + m).toNat = 16 * i.toNat + m.toNat := by omega
  have j3 : (16 * m + k).toNat = 16 * m.toNat + k.toNat := by omega
  rw [j1, j2, j3] at hv
  refine tC_put (f := i.toNat) (t := k.toNat) (by omega) (by omega) C rfl rfl j1 (fun j a b => a) (fun z => ?_) E
  rcases hv z with y | ⟨y1, y2⟩
  · exact C _ _ (by omega) (by omega) (by omega) y
  · exact tw_app (C _ _ (by omega) (by omega) (by omega) y1) (C _ _ (by omega) (by omega) (by omega) y2)
theorem tC_g {h h1 : m_H} {L : List gE} {e n f t x3 x5 x9 : Int} (hE : ∀ q ∈ L, gEo q) (J : cbJ h L) (he : 0 ≤ e) (C : tCn (aS h) L (h 134) 256) (S : FR [115, 116, 132, 133] [] h h1) (en : h 108 21 = n) (hn : e < n) (es : h 121 e.toNat = x3) (h3 : x3 = 1) (tq : tiQ x5 (aS h) L e) (h5 : x5 = 1) (et : h1 118 e.toNat = t) (ef : h1 117 e.toNat = f) (ex : h1 134 (16 * t + f).toNat = x9) (hx : x9 = 1) : gain L := by
  rw [S 118 _ rfl] at et
  rw [S 117 _ rfl] at ef
  rw [S 134 _ rfl] at ex
  obtain ⟨q, q1, q2, q3, q4, q5, q6, q7⟩ := AR_at J.1 he en hn
  have o := (hE q q2).1
  have n1 : (16 * t + f).toNat = 16 * q.1.2 + q.1.1 := by omega
  rw [n1] at ex
  refine tw_gain hE (fun l hl => ?_) q2 (q7.symm.trans (es.trans h3)) ((ti_iff hE J q1).mp (tq.mp h5)) (C _ _ o.2 o.1 (by omega) (ex.trans hx))
  have u := J.2.1 l hl
  exact ⟨by omega, by omega⟩
abbrev P_X12_canBe2 (h0 : m_H) (a1 : Int) : Int → m_H → Prop := fun x h' => GI h' ∧ FR [115, 116, 117, 118, 119, 120, 121, 124, 125, 126, 127, 128, 129, 130, 131, 132, 133, 134] [(108, 21)] h0 h' ∧ 0 ≤ x ∧ x ≤ 1 ∧ cbQ x (bL (h0 110) (h0 122) (h0 123) a1) ∧ (x = 0 → gain (bL (h0 110) (h0 122) (h0 123) a1))
def q_X12_canBe2 (h0 : m_H) (a1 : Int) (n : Nat) : Prop := (∀ (l2 l3 : Int) (h : m_H), GI h → FR [115, 116, 117, 118, 119, 120, 121, 124, 125, 126, 127, 128, 129, 130, 131, 132, 133, 134] [(108, 21)] h0 h → 0 ≤ l2 → l2 ≤ 1 → 0 ≤ l3 → l3 ≤ 17 → (-2147483648) ≤ a1 → a1 ≤ 2147483647 → (cbI2 h (bL (h0 110) (h0 122) (h0 123) a1) l3 l2) → 2 * (17 - l3) + (11507) ≤ (n : Int) → m_Z oF M_X12_canBe 14 [some (mR 108), none, some (mI l2), some (mI l3), none, none] [] h (m_QI (P_X12_canBe2 h0 a1))) ∧ (∀ (l3 : Int) (h : m_H), GI h → FR [115, 116, 117, 118, 119, 120, 121, 124, 125, 126, 127, 128, 129, 130, 131, 132, 133, 134] [(108, 21)] h0 h → 0 ≤ l3 → l3 ≤ 256 → (-2147483648) ≤ a1 → a1 ≤ 2147483647 → (cbJ h (bL (h0 110) (h0 122) (h0 123) a1)) → (tR (h 134) l3) → (tCn (aS h) (bL (h0 110) (h0 122) (h0 123) a1) (h 134) l3) → 2 * (256 - l3) + (10992) ≤ (n : Int) → m_Z oF M_X12_canBe 44 [some (mR 108), none, none, some (mI l3), none, none] [] h (m_QI (P_X12_canBe2 h0 a1))) ∧ (∀ (l3 : Int) (h : m_H), GI h → FR [115, 116, 117, 118, 119, 120, 121, 124, 125, 126, 127, 128, 129, 130, 131, 132, 133, 134] [(108, 21)] h0 h → 0 ≤ l3 → l3 ≤ 60 → (-2147483648) ≤ a1 → a1 ≤ 2147483647 → (cbJ h (bL (h0 110) (h0 122) (h0 123) a1)) → (tR (h 134) 256) → (tE (aS h) (bL (h0 110) (h0 122) (h0 123) a1) (h 134) l3.toNat) → (tCn (aS h) (bL (h0 110) (h0 122) (h0 123) a1) (h 134) 256) → 2 * (60 - l3) + (10869) ≤ (n : Int) → m_Z oF M_X12_canBe 81 [some (mR 108), none, none, some (mI l3), none, none] [] h (m_QI (P_X12_canBe2 h0 a1))) ∧ (∀ (l3 : Int) (h : m_H), GI h → FR [115, 116, 117, 118, 119, 120, 121, 124, 125, 126, 127, 128, 129, 130, 131, 132, 133, 134] [(108, 21)] h0 h → 0 ≤ l3 → l3 ≤ 16 → (-2147483648) ≤ a1 → a1 ≤ 2147483647 → (cbJ h (bL (h0 110) (h0 122) (h0 123) a1)) → (tA h (bL (h0 110) (h0 122) (h0 123) a1) l3.toNat) → (tCn (aS h) (bL (h0 110) (h0 122) (h0 123) a1) (h 134) 256) → 632 * (16 - l3) + (754) ≤ (n : Int) → m_Z oF M_X12_canBe 155 [some (mR 108), none, none, some (mI l3), none, none] [] h (m_QI (P_X12_canBe2 h0 a1))) ∧ (∀ (l3 l4 : Int) (h : m_H), GI h → FR [115, 116, 117, 118, 119, 120, 121, 124, 125, 126, 127, 128, 129, 130, 131, 132, 133, 134] [(108, 21)] h0 h → 0 ≤ l3 → l3 ≤ 15 → 0 ≤ l4 → l4 ≤ 16 → (-2147483648) ≤ a1 → a1 ≤ 2147483647 → (cbJ h (bL (h0 110) (h0 122) (h0 123) a1)) → (tS h (bL (h0 110) (h0 122) (h0 123) a1) l3 (16 * l4)) → (tCn (aS h) (bL (h0 110) (h0 122) (h0 123) a1) (h 134) 256) → 632 * (16 - l3) + 37 * (16 - l4) + (36) + (123) ≤ (n : Int) → m_Z oF M_X12_canBe 164 [some (mR 108), none, none, some (mI l3), some (mI l4), none] [] h (m_QI (P_X12_canBe2 h0 a1))) ∧ (∀ (l3 l4 l5 : Int) (h : m_H), GI h → FR [115, 116, 117, 118, 119, 120, 121, 124, 125, 126, 127, 128, 129, 130, 131, 132, 133, 134] [(108, 21)] h0 h → 0 ≤ l3 → l3 ≤ 15 → 0 ≤ l4 → l4 ≤ 15 → 0 ≤ l5 → l5 ≤ 16 → (-2147483648) ≤ a1 → a1 ≤ 2147483647 → (cbJ h (bL (h0 110) (h0 122) (h0 123) a1)) → (tS h (bL (h0 110) (h0 122) (h0 123) a1) l3 (16 * l4 + l5)) → (tCn (aS h) (bL (h0 110) (h0 122) (h0 123) a1) (h 134) 256) → 632 * (16 - l3) + 37 * (16 - l4) + 2 * (16 - l5) + (1) + (123) ≤ (n : Int) → m_Z oF M_X12_canBe 174 [some (mR 108), none, none, some (mI l3), some (mI l4), some (mI l5)] [] h (m_QI (P_X12_canBe2 h0 a1))) ∧ (∀ (l3 : Int) (h : m_H), GI h → FR [115, 116, 117, 118, 119, 120, 121, 124, 125, 126, 127, 128, 129, 130, 131, 132, 133, 134] [(108, 21)] h0 h → 0 ≤ l3 → l3 ≤ 60 → (-2147483648) ≤ a1 → a1 ≤ 2147483647 → (cbJ h (bL (h0 110) (h0 122) (h0 123) a1)) → (tA h (bL (h0 110) (h0 122) (h0 123) a1) 16) → (tO (aS h) (bL (h0 110) (h0 122) (h0 123) a1) (h 134) l3.toNat) → (tCn (aS h) (bL (h0 110) (h0 122) (h0 123) a1) (h 134) 256) → 2 * (60 - l3) + (1) ≤ (n : Int) → m_Z oF M_X12_canBe 265 [some (mR 108), none, none, some (mI l3), none, none] [] h (m_QI (P_X12_canBe2 h0 a1)))
set_option maxHeartbeats 4000000 in
set_option maxRecDepth 100000 in
theorem s_X12_canBe2_14 (h0 : m_H) (a1 : Int) (G0 : GI h0) (hN : NP h0) (n : Nat) (ih : q_X12_canBe2 h0 a1 n) : ∀ (l2 l3 : Int) (h : m_H), GI h → FR [115, 116, 117, 118, 119, 120, 121, 124, 125, 126, 127, 128, 129, 130, 131, 132, 133, 134] [(108, 21)] h0 h → 0 ≤ l2 → l2 ≤ 1 → 0 ≤ l3 → l3 ≤ 17 → (-2147483648) ≤ a1 → a1 ≤ 2147483647 → (cbI2 h (bL (h0 110) (h0 122) (h0 123) a1) l3 l2) → 2 * (17 - l3) + (11507) ≤ ((n + 1 : Nat) : Int) → m_Z oF M_X12_canBe 14 [some (mR 108), none, some (mI l2), some (mI l3), none, none] [] h (m_QI (P_X12_canBe2 h0 a1)) := by
  intro l2 l3 h G R v0 v1 v2 v3 v4 v5 i0 hr
  have hE := bL_ok (ct := h0 123) (en := a1) G0 hN (fun j hj => g_122 G0 hj)
  refine z_iload_n (M := M_X12_canBe) 14 dX12_canBe_14 rfl ?_
  refine z_bipush (M := M_X12_canBe) 15 dX12_canBe_15 ?_
  refine z_icmp_ge (M := M_X12_canBe) 17 dX12_canBe_17 36 rfl (fun c1 => ?_) (fun c1 => ?_)
  · refine z_iload_n (M := M_X12_canBe) 36 dX12_canBe_36 rfl ?_
    refine z_if_eq (M := M_X12_canBe) 37 dX12_canBe_37 42 rfl (fun c2 => ?_) (fun c2 => ?_)
    · refine z_iconst (M := M_X12_canBe) 42 dX12_canBe_42 ?_
      refine z_istore_n (M := M_X12_canBe) 43 dX12_canBe_43 (ls' := [some (mR 108), none, some (mI l2), some (mI 0), none, none]) (by decide) rfl ?_
      exact z_mask [true, false, false, true, false, false] rfl (ih.2.1 0 h G R (by omega) (by omega) (by omega) (by omega) (cbJ_of i0.1 (by omega)) (fun i hi hn => by omega) (fun a b _ _ hn => by omega) (by omega))
    · refine z_iconst (M := M_X12_canBe) 40 dX12_canBe_40 ?_
      exact z_retZ (M := M_X12_canBe) 41 dX12_canBe_41 rfl (by omega) ⟨G, R, by omega, by omega, cbQ_0, fun _ => i0.2.2 (by omega) (by omega)⟩
  · refine z_iload_n (M := M_X12_canBe) 20 dX12_canBe_20 rfl ?_
    refine z_if_eq (M := M_X12_canBe) 21 dX12_canBe_21 36 rfl (fun c3 => ?_) (fun c3 => ?_)
    · refine z_iload_n (M := M_X12_canBe) 36 dX12_canBe_36 rfl ?_
      refine z_if_eq_T (M := M_X12_canBe) 37 dX12_canBe_37 42 rfl (by omega) ?_
      refine z_iconst (M := M_X12_canBe) 42 dX12_canBe_42 ?_
      refine z_istore_n (M := M_X12_canBe) 43 dX12_canBe_43 (ls' := [some (mR 108), none, some (mI l2), some (mI 0), none, none]) (by decide) rfl ?_
      exact z_mask [true, false, false, true, false, false] rfl (ih.2.1 0 h G R (by omega) (by omega) (by omega) (by omega) (cbJ_of i0.1 (by omega)) (fun i hi hn => by omega) (fun a b _ _ hn => by omega) (by omega))
    · refine z_aload_n (M := M_X12_canBe) 24 dX12_canBe_24 rfl ?_
      refine z_iconst (M := M_X12_canBe) 25 dX12_canBe_25 ?_
      refine z_vI (M := M_X12_canBe) 26 dX12_canBe_26 t_X12_round l_X12_360 (m_rr_of rfl) (rest := []) (c_X12_round h 0 (bL (h0 110) (h0 122) (h0 123) a1) G ⟨by omega, by omega⟩ i0.1.1 hE) o_108 rfl rfl rfl (Nat.le_of_ble_eq_true rfl) ⟨rfl, rfl⟩ (fun x4 h1 qx4 => ?_)
      obtain ⟨G1, S1, ax4, bx4, fx4_0, fx4_1⟩ := qx4
      have R1 := R.call S1 (by decide +kernel)
      refine z_istore_n (M := M_X12_canBe) 29 dX12_canBe_29 (ls' := [some (mR 108), none, some (mI x4), some (mI l3), none, none]) (by decide) rfl ?_
      refine z_iincN (M := M_X12_canBe) 30 dX12_canBe_30 (ls' := [some (mR 108), none, some (mI x4), some (mI (l3 + 1)), none, none]) (by decide) rfl (by (unfold m_32; decide)) (by omega) (by omega) rfl ?_
      refine z_goto (M := M_X12_canBe) 33 dX12_canBe_33 14 rfl ?_
      exact z_mask [true, false, true, true, false, false] rfl (ih.1 x4 (l3 + 1) h1 G1 R1 (by omega) (by omega) (by omega) (by omega) (by omega) (by omega) (cb_step2 hE (by omega) (by omega) i0 (AR.call i0.1.1 S1 rfl (fun _ => rfl) (fun _ => rfl) (fun _ => rfl) (fun _ => rfl) (fun _ => rfl)) fx4_0 fx4_1) (by omega))
set_option maxHeartbeats 4000000 in
set_option maxRecDepth 100000 in
theorem s_X12_canBe2_44 (h0 : m_H) (a1 : Int) (G0 : GI h0) (hN : NP h0) (n : Nat) (ih : q_X12_canBe2 h0 a1 n) : ∀ (l3 : Int) (h : m_H), GI h → FR [115, 116, 117, 118, 119, 120, 121, 124, 125, 126, 127, 128, 129, 130, 131, 132, 133, 134] [(108, 21)] h0 h → 0 ≤ l3 → l3 ≤ 256 → (-2147483648) ≤ a1 → a1 ≤ 2147483647 → (cbJ h (bL (h0 110) (h0 122) (h0 123) a1)) → (tR (h 134) l3) → (tCn (aS h) (bL (h0 110) (h0 122) (h0 123) a1) (h 134) l3) → 2 * (256 - l3) + (10992) ≤ ((n + 1 : Nat) : Int) → m_Z oF M_X12_canBe 44 [some (mR 108), none, none, some (mI l3), none, none] [] h (m_QI (P_X12_canBe2 h0 a1)) := by
  intro l3 h G R v0 v1 v2 v3 i0 i1 i2 hr
  have hE := bL_ok (ct := h0 123) (en := a1) G0 hN (fun j hj => g_122 G0 hj)
  refine z_iload_n (M := M_X12_canBe) 44 dX12_canBe_44 rfl ?_
  refine z_sipush (M := M_X12_canBe) 45 dX12_canBe_45 ?_
  refine z_icmp_ge (M := M_X12_canBe) 48 dX12_canBe_48 79 rfl (fun c1 => ?_) (fun c1 => ?_)
  · refine z_iconst (M := M_X12_canBe) 79 dX12_canBe_79 ?_
    refine z_istore_n (M := M_X12_canBe) 80 dX12_canBe_80 (ls' := [some (mR 108), none, none, some (mI 0), none, none]) (by decide) rfl ?_
    exact z_mask [true, false, false, true, false, false] rfl (ih.2.2.1 0 h G R (by omega) (by omega) (by omega) (by omega) i0 ((show l3 = 256 by omega) ▸ i1) (fun j q hj => absurd hj (Nat.not_lt_zero _)) ((show l3 = 256 by omega) ▸ i2) (by omega))
  · refine z_aload_n (M := M_X12_canBe) 51 dX12_canBe_51 rfl ?_
    refine z_getR (M := M_X12_canBe) 52 dX12_canBe_52 f_X12_91 o_108 rfl (g_108_39 G) ?_
    refine z_iload_n (M := M_X12_canBe) 55 dX12_canBe_55 rfl ?_
    refine z_iload_n (M := M_X12_canBe) 56 dX12_canBe_56 rfl ?_
    refine z_bipush (M := M_X12_canBe) 57 dX12_canBe_57 ?_
    refine z_idivN (M := M_X12_canBe) 59 dX12_canBe_59 (by omega) (by omega) ?_
    refine z_topBI (lo := 0) (hi := 15) ⟨by omega, by omega⟩ (fun x2 ex2 ax2 bx2 => ?_)
    refine z_iload_n (M := M_X12_canBe) 60 dX12_canBe_60 rfl ?_
    refine z_bipush (M := M_X12_canBe) 61 dX12_canBe_61 ?_
    refine z_iremN (M := M_X12_canBe) 63 dX12_canBe_63 (by omega) (by omega) ?_
    refine z_topBI (lo := 0) (hi := 15) ⟨by omega, by omega⟩ (fun x3 ex3 ax3 bx3 => ?_)
    refine z_icmp_ne (M := M_X12_canBe) 64 dX12_canBe_64 71 rfl (fun c4 => ?_) (fun c4 => ?_)
    · refine z_iconst (M := M_X12_canBe) 71 dX12_canBe_71 ?_
      refine z_zastH (M := M_X12_canBe) 72 dX12_canBe_72 o_134 (by omega) (by omega) (by omega) (u_134 G (by omega) (by omega)) (R.up rfl) (fun h1 E1 G1 R1 => ?_)
      refine z_iincN (M := M_X12_canBe) 73 dX12_canBe_73 (ls' := [some (mR 108), none, none, some (mI (l3 + 1)), none, none]) (by decide) rfl (by (unfold m_32; decide)) (by omega) (by omega) rfl ?_
      refine z_goto (M := M_X12_canBe) 76 dX12_canBe_76 44 rfl ?_
      exact z_mask [true, false, false, true, false, false] rfl (ih.2.1 (l3 + 1) h1 G1 R1 (by omega) (by omega) (by omega) (by omega) (i0.put E1) (tR_step (by omega) i1 (fun q => by omega) E1) (tC_i (by omega) (by omega) i2 (fun z => absurd z (by decide)) E1) (by omega))
    · refine z_iconst (M := M_X12_canBe) 67 dX12_canBe_67 ?_
      refine z_goto (M := M_X12_canBe) 68 dX12_canBe_68 72 rfl ?_
      refine z_zastH (M := M_X12_canBe) 72 dX12_canBe_72 o_134 (by omega) (by omega) (by omega) (u_134 G (by omega) (by omega)) (R.up rfl) (fun h2 E2 G2 R2 => ?_)
      refine z_iincN (M := M_X12_canBe) 73 dX12_canBe_73 (ls' := [some (mR 108), none, none, some (mI (l3 + 1)), none, none]) (by decide) rfl (by (unfold m_32; decide)) (by omega) (by omega) rfl ?_
      refine z_goto (M := M_X12_canBe) 76 dX12_canBe_76 44 rfl ?_
      exact z_mask [true, false, false, true, false, false] rfl (ih.2.1 (l3 + 1) h2 G2 R2 (by omega) (by omega) (by omega) (by omega) (i0.put E2) (tR_step (by omega) i1 (fun q => by omega) E2) (tC_i (by omega) (by omega) i2 (fun _ => by omega) E2) (by omega))
set_option maxHeartbeats 4000000 in
set_option maxRecDepth 100000 in
theorem s_X12_canBe2_81 (h0 : m_H) (a1 : Int) (G0 : GI h0) (hN : NP h0) (n : Nat) (ih : q_X12_canBe2 h0 a1 n) : ∀ (l3 : Int) (h : m_H), GI h → FR [115, 116, 117, 118, 119, 120, 121, 124, 125, 126, 127, 128, 129, 130, 131, 132, 133, 134] [(108, 21)] h0 h → 0 ≤ l3 → l3 ≤ 60 → (-2147483648) ≤ a1 → a1 ≤ 2147483647 → (cbJ h (bL (h0 110) (h0 122) (h0 123) a1)) → (tR (h 134) 256) → (tE (aS h) (bL (h0 110) (h0 122) (h0 123) a1) (h 134) l3.toNat) → (tCn (aS h) (bL (h0 110) (h0 122) (h0 123) a1) (h 134) 256) → 2 * (60 - l3) + (10869) ≤ ((n + 1 : Nat) : Int) → m_Z oF M_X12_canBe 81 [some (mR 108), none, none, some (mI l3), none, none] [] h (m_QI (P_X12_canBe2 h0 a1)) := by
  intro l3 h G R v0 v1 v2 v3 i0 i1 i2 i3 hr
  have hE := bL_ok (ct := h0 123) (en := a1) G0 hN (fun j hj => g_122 G0 hj)
  refine z_iload_n (M := M_X12_canBe) 81 dX12_canBe_81 rfl ?_
  refine z_aload_n (M := M_X12_canBe) 82 dX12_canBe_82 rfl ?_
  refine z_getIG (M := M_X12_canBe) 83 dX12_canBe_83 f_X12_333 o_108 (by decide) (g_108_21 G) (fun x1 ex1 ax1 bx1 => ?_)
  refine z_icmp_ge (M := M_X12_canBe) 86 dX12_canBe_86 153 rfl (fun c2 => ?_) (fun c2 => ?_)
  · refine z_iconst (M := M_X12_canBe) 153 dX12_canBe_153 ?_
    refine z_istore_n (M := M_X12_canBe) 154 dX12_canBe_154 (ls' := [some (mR 108), none, none, some (mI 0), none, none]) (by decide) rfl ?_
    exact z_mask [true, false, false, true, false, false] rfl (ih.2.2.2.1 0 h G R (by omega) (by omega) (by omega) (by omega) i0 (tA_0 i0 i1 i2 ex1 (by omega)) i3 (by omega))
  · refine z_aload_n (M := M_X12_canBe) 89 dX12_canBe_89 rfl ?_
    refine z_getR (M := M_X12_canBe) 90 dX12_canBe_90 f_X12_91 o_108 rfl (g_108_39 G) ?_
    refine z_bipush (M := M_X12_canBe) 93 dX12_canBe_93 ?_
    refine z_aload_n (M := M_X12_canBe) 95 dX12_canBe_95 rfl ?_
    refine z_getR (M := M_X12_canBe) 96 dX12_canBe_96 f_X12_40 o_108 rfl (g_108_22 G) ?_
    refine z_iload_n (M := M_X12_canBe) 99 dX12_canBe_99 rfl ?_
    refine z_ialdG (M := M_X12_canBe) 100 dX12_canBe_100 o_117 (by omega) (by omega) (g_117 G (by omega)) (fun x3 ex3 ax3 bx3 => ?_)
    refine z_imulN (M := M_X12_canBe) 101 dX12_canBe_101 (by omega) (by omega) ?_
    refine z_aload_n (M := M_X12_canBe) 102 dX12_canBe_102 rfl ?_
    refine z_getR (M := M_X12_canBe) 103 dX12_canBe_103 f_X12_43 o_108 rfl (g_108_23 G) ?_
    refine z_iload_n (M := M_X12_canBe) 106 dX12_canBe_106 rfl ?_
    refine z_ialdG (M := M_X12_canBe) 107 dX12_canBe_107 o_118 (by omega) (by omega) (g_118 G (by omega)) (fun x4 ex4 ax4 bx4 => ?_)
    refine z_iaddN (M := M_X12_canBe) 108 dX12_canBe_108 (by omega) (by omega) ?_
    refine z_aload_n (M := M_X12_canBe) 109 dX12_canBe_109 rfl ?_
    refine z_getR (M := M_X12_canBe) 110 dX12_canBe_110 f_X12_91 o_108 rfl (g_108_39 G) ?_
    refine z_bipush (M := M_X12_canBe) 113 dX12_canBe_113 ?_
    refine z_aload_n (M := M_X12_canBe) 115 dX12_canBe_115 rfl ?_
    refine z_getR (M := M_X12_canBe) 116 dX12_canBe_116 f_X12_40 o_108 rfl (g_108_22 G) ?_
    refine z_iload_n (M := M_X12_canBe) 119 dX12_canBe_119 rfl ?_
    refine z_ialdE (M := M_X12_canBe) 120 dX12_canBe_120 o_117 (by omega) (by omega) ex3 ?_
    refine z_imulN (M := M_X12_canBe) 121 dX12_canBe_121 (by omega) (by omega) ?_
    refine z_aload_n (M := M_X12_canBe) 122 dX12_canBe_122 rfl ?_
    refine z_getR (M := M_X12_canBe) 123 dX12_canBe_123 f_X12_43 o_108 rfl (g_108_23 G) ?_
    refine z_iload_n (M := M_X12_canBe) 126 dX12_canBe_126 rfl ?_
    refine z_ialdE (M := M_X12_canBe) 127 dX12_canBe_127 o_118 (by omega) (by omega) ex4 ?_
    refine z_iaddN (M := M_X12_canBe) 128 dX12_canBe_128 (by omega) (by omega) ?_
    refine z_zaldG (M := M_X12_canBe) 129 dX12_canBe_129 o_134 (by omega) (by omega) (g_134 G (by omega)) (fun x5 ex5 ax5 bx5 => ?_)
    refine z_if_ne (M := M_X12_canBe) 130 dX12_canBe_130 141 rfl (fun c6 => ?_) (fun c6 => ?_)
    · refine z_iconst (M := M_X12_canBe) 141 dX12_canBe_141 ?_
      refine z_goto (M := M_X12_canBe) 142 dX12_canBe_142 146 rfl ?_
      refine z_zastH (M := M_X12_canBe) 146 dX12_canBe_146 o_134 (by omega) (by omega) (by omega) (u_134 G (by omega) (by omega)) (R.up rfl) (fun h1 E1 G1 R1 => ?_)
      refine z_iincN (M := M_X12_canBe) 147 dX12_canBe_147 (ls' := [some (mR 108), none, none, some (mI (l3 + 1)), none, none]) (by decide) rfl (by (unfold m_32; decide)) (by omega) (by omega) rfl ?_
      refine z_goto (M := M_X12_canBe) 150 dX12_canBe_150 81 rfl ?_
      exact z_mask [true, false, false, true, false, false] rfl (ih.2.2.1 (l3 + 1) h1 G1 R1 (by omega) (by omega) (by omega) (by omega) (i0.put E1) (tE_step hE i0 (by omega) i1 i2 ex1 (by omega) ex3 ex4 rfl rfl (fun _ => rfl) (by omega) E1).1 (tE_step hE i0 (by omega) i1 i2 ex1 (by omega) ex3 ex4 rfl rfl (fun _ => rfl) (by omega) E1).2 (tC_e hE i0 (by omega) i3 ex1 (by omega) ex3 ex4 rfl rfl (fun _ => Or.inl (by omega)) E1) (by omega))
    · refine z_aload_n (M := M_X12_canBe) 133 dX12_canBe_133 rfl ?_
      refine z_iload_n (M := M_X12_canBe) 134 dX12_canBe_134 rfl ?_
      refine z_vI (M := M_X12_canBe) 135 dX12_canBe_135 t_X12_isTight l_X12_364 (m_rr_of rfl) (rest := [mI ((16 * x3) + x4), mR 134]) (c_X12_isTight h l3 (bL (h0 110) (h0 122) (h0 123) a1) G ⟨by omega, by omega⟩ i0.1 hE (by omega)) o_108 rfl rfl rfl (Nat.le_of_ble_eq_true rfl) ⟨rfl, rfl⟩ (fun x7 h2 qx7 => ?_)
      obtain ⟨G2, S2, ax7, bx7, fx7_0⟩ := qx7
      have R2 := R.call S2 (by decide +kernel)
      refine z_if_eq (M := M_X12_canBe) 138 dX12_canBe_138 145 rfl (fun c8 => ?_) (fun c8 => ?_)
      · refine z_iconst (M := M_X12_canBe) 145 dX12_canBe_145 ?_
        refine z_zastH (M := M_X12_canBe) 146 dX12_canBe_146 o_134 (by omega) (by omega) (by omega) (u_134 G2 (by omega) (by omega)) (R2.up rfl) (fun h3 E3 G3 R3 => ?_)
        refine z_iincN (M := M_X12_canBe) 147 dX12_canBe_147 (ls' := [some (mR 108), none, none, some (mI (l3 + 1)), none, none]) (by decide) rfl (by (unfold m_32; decide)) (by omega) (by omega) rfl ?_
        refine z_goto (M := M_X12_canBe) 150 dX12_canBe_150 81 rfl ?_
        exact z_mask [true, false, false, true, false, false] rfl (ih.2.2.1 (l3 + 1) h3 G3 R3 (by omega) (by omega) (by omega) (by omega) ((i0.ti S2).put E3) (tE_step hE i0 (by omega) i1 i2 ex1 (by omega) ex3 ex4 (FR.row S2 (fun _ => rfl)) (aS_ti S2) (fun z => absurd (fx7_0.mpr z) (by omega)) (by omega) E3).1 (tE_step hE i0 (by omega) i1 i2 ex1 (by omega) ex3 ex4 (FR.row S2 (fun _ => rfl)) (aS_ti S2) (fun z => absurd (fx7_0.mpr z) (by omega)) (by omega) E3).2 (tC_e hE i0 (by omega) i3 ex1 (by omega) ex3 ex4 (FR.row S2 (fun _ => rfl)) (aS_ti S2) (fun z => absurd z (by decide)) E3) (by omega))
      · refine z_iconst (M := M_X12_canBe) 141 dX12_canBe_141 ?_
        refine z_goto (M := M_X12_canBe) 142 dX12_canBe_142 146 rfl ?_
        refine z_zastH (M := M_X12_canBe) 146 dX12_canBe_146 o_134 (by omega) (by omega) (by omega) (u_134 G2 (by omega) (by omega)) (R2.up rfl) (fun h4 E4 G4 R4 => ?_)
        refine z_iincN (M := M_X12_canBe) 147 dX12_canBe_147 (ls' := [some (mR 108), none, none, some (mI (l3 + 1)), none, none]) (by decide) rfl (by (unfold m_32; decide)) (by omega) (by omega) rfl ?_
        refine z_goto (M := M_X12_canBe) 150 dX12_canBe_150 81 rfl ?_
        exact z_mask [true, false, false, true, false, false] rfl (ih.2.2.1 (l3 + 1) h4 G4 R4 (by omega) (by omega) (by omega) (by omega) ((i0.ti S2).put E4) (tE_step hE i0 (by omega) i1 i2 ex1 (by omega) ex3 ex4 (FR.row S2 (fun _ => rfl)) (aS_ti S2) (fun _ => rfl) (by omega) E4).1 (tE_step hE i0 (by omega) i1 i2 ex1 (by omega) ex3 ex4 (FR.row S2 (fun _ => rfl)) (aS_ti S2) (fun _ => rfl) (by omega) E4).2 (tC_e hE i0 (by omega) i3 ex1 (by omega) ex3 ex4 (FR.row S2 (fun _ => rfl)) (aS_ti S2) (fun _ => Or.inr (fx7_0.mp (by omega))) E4) (by omega))
set_option maxHeartbeats 4000000 in
set_option maxRecDepth 100000 in
theorem s_X12_canBe2_155 (h0 : m_H) (a1 : Int) (G0 : GI h0) (hN : NP h0) (n : Nat) (ih : q_X12_canBe2 h0 a1 n) : ∀ (l3 : Int) (h : m_H), GI h → FR [115, 116, 117, 118, 119, 120, 121, 124, 125, 126, 127, 128, 129, 130, 131, 132, 133, 134] [(108, 21)] h0 h → 0 ≤ l3 → l3 ≤ 16 → (-2147483648) ≤ a1 → a1 ≤ 2147483647 → (cbJ h (bL (h0 110) (h0 122) (h0 123) a1)) → (tA h (bL (h0 110) (h0 122) (h0 123) a1) l3.toNat) → (tCn (aS h) (bL (h0 110) (h0 122) (h0 123) a1) (h 134) 256) → 632 * (16 - l3) + (754) ≤ ((n + 1 : Nat) : Int) → m_Z oF M_X12_canBe 155 [some (mR 108), none, none, some (mI l3), none, none] [] h (m_QI (P_X12_canBe2 h0 a1)) := by
  intro l3 h G R v0 v1 v2 v3 i0 i1 i2 hr
  have hE := bL_ok (ct := h0 123) (en := a1) G0 hN (fun j hj => g_122 G0 hj)
  refine z_iload_n (M := M_X12_canBe) 155 dX12_canBe_155 rfl ?_
  refine z_bipush (M := M_X12_canBe) 156 dX12_canBe_156 ?_
  refine z_icmp_ge (M := M_X12_canBe) 158 dX12_canBe_158 263 rfl (fun c1 => ?_) (fun c1 => ?_)
  · refine z_iconst (M := M_X12_canBe) 263 dX12_canBe_263 ?_
    refine z_istore_n (M := M_X12_canBe) 264 dX12_canBe_264 (ls' := [some (mR 108), none, none, some (mI 0), none, none]) (by decide) rfl ?_
    exact z_mask [true, false, false, true, false, false] rfl (ih.2.2.2.2.2.2 0 h G R (by omega) (by omega) (by omega) (by omega) i0 (by rw [show l3 = 16 by omega] at i1; exact i1) (fun j q hj => absurd hj (Nat.not_lt_zero _)) i2 (by omega))
  · refine z_iconst (M := M_X12_canBe) 161 dX12_canBe_161 ?_
    refine z_istore (M := M_X12_canBe) 162 dX12_canBe_162 (ls' := [some (mR 108), none, none, some (mI l3), some (mI 0), none]) (by decide) rfl ?_
    exact z_mask [true, false, false, true, true, false] rfl (ih.2.2.2.2.1 l3 0 h G R (by omega) (by omega) (by omega) (by omega) (by omega) (by omega) i0 (tS_0 G i1) i2 (by omega))
set_option maxHeartbeats 4000000 in
set_option maxRecDepth 100000 in
theorem s_X12_canBe2_164 (h0 : m_H) (a1 : Int) (G0 : GI h0) (hN : NP h0) (n : Nat) (ih : q_X12_canBe2 h0 a1 n) : ∀ (l3 l4 : Int) (h : m_H), GI h → FR [115, 116, 117, 118, 119, 120, 121, 124, 125, 126, 127, 128, 129, 130, 131, 132, 133, 134] [(108, 21)] h0 h → 0 ≤ l3 → l3 ≤ 15 → 0 ≤ l4 → l4 ≤ 16 → (-2147483648) ≤ a1 → a1 ≤ 2147483647 → (cbJ h (bL (h0 110) (h0 122) (h0 123) a1)) → (tS h (bL (h0 110) (h0 122) (h0 123) a1) l3 (16 * l4)) → (tCn (aS h) (bL (h0 110) (h0 122) (h0 123) a1) (h 134) 256) → 632 * (16 - l3) + 37 * (16 - l4) + (36) + (123) ≤ ((n + 1 : Nat) : Int) → m_Z oF M_X12_canBe 164 [some (mR 108), none, none, some (mI l3), some (mI l4), none] [] h (m_QI (P_X12_canBe2 h0 a1)) := by
  intro l3 l4 h G R v0 v1 v2 v3 v4 v5 i0 i1 i2 hr
  have hE := bL_ok (ct := h0 123) (en := a1) G0 hN (fun j hj => g_122 G0 hj)
  refine z_iload (M := M_X12_canBe) 164 dX12_canBe_164 rfl ?_
  refine z_bipush (M := M_X12_canBe) 166 dX12_canBe_166 ?_
  refine z_icmp_ge (M := M_X12_canBe) 168 dX12_canBe_168 257 rfl (fun c1 => ?_) (fun c1 => ?_)
  · refine z_iincN (M := M_X12_canBe) 257 dX12_canBe_257 (ls' := [some (mR 108), none, none, some (mI (l3 + 1)), some (mI l4), none]) (by decide) rfl (by (unfold m_32; decide)) (by omega) (by omega) rfl ?_
    refine z_goto (M := M_X12_canBe) 260 dX12_canBe_260 155 rfl ?_
    exact z_mask [true, false, false, true, false, false] rfl (ih.2.2.2.1 (l3 + 1) h G R (by omega) (by omega) (by omega) (by omega) i0 (tS_end hE (by omega) (by omega) (by omega) i1) i2 (by omega))
  · refine z_iconst (M := M_X12_canBe) 171 dX12_canBe_171 ?_
    refine z_istore (M := M_X12_canBe) 172 dX12_canBe_172 (ls' := [some (mR 108), none, none, some (mI l3), some (mI l4), some (mI 0)]) (by decide) rfl ?_
    exact z_mask [true, false, false, true, true, true] rfl (ih.2.2.2.2.2.1 l3 l4 0 h G R (by omega) (by omega) (by omega) (by omega) (by omega) (by omega) (by omega) (by omega) i0 (by rw [Int.add_zero]; exact i1) i2 (by omega))
set_option maxHeartbeats 4000000 in
set_option maxRecDepth 100000 in
theorem s_X12_canBe2_174 (h0 : m_H) (a1 : Int) (G0 : GI h0) (hN : NP h0) (n : Nat) (ih : q_X12_canBe2 h0 a1 n) : ∀ (l3 l4 l5 : Int) (h : m_H), GI h → FR [115, 116, 117, 118, 119, 120, 121, 124, 125, 126, 127, 128, 129, 130, 131, 132, 133, 134] [(108, 21)] h0 h → 0 ≤ l3 → l3 ≤ 15 → 0 ≤ l4 → l4 ≤ 15 → 0 ≤ l5 → l5 ≤ 16 → (-2147483648) ≤ a1 → a1 ≤ 2147483647 → (cbJ h (bL (h0 110) (h0 122) (h0 123) a1)) → (tS h (bL (h0 110) (h0 122) (h0 123) a1) l3 (16 * l4 + l5)) → (tCn (aS h) (bL (h0 110) (h0 122) (h0 123) a1) (h 134) 256) → 632 * (16 - l3) + 37 * (16 - l4) + 2 * (16 - l5) + (1) + (123) ≤ ((n + 1 : Nat) : Int) → m_Z oF M_X12_canBe 174 [some (mR 108), none, none, some (mI l3), some (mI l4), some (mI l5)] [] h (m_QI (P_X12_canBe2 h0 a1)) := by
  intro l3 l4 l5 h G R v0 v1 v2 v3 v4 v5 v6 v7 i0 i1 i2 hr
  have hE := bL_ok (ct := h0 123) (en := a1) G0 hN (fun j hj => g_122 G0 hj)
  refine z_iload (M := M_X12_canBe) 174 dX12_canBe_174 rfl ?_
  refine z_bipush (M := M_X12_canBe) 176 dX12_canBe_176 ?_
  refine z_icmp_ge (M := M_X12_canBe) 178 dX12_canBe_178 251 rfl (fun c1 => ?_) (fun c1 => ?_)
  · refine z_iincN (M := M_X12_canBe) 251 dX12_canBe_251 (ls' := [some (mR 108), none, none, some (mI l3), some (mI (l4 + 1)), some (mI l5)]) (by decide) rfl (by (unfold m_32; decide)) (by omega) (by omega) rfl ?_
    refine z_goto (M := M_X12_canBe) 254 dX12_canBe_254 164 rfl ?_
    exact z_mask [true, false, false, true, true, false] rfl (ih.2.2.2.2.1 l3 (l4 + 1) h G R (by omega) (by omega) (by omega) (by omega) (by omega) (by omega) i0 (by rw [show 16 * (l4 + 1) = 16 * l4 + l5 by omega]; exact i1) i2 (by omega))
  · refine z_aload_n (M := M_X12_canBe) 181 dX12_canBe_181 rfl ?_
    refine z_getR (M := M_X12_canBe) 182 dX12_canBe_182 f_X12_91 o_108 rfl (g_108_39 G) ?_
    refine z_bipush (M := M_X12_canBe) 185 dX12_canBe_185 ?_
    refine z_iload (M := M_X12_canBe) 187 dX12_canBe_187 rfl ?_
    refine z_imulN (M := M_X12_canBe) 189 dX12_canBe_189 (by omega) (by omega) ?_
    refine z_iload (M := M_X12_canBe) 190 dX12_canBe_190 rfl ?_
    refine z_iaddN (M := M_X12_canBe) 192 dX12_canBe_192 (by omega) (by omega) ?_
    refine z_aload_n (M := M_X12_canBe) 193 dX12_canBe_193 rfl ?_
    refine z_getR (M := M_X12_canBe) 194 dX12_canBe_194 f_X12_91 o_108 rfl (g_108_39 G) ?_
    refine z_bipush (M := M_X12_canBe) 197 dX12_canBe_197 ?_
    refine z_iload (M := M_X12_canBe) 199 dX12_canBe_199 rfl ?_
    refine z_imulN (M := M_X12_canBe) 201 dX12_canBe_201 (by omega) (by omega) ?_
    refine z_iload (M := M_X12_canBe) 202 dX12_canBe_202 rfl ?_
    refine z_iaddN (M := M_X12_canBe) 204 dX12_canBe_204 (by omega) (by omega) ?_
    refine z_zaldG (M := M_X12_canBe) 205 dX12_canBe_205 o_134 (by omega) (by omega) (g_134 G (by omega)) (fun x2 ex2 ax2 bx2 => ?_)
    refine z_if_ne (M := M_X12_canBe) 206 dX12_canBe_206 239 rfl (fun c3 => ?_) (fun c3 => ?_)
    · refine z_iconst (M := M_X12_canBe) 239 dX12_canBe_239 ?_
      refine z_goto (M := M_X12_canBe) 240 dX12_canBe_240 244 rfl ?_
      refine z_zastH (M := M_X12_canBe) 244 dX12_canBe_244 o_134 (by omega) (by omega) (by omega) (u_134 G (by omega) (by omega)) (R.up rfl) (fun h1 E1 G1 R1 => ?_)
      refine z_iincN (M := M_X12_canBe) 245 dX12_canBe_245 (ls' := [some (mR 108), none, none, some (mI l3), some (mI l4), some (mI (l5 + 1))]) (by decide) rfl (by (unfold m_32; decide)) (by omega) (by omega) rfl ?_
      refine z_goto (M := M_X12_canBe) 248 dX12_canBe_248 174 rfl ?_
      exact z_mask [true, false, false, true, true, true] rfl (ih.2.2.2.2.2.1 l3 l4 (l5 + 1) h1 G1 R1 (by omega) (by omega) (by omega) (by omega) (by omega) (by omega) (by omega) (by omega) (i0.put E1) (tS_step (by omega) (by omega) (by omega) (by omega) (by omega) (by omega) i1 (by omega) E1) (tC_s (m := l3) (by omega) (by omega) (by omega) (by omega) (by omega) (by omega) i2 (fun _ => Or.inl (by omega)) E1) (by omega))
    · refine z_aload_n (M := M_X12_canBe) 209 dX12_canBe_209 rfl ?_
      refine z_getR (M := M_X12_canBe) 210 dX12_canBe_210 f_X12_91 o_108 rfl (g_108_39 G) ?_
      refine z_bipush (M := M_X12_canBe) 213 dX12_canBe_213 ?_
      refine z_iload (M := M_X12_canBe) 215 dX12_canBe_215 rfl ?_
      refine z_imulN (M := M_X12_canBe) 217 dX12_canBe_217 (by omega) (by omega) ?_
      refine z_iload_n (M := M_X12_canBe) 218 dX12_canBe_218 rfl ?_
      refine z_iaddN (M := M_X12_canBe) 219 dX12_canBe_219 (by omega) (by omega) ?_
      refine z_zaldG (M := M_X12_canBe) 220 dX12_canBe_220 o_134 (by omega) (by omega) (g_134 G (by omega)) (fun x4 ex4 ax4 bx4 => ?_)
      refine z_if_eq (M := M_X12_canBe) 221 dX12_canBe_221 243 rfl (fun c5 => ?_) (fun c5 => ?_)
      · refine z_iconst (M := M_X12_canBe) 243 dX12_canBe_243 ?_
        refine z_zastH (M := M_X12_canBe) 244 dX12_canBe_244 o_134 (by omega) (by omega) (by omega) (u_134 G (by omega) (by omega)) (R.up rfl) (fun h2 E2 G2 R2 => ?_)
        refine z_iincN (M := M_X12_canBe) 245 dX12_canBe_245 (ls' := [some (mR 108), none, none, some (mI l3), some (mI l4), some (mI (l5 + 1))]) (by decide) rfl (by (unfold m_32; decide)) (by omega) (by omega) rfl ?_
        refine z_goto (M := M_X12_canBe) 248 dX12_canBe_248 174 rfl ?_
        exact z_mask [true, false, false, true, true, true] rfl (ih.2.2.2.2.2.1 l3 l4 (l5 + 1) h2 G2 R2 (by omega) (by omega) (by omega) (by omega) (by omega) (by omega) (by omega) (by omega) (i0.put E2) (tS_step (by omega) (by omega) (by omega) (by omega) (by omega) (by omega) i1 (by omega) E2) (tC_s (m := l3) (by omega) (by omega) (by omega) (by omega) (by omega) (by omega) i2 (fun z => absurd z (by decide)) E2) (by omega))
      · refine z_aload_n (M := M_X12_canBe) 224 dX12_canBe_224 rfl ?_
        refine z_getR (M := M_X12_canBe) 225 dX12_canBe_225 f_X12_91 o_108 rfl (g_108_39 G) ?_
        refine z_bipush (M := M_X12_canBe) 228 dX12_canBe_228 ?_
        refine z_iload_n (M := M_X12_canBe) 230 dX12_canBe_230 rfl ?_
        refine z_imulN (M := M_X12_canBe) 231 dX12_canBe_231 (by omega) (by omega) ?_
        refine z_iload (M := M_X12_canBe) 232 dX12_canBe_232 rfl ?_
        refine z_iaddN (M := M_X12_canBe) 234 dX12_canBe_234 (by omega) (by omega) ?_
        refine z_zaldG (M := M_X12_canBe) 235 dX12_canBe_235 o_134 (by omega) (by omega) (g_134 G (by omega)) (fun x6 ex6 ax6 bx6 => ?_)
        refine z_if_eq (M := M_X12_canBe) 236 dX12_canBe_236 243 rfl (fun c7 => ?_) (fun c7 => ?_)
        · refine z_iconst (M := M_X12_canBe) 243 dX12_canBe_243 ?_
          refine z_zastH (M := M_X12_canBe) 244 dX12_canBe_244 o_134 (by omega) (by omega) (by omega) (u_134 G (by omega) (by omega)) (R.up rfl) (fun h3 E3 G3 R3 => ?_)
          refine z_iincN (M := M_X12_canBe) 245 dX12_canBe_245 (ls' := [some (mR 108), none, none, some (mI l3), some (mI l4), some (mI (l5 + 1))]) (by decide) rfl (by (unfold m_32; decide)) (by omega) (by omega) rfl ?_
          refine z_goto (M := M_X12_canBe) 248 dX12_canBe_248 174 rfl ?_
          exact z_mask [true, false, false, true, true, true] rfl (ih.2.2.2.2.2.1 l3 l4 (l5 + 1) h3 G3 R3 (by omega) (by omega) (by omega) (by omega) (by omega) (by omega) (by omega) (by omega) (i0.put E3) (tS_step (by omega) (by omega) (by omega) (by omega) (by omega) (by omega) i1 (by omega) E3) (tC_s (m := l3) (by omega) (by omega) (by omega) (by omega) (by omega) (by omega) i2 (fun z => absurd z (by decide)) E3) (by omega))
        · refine z_iconst (M := M_X12_canBe) 239 dX12_canBe_239 ?_
          refine z_goto (M := M_X12_canBe) 240 dX12_canBe_240 244 rfl ?_
          refine z_zastH (M := M_X12_canBe) 244 dX12_canBe_244 o_134 (by omega) (by omega) (by omega) (u_134 G (by omega) (by omega)) (R.up rfl) (fun h4 E4 G4 R4 => ?_)
          refine z_iincN (M := M_X12_canBe) 245 dX12_canBe_245 (ls' := [some (mR 108), none, none, some (mI l3), some (mI l4), some (mI (l5 + 1))]) (by decide) rfl (by (unfold m_32; decide)) (by omega) (by omega) rfl ?_
          refine z_goto (M := M_X12_canBe) 248 dX12_canBe_248 174 rfl ?_
          exact z_mask [true, false, false, true, true, true] rfl (ih.2.2.2.2.2.1 l3 l4 (l5 + 1) h4 G4 R4 (by omega) (by omega) (by omega) (by omega) (by omega) (by omega) (by omega) (by omega) (i0.put E4) (tS_step (by omega) (by omega) (by omega) (by omega) (by omega) (by omega) i1 (by omega) E4) (tC_s (m := l3) (by omega) (by omega) (by omega) (by omega) (by omega) (by omega) i2 (fun _ => Or.inr ⟨by omega, by omega⟩) E4) (by omega))
set_option maxHeartbeats 4000000 in
set_option maxRecDepth 100000 in
theorem s_X12_canBe2_265 (h0 : m_H) (a1 : Int) (G0 : GI h0) (hN : NP h0) (n : Nat) (ih : q_X12_canBe2 h0 a1 n) : ∀ (l3 : Int) (h : m_H), GI h → FR [115, 116, 117, 118, 119, 120, 121, 124, 125, 126, 127, 128, 129, 130, 131, 132, 133, 134] [(108, 21)] h0 h → 0 ≤ l3 → l3 ≤ 60 → (-2147483648) ≤ a1 → a1 ≤ 2147483647 → (cbJ h (bL (h0 110) (h0 122) (h0 123) a1)) → (tA h (bL (h0 110) (h0 122) (h0 123) a1) 16) → (tO (aS h) (bL (h0 110) (h0 122) (h0 123) a1) (h 134) l3.toNat) → (tCn (aS h) (bL (h0 110) (h0 122) (h0 123) a1) (h 134) 256) → 2 * (60 - l3) + (1) ≤ ((n + 1 : Nat) : Int) → m_Z oF M_X12_canBe 265 [some (mR 108), none, none, some (mI l3), none, none] [] h (m_QI (P_X12_canBe2 h0 a1)) := by
  intro l3 h G R v0 v1 v2 v3 i0 i1 i2 i3 hr
  have hE := bL_ok (ct := h0 123) (en := a1) G0 hN (fun j hj => g_122 G0 hj)
  refine z_iload_n (M := M_X12_canBe) 265 dX12_canBe_265 rfl ?_
  refine z_aload_n (M := M_X12_canBe) 266 dX12_canBe_266 rfl ?_
  refine z_getIG (M := M_X12_canBe) 267 dX12_canBe_267 f_X12_333 o_108 (by decide) (g_108_21 G) (fun x1 ex1 ax1 bx1 => ?_)
  refine z_icmp_ge (M := M_X12_canBe) 270 dX12_canBe_270 322 rfl (fun c2 => ?_) (fun c2 => ?_)
  · refine z_iconst (M := M_X12_canBe) 322 dX12_canBe_322 ?_
    exact z_retZ (M := M_X12_canBe) 323 dX12_canBe_323 rfl (by omega) ⟨G, R, by omega, by omega, cb_end hE i0 i1 i2 ex1 (by omega), fun z => absurd z (by decide)⟩
  · refine z_aload_n (M := M_X12_canBe) 273 dX12_canBe_273 rfl ?_
    refine z_getR (M := M_X12_canBe) 274 dX12_canBe_274 f_X12_52 o_108 rfl (g_108_26 G) ?_
    refine z_iload_n (M := M_X12_canBe) 277 dX12_canBe_277 rfl ?_
    refine z_zaldG (M := M_X12_canBe) 278 dX12_canBe_278 o_121 (by omega) (by omega) (g_121 G (by omega)) (fun x3 ex3 ax3 bx3 => ?_)
    refine z_if_eq (M := M_X12_canBe) 279 dX12_canBe_279 316 rfl (fun c4 => ?_) (fun c4 => ?_)
    · refine z_iincN (M := M_X12_canBe) 316 dX12_canBe_316 (ls' := [some (mR 108), none, none, some (mI (l3 + 1)), none, none]) (by decide) rfl (by (unfold m_32; decide)) (by omega) (by omega) rfl ?_
      refine z_goto (M := M_X12_canBe) 319 dX12_canBe_319 265 rfl ?_
      exact z_mask [true, false, false, true, false, false] rfl (ih.2.2.2.2.2.2 (l3 + 1) h G R (by omega) (by omega) (by omega) (by omega) i0 i1 (tO_a i0 (by omega) i2 ex1 (by omega) ex3 (by omega)) i3 (by omega))
    · refine z_aload_n (M := M_X12_canBe) 282 dX12_canBe_282 rfl ?_
      refine z_iload_n (M := M_X12_canBe) 283 dX12_canBe_283 rfl ?_
      refine z_vI (M := M_X12_canBe) 284 dX12_canBe_284 t_X12_isTight l_X12_364 (m_rr_of rfl) (rest := []) (c_X12_isTight h l3 (bL (h0 110) (h0 122) (h0 123) a1) G ⟨by omega, by omega⟩ i0.1 hE (by omega)) o_108 rfl rfl rfl (Nat.le_of_ble_eq_true rfl) ⟨rfl, rfl⟩ (fun x5 h1 qx5 => ?_)
      obtain ⟨G1, S1, ax5, bx5, fx5_0⟩ := qx5
      have R1 := R.call S1 (by decide +kernel)
      refine z_if_eq (M := M_X12_canBe) 287 dX12_canBe_287 316 rfl (fun c6 => ?_) (fun c6 => ?_)
      · refine z_iincN (M := M_X12_canBe) 316 dX12_canBe_316 (ls' := [some (mR 108), none, none, some (mI (l3 + 1)), none, none]) (by decide) rfl (by (unfold m_32; decide)) (by omega) (by omega) rfl ?_
        refine z_goto (M := M_X12_canBe) 319 dX12_canBe_319 265 rfl ?_
        exact z_mask [true, false, false, true, false, false] rfl (ih.2.2.2.2.2.2 (l3 + 1) h1 G1 R1 (by omega) (by omega) (by omega) (by omega) (i0.ti S1) (i1.ti S1) (tO_b hE i0 (by omega) i2 S1 fx5_0 (by omega)) (i3.ti S1) (by omega))
      · refine z_aload_n (M := M_X12_canBe) 290 dX12_canBe_290 rfl ?_
        refine z_getR (M := M_X12_canBe) 291 dX12_canBe_291 f_X12_91 o_108 rfl (g_108_39 G1) ?_
        refine z_bipush (M := M_X12_canBe) 294 dX12_canBe_294 ?_
        refine z_aload_n (M := M_X12_canBe) 296 dX12_canBe_296 rfl ?_
        refine z_getR (M := M_X12_canBe) 297 dX12_canBe_297 f_X12_43 o_108 rfl (g_108_23 G1) ?_
        refine z_iload_n (M := M_X12_canBe) 300 dX12_canBe_300 rfl ?_
        refine z_ialdG (M := M_X12_canBe) 301 dX12_canBe_301 o_118 (by omega) (by omega) (g_118 G1 (by omega)) (fun x7 ex7 ax7 bx7 => ?_)
        refine z_imulN (M := M_X12_canBe) 302 dX12_canBe_302 (by omega) (by omega) ?_
        refine z_aload_n (M := M_X12_canBe) 303 dX12_canBe_303 rfl ?_
        refine z_getR (M := M_X12_canBe) 304 dX12_canBe_304 f_X12_40 o_108 rfl (g_108_22 G1) ?_
        refine z_iload_n (M := M_X12_canBe) 307 dX12_canBe_307 rfl ?_
        refine z_ialdG (M := M_X12_canBe) 308 dX12_canBe_308 o_117 (by omega) (by omega) (g_117 G1 (by omega)) (fun x8 ex8 ax8 bx8 => ?_)
        refine z_iaddN (M := M_X12_canBe) 309 dX12_canBe_309 (by omega) (by omega) ?_
        refine z_zaldG (M := M_X12_canBe) 310 dX12_canBe_310 o_134 (by omega) (by omega) (g_134 G1 (by omega)) (fun x9 ex9 ax9 bx9 => ?_)
        refine z_if_eq (M := M_X12_canBe) 311 dX12_canBe_311 316 rfl (fun c10 => ?_) (fun c10 => ?_)
        · refine z_iincN (M := M_X12_canBe) 316 dX12_canBe_316 (ls' := [some (mR 108), none, none, some (mI (l3 + 1)), none, none]) (by decide) rfl (by (unfold m_32; decide)) (by omega) (by omega) rfl ?_
          refine z_goto (M := M_X12_canBe) 319 dX12_canBe_319 265 rfl ?_
          exact z_mask [true, false, false, true, false, false] rfl (ih.2.2.2.2.2.2 (l3 + 1) h1 G1 R1 (by omega) (by omega) (by omega) (by omega) (i0.ti S1) (i1.ti S1) (tO_c i0 (by omega) i2 S1 ex1 (by omega) ex7 ex8 ex9 (by omega)) (i3.ti S1) (by omega))
        · refine z_iconst (M := M_X12_canBe) 314 dX12_canBe_314 ?_
          exact z_retZ (M := M_X12_canBe) 315 dX12_canBe_315 rfl (by omega) ⟨G1, R1, by omega, by omega, cbQ_0, fun _ => tC_g hE i0 (by omega) i3 S1 ex1 (by omega) ex3 (by omega) fx5_0 (by omega) ex7 ex8 ex9 (by omega)⟩
theorem a_X12_canBe2 (h0 : m_H) (a1 : Int) (G0 : GI h0) (hN : NP h0) : ∀ n, q_X12_canBe2 h0 a1 n := by
  intro n
  induction n with
  | zero => unfold q_X12_canBe2; refine ⟨?_, ?_, ?_, ?_, ?_, ?_, ?_⟩ <;> (intros; omega)
  | succ n ih => exact ⟨s_X12_canBe2_14 h0 a1 G0 hN n ih, s_X12_canBe2_44 h0 a1 G0 hN n ih, s_X12_canBe2_81 h0 a1 G0 hN n ih, s_X12_canBe2_155 h0 a1 G0 hN n ih, s_X12_canBe2_164 h0 a1 G0 hN n ih, s_X12_canBe2_174 h0 a1 G0 hN n ih, s_X12_canBe2_265 h0 a1 G0 hN n ih⟩
set_option maxHeartbeats 4000000 in
set_option maxRecDepth 100000 in
theorem c_X12_canBe2 (h0 : m_H) (a1 : Int) (G0 : GI h0) (hN : NP h0) : m_CI M_X12_canBe [mR 108, mI a1] h0 (P_X12_canBe2 h0 a1) := by
  refine m_CI_of ⟨by decide, rfl, by simp [m_arg, m_isL, M_X12_canBe], ⟨rfl, rfl⟩, rfl, rfl⟩ (ls := [some (mR 108), some (mI a1), none, none, none, none]) rfl ?_
  have ih := a_X12_canBe2 h0 a1 G0 hN 11548
  refine z_ok (fun _ _ ok => ?_)
  have oa1 : m_32 a1 := ok 1 _ rfl
  unfold m_32 at oa1
  have hE := bL_ok (ct := h0 123) (en := a1) G0 hN (fun j hj => g_122 G0 hj)
  refine z_aload_n (M := M_X12_canBe) 0 dX12_canBe_0 rfl ?_
  refine z_iload_n (M := M_X12_canBe) 1 dX12_canBe_1 rfl ?_
  refine z_vV (M := M_X12_canBe) 2 dX12_canBe_2 t_X12_build l_X12_354 (m_rr_of rfl) (rest := []) (c_X12_build h0 a1 G0 (NP.call hN (FR.rf (cs := [115, 116, 117, 118, 119, 120, 121, 124, 125, 126, 127, 128, 129, 130, 131, 132, 133, 134]) (ss := [(108, 21)]) (h := h0)) (fun _ => rfl) (fun _ => rfl) (fun _ => rfl))) o_108 rfl rfl rfl (Nat.le_of_ble_eq_true rfl) ⟨rfl, rfl⟩ (fun h1 qx1 => ?_)
  obtain ⟨G1, S1, fx1_0⟩ := qx1
  have R1 := (FR.rf (cs := [115, 116, 117, 118, 119, 120, 121, 124, 125, 126, 127, 128, 129, 130, 131, 132, 133, 134]) (ss := [(108, 21)]) (h := h0)).call S1 (by decide +kernel)
  refine z_aload_n (M := M_X12_canBe) 5 dX12_canBe_5 rfl ?_
  refine z_iconst (M := M_X12_canBe) 6 dX12_canBe_6 ?_
  refine z_vV (M := M_X12_canBe) 7 dX12_canBe_7 t_X12_startAt l_X12_357 (m_rr_of rfl) (rest := []) (c_X12_startAtX h1 (-1) G1) o_108 rfl rfl rfl (Nat.le_of_ble_eq_true rfl) ⟨rfl, rfl⟩ (fun h2 qx2 => ?_)
  obtain ⟨G2, S2, fx2_0⟩ := qx2
  have R2 := R1.call S2 (by decide +kernel)
  refine z_iconst (M := M_X12_canBe) 10 dX12_canBe_10 ?_
  refine z_istore_n (M := M_X12_canBe) 11 dX12_canBe_11 (ls' := [some (mR 108), some (mI a1), some (mI 1), none, none, none]) (by decide) rfl ?_
  refine z_iconst (M := M_X12_canBe) 12 dX12_canBe_12 ?_
  refine z_istore_n (M := M_X12_canBe) 13 dX12_canBe_13 (ls' := [some (mR 108), some (mI a1), some (mI 1), some (mI 0), none, none]) (by decide) rfl ?_
  exact z_mask [true, false, true, true, false, false] rfl (ih.1 1 0 h2 G2 R2 (by omega) (by omega) (by omega) (by omega) (by omega) (by omega) (cb_02 (AR.call fx1_0 S2 rfl (fun _ => rfl) (fun _ => rfl) (fun _ => rfl) (fun _ => rfl) (fun _ => rfl)) fx2_0) (by omega))
/-! walks from foot to foot -/
/-- the first foot on the way -/
theorem wk_foot {L : List gE} (hE : ∀ e ∈ L, gEo e) : ∀ (w : List gE) (a b : Nat), wk L w a b → 12 ≤ b → w ≠ [] → ∃ (u v : List gE) (c : Nat), w = u ++ v ∧ u ≠ [] ∧ wk L u a c ∧ 12 ≤ c ∧ wk L v c b ∧ (∀ d ∈ (nd u a).tail.dropLast, d < 12)
  | [], a, b, h, hb, hn => absurd rfl hn
  | e :: w, a, b, h, hb, _ => by
    by_cases g : 12 ≤ e.1.2
    · refine ⟨[e], w, e.1.2, rfl, by simp, ⟨h.1, rfl, (hE e h.1.1).1.2⟩, g, h.2, fun d hd => ?_⟩
      have : (nd [e] a).tail.dropLast = [] := rfl
      rw [this] at hd; cases hd
    · have hw : w ≠ [] := fun z => by
        subst z
        have z2 : e.1.2 = b := h.2.1
        omega
      obtain ⟨u, v, c, e1, e2, e3, e4, e5, e6⟩ := wk_foot hE w _ b h.2 hb hw
      refine ⟨e :: u, v, c, by rw [e1]; rfl, by simp, ⟨h.1, e3⟩, e4, e5, fun d hd => ?_⟩
      have t : (nd (e :: u) a).tail = nd u e.1.2 := rfl
      rw [t] at hd
      cases u with
      | nil => exact absurd rfl e2
      | cons f u =>
        have t2 : nd (f :: u) e.1.2 = e.1.2 :: nd u f.1.2 := rfl
        have t3 : (nd (f :: u) e.1.2).tail = nd u f.1.2 := rfl
        rw [t3] at e6
        have nn : nd u f.1.2 ≠ [] := by cases u <;> simp [nd]
        rw [t2, List.dropLast_cons_of_ne_nil nn] at hd
        rcases List.mem_cons.mp hd with rfl | z
        · omega
        · exact e6 d z
/-- a closed walk may begin at any node of it -/
theorem gain_at {L : List gE} (hE : ∀ e ∈ L, gEo e) {w : List gE} {a c : Nat} (h : wk L w a a) (hc : c ∈ nd w a) : ∃ v, wk L v c c ∧ wp v = wp w ∧ wq v = wq w ∧ (ws v ↔ ws w) := by
  obtain ⟨x, z, e1, e2, e3⟩ := nd_mem hE w a a c h hc
  refine ⟨z ++ x, wk_app z x c a c e3 e2, ?_, ?_, ?_⟩
  · rw [e1, wp_app, wp_app, Int.mul_comm]
  · rw [e1, wq_app, wq_app, Int.mul_comm]
  · rw [e1, ws_app, ws_app, or_comm]
/-- among lengths alone nothing goes round, if cuts alone join them -/
theorem no_round {L : List gE} (hE : ∀ e ∈ L, gEo e) (hc : ∀ e ∈ L, e.1.1 < 12 → e.1.2 < 12 → e.1.1 = 6 + e.1.2) : ∀ (w : List gE) (a b : Nat), wk L w a b → (∀ d ∈ nd w a, d < 12) → (w = [] ∧ a = b) ∨ b < a
  | [], a, b, h, _ => Or.inl ⟨rfl, h.1⟩
  | e :: w, a, b, h, n => by
    have na : a < 12 := n a (List.mem_cons_self)
    have nw : ∀ d ∈ nd w e.1.2, d < 12 := fun d hd => n d (List.mem_cons_of_mem _ hd)
    have n2 : e.1.2 < 12 := by
      cases w with
      | nil => exact nw _ (List.mem_cons_self)
      | cons f w => exact nw _ (List.mem_cons_self)
    have k := hc e h.1.1 (by rw [h.1.2]; exact na) n2
    rw [h.1.2] at k
    rcases no_round hE hc w _ b h.2 nw with ⟨_, z⟩ | z
    · exact Or.inr (by omega)
    · exact Or.inr (by omega)
/-- so what gains, gains from a foot to itself -/
theorem gain_foot {L : List gE} (hE : ∀ e ∈ L, gEo e) (hc : ∀ e ∈ L, e.1.1 < 12 → e.1.2 < 12 → e.1.1 = 6 + e.1.2) (g : gain L) : ∃ (c : Nat) (v : List gE), 12 ≤ c ∧ wk L v c c ∧ (wq v < wp v ∨ (wq v = wp v ∧ ws v)) := by
  obtain ⟨a, w, h, k⟩ := g
  by_cases y : ∀ d ∈ nd w a, d < 12
  · rcases no_round hE hc w a a h y with ⟨z, _⟩ | z
    · subst z
      rcases k with k | ⟨_, k⟩
      · exact absurd k (by decide)
      · exact k.elim
    · omega
  · have ⟨d, hd⟩ : ∃ d, ¬ (d ∈ nd w a → d < 12) := Classical.not_forall.mp y
    have hd1 : d ∈ nd w a := Classical.byContradiction fun z => hd (fun u => absurd u z)
    have hd2 : ¬ d < 12 := fun z => hd (fun _ => z)
    obtain ⟨v, v1, v2, v3, v4⟩ := gain_at hE h hd1
    exact ⟨d, v, by omega, v1, by rw [v2, v3, v4]; exact k⟩
/-! walks over a predicate: steps from foot to foot as edges -/
def kM (M : gE → Prop) : Prop := ∀ e, M e → (e.1.1 < 16 ∧ e.1.2 < 16) ∧ 0 < e.2.1 ∧ 0 < e.2.2.1
def wm (M : gE → Prop) : List gE → Nat → Nat → Prop
  | [], a, b => a = b ∧ a < 16
  | e :: w, a, b => (M e ∧ e.1.1 = a) ∧ wm M w e.1.2 b
theorem wm_pos {M : gE → Prop} (hE : kM M) : ∀ (w : List gE) (a b : Nat), wm M w a b → (0 < wp w ∧ 0 < wq w) ∧ a < 16 ∧ b < 16
  | [], a, b, h => ⟨⟨by decide, by decide⟩, h.2, h.1 ▸ h.2⟩
  | e :: w, a, b, h => by
    obtain ⟨⟨h1, h2⟩, h3⟩ := h
    have i := wm_pos hE w _ b h3
    have o := hE e h1
    refine ⟨⟨Int.mul_pos o.2.1 i.1.1, Int.mul_pos o.2.2 i.1.2⟩, ?_, i.2.2⟩
    rw [← h2]; exact o.1.1
theorem wm_app {M : gE → Prop} : ∀ (w v : List gE) (a b c : Nat), wm M w a b → wm M v b c → wm M (w ++ v) a c
  | [], v, a, b, c, h, k => by obtain ⟨rfl, _⟩ := h; exact k
  | e :: w, v, a, b, c, h, k => ⟨h.1, wm_app w v _ b c h.2 k⟩
theorem nm_lt {M : gE → Prop} (hE : kM M) : ∀ (w : List gE) (a b : Nat), wm M w a b → ∀ c ∈ nd w a, c < 16
  | [], a, b, h, c, hc => by
    rcases List.mem_cons.mp hc with rfl | z
    · exact h.2
    · cases z
  | e :: w, a, b, h, c, hc => by
    rcases List.mem_cons.mp hc with rfl | z
    · have o := hE e h.1.1
      rw [← h.1.2]; exact o.1.1
    · exact nm_lt hE w _ b h.2 c z
theorem nm_mem {M : gE → Prop} (hE : kM M) : ∀ (w : List gE) (a b c : Nat), wm M w a b → c ∈ nd w a → ∃ x z, w = x ++ z ∧ wm M x a c ∧ wm M z c b
  | [], a, b, c, h, hc => by
    rcases List.mem_cons.mp hc with rfl | z
    · exact ⟨[], [], rfl, ⟨rfl, h.2⟩, h⟩
    · cases z
  | e :: w, a, b, c, h, hc => by
    rcases List.mem_cons.mp hc with rfl | z
    · exact ⟨[], e :: w, rfl, ⟨rfl, nm_lt hE (e :: w) c b h c (List.mem_cons_self)⟩, h⟩
    · obtain ⟨x, y, e1, e2, e3⟩ := nm_mem hE w _ b c h.2 z
      exact ⟨e :: x, y, by rw [e1]; rfl, ⟨h.1, e2⟩, e3⟩
theorem nm_split {M : gE → Prop} (hE : kM M) : ∀ (w : List gE) (a b : Nat), wm M w a b → ¬ (nd w a).Nodup → ∃ x y z c, w = x ++ (y ++ z) ∧ y ≠ [] ∧ wm M x a c ∧ wm M y c c ∧ wm M z c b
  | [], a, b, h, hn => absurd (List.nodup_cons.mpr ⟨by simp, List.nodup_nil⟩) hn
  | e :: w, a, b, h, hn => by
    by_cases g : a ∈ nd w e.1.2
    · obtain ⟨x, z, e1, e2, e3⟩ := nm_mem hE w _ b a h.2 g
      have ha := nm_lt hE (e :: w) a b h a (List.mem_cons_self)
      exact ⟨[], e :: x, z, a, by rw [e1]; rfl, by simp, ⟨rfl, ha⟩, ⟨h.1, e2⟩, e3⟩
    · have g2 : ¬ (nd w e.1.2).Nodup := fun z => hn (List.nodup_cons.mpr ⟨g, z⟩)
      obtain ⟨x, y, z, c, e1, e2, e3, e4, e5⟩ := nm_split hE w _ b h.2 g2
      exact ⟨e :: x, y, z, c, by rw [e1]; rfl, e2, ⟨h.1, e3⟩, e4, e5⟩
def gnw (w : List gE) : Prop := wq w < wp w ∨ (wq w = wp w ∧ ws w)
/-- of two rounds one after the other, one gains if both together do -/
theorem gnw_two {x y z : List gE} (hx : 0 < wp x ∧ 0 < wq x) (hy : 0 < wp y ∧ 0 < wq y) (hz : 0 < wp z ∧ 0 < wq z) (g : gnw (x ++ (y ++ z))) : gnw y ∨ gnw (x ++ z) := by
  unfold gnw at *
  rw [wp_app, wq_app, wp_app, wq_app, ws_app, ws_app] at g
  rw [wp_app, wq_app, ws_app]
  have k1 : wp x * (wp y * wp z) = wp y * (wp x * wp z) := by ac_rfl
  have k2 : wq x * (wq y * wq z) = wq y * (wq x * wq z) := by ac_rfl
  rw [k1, k2] at g
  have pz : 0 < wp x * wp z := Int.mul_pos hx.1 hz.1
  have qz : 0 < wq x * wq z := Int.mul_pos hx.2 hz.2
  rcases Int.lt_trichotomy (wq y) (wp y) with a | a | a
  · exact Or.inl (Or.inl a)
  · rw [a] at g
    rcases g with g | ⟨g, s⟩
    · exact Or.inr (Or.inl (Int.lt_of_mul_lt_mul_left g (Int.le_of_lt hy.1)))
    · have e := Int.eq_of_mul_eq_mul_left (Int.ne_of_gt hy.1) g
      rcases s with s | s | s
      · exact Or.inr (Or.inr ⟨e, Or.inl s⟩)
      · exact Or.inl (Or.inr ⟨a, s⟩)
      · exact Or.inr (Or.inr ⟨e, Or.inr s⟩)
  · refine Or.inr (Or.inl ?_)
    rcases Int.lt_or_le (wq x * wq z) (wp x * wp z) with b | b
    · exact b
    · exfalso
      have m1 := Int.mul_lt_mul_of_pos_right a pz
      have m2 := Int.mul_le_mul_of_nonneg_left b (Int.le_of_lt hy.2)
      rcases g with g | ⟨g, _⟩ <;> omega
/-- a shortest round that gains comes by no node twice -/
theorem gnw_min {M : gE → Prop} (hE : kM M) : ∀ (n : Nat) (w : List gE) (a : Nat), w.length ≤ n → wm M w a a → gnw w → ∃ (e : gE) (v : List gE), wm M (e :: v) e.1.1 e.1.1 ∧ gnw (e :: v) ∧ (nd v e.1.2).Nodup
  | 0, w, a, hn, h, g => by
    have e : w = [] := List.eq_nil_of_length_eq_zero (by omega)
    subst e
    rcases g with g | ⟨_, g⟩
    · exact absurd g (by decide)
    · exact g.elim
  | n + 1, [], a, hn, h, g => by
    rcases g with g | ⟨_, g⟩
    · exact absurd g (by decide)
    · exact g.elim
  | n + 1, e :: v, a, hn, h, g => by
    by_cases c : (nd v e.1.2).Nodup
    · refine ⟨e, v, ?_, g, c⟩
      have h2 := h.1.2
      subst h2
      exact h
    · obtain ⟨x, y, z, d, e1, e2, e3, e4, e5⟩ := nm_split hE v _ a h.2 c
      have ly : 0 < y.length := List.length_pos_iff.mpr e2
      have lv : v.length = x.length + (y.length + z.length) := by rw [e1, List.length_append, List.length_append]
      have hl : v.length + 1 ≤ n + 1 := hn
      have g' : gnw ((e :: x) ++ (y ++ z)) := by rw [e1] at g; exact g
      have wx : wm M (e :: x) a d := ⟨h.1, e3⟩
      rcases gnw_two (wm_pos hE _ _ _ wx).1 (wm_pos hE _ _ _ e4).1 (wm_pos hE _ _ _ e5).1 g' with k | k
      · exact gnw_min hE n y d (by omega) e4 k
      · refine gnw_min hE n ((e :: x) ++ z) a ?_ (wm_app _ _ _ _ _ wx e5) k
        rw [List.length_append]; show x.length + 1 + z.length ≤ n; omega
/-! the feet alone -/
def stp (L : List gE) (u : List gE) (a b : Nat) : Prop := wk L u a b ∧ u ≠ [] ∧ ∀ d ∈ (nd u a).tail.dropLast, d < 12
def MF (L : List gE) (e : gE) : Prop := (12 ≤ e.1.1 ∧ 12 ≤ e.1.2) ∧ ∃ u, stp L u e.1.1 e.1.2 ∧ e.2.1 = wp u ∧ e.2.2.1 = wq u ∧ (e.2.2.2 = 1 ↔ ws u)
theorem MF_k {L : List gE} (hE : ∀ e ∈ L, gEo e) : kM (MF L) := fun e he => by
  obtain ⟨_, u, ⟨u1, _⟩, u2, u3, _⟩ := he
  have p := wp_pos hE u _ _ u1
  exact ⟨p.2, by rw [u2]; exact p.1.1, by rw [u3]; exact p.1.2⟩
theorem toF {L : List gE} (hE : ∀ e ∈ L, gEo e) : ∀ (n : Nat) (w : List gE) (a b : Nat), w.length ≤ n → wk L w a b → 12 ≤ a → 12 ≤ b → ∃ f, wm (MF L) f a b ∧ wp f = wp w ∧ wq f = wq w ∧ (ws f ↔ ws w)
  | 0, w, a, b, hn, h, _, _ => by
    have e : w = [] := List.eq_nil_of_length_eq_zero (by omega)
    subst e
    exact ⟨[], h, rfl, rfl, Iff.rfl⟩
  | n + 1, w, a, b, hn, h, ha, hb => by
    by_cases c : w = []
    · subst c
      exact ⟨[], h, rfl, rfl, Iff.rfl⟩
    · obtain ⟨u, v, d, e1, e2, e3, e4, e5, e6⟩ := wk_foot hE w a b h hb c
      have lu : 0 < u.length := List.length_pos_iff.mpr e2
      have lw : w.length = u.length + v.length := by rw [e1, List.length_append]
      obtain ⟨f, f1, f2, f3, f4⟩ := toF hE n v d b (by omega) e5 e4 hb
      have ⟨s, hs⟩ : ∃ s : Int, s = 1 ↔ ws u := by
        by_cases y : ws u
        · exact ⟨1, fun _ => y, fun _ => rfl⟩
        · exact ⟨0, fun z => absurd z (by decide), fun z => absurd z y⟩
      refine ⟨((a, d), (wp u, wq u, s)) :: f, ⟨⟨⟨⟨ha, e4⟩, u, ⟨e3, e2, e6⟩, rfl, rfl, hs⟩, rfl⟩, f1⟩, ?_, ?_, ?_⟩
      · show wp u * wp f = wp w
        rw [f2, e1, wp_app]
      · show wq u * wq f = wq w
        rw [f3, e1, wq_app]
      · show (s = 1 ∨ ws f) ↔ ws w
        rw [hs, f4, e1, ws_app]
/-- what gains, gains in a round of at most four feet -/
theorem gain_four {L : List gE} (hE : ∀ e ∈ L, gEo e) (hc : ∀ e ∈ L, e.1.1 < 12 → e.1.2 < 12 → e.1.1 = 6 + e.1.2) (g : gain L) : ∃ (e : gE) (v : List gE), wm (MF L) (e :: v) e.1.1 e.1.1 ∧ gnw (e :: v) ∧ (nd v e.1.2).Nodup ∧ v.length ≤ 3 := by
  obtain ⟨c, w, h1, h2, h3⟩ := gain_foot hE hc g
  obtain ⟨f, f1, f2, f3, f4⟩ := toF hE w.length w c c (Nat.le_refl _) h2 h1 h1
  have gf : gnw f := by unfold gnw; rw [f2, f3, f4]; exact h3
  obtain ⟨e, v, v1, v2, v3⟩ := gnw_min (MF_k hE) f.length f c (Nat.le_refl _) f1 gf
  refine ⟨e, v, v1, v2, v3, ?_⟩
  have all : ∀ (v : List gE) (a b : Nat), 12 ≤ a → wm (MF L) v a b → ∀ d ∈ nd v a, 12 ≤ d := by
    intro v
    induction v with
    | nil => intro a b ha _ d hd; rcases List.mem_cons.mp hd with rfl | z; exact ha; cases z
    | cons e v ih =>
      intro a b ha h d hd
      rcases List.mem_cons.mp hd with rfl | z
      · exact ha
      · exact ih _ b h.1.1.1.2 h.2 d z
  have a12 := all v e.1.2 e.1.1 v1.1.1.1.2 v1.2
  have lt := nm_lt (MF_k hE) v e.1.2 e.1.1 v1.2
  have k := gk_le v3 lt
  have fl : (nd v e.1.2).filter (fun u => decide (12 ≤ u)) = nd v e.1.2 := List.filter_eq_self.mpr (fun d hd => decide_eq_true (a12 d hd))
  unfold gk at k
  rw [fl, nd_len] at k
  omega
/-! limits as the class keeps them -/
/-- a limit (t, l, o) leaves no more than a walk with (P, Q), strict if s -/
def lb (t l o P Q : Int) (s : Prop) : Prop := (0 < t ∧ 0 < l) ∧ (t * P < l * Q ∨ (t * P = l * Q ∧ (s → o = 1)))
theorem lb_le {t l o P Q : Int} {s : Prop} (h : lb t l o P Q s) : t * P ≤ l * Q := by
  rcases h.2 with z | z
  · exact Int.le_of_lt z
  · exact Int.le_of_eq z.1
theorem lb_mul {t l o t' l' o' o2 P Q P' Q' : Int} {s s' : Prop} (h : lb t l o P Q s) (h' : lb t' l' o' P' Q' s') (hP : 0 < P ∧ 0 < Q) (hP' : 0 < P' ∧ 0 < Q') (ho : o = 1 ∨ o' = 1 → o2 = 1) : lb (t * t') (l * l') o2 (P * P') (Q * Q') (s ∨ s') := by
  refine ⟨⟨Int.mul_pos h.1.1 h'.1.1, Int.mul_pos h.1.2 h'.1.2⟩, ?_⟩
  have k1 : t * t' * (P * P') = (t * P) * (t' * P') := by ac_rfl
  have k2 : l * l' * (Q * Q') = (l * Q) * (l' * Q') := by ac_rfl
  rw [k1, k2]
  have p1 : 0 < t * P := Int.mul_pos h.1.1 hP.1
  have p2 : 0 < t' * P' := Int.mul_pos h'.1.1 hP'.1
  have p3 : 0 < l * Q := Int.mul_pos h.1.2 hP.2
  have p4 : 0 < l' * Q' := Int.mul_pos h'.1.2 hP'.2
  rcases h.2 with a | ⟨a, b⟩
  · exact Or.inl (Int.lt_of_lt_of_le (Int.mul_lt_mul_of_pos_right a p2) (Int.mul_le_mul_of_nonneg_left (lb_le h') (Int.le_of_lt p3)))
  · rcases h'.2 with c | ⟨c, d⟩
    · refine Or.inl ?_
      rw [a]; exact Int.mul_lt_mul_of_pos_left c p3
    · refine Or.inr ⟨by rw [a, c], fun z => ho ?_⟩
      rcases z with z | z
      · exact Or.inl (b z)
      · exact Or.inr (d z)
/-- a round that gains, under a limit: the limit is below one -/
theorem lb_gain {t l o : Int} {w : List gE} {P Q : Int} {s : Prop} (h : lb t l o P Q s) (eP : P = wp w) (eQ : Q = wq w) (es : ws w → s) (hw : 0 < wp w ∧ 0 < wq w) (g : gnw w) : t < l ∨ (t = l ∧ o = 1) := by
  subst eP; subst eQ
  rcases g with g | ⟨g, k⟩
  · refine Or.inl ?_
    have z := lb_le h
    rcases Int.lt_or_le t l with y | y
    · exact y
    · have m1 := Int.mul_le_mul_of_nonneg_right y (Int.le_of_lt hw.1)
      have m2 := Int.mul_lt_mul_of_pos_left g h.1.2
      omega
  · rw [g] at h
    rcases h.2 with z | ⟨z, y⟩
    · exact Or.inl (Int.lt_of_mul_lt_mul_right z (Int.le_of_lt hw.1))
    · exact Or.inr ⟨Int.eq_of_mul_eq_mul_right (Int.ne_of_gt hw.1) z, y (es k)⟩
/-- nothing gains, where each foot holds and the feet hold together -/
theorem cls_no {L : List gE} (hE : ∀ e ∈ L, gEo e) (hc : ∀ e ∈ L, e.1.1 < 12 → e.1.2 < 12 → e.1.1 = 6 + e.1.2) (st re : Nat → Nat → Int × Int × Int)
    (h1 : ∀ e, MF L e → e.1.1 = e.1.2 → lb (st e.1.1 e.1.2).1 (st e.1.1 e.1.2).2.1 (st e.1.1 e.1.2).2.2 e.2.1 e.2.2.1 (e.2.2.2 = 1))
    (h2 : ∀ a, 12 ≤ a → a < 16 → (st a a).2.1 ≠ 0 → ¬ ((st a a).1 < (st a a).2.1 ∨ ((st a a).1 = (st a a).2.1 ∧ (st a a).2.2 = 1)))
    (h3 : ∀ (v : List gE) (a b : Nat), v ≠ [] → v.length ≤ 3 → wm (MF L) v a b → (nd v a).Nodup → lb (re a b).1 (re a b).2.1 (re a b).2.2 (wp v) (wq v) (ws v))
    (h4 : ∀ a b, 12 ≤ a → a < 16 → 12 ≤ b → b < 16 → a ≠ b → ¬ ((re a b).1 * (re b a).1 < (re a b).2.1 * (re b a).2.1 ∨ ((re a b).1 * (re b a).1 = (re a b).2.1 * (re b a).2.1 ∧ ((re a b).2.2 = 1 ∨ (re b a).2.2 = 1)))) : ¬ gain L := by
  intro g
  obtain ⟨e, v, v1, v2, v3, v4⟩ := gain_four hE hc g
  have F := v1.1.1
  have pos := wm_pos (MF_k hE) (e :: v) _ _ v1
  have o := (MF_k hE) e F
  cases v with
  | nil =>
    have eq : e.1.1 = e.1.2 := v1.2.1.symm
    have b := h1 e F eq
    rw [← eq] at b
    have z := lb_gain (w := [e]) b (show _ = e.2.1 * 1 by rw [Int.mul_one]) (show _ = e.2.2.1 * 1 by rw [Int.mul_one]) (fun k => k.elim id (fun y => y.elim)) pos.1 v2
    exact h2 e.1.1 F.1.1 o.1.1 (Int.ne_of_gt b.1.2) z
  | cons d v =>
    have pv := wm_pos (MF_k hE) (d :: v) _ _ v1.2
    -- the two ends differ
    have last : ∀ (w : List gE) (a b : Nat), wm (MF L) w a b → b ∈ nd w a := by
      intro w
      induction w with
      | nil => intro a b h; obtain ⟨rfl, _⟩ := h; exact List.mem_cons_self
      | cons e w ih => intro a b h; exact List.mem_cons_of_mem _ (ih _ b h.2)
    have ne : e.1.1 ≠ e.1.2 := fun eq => by
      have y : nd (d :: v) e.1.2 = e.1.2 :: nd v d.1.2 := rfl
      rw [y] at v3
      have m := last v d.1.2 e.1.1 v1.2.2
      rw [eq] at m
      exact (List.nodup_cons.mp v3).1 m
    have w1 : wm (MF L) [e] e.1.1 e.1.2 := ⟨⟨F, rfl⟩, rfl, o.1.2⟩
    have n1 : (nd [e] e.1.1).Nodup := by
      show [e.1.1, e.1.2].Nodup
      simp [ne]
    have b1 := h3 [e] e.1.1 e.1.2 (by simp) (show 1 ≤ 3 by decide) w1 n1
    have b2 := h3 (d :: v) e.1.2 e.1.1 (by simp) v4 v1.2 v3
    have p1 := wm_pos (MF_k hE) [e] _ _ w1
    have b := lb_mul (o2 := if (re e.1.1 e.1.2).2.2 = 1 ∨ (re e.1.2 e.1.1).2.2 = 1 then 1 else 0) b1 b2 p1.1 pv.1 (fun z => if_pos z)
    have z := lb_gain (w := e :: d :: v) b (show wp [e] * wp (d :: v) = wp (e :: d :: v) from (wp_app [e] (d :: v)).symm) (show wq [e] * wq (d :: v) = wq (e :: d :: v) from (wq_app [e] (d :: v)).symm) (fun k => (ws_app [e] (d :: v)).mp k) pos.1 v2
    refine h4 e.1.1 e.1.2 F.1.1 o.1.1 F.1.2 o.1.2 ne ?_
    rcases z with z | ⟨z, y⟩
    · exact Or.inl z
    · refine Or.inr ⟨z, ?_⟩
      by_cases k : (re e.1.1 e.1.2).2.2 = 1 ∨ (re e.1.2 e.1.1).2.2 = 1
      · exact k
      · rw [if_neg k] at y; exact absurd y (by decide)
/-! the lesser of two limits -/
def lsB (b c : Int × Int × Int) : Int × Int × Int := if c.1 * b.2.1 < b.1 * c.2.1 ∨ (c.1 * b.2.1 = b.1 * c.2.1 ∧ c.2.2 = 1) then c else b
theorem lsB_1 {b c : Int × Int × Int} {P Q : Int} {s : Prop} (h : lb b.1 b.2.1 b.2.2 P Q s) (hc : 0 < c.1 ∧ 0 < c.2.1) (hP : 0 < P ∧ 0 < Q) : lb (lsB b c).1 (lsB b c).2.1 (lsB b c).2.2 P Q s := by
  unfold lsB
  by_cases k : c.1 * b.2.1 < b.1 * c.2.1 ∨ (c.1 * b.2.1 = b.1 * c.2.1 ∧ c.2.2 = 1)
  · rw [if_pos k]
    refine ⟨hc, ?_⟩
    have e1 : b.1 * P ≤ Q * b.2.1 := by rw [Int.mul_comm Q]; exact lb_le h
    rcases k with k | ⟨k, o⟩
    · -- c < b, b no more than Q / P
      have z := fr_trl (a := c.1) (x := c.2.1) (b := b.1) (y := b.2.1) (c := Q) (z := P) (Int.le_of_lt hc.2) h.1.2 hP.1 k e1
      exact Or.inl (by rw [Int.mul_comm c.2.1]; exact z)
    · have z := fr_tr (a := c.1) (x := c.2.1) (b := b.1) (y := b.2.1) (c := Q) (z := P) (Int.le_of_lt hc.2) h.1.2 (Int.le_of_lt hP.1) (Int.le_of_eq k) e1
      rw [Int.mul_comm Q] at z
      rcases Int.lt_or_eq_of_le z with y | y
      · exact Or.inl y
      · exact Or.inr ⟨y, fun _ => o⟩
  · rw [if_neg k]; exact h
theorem lsB_2 {b c : Int × Int × Int} {P Q : Int} {s : Prop} (h : lb c.1 c.2.1 c.2.2 P Q s) (hb : 0 < b.1 ∧ 0 ≤ b.2.1) (hP : 0 < P ∧ 0 < Q) : lb (lsB b c).1 (lsB b c).2.1 (lsB b c).2.2 P Q s := by
  unfold lsB
  by_cases k : c.1 * b.2.1 < b.1 * c.2.1 ∨ (c.1 * b.2.1 = b.1 * c.2.1 ∧ c.2.2 = 1)
  · rw [if_pos k]; exact h
  · rw [if_neg k]
    have le : b.1 * c.2.1 ≤ c.1 * b.2.1 := by
      rcases Int.lt_or_le (c.1 * b.2.1) (b.1 * c.2.1) with y | y
      · exact absurd (Or.inl y) k
      · exact y
    have pb : 0 < b.2.1 := by
      rcases Int.lt_or_eq_of_le hb.2 with y | y
      · exact y
      · rw [← y, Int.mul_zero] at le
        have := Int.mul_pos hb.1 h.1.2
        omega
    refine ⟨⟨hb.1, pb⟩, ?_⟩
    have e1 : c.1 * P ≤ Q * c.2.1 := by rw [Int.mul_comm Q]; exact lb_le h
    have z := fr_tr (a := b.1) (x := b.2.1) (b := c.1) (y := c.2.1) (c := Q) (z := P) (Int.le_of_lt pb) h.1.2 (Int.le_of_lt hP.1) le e1
    rw [Int.mul_comm Q] at z
    rcases Int.lt_or_eq_of_le z with y | y
    · exact Or.inl y
    · refine Or.inr ⟨y, fun hs => ?_⟩
      exfalso
      have eq1 : b.1 * c.2.1 = c.1 * b.2.1 := by
        rcases Int.lt_or_eq_of_le le with q | q
        · have := fr_trl (a := b.1) (x := b.2.1) (b := c.1) (y := c.2.1) (c := Q) (z := P) (Int.le_of_lt pb) h.1.2 hP.1 q e1
          rw [Int.mul_comm Q] at this
          omega
        · exact q
      have eq2 : c.1 * P = Q * c.2.1 := by
        rcases Int.lt_or_eq_of_le e1 with q | q
        · have := fr_ltr (a := b.1) (x := b.2.1) (b := c.1) (y := c.2.1) (c := Q) (z := P) pb h.1.2 (Int.le_of_lt hP.1) le q
          rw [Int.mul_comm Q] at this
          omega
        · exact q
      rcases h.2 with q | ⟨_, q⟩
      · rw [Int.mul_comm Q] at eq2; omega
      · exact k (Or.inr ⟨eq1.symm, q hs⟩)
/-! one step more -/
def mlB (x y : Int × Int × Int) : Int × Int × Int := (x.1 * y.1, x.2.1 * y.2.1, if x.2.2 = 1 ∨ y.2.2 = 1 then 1 else 0)
def pB (x : Int × Int × Int) : Prop := 0 < x.1 ∧ 0 ≤ x.2.1
def goL (wy st : Nat → Nat → Int × Int × Int) (a b : Nat) : List Nat → Int × Int × Int → Int × Int × Int
  | [], x => x
  | k :: ks, x => goL wy st a b ks (if k ≠ a ∧ k ≠ b ∧ (wy a k).2.1 ≠ 0 ∧ (st k b).2.1 ≠ 0 then lsB x (mlB (wy a k) (st k b)) else x)
theorem lsB_p {x c : Int × Int × Int} (hx : pB x) (hc : pB c) : pB (lsB x c) := by
  unfold lsB
  split
  · exact hc
  · exact hx
theorem mlB_p {x y : Int × Int × Int} (hx : pB x) (hy : pB y) (h1 : x.2.1 ≠ 0) (h2 : y.2.1 ≠ 0) : 0 < (mlB x y).1 ∧ 0 < (mlB x y).2.1 := by
  unfold pB at hx hy
  exact ⟨Int.mul_pos hx.1 hy.1, Int.mul_pos (by omega) (by omega)⟩
theorem gl_keep {wy st : Nat → Nat → Int × Int × Int} {a b : Nat} {P Q : Int} {s : Prop} (hw : ∀ i j, pB (wy i j)) (hs : ∀ i j, pB (st i j)) (hP : 0 < P ∧ 0 < Q) : ∀ (ks : List Nat) (x : Int × Int × Int), lb x.1 x.2.1 x.2.2 P Q s → lb (goL wy st a b ks x).1 (goL wy st a b ks x).2.1 (goL wy st a b ks x).2.2 P Q s
  | [], x, h => h
  | k :: ks, x, h => by
    refine gl_keep hw hs hP ks _ ?_
    by_cases c : k ≠ a ∧ k ≠ b ∧ (wy a k).2.1 ≠ 0 ∧ (st k b).2.1 ≠ 0
    · rw [if_pos c]; exact lsB_1 h (mlB_p (hw a k) (hs k b) c.2.2.1 c.2.2.2) hP
    · rw [if_neg c]; exact h
theorem gl_take {wy st : Nat → Nat → Int × Int × Int} {a b k : Nat} {P Q P' Q' : Int} {s s' : Prop} (hw : ∀ i j, pB (wy i j)) (hs : ∀ i j, pB (st i j)) (hP : 0 < P ∧ 0 < Q) (hP' : 0 < P' ∧ 0 < Q') (ka : k ≠ a) (kb : k ≠ b) (h1 : lb (wy a k).1 (wy a k).2.1 (wy a k).2.2 P Q s) (h2 : lb (st k b).1 (st k b).2.1 (st k b).2.2 P' Q' s') : ∀ (ks : List Nat) (x : Int × Int × Int), k ∈ ks → pB x → lb (goL wy st a b ks x).1 (goL wy st a b ks x).2.1 (goL wy st a b ks x).2.2 (P * P') (Q * Q') (s ∨ s')
  | [], x, hk, _ => by cases hk
  | j :: ks, x, hk, hx => by
    have pp : 0 < P * P' ∧ 0 < Q * Q' := ⟨Int.mul_pos hP.1 hP'.1, Int.mul_pos hP.2 hP'.2⟩
    rcases List.mem_cons.mp hk with e | hk
    · subst e
      refine gl_keep hw hs pp ks _ ?_
      rw [if_pos ⟨ka, kb, Int.ne_of_gt h1.1.2, Int.ne_of_gt h2.1.2⟩]
      exact lsB_2 (lb_mul h1 h2 hP hP' (fun z => if_pos z)) hx pp
    · refine gl_take hw hs hP hP' ka kb h1 h2 ks _ hk ?_
      by_cases c : j ≠ a ∧ j ≠ b ∧ (wy a j).2.1 ≠ 0 ∧ (st j b).2.1 ≠ 0
      · rw [if_pos c]
        have m := mlB_p (hw a j) (hs j b) c.2.2.1 c.2.2.2
        exact lsB_p hx ⟨m.1, Int.le_of_lt m.2⟩
      · rw [if_neg c]; exact hx
/-! up to three steps -/
theorem lb_c {t l o P Q P' Q' : Int} {s s' : Prop} (h : lb t l o P Q s) (e1 : P' = P) (e2 : Q' = Q) (e3 : s' → s) : lb t l o P' Q' s' := by
  subst e1; subst e2
  refine ⟨h.1, ?_⟩
  rcases h.2 with z | z
  · exact Or.inl z
  · exact Or.inr ⟨z.1, fun k => z.2 (e3 k)⟩
theorem reach_ok {L : List gE} (hE : ∀ e ∈ L, gEo e) {st t2 re : Nat → Nat → Int × Int × Int} (p1 : ∀ i j, pB (st i j)) (p2 : ∀ i j, pB (t2 i j))
    (h1 : ∀ e, MF L e → e.1.1 ≠ e.1.2 → lb (st e.1.1 e.1.2).1 (st e.1.1 e.1.2).2.1 (st e.1.1 e.1.2).2.2 e.2.1 e.2.2.1 (e.2.2.2 = 1))
    (h2 : ∀ a b, a ≠ b → t2 a b = goL st st a b [12, 13, 14, 15] (st a b)) (h3 : ∀ a b, a ≠ b → re a b = goL t2 st a b [12, 13, 14, 15] (t2 a b)) :
    ∀ (v : List gE) (a b : Nat), v ≠ [] → v.length ≤ 3 → wm (MF L) v a b → (nd v a).Nodup → lb (re a b).1 (re a b).2.1 (re a b).2.2 (wp v) (wq v) (ws v) := by
  have kf := MF_k hE
  have mem : ∀ e, MF L e → e.1.2 ∈ [12, 13, 14, 15] := fun e he => by
    have o := kf e he
    have q : e.1.2 = 12 ∨ e.1.2 = 13 ∨ e.1.2 = 14 ∨ e.1.2 = 15 := by have := he.1.2; omega
    rcases q with q | q | q | q <;> simp [q]
  -- one, two steps
  have one : ∀ e, MF L e → e.1.1 ≠ e.1.2 → lb (t2 e.1.1 e.1.2).1 (t2 e.1.1 e.1.2).2.1 (t2 e.1.1 e.1.2).2.2 e.2.1 e.2.2.1 (e.2.2.2 = 1) := fun e he ne => by
    rw [h2 _ _ ne]; exact gl_keep p1 p1 (kf e he).2 _ _ (h1 e he ne)
  have two : ∀ e f, MF L e → MF L f → e.1.2 = f.1.1 → e.1.1 ≠ e.1.2 → f.1.1 ≠ f.1.2 → e.1.1 ≠ f.1.2 → lb (t2 e.1.1 f.1.2).1 (t2 e.1.1 f.1.2).2.1 (t2 e.1.1 f.1.2).2.2 (e.2.1 * f.2.1) (e.2.2.1 * f.2.2.1) (e.2.2.2 = 1 ∨ f.2.2.2 = 1) := fun e f he hf ef n1 n2 n3 => by
    rw [h2 _ _ n3]
    have b := h1 f hf n2
    rw [← ef] at b
    exact gl_take p1 p1 (kf e he).2 (kf f hf).2 (Ne.symm n1) (by rw [ef]; exact n2) (h1 e he n1) b _ _ (mem e he) (p1 _ _)
  intro v a b hn hl hw hd
  match v, hn, hl, hw, hd with
  | [e], _, _, hw, hd =>
    obtain ⟨⟨he, rfl⟩, hb, _⟩ := hw
    subst hb
    have ne : e.1.1 ≠ e.1.2 := by have y : [e.1.1, e.1.2].Nodup := hd; simp at y; exact y
    rw [h3 _ _ ne]
    exact lb_c (gl_keep p2 p1 (kf e he).2 _ _ (one e he ne)) (Int.mul_one _) (Int.mul_one _) (fun z => z.elim id (fun y => y.elim))
  | [e, f], _, _, hw, hd =>
    obtain ⟨⟨he, rfl⟩, ⟨hf, ef⟩, hb, _⟩ := hw
    subst hb
    have y : [e.1.1, e.1.2, f.1.2].Nodup := hd
    simp at y
    have n2 : f.1.1 ≠ f.1.2 := by rw [ef]; exact y.2
    rw [h3 _ _ y.1.2]
    have pp : 0 < e.2.1 * f.2.1 ∧ 0 < e.2.2.1 * f.2.2.1 := ⟨Int.mul_pos (kf e he).2.1 (kf f hf).2.1, Int.mul_pos (kf e he).2.2 (kf f hf).2.2⟩
    exact lb_c (gl_keep p2 p1 pp _ _ (two e f he hf ef.symm y.1.1 n2 y.1.2)) (show e.2.1 * (f.2.1 * 1) = _ by rw [Int.mul_one]) (show e.2.2.1 * (f.2.2.1 * 1) = _ by rw [Int.mul_one]) (fun z => z.elim Or.inl (fun q => q.elim Or.inr (fun u => u.elim)))
  | [e, f, g], _, _, hw, hd =>
    obtain ⟨⟨he, rfl⟩, ⟨hf, ef⟩, ⟨hg, eg⟩, hb, _⟩ := hw
    subst hb
    have y : [e.1.1, e.1.2, f.1.2, g.1.2].Nodup := hd
    simp at y
    have n2 : f.1.1 ≠ f.1.2 := by rw [ef]; exact y.2.1.1
    have n3 : g.1.1 ≠ g.1.2 := by rw [eg]; exact y.2.2
    rw [h3 _ _ y.1.2.2]
    have pp : 0 < e.2.1 * f.2.1 ∧ 0 < e.2.2.1 * f.2.2.1 := ⟨Int.mul_pos (kf e he).2.1 (kf f hf).2.1, Int.mul_pos (kf e he).2.2 (kf f hf).2.2⟩
    have b := h1 g hg n3
    rw [eg] at b
    exact lb_c (gl_take p2 p1 pp (kf g hg).2 (Ne.symm y.1.2.1) (by rw [← eg]; exact n3) (two e f he hf ef.symm y.1.1 n2 y.1.2.1) b _ _ (mem f hf) (p2 _ _)) (show e.2.1 * (f.2.1 * (g.2.1 * 1)) = _ by rw [Int.mul_one, Int.mul_assoc]) (show e.2.2.1 * (f.2.2.1 * (g.2.2.1 * 1)) = _ by rw [Int.mul_one, Int.mul_assoc]) (fun z => z.elim (fun q => Or.inl (Or.inl q)) (fun q => q.elim (fun u => Or.inl (Or.inr u)) (fun u => u.elim Or.inr (fun w => w.elim))))
  | _ :: _ :: _ :: _ :: _, _, hl, _, _ => exact absurd hl (by simp)
/-! each limit that stands is a walk -/
def rl (L : List gE) (B : Int × Int × Int) (a b : Nat) : Prop := B.2.1 ≠ 0 → ∃ w, wk L w a b ∧ B.1 * wp w = B.2.1 * wq w ∧ (B.2.2 = 1 → ws w)
theorem rl_ls {L : List gE} {b c : Int × Int × Int} {i j : Nat} (h : rl L b i j) (k : rl L c i j) : rl L (lsB b c) i j := by
  unfold lsB
  split
  · exact k
  · exact h
theorem rl_ml {L : List gE} {x y : Int × Int × Int} {a k b : Nat} (h : rl L x a k) (h' : rl L y k b) : rl L (mlB x y) a b := by
  intro n
  have n' : x.2.1 * y.2.1 ≠ 0 := n
  obtain ⟨w, w1, w2, w3⟩ := h (fun z => n' (by rw [z, Int.zero_mul]))
  obtain ⟨v, v1, v2, v3⟩ := h' (fun z => n' (by rw [z, Int.mul_zero]))
  refine ⟨w ++ v, wk_app w v a k b w1 v1, ?_, fun o => ?_⟩
  · show x.1 * y.1 * wp (w ++ v) = x.2.1 * y.2.1 * wq (w ++ v)
    rw [wp_app, wq_app]
    have k1 : x.1 * y.1 * (wp w * wp v) = (x.1 * wp w) * (y.1 * wp v) := by ac_rfl
    have k2 : x.2.1 * y.2.1 * (wq w * wq v) = (x.2.1 * wq w) * (y.2.1 * wq v) := by ac_rfl
    rw [k1, k2, w2, v2]
  · rw [ws_app]
    by_cases c : x.2.2 = 1 ∨ y.2.2 = 1
    · rcases c with c | c
      · exact Or.inl (w3 c)
      · exact Or.inr (v3 c)
    · have o' : (if x.2.2 = 1 ∨ y.2.2 = 1 then (1 : Int) else 0) = 1 := o
      rw [if_neg c] at o'; exact absurd o' (by decide)
theorem rl_go {L : List gE} {wy st : Nat → Nat → Int × Int × Int} {a b : Nat} (hw : ∀ k, rl L (wy a k) a k) (hs : ∀ k, rl L (st k b) k b) : ∀ (ks : List Nat) (x : Int × Int × Int), rl L x a b → rl L (goL wy st a b ks x) a b
  | [], x, h => h
  | k :: ks, x, h => by
    refine rl_go hw hs ks _ ?_
    split
    · exact rl_ls h (rl_ml (hw k) (hs k))
    · exact h
/-- a limit of a foot through itself that is below one -/
theorem rl_gain {L : List gE} (hE : ∀ e ∈ L, gEo e) {B : Int × Int × Int} {a : Nat} (h : rl L B a a) (p : 0 < B.1 ∧ 0 ≤ B.2.1) (g : B.1 < B.2.1 ∨ (B.1 = B.2.1 ∧ B.2.2 = 1)) : gain L := by
  have n : 0 < B.2.1 := by omega
  obtain ⟨w, w1, w2, w3⟩ := h (Int.ne_of_gt n)
  have pw := wp_pos hE w a a w1
  refine ⟨a, w, w1, ?_⟩
  rcases g with g | ⟨g, o⟩
  · refine Or.inl ?_
    rcases Int.lt_or_le (wq w) (wp w) with y | y
    · exact y
    · have m1 := Int.mul_lt_mul_of_pos_right g pw.1.1
      have m2 := Int.mul_le_mul_of_nonneg_left y (Int.le_of_lt n)
      omega
  · rw [g] at w2
    exact Or.inr ⟨(Int.eq_of_mul_eq_mul_left (Int.ne_of_gt n) w2).symm, w3 o⟩
/-- two limits that contradict each other -/
theorem rl_contra {L : List gE} (hE : ∀ e ∈ L, gEo e) {x y : Int × Int × Int} {a b : Nat} (h : rl L x a b) (k : rl L y b a) (px : pB x) (py : pB y) (g : x.1 * y.1 < x.2.1 * y.2.1 ∨ (x.1 * y.1 = x.2.1 * y.2.1 ∧ (x.2.2 = 1 ∨ y.2.2 = 1))) : gain L := by
  refine rl_gain hE (rl_ml h k) ⟨Int.mul_pos px.1 py.1, Int.mul_nonneg px.2 py.2⟩ ?_
  rcases g with g | ⟨g, o⟩
  · exact Or.inl g
  · exact Or.inr ⟨g, if_pos o⟩
/-! the class's limits in the heap -/
def bd (h : m_H) (c : Nat) : Int × Int × Int := (h c 0, h c 1, h c 2)
def bN (b : Nat) (v : Int × Int × Int) (h h' : m_H) : Prop := (∀ c, c ≠ b → h' c = h c) ∧ bd h' b = v
theorem bN_put {h h1 h2 h3 : m_H} {b : Nat} {x y z : Int} (E1 : h1 = m_up h b 0 x) (E2 : h2 = m_up h1 b 1 y) (E3 : h3 = m_up h2 b 2 z) : bN b (x, y, z) h h3 := by
  refine ⟨fun c q => ?_, ?_⟩
  · rw [E3, m_up_row q, E2, m_up_row q, E1, m_up_row q]
  · have a0 : h3 b 0 = x := by rw [upN E3 (by simp), upN E2 (by simp), upE E1]
    have a1 : h3 b 1 = y := by rw [upN E3 (by simp), upE E2]
    have a2 : h3 b 2 = z := upE E3
    unfold bd
    rw [a0, a1, a2]
theorem ls_yes {h h' : m_H} {b : Nat} {a1 a2 a3 x1 x2 x3 x4 : Int} (e1 : h b 0 = x1) (e3 : h b 1 = x3) (e2 : x1 * a2 = x2) (e4 : a1 * x3 = x4) (c : x4 < x2 ∨ (x4 = x2 ∧ a3 = 1)) (B : bN b (a1, a2, a3) h h') : bN b (lsB (bd h b) (a1, a2, a3)) h h' := by
  have e : lsB (bd h b) (a1, a2, a3) = (a1, a2, a3) := by
    unfold lsB bd
    refine if_pos ?_
    show a1 * h b 1 < h b 0 * a2 ∨ (a1 * h b 1 = h b 0 * a2 ∧ a3 = 1)
    rw [e1, e3, e2, e4]; exact c
  rw [e]; exact B
theorem ls_no {h : m_H} {b : Nat} {a1 a2 a3 x1 x2 x3 x4 : Int} (e1 : h b 0 = x1) (e3 : h b 1 = x3) (e2 : x1 * a2 = x2) (e4 : a1 * x3 = x4) (c : ¬ (x4 < x2 ∨ (x4 = x2 ∧ a3 = 1))) : bN b (lsB (bd h b) (a1, a2, a3)) h h := by
  have e : lsB (bd h b) (a1, a2, a3) = bd h b := by
    unfold lsB bd
    refine if_neg ?_
    show ¬ (a1 * h b 1 < h b 0 * a2 ∨ (a1 * h b 1 = h b 0 * a2 ∧ a3 = 1))
    rw [e1, e3, e2, e4]; exact c
  rw [e]; exact ⟨fun _ _ => rfl, rfl⟩
def bl1 (v : Int × Int × Int) : Prop := v.2.1 ≠ 0 ∧ (v.1 < v.2.1 ∨ (v.1 = v.2.1 ∧ v.2.2 = 1))
def ctr (u v : Int × Int × Int) : Prop := u.1 * v.1 < u.2.1 * v.2.1 ∨ (u.1 * v.1 = u.2.1 * v.2.1 ∧ (u.2.2 = 1 ∨ v.2.2 = 1))
abbrev P_X2_clear2 (h0 : m_H) (b : Nat) : m_H → Prop := fun h' => GI h' ∧ FR (csB ++ []) [] h0 h' ∧ bN b (1, 0, 1) h0 h'
set_option maxHeartbeats 4000000 in
set_option maxRecDepth 100000 in
theorem c_X2_clear2 (h0 : m_H) (b : Nat) (hb : isB b) (G0 : GI h0) : m_CV M_X2_clear [mR b] h0 (P_X2_clear2 h0 b) := by
  refine m_CV_of ⟨by decide, rfl, by simp [m_arg, m_isL, M_X2_clear], ⟨rfl, rfl⟩, rfl, rfl⟩ (ls := [some (mR b)]) rfl ?_
  refine z_aload_n (M := M_X2_clear) 0 dX2_clear_0 rfl ?_
  refine z_lconst (M := M_X2_clear) 1 dX2_clear_1 (v := 1) ?_
  refine z_putJH (M := M_X2_clear) 2 dX2_clear_2 p_X2_7 (oB hb) rfl (uB0 hb G0) ((FR.rf (cs := (csB ++ [])) (ss := []) (h := h0)).up (frB hb)) (fun h1 E1 G1 R1 => ?_)
  refine z_aload_n (M := M_X2_clear) 5 dX2_clear_5 rfl ?_
  refine z_lconst (M := M_X2_clear) 6 dX2_clear_6 (v := 0) ?_
  refine z_putJH (M := M_X2_clear) 7 dX2_clear_7 p_X2_13 (oB hb) rfl (uB1 hb G1) (R1.up (frB hb)) (fun h2 E2 G2 R2 => ?_)
  refine z_aload_n (M := M_X2_clear) 10 dX2_clear_10 rfl ?_
  refine z_iconst (M := M_X2_clear) 11 dX2_clear_11 ?_
  refine z_putZH (M := M_X2_clear) 12 dX2_clear_12 p_X2_16 (oB hb) rfl (by omega) (uB2 hb G2 (by omega) (by omega)) (R2.up (frB hb)) (fun h3 E3 G3 R3 => ?_)
  exact z_retV (M := M_X2_clear) 15 dX2_clear_15 rfl ⟨G3, R3, bN_put E1 E2 E3⟩
abbrev P_X2_put2 (h0 : m_H) (b : Nat) (a1 a2 a3 : Int) : m_H → Prop := fun h' => GI h' ∧ FR (csB ++ []) [] h0 h' ∧ bN b (a1, a2, a3) h0 h'
set_option maxHeartbeats 4000000 in
set_option maxRecDepth 100000 in
theorem c_X2_put2 (h0 : m_H) (b : Nat) (a1 a2 a3 : Int) (hb : isB b) (G0 : GI h0) (pa3 : 0 ≤ a3 ∧ a3 ≤ 1) : m_CV M_X2_put [mR b, mJ a1, mJ a2, mI a3] h0 (P_X2_put2 h0 b a1 a2 a3) := by
  refine m_CV_of ⟨by decide, rfl, by simp [m_arg, m_isL, M_X2_put], ⟨rfl, rfl⟩, rfl, rfl⟩ (ls := [some (mR b), some (mJ a1), none, some (mJ a2), none, some (mI a3)]) rfl ?_
  refine z_aload_n (M := M_X2_put) 0 dX2_put_0 rfl ?_
  refine z_lload_n (M := M_X2_put) 1 dX2_put_1 rfl ?_
  refine z_putJH (M := M_X2_put) 2 dX2_put_2 p_X2_7 (oB hb) rfl (uB0 hb G0) ((FR.rf (cs := (csB ++ [])) (ss := []) (h := h0)).up (frB hb)) (fun h1 E1 G1 R1 => ?_)
  refine z_aload_n (M := M_X2_put) 5 dX2_put_5 rfl ?_
  refine z_lload_n (M := M_X2_put) 6 dX2_put_6 rfl ?_
  refine z_putJH (M := M_X2_put) 7 dX2_put_7 p_X2_13 (oB hb) rfl (uB1 hb G1) (R1.up (frB hb)) (fun h2 E2 G2 R2 => ?_)
  refine z_aload_n (M := M_X2_put) 10 dX2_put_10 rfl ?_
  refine z_iload (M := M_X2_put) 11 dX2_put_11 rfl ?_
  refine z_putZH (M := M_X2_put) 13 dX2_put_13 p_X2_16 (oB hb) rfl (by omega) (uB2 hb G2 (by omega) (by omega)) (R2.up (frB hb)) (fun h3 E3 G3 R3 => ?_)
  exact z_retV (M := M_X2_put) 16 dX2_put_16 rfl ⟨G3, R3, bN_put E1 E2 E3⟩
abbrev P_X2_lessen2 (h0 : m_H) (b : Nat) (a1 a2 a3 : Int) : m_H → Prop := fun h' => GI h' ∧ FR (csB ++ []) [] h0 h' ∧ bN b (lsB (bd h0 b) (a1, a2, a3)) h0 h'
set_option maxHeartbeats 4000000 in
set_option maxRecDepth 100000 in
theorem c_X2_lessen2 (h0 : m_H) (b : Nat) (a1 a2 a3 : Int) (hb : isB b) (G0 : GI h0) (pa3 : 0 ≤ a3 ∧ a3 ≤ 1) (q1 : 0 ≤ h0 b 0 ∧ h0 b 0 ≤ 3000000000) (q2 : 0 ≤ h0 b 1 ∧ h0 b 1 ≤ 3000000000) (q3 : 0 ≤ a1 ∧ a1 ≤ 3000000000) (q4 : 0 ≤ a2 ∧ a2 ≤ 3000000000) : m_CV M_X2_lessen [mR b, mJ a1, mJ a2, mI a3] h0 (P_X2_lessen2 h0 b a1 a2 a3) := by
  refine m_CV_of ⟨by decide, rfl, by simp [m_arg, m_isL, M_X2_lessen], ⟨rfl, rfl⟩, rfl, rfl⟩ (ls := [some (mR b), some (mJ a1), none, some (mJ a2), none, some (mI a3), none, none, none, none]) rfl ?_
  refine z_aload_n (M := M_X2_lessen) 0 dX2_lessen_0 rfl ?_
  refine z_getJV (M := M_X2_lessen) 1 dX2_lessen_1 f_X2_7 (oB hb) rfl (fun x1 ex1 => ?_)
  rw [ex1] at q1
  refine z_lload_n (M := M_X2_lessen) 4 dX2_lessen_4 rfl ?_
  have mx2 := mul_bd (x := x1) (y := a2) (X := 3000000000) (Y := 3000000000) (by omega) (by omega) (by omega) (by omega)
  refine z_lmulN (M := M_X2_lessen) 5 dX2_lessen_5 (by omega) (by omega) ?_
  refine z_topBJ (lo := 0) (hi := 3000000000 * 3000000000) ⟨by omega, by omega⟩ (fun x2 ex2 ax2 bx2 => ?_)
  refine z_lstore (M := M_X2_lessen) 6 dX2_lessen_6 (ls' := [some (mR b), some (mJ a1), none, some (mJ a2), none, some (mI a3), some (mJ x2), none, none, none]) (by decide) rfl ?_
  refine z_lload_n (M := M_X2_lessen) 8 dX2_lessen_8 rfl ?_
  refine z_aload_n (M := M_X2_lessen) 9 dX2_lessen_9 rfl ?_
  refine z_getJV (M := M_X2_lessen) 10 dX2_lessen_10 f_X2_13 (oB hb) rfl (fun x3 ex3 => ?_)
  rw [ex3] at q2
  have mx4 := mul_bd (x := a1) (y := x3) (X := 3000000000) (Y := 3000000000) (by omega) (by omega) (by omega) (by omega)
  refine z_lmulN (M := M_X2_lessen) 13 dX2_lessen_13 (by omega) (by omega) ?_
  refine z_topBJ (lo := 0) (hi := 3000000000 * 3000000000) ⟨by omega, by omega⟩ (fun x4 ex4 ax4 bx4 => ?_)
  refine z_lstore (M := M_X2_lessen) 14 dX2_lessen_14 (ls' := [some (mR b), some (mJ a1), none, some (mJ a2), none, some (mI a3), some (mJ x2), none, some (mJ x4), none]) (by decide) rfl ?_
  refine z_lload (M := M_X2_lessen) 16 dX2_lessen_16 rfl ?_
  refine z_lload (M := M_X2_lessen) 18 dX2_lessen_18 rfl ?_
  refine z_lcmp (M := M_X2_lessen) 20 dX2_lessen_20 ?_
  refine z_if_lt (M := M_X2_lessen) 21 dX2_lessen_21 37 rfl (fun c5 => ?_) (fun c5 => ?_)
  · rw [m_cmp_lt] at c5
    refine z_aload_n (M := M_X2_lessen) 37 dX2_lessen_37 rfl ?_
    refine z_lload_n (M := M_X2_lessen) 38 dX2_lessen_38 rfl ?_
    refine z_lload_n (M := M_X2_lessen) 39 dX2_lessen_39 rfl ?_
    refine z_iload (M := M_X2_lessen) 40 dX2_lessen_40 rfl ?_
    refine z_vV (M := M_X2_lessen) 42 dX2_lessen_42 t_X2_put l_X2_20 (m_rr_of rfl) (rest := []) (c_X2_put2 h0 b a1 a2 a3 hb G0 ⟨by omega, by omega⟩) (oB hb) rfl rfl rfl (Nat.le_of_ble_eq_true rfl) ⟨rfl, rfl⟩ (fun h1 qx6 => ?_)
    obtain ⟨G1, S1, B1⟩ := qx6
    have R1 := (FR.rf (cs := (csB ++ [])) (ss := []) (h := h0)).call S1 (by decide +kernel)
    exact z_retV (M := M_X2_lessen) 45 dX2_lessen_45 rfl ⟨G1, R1, ls_yes ex1 ex3 ex2 ex4 (Or.inl c5) B1⟩
  · rw [m_cmp_lt] at c5
    refine z_lload (M := M_X2_lessen) 24 dX2_lessen_24 rfl ?_
    refine z_lload (M := M_X2_lessen) 26 dX2_lessen_26 rfl ?_
    refine z_lcmp (M := M_X2_lessen) 28 dX2_lessen_28 ?_
    refine z_if_ne (M := M_X2_lessen) 29 dX2_lessen_29 45 rfl (fun c7 => ?_) (fun c7 => ?_)
    · rw [m_cmp_eq] at c7
      exact z_retV (M := M_X2_lessen) 45 dX2_lessen_45 rfl ⟨G0, (FR.rf (cs := (csB ++ [])) (ss := []) (h := h0)), ls_no ex1 ex3 ex2 ex4 (fun z => by omega)⟩
    · rw [m_cmp_eq] at c7
      refine z_iload (M := M_X2_lessen) 32 dX2_lessen_32 rfl ?_
      refine z_if_eq (M := M_X2_lessen) 34 dX2_lessen_34 45 rfl (fun c8 => ?_) (fun c8 => ?_)
      · exact z_retV (M := M_X2_lessen) 45 dX2_lessen_45 rfl ⟨G0, (FR.rf (cs := (csB ++ [])) (ss := []) (h := h0)), ls_no ex1 ex3 ex2 ex4 (fun z => by omega)⟩
      · refine z_aload_n (M := M_X2_lessen) 37 dX2_lessen_37 rfl ?_
        refine z_lload_n (M := M_X2_lessen) 38 dX2_lessen_38 rfl ?_
        refine z_lload_n (M := M_X2_lessen) 39 dX2_lessen_39 rfl ?_
        refine z_iload (M := M_X2_lessen) 40 dX2_lessen_40 rfl ?_
        refine z_vV (M := M_X2_lessen) 42 dX2_lessen_42 t_X2_put l_X2_20 (m_rr_of rfl) (rest := []) (c_X2_put2 h0 b a1 a2 a3 hb G0 ⟨by omega, by omega⟩) (oB hb) rfl rfl rfl (Nat.le_of_ble_eq_true rfl) ⟨rfl, rfl⟩ (fun h2 qx9 => ?_)
        obtain ⟨G2, S2, B2⟩ := qx9
        have R2 := (FR.rf (cs := (csB ++ [])) (ss := []) (h := h0)).call S2 (by decide +kernel)
        exact z_retV (M := M_X2_lessen) 45 dX2_lessen_45 rfl ⟨G2, R2, ls_yes ex1 ex3 ex2 ex4 (Or.inr ⟨c7, by omega⟩) B2⟩
abbrev P_X2_isBelowOne2 (h0 : m_H) (b : Nat) : Int → m_H → Prop := fun x h' => GI h' ∧ FR [] [] h0 h' ∧ 0 ≤ x ∧ x ≤ 1 ∧ (x = 1 ↔ bl1 (bd h0 b))
set_option maxHeartbeats 4000000 in
set_option maxRecDepth 100000 in
theorem c_X2_isBelowOne2 (h0 : m_H) (b : Nat) (hb : isB b) (G0 : GI h0) : m_CI M_X2_isBelowOne [mR b] h0 (P_X2_isBelowOne2 h0 b) := by
  refine m_CI_of ⟨by decide, rfl, by simp [m_arg, m_isL, M_X2_isBelowOne], ⟨rfl, rfl⟩, rfl, rfl⟩ (ls := [some (mR b)]) rfl ?_
  refine z_aload_n (M := M_X2_isBelowOne) 0 dX2_isBelowOne_0 rfl ?_
  refine z_getJV (M := M_X2_isBelowOne) 1 dX2_isBelowOne_1 f_X2_13 (oB hb) rfl (fun x1 ex1 => ?_)
  refine z_lconst (M := M_X2_isBelowOne) 4 dX2_isBelowOne_4 (v := 0) ?_
  refine z_lcmp (M := M_X2_isBelowOne) 5 dX2_isBelowOne_5 ?_
  refine z_if_eq (M := M_X2_isBelowOne) 6 dX2_isBelowOne_6 44 rfl (fun c2 => ?_) (fun c2 => ?_)
  · rw [m_cmp_eq] at c2
    refine z_iconst (M := M_X2_isBelowOne) 44 dX2_isBelowOne_44 ?_
    exact z_retZ (M := M_X2_isBelowOne) 45 dX2_isBelowOne_45 rfl (by omega) ⟨G0, (FR.rf (cs := []) (ss := []) (h := h0)), by omega, by omega, ⟨fun z => absurd z (by decide), fun z => by unfold bl1 bd at z; simp only [ex1] at z; omega⟩⟩
  · rw [m_cmp_eq] at c2
    refine z_aload_n (M := M_X2_isBelowOne) 9 dX2_isBelowOne_9 rfl ?_
    refine z_getJV (M := M_X2_isBelowOne) 10 dX2_isBelowOne_10 f_X2_7 (oB hb) rfl (fun x3 ex3 => ?_)
    refine z_aload_n (M := M_X2_isBelowOne) 13 dX2_isBelowOne_13 rfl ?_
    refine z_getJE (M := M_X2_isBelowOne) 14 dX2_isBelowOne_14 f_X2_13 (oB hb) rfl ex1 ?_
    refine z_lcmp (M := M_X2_isBelowOne) 17 dX2_isBelowOne_17 ?_
    refine z_if_lt (M := M_X2_isBelowOne) 18 dX2_isBelowOne_18 40 rfl (fun c4 => ?_) (fun c4 => ?_)
    · rw [m_cmp_lt] at c4
      refine z_iconst (M := M_X2_isBelowOne) 40 dX2_isBelowOne_40 ?_
      refine z_goto (M := M_X2_isBelowOne) 41 dX2_isBelowOne_41 45 rfl ?_
      exact z_retZ (M := M_X2_isBelowOne) 45 dX2_isBelowOne_45 rfl (by omega) ⟨G0, (FR.rf (cs := []) (ss := []) (h := h0)), by omega, by omega, ⟨fun _ => by unfold bl1 bd; simp only [ex1, ex3]; omega, fun _ => rfl⟩⟩
    · rw [m_cmp_lt] at c4
      refine z_aload_n (M := M_X2_isBelowOne) 21 dX2_isBelowOne_21 rfl ?_
      refine z_getJE (M := M_X2_isBelowOne) 22 dX2_isBelowOne_22 f_X2_7 (oB hb) rfl ex3 ?_
      refine z_aload_n (M := M_X2_isBelowOne) 25 dX2_isBelowOne_25 rfl ?_
      refine z_getJE (M := M_X2_isBelowOne) 26 dX2_isBelowOne_26 f_X2_13 (oB hb) rfl ex1 ?_
      refine z_lcmp (M := M_X2_isBelowOne) 29 dX2_isBelowOne_29 ?_
      refine z_if_ne (M := M_X2_isBelowOne) 30 dX2_isBelowOne_30 44 rfl (fun c5 => ?_) (fun c5 => ?_)
      · rw [m_cmp_eq] at c5
        refine z_iconst (M := M_X2_isBelowOne) 44 dX2_isBelowOne_44 ?_
        exact z_retZ (M := M_X2_isBelowOne) 45 dX2_isBelowOne_45 rfl (by omega) ⟨G0, (FR.rf (cs := []) (ss := []) (h := h0)), by omega, by omega, ⟨fun z => absurd z (by decide), fun z => by unfold bl1 bd at z; simp only [ex1, ex3] at z; omega⟩⟩
      · rw [m_cmp_eq] at c5
        refine z_aload_n (M := M_X2_isBelowOne) 33 dX2_isBelowOne_33 rfl ?_
        refine z_getIG (M := M_X2_isBelowOne) 34 dX2_isBelowOne_34 f_X2_16 (oB hb) (by decide) (gB hb G0) (fun x6 ex6 ax6 bx6 => ?_)
        refine z_if_eq (M := M_X2_isBelowOne) 37 dX2_isBelowOne_37 44 rfl (fun c7 => ?_) (fun c7 => ?_)
        · refine z_iconst (M := M_X2_isBelowOne) 44 dX2_isBelowOne_44 ?_
          exact z_retZ (M := M_X2_isBelowOne) 45 dX2_isBelowOne_45 rfl (by omega) ⟨G0, (FR.rf (cs := []) (ss := []) (h := h0)), by omega, by omega, ⟨fun z => absurd z (by decide), fun z => by unfold bl1 bd at z; simp only [ex1, ex3, ex6] at z; omega⟩⟩
        · refine z_iconst (M := M_X2_isBelowOne) 40 dX2_isBelowOne_40 ?_
          refine z_goto (M := M_X2_isBelowOne) 41 dX2_isBelowOne_41 45 rfl ?_
          exact z_retZ (M := M_X2_isBelowOne) 45 dX2_isBelowOne_45 rfl (by omega) ⟨G0, (FR.rf (cs := []) (ss := []) (h := h0)), by omega, by omega, ⟨fun _ => by unfold bl1 bd; simp only [ex1, ex3, ex6]; omega, fun _ => rfl⟩⟩
abbrev P_X2_contradicts2 (h0 : m_H) (b : Nat) (c : Nat) : Int → m_H → Prop := fun x h' => GI h' ∧ FR [] [] h0 h' ∧ 0 ≤ x ∧ x ≤ 1 ∧ (x = 1 ↔ ctr (bd h0 b) (bd h0 c))
set_option maxHeartbeats 4000000 in
set_option maxRecDepth 100000 in
theorem c_X2_contradicts2 (h0 : m_H) (b : Nat) (c : Nat) (hb : isB b) (hc : isB c) (G0 : GI h0) (q1 : 0 ≤ h0 b 0 ∧ h0 b 0 ≤ 3000000000) (q2 : 0 ≤ h0 b 1 ∧ h0 b 1 ≤ 3000000000) (q3 : 0 ≤ h0 c 0 ∧ h0 c 0 ≤ 3000000000) (q4 : 0 ≤ h0 c 1 ∧ h0 c 1 ≤ 3000000000) : m_CI M_X2_contradicts [mR b, mR c] h0 (P_X2_contradicts2 h0 b c) := by
  refine m_CI_of ⟨by decide, rfl, by simp [m_arg, m_isL, M_X2_contradicts], ⟨rfl, rfl⟩, rfl, rfl⟩ (ls := [some (mR b), some (mR c), none, none, none, none]) rfl ?_
  refine z_aload_n (M := M_X2_contradicts) 0 dX2_contradicts_0 rfl ?_
  refine z_getJV (M := M_X2_contradicts) 1 dX2_contradicts_1 f_X2_7 (oB hb) rfl (fun x1 ex1 => ?_)
  rw [ex1] at q1
  refine z_aload_n (M := M_X2_contradicts) 4 dX2_contradicts_4 rfl ?_
  refine z_getJV (M := M_X2_contradicts) 5 dX2_contradicts_5 f_X2_7 (oB hc) rfl (fun x2 ex2 => ?_)
  rw [ex2] at q3
  have mx3 := mul_bd (x := x1) (y := x2) (X := 3000000000) (Y := 3000000000) (by omega) (by omega) (by omega) (by omega)
  refine z_lmulN (M := M_X2_contradicts) 8 dX2_contradicts_8 (by omega) (by omega) ?_
  refine z_topBJ (lo := 0) (hi := 3000000000 * 3000000000) ⟨by omega, by omega⟩ (fun x3 ex3 ax3 bx3 => ?_)
  refine z_lstore_n (M := M_X2_contradicts) 9 dX2_contradicts_9 (ls' := [some (mR b), some (mR c), some (mJ x3), none, none, none]) (by decide) rfl ?_
  refine z_aload_n (M := M_X2_contradicts) 10 dX2_contradicts_10 rfl ?_
  refine z_getJV (M := M_X2_contradicts) 11 dX2_contradicts_11 f_X2_13 (oB hb) rfl (fun x4 ex4 => ?_)
  rw [ex4] at q2
  refine z_aload_n (M := M_X2_contradicts) 14 dX2_contradicts_14 rfl ?_
  refine z_getJV (M := M_X2_contradicts) 15 dX2_contradicts_15 f_X2_13 (oB hc) rfl (fun x5 ex5 => ?_)
  rw [ex5] at q4
  have mx6 := mul_bd (x := x4) (y := x5) (X := 3000000000) (Y := 3000000000) (by omega) (by omega) (by omega) (by omega)
  refine z_lmulN (M := M_X2_contradicts) 18 dX2_contradicts_18 (by omega) (by omega) ?_
  refine z_topBJ (lo := 0) (hi := 3000000000 * 3000000000) ⟨by omega, by omega⟩ (fun x6 ex6 ax6 bx6 => ?_)
  refine z_lstore (M := M_X2_contradicts) 19 dX2_contradicts_19 (ls' := [some (mR b), some (mR c), some (mJ x3), none, some (mJ x6), none]) (by decide) rfl ?_
  refine z_lload_n (M := M_X2_contradicts) 21 dX2_contradicts_21 rfl ?_
  refine z_lload (M := M_X2_contradicts) 22 dX2_contradicts_22 rfl ?_
  refine z_lcmp (M := M_X2_contradicts) 24 dX2_contradicts_24 ?_
  refine z_if_lt (M := M_X2_contradicts) 25 dX2_contradicts_25 49 rfl (fun c7 => ?_) (fun c7 => ?_)
  · rw [m_cmp_lt] at c7
    refine z_iconst (M := M_X2_contradicts) 49 dX2_contradicts_49 ?_
    refine z_goto (M := M_X2_contradicts) 50 dX2_contradicts_50 54 rfl ?_
    exact z_retZ (M := M_X2_contradicts) 54 dX2_contradicts_54 rfl (by omega) ⟨G0, (FR.rf (cs := []) (ss := []) (h := h0)), by omega, by omega, ⟨fun _ => by unfold ctr bd; simp only [ex1, ex2, ex4, ex5, ex3, ex6]; omega, fun _ => rfl⟩⟩
  · rw [m_cmp_lt] at c7
    refine z_lload_n (M := M_X2_contradicts) 28 dX2_contradicts_28 rfl ?_
    refine z_lload (M := M_X2_contradicts) 29 dX2_contradicts_29 rfl ?_
    refine z_lcmp (M := M_X2_contradicts) 31 dX2_contradicts_31 ?_
    refine z_if_ne (M := M_X2_contradicts) 32 dX2_contradicts_32 53 rfl (fun c8 => ?_) (fun c8 => ?_)
    · rw [m_cmp_eq] at c8
      refine z_iconst (M := M_X2_contradicts) 53 dX2_contradicts_53 ?_
      exact z_retZ (M := M_X2_contradicts) 54 dX2_contradicts_54 rfl (by omega) ⟨G0, (FR.rf (cs := []) (ss := []) (h := h0)), by omega, by omega, ⟨fun z => absurd z (by decide), fun z => by unfold ctr bd at z; simp only [ex1, ex2, ex4, ex5, ex3, ex6] at z; omega⟩⟩
    · rw [m_cmp_eq] at c8
      refine z_aload_n (M := M_X2_contradicts) 35 dX2_contradicts_35 rfl ?_
      refine z_getIG (M := M_X2_contradicts) 36 dX2_contradicts_36 f_X2_16 (oB hb) (by decide) (gB hb G0) (fun x9 ex9 ax9 bx9 => ?_)
      refine z_if_ne (M := M_X2_contradicts) 39 dX2_contradicts_39 49 rfl (fun c10 => ?_) (fun c10 => ?_)
      · refine z_iconst (M := M_X2_contradicts) 49 dX2_contradicts_49 ?_
        refine z_goto (M := M_X2_contradicts) 50 dX2_contradicts_50 54 rfl ?_
        exact z_retZ (M := M_X2_contradicts) 54 dX2_contradicts_54 rfl (by omega) ⟨G0, (FR.rf (cs := []) (ss := []) (h := h0)), by omega, by omega, ⟨fun _ => by unfold ctr bd; simp only [ex1, ex2, ex4, ex5, ex3, ex6, ex9]; omega, fun _ => rfl⟩⟩
      · refine z_aload_n (M := M_X2_contradicts) 42 dX2_contradicts_42 rfl ?_
        refine z_getIG (M := M_X2_contradicts) 43 dX2_contradicts_43 f_X2_16 (oB hc) (by decide) (gB hc G0) (fun x11 ex11 ax11 bx11 => ?_)
        refine z_if_eq (M := M_X2_contradicts) 46 dX2_contradicts_46 53 rfl (fun c12 => ?_) (fun c12 => ?_)
        · refine z_iconst (M := M_X2_contradicts) 53 dX2_contradicts_53 ?_
          exact z_retZ (M := M_X2_contradicts) 54 dX2_contradicts_54 rfl (by omega) ⟨G0, (FR.rf (cs := []) (ss := []) (h := h0)), by omega, by omega, ⟨fun z => absurd z (by decide), fun z => by unfold ctr bd at z; simp only [ex1, ex2, ex4, ex5, ex3, ex6, ex9, ex11] at z; omega⟩⟩
        · refine z_iconst (M := M_X2_contradicts) 49 dX2_contradicts_49 ?_
          refine z_goto (M := M_X2_contradicts) 50 dX2_contradicts_50 54 rfl ?_
          exact z_retZ (M := M_X2_contradicts) 54 dX2_contradicts_54 rfl (by omega) ⟨G0, (FR.rf (cs := []) (ss := []) (h := h0)), by omega, by omega, ⟨fun _ => by unfold ctr bd; simp only [ex1, ex2, ex4, ex5, ex3, ex6, ex9, ex11]; omega, fun _ => rfl⟩⟩
