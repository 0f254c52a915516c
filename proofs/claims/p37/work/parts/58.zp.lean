abbrev P_X12_week3 (h0 : m_H) (a1 a2 : Int) : Int → m_H → Prop := fun x h' => GI h' ∧ FR [109, 110] [(108, 0), (108, 1)] h0 h' ∧ mRr (spSet ((0 ≤ a1 ∧ a1 ≤ 31) ∧ (-1 ≤ a2 ∧ a2 ≤ 3)) (10 + a1.toNat) a2) x h0 h' ∧ NPi h0 h'
set_option maxHeartbeats 4000000 in
set_option maxRecDepth 100000 in
theorem c_X12_week3 (h0 : m_H) (a1 a2 : Int) (G0 : GI h0) : m_CI M_X12_week [mR 108, mI a1, mI a2] h0 (P_X12_week3 h0 a1 a2) := by
  refine m_CI_of ⟨by decide, rfl, by simp [m_arg, m_isL, M_X12_week], ⟨rfl, rfl⟩, rfl, rfl⟩ (ls := [some (mR 108), some (mI a1), some (mI a2)]) rfl ?_
  refine z_ok (fun _ _ ok => ?_)
  have oa1 : m_32 a1 := ok 1 _ rfl
  unfold m_32 at oa1
  have oa2 : m_32 a2 := ok 2 _ rfl
  unfold m_32 at oa2
  refine z_aload_n (M := M_X12_week) 0 dX12_week_0 rfl ?_
  refine z_iconst (M := M_X12_week) 1 dX12_week_1 ?_
  refine z_putIH (M := M_X12_week) 2 dX12_week_2 p_X12_133 o_108 rfl (u_108_0 G0) ((FR.rf (cs := [109, 110]) (ss := [(108, 0), (108, 1)]) (h := h0)).up rfl) (fun h1 E1 G1 R1 => ?_)
  refine z_iload_n (M := M_X12_week) 5 dX12_week_5 rfl ?_
  refine z_sI (M := M_X12_week) 6 dX12_week_6 t_X12_isWeek l_X12_156 (m_rr_of rfl) (rest := []) (c_X12_isWeek h1 a1 G1) rfl rfl (Nat.le_of_ble_eq_true rfl) ⟨rfl, rfl⟩ (fun x1 h2 qx1 => ?_)
  obtain ⟨rfl, ⟨rfl, cx1⟩ | ⟨rfl, cx1⟩⟩ := qx1
  · refine z_if_eq_F (M := M_X12_week) 9 dX12_week_9 38 rfl (by omega) ?_
    refine z_iload_n (M := M_X12_week) 12 dX12_week_12 rfl ?_
    refine z_i2l (M := M_X12_week) 13 dX12_week_13 ?_
    refine z_ldc2 (M := M_X12_week) 14 dX12_week_14 k_X12_160 ?_
    refine z_ldc2 (M := M_X12_week) 17 dX12_week_17 k_X12_152 ?_
    refine z_sI (M := M_X12_week) 20 dX12_week_20 t_X12_in l_X12_143 (m_rr_of rfl) (rest := []) (c_X12_in h1 a2 (-1) 3 G1) rfl rfl (Nat.le_of_ble_eq_true rfl) ⟨rfl, rfl⟩ (fun x2 h3 qx2 => ?_)
    obtain ⟨rfl, ⟨rfl, cx2⟩ | ⟨rfl, cx2⟩⟩ := qx2
    · refine z_if_eq_F (M := M_X12_week) 23 dX12_week_23 38 rfl (by omega) ?_
      refine z_aload_n (M := M_X12_week) 26 dX12_week_26 rfl ?_
      refine z_bipush (M := M_X12_week) 27 dX12_week_27 ?_
      refine z_iload_n (M := M_X12_week) 29 dX12_week_29 rfl ?_
      refine z_iaddN (M := M_X12_week) 30 dX12_week_30 (by omega) (by omega) ?_
      refine z_iload_n (M := M_X12_week) 31 dX12_week_31 rfl ?_
      refine z_vI (M := M_X12_week) 32 dX12_week_32 t_X12_change l_X12_162 (m_rr_of rfl) (rest := []) (c_X12_change h1 (10 + a1) a2 G1 ⟨by omega, by omega⟩ (rb_w (by omega) (by omega) (by omega) (by omega))) o_108 rfl rfl rfl (Nat.le_of_ble_eq_true rfl) ⟨rfl, rfl⟩ (fun x3 h4 qx3 => ?_)
      obtain ⟨G4, S4, fx3_0, fx3_1, fx3_2⟩ := qx3
      have R4 := R1.call S4 (by decide +kernel)
      refine z_ok (fun ox3 _ _ => ?_)
      have ox3 := ox3.1; unfold m_ok m_32 at ox3
      refine z_goto (M := M_X12_week) 35 dX12_week_35 43 rfl ?_
      exact z_retI (M := M_X12_week) 43 dX12_week_43 rfl ⟨G4, R4, mR_yes (by omega) E1 (by omega) fx3_0 fx3_1 fx3_2, (NPi.change (NPi.put NPi.rf E1 (by decide)) S4 (fun _ => rfl) (fun _ => rfl) fx3_1 ⟨by omega, fun e => by omega⟩ (by omega))⟩
    · refine z_if_eq_T (M := M_X12_week) 23 dX12_week_23 38 rfl (by omega) ?_
      refine z_aload_n (M := M_X12_week) 38 dX12_week_38 rfl ?_
      refine z_iconst (M := M_X12_week) 39 dX12_week_39 ?_
      refine z_vI (M := M_X12_week) 40 dX12_week_40 t_X12_answer l_X12_147 (m_rr_of rfl) (rest := []) (c_X12_answer h1 (-1) G1 ⟨by omega, by omega⟩) o_108 rfl rfl rfl (Nat.le_of_ble_eq_true rfl) ⟨rfl, rfl⟩ (fun x4 h5 qx4 => ?_)
      obtain ⟨G5, S5, rfl⟩ := qx4
      have R5 := R1.call S5 (by decide +kernel)
      exact z_retI (M := M_X12_week) 43 dX12_week_43 rfl ⟨G5, R5, mR_no (by omega) E1 S5 (fun _ => rfl), (NPi.call (NPi.put NPi.rf E1 (by decide)) S5 (fun _ => rfl) (fun _ => rfl) (fun _ => rfl))⟩
  · refine z_if_eq_T (M := M_X12_week) 9 dX12_week_9 38 rfl (by omega) ?_
    refine z_aload_n (M := M_X12_week) 38 dX12_week_38 rfl ?_
    refine z_iconst (M := M_X12_week) 39 dX12_week_39 ?_
    refine z_vI (M := M_X12_week) 40 dX12_week_40 t_X12_answer l_X12_147 (m_rr_of rfl) (rest := []) (c_X12_answer h1 (-1) G1 ⟨by omega, by omega⟩) o_108 rfl rfl rfl (Nat.le_of_ble_eq_true rfl) ⟨rfl, rfl⟩ (fun x5 h6 qx5 => ?_)
    obtain ⟨G6, S6, rfl⟩ := qx5
    have R6 := R1.call S6 (by decide +kernel)
    exact z_retI (M := M_X12_week) 43 dX12_week_43 rfl ⟨G6, R6, mR_no (by omega) E1 S6 (fun _ => rfl), (NPi.call (NPi.put NPi.rf E1 (by decide)) S6 (fun _ => rfl) (fun _ => rfl) (fun _ => rfl))⟩
abbrev P_X12_cut3 (h0 : m_H) (a1 a2 : Int) : Int → m_H → Prop := fun x h' => GI h' ∧ FR [109, 110] [(108, 0), (108, 1)] h0 h' ∧ mRr (spSet ((0 ≤ a1 ∧ a1 ≤ 5) ∧ (a2 = -1 ∨ (1 ≤ a2 ∧ a2 ≤ 31))) (42 + a1.toNat) a2) x h0 h' ∧ NPi h0 h'
set_option maxHeartbeats 4000000 in
set_option maxRecDepth 100000 in
theorem c_X12_cut3 (h0 : m_H) (a1 a2 : Int) (G0 : GI h0) : m_CI M_X12_cut [mR 108, mI a1, mI a2] h0 (P_X12_cut3 h0 a1 a2) := by
  refine m_CI_of ⟨by decide, rfl, by simp [m_arg, m_isL, M_X12_cut], ⟨rfl, rfl⟩, rfl, rfl⟩ (ls := [some (mR 108), some (mI a1), some (mI a2)]) rfl ?_
  refine z_ok (fun _ _ ok => ?_)
  have oa1 : m_32 a1 := ok 1 _ rfl
  unfold m_32 at oa1
  have oa2 : m_32 a2 := ok 2 _ rfl
  unfold m_32 at oa2
  refine z_aload_n (M := M_X12_cut) 0 dX12_cut_0 rfl ?_
  refine z_iconst (M := M_X12_cut) 1 dX12_cut_1 ?_
  refine z_putIH (M := M_X12_cut) 2 dX12_cut_2 p_X12_133 o_108 rfl (u_108_0 G0) ((FR.rf (cs := [109, 110]) (ss := [(108, 0), (108, 1)]) (h := h0)).up rfl) (fun h1 E1 G1 R1 => ?_)
  refine z_iload_n (M := M_X12_cut) 5 dX12_cut_5 rfl ?_
  refine z_sI (M := M_X12_cut) 6 dX12_cut_6 t_X12_isThing l_X12_166 (m_rr_of rfl) (rest := []) (c_X12_isThing h1 a1 G1) rfl rfl (Nat.le_of_ble_eq_true rfl) ⟨rfl, rfl⟩ (fun x1 h2 qx1 => ?_)
  obtain ⟨rfl, ⟨rfl, cx1⟩ | ⟨rfl, cx1⟩⟩ := qx1
  · refine z_if_eq_F (M := M_X12_cut) 9 dX12_cut_9 41 rfl (by omega) ?_
    refine z_iload_n (M := M_X12_cut) 12 dX12_cut_12 rfl ?_
    refine z_iconst (M := M_X12_cut) 13 dX12_cut_13 ?_
    refine z_icmp_eq (M := M_X12_cut) 14 dX12_cut_14 29 rfl (fun c2 => ?_) (fun c2 => ?_)
    · refine z_aload_n (M := M_X12_cut) 29 dX12_cut_29 rfl ?_
      refine z_bipush (M := M_X12_cut) 30 dX12_cut_30 ?_
      refine z_iload_n (M := M_X12_cut) 32 dX12_cut_32 rfl ?_
      refine z_iaddN (M := M_X12_cut) 33 dX12_cut_33 (by omega) (by omega) ?_
      refine z_iload_n (M := M_X12_cut) 34 dX12_cut_34 rfl ?_
      refine z_vI (M := M_X12_cut) 35 dX12_cut_35 t_X12_change l_X12_162 (m_rr_of rfl) (rest := []) (c_X12_change h1 (42 + a1) a2 G1 ⟨by omega, by omega⟩ (rb_c (by omega) (by omega) (by omega) (by omega))) o_108 rfl rfl rfl (Nat.le_of_ble_eq_true rfl) ⟨rfl, rfl⟩ (fun x3 h3 qx3 => ?_)
      obtain ⟨G3, S3, fx3_0, fx3_1, fx3_2⟩ := qx3
      have R3 := R1.call S3 (by decide +kernel)
      refine z_ok (fun ox3 _ _ => ?_)
      have ox3 := ox3.1; unfold m_ok m_32 at ox3
      refine z_goto (M := M_X12_cut) 38 dX12_cut_38 46 rfl ?_
      exact z_retI (M := M_X12_cut) 46 dX12_cut_46 rfl ⟨G3, R3, mR_yes (by omega) E1 (by omega) fx3_0 fx3_1 fx3_2, (NPi.change (NPi.put NPi.rf E1 (by decide)) S3 (fun _ => rfl) (fun _ => rfl) fx3_1 ⟨by omega, fun e => by omega⟩ (by omega))⟩
    · refine z_iload_n (M := M_X12_cut) 17 dX12_cut_17 rfl ?_
      refine z_i2l (M := M_X12_cut) 18 dX12_cut_18 ?_
      refine z_lconst (M := M_X12_cut) 19 dX12_cut_19 (v := 1) ?_
      refine z_ldc2 (M := M_X12_cut) 20 dX12_cut_20 k_X12_154 ?_
      refine z_sI (M := M_X12_cut) 23 dX12_cut_23 t_X12_in l_X12_143 (m_rr_of rfl) (rest := []) (c_X12_in h1 a2 1 31 G1) rfl rfl (Nat.le_of_ble_eq_true rfl) ⟨rfl, rfl⟩ (fun x4 h4 qx4 => ?_)
      obtain ⟨rfl, ⟨rfl, cx4⟩ | ⟨rfl, cx4⟩⟩ := qx4
      · refine z_if_eq_F (M := M_X12_cut) 26 dX12_cut_26 41 rfl (by omega) ?_
        refine z_aload_n (M := M_X12_cut) 29 dX12_cut_29 rfl ?_
        refine z_bipush (M := M_X12_cut) 30 dX12_cut_30 ?_
        refine z_iload_n (M := M_X12_cut) 32 dX12_cut_32 rfl ?_
        refine z_iaddN (M := M_X12_cut) 33 dX12_cut_33 (by omega) (by omega) ?_
        refine z_iload_n (M := M_X12_cut) 34 dX12_cut_34 rfl ?_
        refine z_vI (M := M_X12_cut) 35 dX12_cut_35 t_X12_change l_X12_162 (m_rr_of rfl) (rest := []) (c_X12_change h1 (42 + a1) a2 G1 ⟨by omega, by omega⟩ (rb_c (by omega) (by omega) (by omega) (by omega))) o_108 rfl rfl rfl (Nat.le_of_ble_eq_true rfl) ⟨rfl, rfl⟩ (fun x5 h5 qx5 => ?_)
        obtain ⟨G5, S5, fx5_0, fx5_1, fx5_2⟩ := qx5
        have R5 := R1.call S5 (by decide +kernel)
        refine z_ok (fun ox5 _ _ => ?_)
        have ox5 := ox5.1; unfold m_ok m_32 at ox5
        refine z_goto (M := M_X12_cut) 38 dX12_cut_38 46 rfl ?_
        exact z_retI (M := M_X12_cut) 46 dX12_cut_46 rfl ⟨G5, R5, mR_yes (by omega) E1 (by omega) fx5_0 fx5_1 fx5_2, (NPi.change (NPi.put NPi.rf E1 (by decide)) S5 (fun _ => rfl) (fun _ => rfl) fx5_1 ⟨by omega, fun e => by omega⟩ (by omega))⟩
      · refine z_if_eq_T (M := M_X12_cut) 26 dX12_cut_26 41 rfl (by omega) ?_
        refine z_aload_n (M := M_X12_cut) 41 dX12_cut_41 rfl ?_
        refine z_iconst (M := M_X12_cut) 42 dX12_cut_42 ?_
        refine z_vI (M := M_X12_cut) 43 dX12_cut_43 t_X12_answer l_X12_147 (m_rr_of rfl) (rest := []) (c_X12_answer h1 (-1) G1 ⟨by omega, by omega⟩) o_108 rfl rfl rfl (Nat.le_of_ble_eq_true rfl) ⟨rfl, rfl⟩ (fun x6 h6 qx6 => ?_)
        obtain ⟨G6, S6, rfl⟩ := qx6
        have R6 := R1.call S6 (by decide +kernel)
        exact z_retI (M := M_X12_cut) 46 dX12_cut_46 rfl ⟨G6, R6, mR_no (by omega) E1 S6 (fun _ => rfl), (NPi.call (NPi.put NPi.rf E1 (by decide)) S6 (fun _ => rfl) (fun _ => rfl) (fun _ => rfl))⟩
  · refine z_if_eq_T (M := M_X12_cut) 9 dX12_cut_9 41 rfl (by omega) ?_
    refine z_aload_n (M := M_X12_cut) 41 dX12_cut_41 rfl ?_
    refine z_iconst (M := M_X12_cut) 42 dX12_cut_42 ?_
    refine z_vI (M := M_X12_cut) 43 dX12_cut_43 t_X12_answer l_X12_147 (m_rr_of rfl) (rest := []) (c_X12_answer h1 (-1) G1 ⟨by omega, by omega⟩) o_108 rfl rfl rfl (Nat.le_of_ble_eq_true rfl) ⟨rfl, rfl⟩ (fun x7 h7 qx7 => ?_)
    obtain ⟨G7, S7, rfl⟩ := qx7
    have R7 := R1.call S7 (by decide +kernel)
    exact z_retI (M := M_X12_cut) 46 dX12_cut_46 rfl ⟨G7, R7, mR_no (by omega) E1 S7 (fun _ => rfl), (NPi.call (NPi.put NPi.rf E1 (by decide)) S7 (fun _ => rfl) (fun _ => rfl) (fun _ => rfl))⟩
abbrev P_X12_tell3 (h0 : m_H) (a1 a2 : Int) : Int → m_H → Prop := fun x h' => GI h' ∧ FR [109, 110] [(108, 0), (108, 1)] h0 h' ∧ mRr (spSet ((0 ≤ a1 ∧ a1 ≤ 15) ∧ (1 ≤ a2 ∧ a2 ≤ 9999)) (60 + a1.toNat) a2) x h0 h' ∧ NQi h0 h'
set_option maxHeartbeats 4000000 in
set_option maxRecDepth 100000 in
theorem c_X12_tell3 (h0 : m_H) (a1 a2 : Int) (G0 : GI h0) : m_CI M_X12_tell [mR 108, mI a1, mI a2] h0 (P_X12_tell3 h0 a1 a2) := by
  refine m_CI_of ⟨by decide, rfl, by simp [m_arg, m_isL, M_X12_tell], ⟨rfl, rfl⟩, rfl, rfl⟩ (ls := [some (mR 108), some (mI a1), some (mI a2)]) rfl ?_
  refine z_ok (fun _ _ ok => ?_)
  have oa1 : m_32 a1 := ok 1 _ rfl
  unfold m_32 at oa1
  have oa2 : m_32 a2 := ok 2 _ rfl
  unfold m_32 at oa2
  refine z_aload_n (M := M_X12_tell) 0 dX12_tell_0 rfl ?_
  refine z_iconst (M := M_X12_tell) 1 dX12_tell_1 ?_
  refine z_putIH (M := M_X12_tell) 2 dX12_tell_2 p_X12_133 o_108 rfl (u_108_0 G0) ((FR.rf (cs := [109, 110]) (ss := [(108, 0), (108, 1)]) (h := h0)).up rfl) (fun h1 E1 G1 R1 => ?_)
  refine z_iload_n (M := M_X12_tell) 5 dX12_tell_5 rfl ?_
  refine z_i2l (M := M_X12_tell) 6 dX12_tell_6 ?_
  refine z_lconst (M := M_X12_tell) 7 dX12_tell_7 (v := 0) ?_
  refine z_ldc2 (M := M_X12_tell) 8 dX12_tell_8 k_X12_381 ?_
  refine z_sI (M := M_X12_tell) 11 dX12_tell_11 t_X12_in l_X12_143 (m_rr_of rfl) (rest := []) (c_X12_in h1 a1 0 15 G1) rfl rfl (Nat.le_of_ble_eq_true rfl) ⟨rfl, rfl⟩ (fun x1 h2 qx1 => ?_)
  obtain ⟨rfl, ⟨rfl, cx1⟩ | ⟨rfl, cx1⟩⟩ := qx1
  · refine z_if_eq_F (M := M_X12_tell) 14 dX12_tell_14 41 rfl (by omega) ?_
    refine z_iload_n (M := M_X12_tell) 17 dX12_tell_17 rfl ?_
    refine z_i2l (M := M_X12_tell) 18 dX12_tell_18 ?_
    refine z_lconst (M := M_X12_tell) 19 dX12_tell_19 (v := 1) ?_
    refine z_ldc2 (M := M_X12_tell) 20 dX12_tell_20 k_X12_499 ?_
    refine z_sI (M := M_X12_tell) 23 dX12_tell_23 t_X12_in l_X12_143 (m_rr_of rfl) (rest := []) (c_X12_in h1 a2 1 9999 G1) rfl rfl (Nat.le_of_ble_eq_true rfl) ⟨rfl, rfl⟩ (fun x2 h3 qx2 => ?_)
    obtain ⟨rfl, ⟨rfl, cx2⟩ | ⟨rfl, cx2⟩⟩ := qx2
    · refine z_if_eq_F (M := M_X12_tell) 26 dX12_tell_26 41 rfl (by omega) ?_
      refine z_aload_n (M := M_X12_tell) 29 dX12_tell_29 rfl ?_
      refine z_bipush (M := M_X12_tell) 30 dX12_tell_30 ?_
      refine z_iload_n (M := M_X12_tell) 32 dX12_tell_32 rfl ?_
      refine z_iaddN (M := M_X12_tell) 33 dX12_tell_33 (by omega) (by omega) ?_
      refine z_iload_n (M := M_X12_tell) 34 dX12_tell_34 rfl ?_
      refine z_vI (M := M_X12_tell) 35 dX12_tell_35 t_X12_change l_X12_162 (m_rr_of rfl) (rest := []) (c_X12_change h1 (60 + a1) a2 G1 ⟨by omega, by omega⟩ (rb_l (by omega) (by omega) (by omega) (by omega))) o_108 rfl rfl rfl (Nat.le_of_ble_eq_true rfl) ⟨rfl, rfl⟩ (fun x3 h4 qx3 => ?_)
      obtain ⟨G4, S4, fx3_0, fx3_1, fx3_2⟩ := qx3
      have R4 := R1.call S4 (by decide +kernel)
      refine z_ok (fun ox3 _ _ => ?_)
      have ox3 := ox3.1; unfold m_ok m_32 at ox3
      refine z_goto (M := M_X12_tell) 38 dX12_tell_38 46 rfl ?_
      exact z_retI (M := M_X12_tell) 46 dX12_tell_46 rfl ⟨G4, R4, mR_yes (by omega) E1 (by omega) fx3_0 fx3_1 fx3_2, (NQi.change (NQi.put NQi.rf E1 (by decide)) S4 (fun _ => rfl) (fun _ => rfl) fx3_1 ⟨by omega, fun e => by omega⟩)⟩
    · refine z_if_eq_T (M := M_X12_tell) 26 dX12_tell_26 41 rfl (by omega) ?_
      refine z_aload_n (M := M_X12_tell) 41 dX12_tell_41 rfl ?_
      refine z_iconst (M := M_X12_tell) 42 dX12_tell_42 ?_
      refine z_vI (M := M_X12_tell) 43 dX12_tell_43 t_X12_answer l_X12_147 (m_rr_of rfl) (rest := []) (c_X12_answer h1 (-1) G1 ⟨by omega, by omega⟩) o_108 rfl rfl rfl (Nat.le_of_ble_eq_true rfl) ⟨rfl, rfl⟩ (fun x4 h5 qx4 => ?_)
      obtain ⟨G5, S5, rfl⟩ := qx4
      have R5 := R1.call S5 (by decide +kernel)
      exact z_retI (M := M_X12_tell) 46 dX12_tell_46 rfl ⟨G5, R5, mR_no (by omega) E1 S5 (fun _ => rfl), (NQi.call (NQi.put NQi.rf E1 (by decide)) S5 (fun _ => rfl) (fun _ => rfl) (fun _ => rfl))⟩
  · refine z_if_eq_T (M := M_X12_tell) 14 dX12_tell_14 41 rfl (by omega) ?_
    refine z_aload_n (M := M_X12_tell) 41 dX12_tell_41 rfl ?_
    refine z_iconst (M := M_X12_tell) 42 dX12_tell_42 ?_
    refine z_vI (M := M_X12_tell) 43 dX12_tell_43 t_X12_answer l_X12_147 (m_rr_of rfl) (rest := []) (c_X12_answer h1 (-1) G1 ⟨by omega, by omega⟩) o_108 rfl rfl rfl (Nat.le_of_ble_eq_true rfl) ⟨rfl, rfl⟩ (fun x5 h6 qx5 => ?_)
    obtain ⟨G6, S6, rfl⟩ := qx5
    have R6 := R1.call S6 (by decide +kernel)
    exact z_retI (M := M_X12_tell) 46 dX12_tell_46 rfl ⟨G6, R6, mR_no (by omega) E1 S6 (fun _ => rfl), (NQi.call (NQi.put NQi.rf E1 (by decide)) S6 (fun _ => rfl) (fun _ => rfl) (fun _ => rfl))⟩
abbrev P_X12_counts3 (h0 : m_H) (a1 a2 : Int) : Int → m_H → Prop := fun x h' => GI h' ∧ FR [109, 110] [(108, 0), (108, 1)] h0 h' ∧ h' 110 = spCount a1 a2 (h0 110) ∧ NPi h0 h'
set_option maxHeartbeats 4000000 in
set_option maxRecDepth 100000 in
theorem c_X12_counts3 (h0 : m_H) (a1 a2 : Int) (G0 : GI h0) : m_CI M_X12_counts [mR 108, mI a1, mI a2] h0 (P_X12_counts3 h0 a1 a2) := by
  refine m_CI_of ⟨by decide, rfl, by simp [m_arg, m_isL, M_X12_counts], ⟨rfl, rfl⟩, rfl, rfl⟩ (ls := [some (mR 108), some (mI a1), some (mI a2)]) rfl ?_
  refine z_ok (fun _ _ ok => ?_)
  have oa1 : m_32 a1 := ok 1 _ rfl
  unfold m_32 at oa1
  have oa2 : m_32 a2 := ok 2 _ rfl
  unfold m_32 at oa2
  refine z_aload_n (M := M_X12_counts) 0 dX12_counts_0 rfl ?_
  refine z_iconst (M := M_X12_counts) 1 dX12_counts_1 ?_
  refine z_putIH (M := M_X12_counts) 2 dX12_counts_2 p_X12_133 o_108 rfl (u_108_0 G0) ((FR.rf (cs := [109, 110]) (ss := [(108, 0), (108, 1)]) (h := h0)).up rfl) (fun h1 E1 G1 R1 => ?_)
  have r0_ : h1 110 (Int.toNat 0) = h0 110 (Int.toNat 0) := tl_o E1 (by decide) _
  have q0_ : h0 110 (Int.toNat 0) = h0 110 0 := rfl
  refine z_iload_n (M := M_X12_counts) 5 dX12_counts_5 rfl ?_
  refine z_i2l (M := M_X12_counts) 6 dX12_counts_6 ?_
  refine z_lconst (M := M_X12_counts) 7 dX12_counts_7 (v := 0) ?_
  refine z_lconst (M := M_X12_counts) 8 dX12_counts_8 (v := 1) ?_
  refine z_sI (M := M_X12_counts) 9 dX12_counts_9 t_X12_in l_X12_143 (m_rr_of rfl) (rest := []) (c_X12_in h1 a2 0 1 G1) rfl rfl (Nat.le_of_ble_eq_true rfl) ⟨rfl, rfl⟩ (fun x1 h2 qx1 => ?_)
  obtain ⟨rfl, ⟨rfl, cx1⟩ | ⟨rfl, cx1⟩⟩ := qx1
  · refine z_if_ne_T (M := M_X12_counts) 12 dX12_counts_12 21 rfl (by omega) ?_
    refine z_aload_n (M := M_X12_counts) 21 dX12_counts_21 rfl ?_
    refine z_iload_n (M := M_X12_counts) 22 dX12_counts_22 rfl ?_
    refine z_vI (M := M_X12_counts) 23 dX12_counts_23 t_X12_isEntry l_X12_192 (m_rr_of rfl) (rest := []) (c_X12_isEntry h1 a1 G1) o_108 rfl rfl rfl (Nat.le_of_ble_eq_true rfl) ⟨rfl, rfl⟩ (fun x2 h3 qx2 => ?_)
    obtain ⟨rfl, ⟨rfl, cx2⟩ | ⟨rfl, cx2⟩⟩ := qx2
    · refine z_if_eq_F (M := M_X12_counts) 26 dX12_counts_26 45 rfl (by omega) ?_
      refine z_aload_n (M := M_X12_counts) 29 dX12_counts_29 rfl ?_
      refine z_bipush (M := M_X12_counts) 30 dX12_counts_30 ?_
      refine z_iconst (M := M_X12_counts) 32 dX12_counts_32 ?_
      refine z_iload_n (M := M_X12_counts) 33 dX12_counts_33 rfl ?_
      refine z_imulN (M := M_X12_counts) 34 dX12_counts_34 (by omega) (by omega) ?_
      refine z_iaddN (M := M_X12_counts) 35 dX12_counts_35 (by omega) (by omega) ?_
      refine z_iconst (M := M_X12_counts) 36 dX12_counts_36 ?_
      refine z_iaddN (M := M_X12_counts) 37 dX12_counts_37 (by omega) (by omega) ?_
      refine z_iload_n (M := M_X12_counts) 38 dX12_counts_38 rfl ?_
      refine z_vI (M := M_X12_counts) 39 dX12_counts_39 t_X12_change l_X12_162 (m_rr_of rfl) (rest := []) (c_X12_change h1 ((80 + (5 * a1)) + 4) a2 G1 ⟨by omega, by omega⟩ (rb_e4 (e := a1) (by omega) (by omega) (by omega) (by omega) (by omega))) o_108 rfl rfl rfl (Nat.le_of_ble_eq_true rfl) ⟨rfl, rfl⟩ (fun x3 h4 qx3 => ?_)
      obtain ⟨G4, S4, fx3_0, fx3_1, fx3_2⟩ := qx3
      have R4 := R1.call S4 (by decide +kernel)
      refine z_ok (fun ox3 _ _ => ?_)
      have ox3 := ox3.1; unfold m_ok m_32 at ox3
      refine z_goto (M := M_X12_counts) 42 dX12_counts_42 51 rfl ?_
      have g0_ := gw_0 G0
      exact z_retI (M := M_X12_counts) 51 dX12_counts_51 rfl ⟨G4, R4, by unfold spCount; rw [cif_pos ⟨⟨by omega, by omega⟩, ⟨by omega, by omega⟩⟩]; exact (mR_yes (V := True) (i := 5 * a1.toNat + 84) trivial E1 (by omega) fx3_0 fx3_1 fx3_2).2.trans (by unfold spSet; rw [cif_pos trivial]), (NPi.change (NPi.put NPi.rf E1 (by decide)) S4 (fun _ => rfl) (fun _ => rfl) fx3_1 ⟨by omega, fun e => by omega⟩ (by omega))⟩
    · refine z_if_eq_T (M := M_X12_counts) 26 dX12_counts_26 45 rfl (by omega) ?_
      refine z_aload_n (M := M_X12_counts) 45 dX12_counts_45 rfl ?_
      refine z_bipush (M := M_X12_counts) 46 dX12_counts_46 ?_
      refine z_vI (M := M_X12_counts) 48 dX12_counts_48 t_X12_answer l_X12_147 (m_rr_of rfl) (rest := []) (c_X12_answer h1 (-2) G1 ⟨by omega, by omega⟩) o_108 rfl rfl rfl (Nat.le_of_ble_eq_true rfl) ⟨rfl, rfl⟩ (fun x4 h5 qx4 => ?_)
      obtain ⟨G5, S5, rfl⟩ := qx4
      have R5 := R1.call S5 (by decide +kernel)
      have g0_ := gw_0 G0
      exact z_retI (M := M_X12_counts) 51 dX12_counts_51 rfl ⟨G5, R5, by unfold spCount; rw [cif_neg (fun z => by have z1 := z.1; have z2 := z.2; omega)]; exact (rowz S5 (fun _ => rfl)).trans (tl_r E1 (by decide)), (NPi.call (NPi.put NPi.rf E1 (by decide)) S5 (fun _ => rfl) (fun _ => rfl) (fun _ => rfl))⟩
  · refine z_if_ne_F (M := M_X12_counts) 12 dX12_counts_12 21 rfl (by omega) ?_
    refine z_aload_n (M := M_X12_counts) 15 dX12_counts_15 rfl ?_
    refine z_iconst (M := M_X12_counts) 16 dX12_counts_16 ?_
    refine z_vI (M := M_X12_counts) 17 dX12_counts_17 t_X12_answer l_X12_147 (m_rr_of rfl) (rest := []) (c_X12_answer h1 (-1) G1 ⟨by omega, by omega⟩) o_108 rfl rfl rfl (Nat.le_of_ble_eq_true rfl) ⟨rfl, rfl⟩ (fun x5 h6 qx5 => ?_)
    obtain ⟨G6, S6, rfl⟩ := qx5
    have R6 := R1.call S6 (by decide +kernel)
    have g0_ := gw_0 G0
    exact z_retI (M := M_X12_counts) 20 dX12_counts_20 rfl ⟨G6, R6, by unfold spCount; rw [cif_neg (fun z => by have z1 := z.1; have z2 := z.2; omega)]; exact (rowz S6 (fun _ => rfl)).trans (tl_r E1 (by decide)), (NPi.call (NPi.put NPi.rf E1 (by decide)) S6 (fun _ => rfl) (fun _ => rfl) (fun _ => rfl))⟩
abbrev P_X12_shorter3 (h0 : m_H) (a1 a2 : Int) : Int → m_H → Prop := fun x h' => GI h' ∧ FR [109, 110] [(108, 0), (108, 1)] h0 h' ∧ mRr (spShort a1 a2) x h0 h' ∧ NPi h0 h'
set_option maxHeartbeats 4000000 in
set_option maxRecDepth 100000 in
theorem c_X12_shorter3 (h0 : m_H) (a1 a2 : Int) (G0 : GI h0) : m_CI M_X12_shorter [mR 108, mI a1, mI a2] h0 (P_X12_shorter3 h0 a1 a2) := by
  refine m_CI_of ⟨by decide, rfl, by simp [m_arg, m_isL, M_X12_shorter], ⟨rfl, rfl⟩, rfl, rfl⟩ (ls := [some (mR 108), some (mI a1), some (mI a2)]) rfl ?_
  refine z_ok (fun _ _ ok => ?_)
  have oa1 : m_32 a1 := ok 1 _ rfl
  unfold m_32 at oa1
  have oa2 : m_32 a2 := ok 2 _ rfl
  unfold m_32 at oa2
  refine z_aload_n (M := M_X12_shorter) 0 dX12_shorter_0 rfl ?_
  refine z_iconst (M := M_X12_shorter) 1 dX12_shorter_1 ?_
  refine z_putIH (M := M_X12_shorter) 2 dX12_shorter_2 p_X12_133 o_108 rfl (u_108_0 G0) ((FR.rf (cs := [109, 110]) (ss := [(108, 0), (108, 1)]) (h := h0)).up rfl) (fun h1 E1 G1 R1 => ?_)
  have row_ : h1 110 = h0 110 := tl_r E1 (by decide)
  refine z_iload_n (M := M_X12_shorter) 5 dX12_shorter_5 rfl ?_
  refine z_sI (M := M_X12_shorter) 6 dX12_shorter_6 t_X12_isKeeper l_X12_169 (m_rr_of rfl) (rest := []) (c_X12_isKeeper h1 a1 G1) rfl rfl (Nat.le_of_ble_eq_true rfl) ⟨rfl, rfl⟩ (fun x1 h2 qx1 => ?_)
  obtain ⟨rfl, ⟨rfl, cx1⟩ | ⟨rfl, cx1⟩⟩ := qx1
  · refine z_if_eq_F (M := M_X12_shorter) 9 dX12_shorter_9 24 rfl (by omega) ?_
    refine z_iload_n (M := M_X12_shorter) 12 dX12_shorter_12 rfl ?_
    refine z_sI (M := M_X12_shorter) 13 dX12_shorter_13 t_X12_isKeeper l_X12_169 (m_rr_of rfl) (rest := []) (c_X12_isKeeper h1 a2 G1) rfl rfl (Nat.le_of_ble_eq_true rfl) ⟨rfl, rfl⟩ (fun x2 h3 qx2 => ?_)
    obtain ⟨rfl, ⟨rfl, cx2⟩ | ⟨rfl, cx2⟩⟩ := qx2
    · refine z_if_eq_F (M := M_X12_shorter) 16 dX12_shorter_16 24 rfl (by omega) ?_
      refine z_iload_n (M := M_X12_shorter) 19 dX12_shorter_19 rfl ?_
      refine z_iload_n (M := M_X12_shorter) 20 dX12_shorter_20 rfl ?_
      refine z_icmp_ne (M := M_X12_shorter) 21 dX12_shorter_21 30 rfl (fun c3 => ?_) (fun c3 => ?_)
      · refine z_aload_n (M := M_X12_shorter) 30 dX12_shorter_30 rfl ?_
        refine z_iload_n (M := M_X12_shorter) 31 dX12_shorter_31 rfl ?_
        refine z_iload_n (M := M_X12_shorter) 32 dX12_shorter_32 rfl ?_
        refine z_vI (M := M_X12_shorter) 33 dX12_shorter_33 t_X12_isShorter l_X12_172 (m_rr_of rfl) (rest := []) (c_X12_isShorter2 h1 a1 a2 G1) o_108 rfl rfl rfl (Nat.le_of_ble_eq_true rfl) ⟨rfl, rfl⟩ (fun x4 h4 qx4 => ?_)
        obtain ⟨G4, S4, ax4, bx4, fx4_0⟩ := qx4
        have R4 := R1.call S4 (by decide +kernel)
        refine z_if_eq (M := M_X12_shorter) 36 dX12_shorter_36 46 rfl (fun c5 => ?_) (fun c5 => ?_)
        · refine z_aload_n (M := M_X12_shorter) 46 dX12_shorter_46 rfl ?_
          refine z_getR (M := M_X12_shorter) 47 dX12_shorter_47 f_X12_13 o_108 rfl (g_108_3 G4) ?_
          refine z_iconst (M := M_X12_shorter) 50 dX12_shorter_50 ?_
          refine z_ialdG (M := M_X12_shorter) 51 dX12_shorter_51 o_110 (by omega) (by omega) (gw_1 G4) (fun x6 ex6 ax6 bx6 => ?_)
          refine z_bipush (M := M_X12_shorter) 52 dX12_shorter_52 ?_
          refine z_icmp_ne (M := M_X12_shorter) 54 dX12_shorter_54 64 rfl (fun c7 => ?_) (fun c7 => ?_)
          · refine z_aload_n (M := M_X12_shorter) 64 dX12_shorter_64 rfl ?_
            refine z_iload_n (M := M_X12_shorter) 65 dX12_shorter_65 rfl ?_
            refine z_iload_n (M := M_X12_shorter) 66 dX12_shorter_66 rfl ?_
            refine z_vV (M := M_X12_shorter) 67 dX12_shorter_67 t_X12_addShorter l_X12_176 (m_rr_of rfl) (rest := []) (c_X12_addShorter2 h4 a1 a2 G4 ⟨by omega, by omega⟩ ⟨by omega, by omega⟩ (le_e ex6 (by omega))) o_108 rfl rfl rfl (Nat.le_of_ble_eq_true rfl) ⟨rfl, rfl⟩ (fun h5 qx8 => ?_)
            obtain ⟨G5, S5, fx8_0, fx8_1, fx8_2, npx8⟩ := qx8
            have R5 := R4.call S5 (by decide +kernel)
            refine z_aload_n (M := M_X12_shorter) 70 dX12_shorter_70 rfl ?_
            refine z_aload_n (M := M_X12_shorter) 71 dX12_shorter_71 rfl ?_
            refine z_getR (M := M_X12_shorter) 72 dX12_shorter_72 f_X12_13 o_108 rfl (g_108_3 G5) ?_
            refine z_iconst (M := M_X12_shorter) 75 dX12_shorter_75 ?_
            refine z_ialdE (M := M_X12_shorter) 76 dX12_shorter_76 o_110 (by omega) (by omega) (eq_ad fx8_1 ex6) ?_
            refine z_vI (M := M_X12_shorter) 77 dX12_shorter_77 t_X12_answer l_X12_147 (m_rr_of rfl) (rest := []) (c_X12_answer h5 (x6 + 1) G5 ⟨by omega, by omega⟩) o_108 rfl rfl rfl (Nat.le_of_ble_eq_true rfl) ⟨rfl, rfl⟩ (fun x9 h6 qx9 => ?_)
            obtain ⟨G6, S6, rfl⟩ := qx9
            have R6 := R5.call S6 (by decide +kernel)
            have is_ : x4 = 1 ↔ iS (h0 110) a1 a2 := by rw [← row_]; exact fx4_0
            have rh_ : h4 110 = h0 110 := (rowz S4 (fun _ => rfl)).trans row_
            have e1_ : h0 110 1 = x6 := (congrFun rh_ 1).symm.trans ex6
            have ra_ : h5 110 = rS (h0 110) a1 a2 := fx8_2.trans (by rw [rh_])
            have e2_ : h5 110 1 = h0 110 1 + 1 := congrFun ra_ 1
            have e3_ : h5 110 1 = (x6 + 1) := (eq_ad fx8_1 ex6)
            exact z_retI (M := M_X12_shorter) 80 dX12_shorter_80 rfl ⟨G6, R6, ⟨by unfold spShort; rw [cif_pos (by omega), cif_neg (fun z => by have := is_.mpr z; omega), cif_pos (by omega)]; show (x6 + 1) = h0 110 1 + 1; omega, by unfold spShort; rw [cif_pos (by omega), cif_neg (fun z => by have := is_.mpr z; omega), cif_pos (by omega)]; exact (rowz S6 (fun _ => rfl)).trans ra_⟩, (NPi.call (NPi.tr (NPi.call (NPi.put NPi.rf E1 (by decide)) S4 (fun _ => rfl) (fun _ => rfl) (fun _ => rfl)) npx8) S6 (fun _ => rfl) (fun _ => rfl) (fun _ => rfl))⟩
          · refine z_aload_n (M := M_X12_shorter) 57 dX12_shorter_57 rfl ?_
            refine z_bipush (M := M_X12_shorter) 58 dX12_shorter_58 ?_
            refine z_vI (M := M_X12_shorter) 60 dX12_shorter_60 t_X12_answer l_X12_147 (m_rr_of rfl) (rest := []) (c_X12_answer h4 (-5) G4 ⟨by omega, by omega⟩) o_108 rfl rfl rfl (Nat.le_of_ble_eq_true rfl) ⟨rfl, rfl⟩ (fun x10 h7 qx10 => ?_)
            obtain ⟨G7, S7, rfl⟩ := qx10
            have R7 := R4.call S7 (by decide +kernel)
            have is_ : x4 = 1 ↔ iS (h0 110) a1 a2 := by rw [← row_]; exact fx4_0
            have rh_ : h4 110 = h0 110 := (rowz S4 (fun _ => rfl)).trans row_
            have e1_ : h0 110 1 = x6 := (congrFun rh_ 1).symm.trans ex6
            exact z_retI (M := M_X12_shorter) 63 dX12_shorter_63 rfl ⟨G7, R7, ⟨by unfold spShort; rw [cif_pos (by omega), cif_neg (fun z => by have := is_.mpr z; omega), cif_neg (by omega)], by unfold spShort; rw [cif_pos (by omega), cif_neg (fun z => by have := is_.mpr z; omega), cif_neg (by omega)]; exact (rowz S7 (fun _ => rfl)).trans rh_⟩, (NPi.call (NPi.call (NPi.put NPi.rf E1 (by decide)) S4 (fun _ => rfl) (fun _ => rfl) (fun _ => rfl)) S7 (fun _ => rfl) (fun _ => rfl) (fun _ => rfl))⟩
        · refine z_aload_n (M := M_X12_shorter) 39 dX12_shorter_39 rfl ?_
          refine z_bipush (M := M_X12_shorter) 40 dX12_shorter_40 ?_
          refine z_vI (M := M_X12_shorter) 42 dX12_shorter_42 t_X12_answer l_X12_147 (m_rr_of rfl) (rest := []) (c_X12_answer h4 (-3) G4 ⟨by omega, by omega⟩) o_108 rfl rfl rfl (Nat.le_of_ble_eq_true rfl) ⟨rfl, rfl⟩ (fun x11 h8 qx11 => ?_)
          obtain ⟨G8, S8, rfl⟩ := qx11
          have R8 := R4.call S8 (by decide +kernel)
          have is_ : x4 = 1 ↔ iS (h0 110) a1 a2 := by rw [← row_]; exact fx4_0
          have rh_ : h4 110 = h0 110 := (rowz S4 (fun _ => rfl)).trans row_
          exact z_retI (M := M_X12_shorter) 45 dX12_shorter_45 rfl ⟨G8, R8, ⟨by unfold spShort; rw [cif_pos (by omega), cif_pos (is_.mp (by omega))], by unfold spShort; rw [cif_pos (by omega), cif_pos (is_.mp (by omega))]; exact (rowz S8 (fun _ => rfl)).trans rh_⟩, (NPi.call (NPi.call (NPi.put NPi.rf E1 (by decide)) S4 (fun _ => rfl) (fun _ => rfl) (fun _ => rfl)) S8 (fun _ => rfl) (fun _ => rfl) (fun _ => rfl))⟩
      · refine z_aload_n (M := M_X12_shorter) 24 dX12_shorter_24 rfl ?_
        refine z_iconst (M := M_X12_shorter) 25 dX12_shorter_25 ?_
        refine z_vI (M := M_X12_shorter) 26 dX12_shorter_26 t_X12_answer l_X12_147 (m_rr_of rfl) (rest := []) (c_X12_answer h1 (-1) G1 ⟨by omega, by omega⟩) o_108 rfl rfl rfl (Nat.le_of_ble_eq_true rfl) ⟨rfl, rfl⟩ (fun x12 h9 qx12 => ?_)
        obtain ⟨G9, S9, rfl⟩ := qx12
        have R9 := R1.call S9 (by decide +kernel)
        exact z_retI (M := M_X12_shorter) 29 dX12_shorter_29 rfl ⟨G9, R9, ⟨by unfold spShort; rw [cif_neg (by omega)], by unfold spShort; rw [cif_neg (by omega)]; exact (rowz S9 (fun _ => rfl)).trans row_⟩, (NPi.call (NPi.put NPi.rf E1 (by decide)) S9 (fun _ => rfl) (fun _ => rfl) (fun _ => rfl))⟩
    · refine z_if_eq_T (M := M_X12_shorter) 16 dX12_shorter_16 24 rfl (by omega) ?_
      refine z_aload_n (M := M_X12_shorter) 24 dX12_shorter_24 rfl ?_
      refine z_iconst (M := M_X12_shorter) 25 dX12_shorter_25 ?_
      refine z_vI (M := M_X12_shorter) 26 dX12_shorter_26 t_X12_answer l_X12_147 (m_rr_of rfl) (rest := []) (c_X12_answer h1 (-1) G1 ⟨by omega, by omega⟩) o_108 rfl rfl rfl (Nat.le_of_ble_eq_true rfl) ⟨rfl, rfl⟩ (fun x13 h10 qx13 => ?_)
      obtain ⟨G10, S10, rfl⟩ := qx13
      have R10 := R1.call S10 (by decide +kernel)
      exact z_retI (M := M_X12_shorter) 29 dX12_shorter_29 rfl ⟨G10, R10, ⟨by unfold spShort; rw [cif_neg (by omega)], by unfold spShort; rw [cif_neg (by omega)]; exact (rowz S10 (fun _ => rfl)).trans row_⟩, (NPi.call (NPi.put NPi.rf E1 (by decide)) S10 (fun _ => rfl) (fun _ => rfl) (fun _ => rfl))⟩
  · refine z_if_eq_T (M := M_X12_shorter) 9 dX12_shorter_9 24 rfl (by omega) ?_
    refine z_aload_n (M := M_X12_shorter) 24 dX12_shorter_24 rfl ?_
    refine z_iconst (M := M_X12_shorter) 25 dX12_shorter_25 ?_
    refine z_vI (M := M_X12_shorter) 26 dX12_shorter_26 t_X12_answer l_X12_147 (m_rr_of rfl) (rest := []) (c_X12_answer h1 (-1) G1 ⟨by omega, by omega⟩) o_108 rfl rfl rfl (Nat.le_of_ble_eq_true rfl) ⟨rfl, rfl⟩ (fun x14 h11 qx14 => ?_)
    obtain ⟨G11, S11, rfl⟩ := qx14
    have R11 := R1.call S11 (by decide +kernel)
    exact z_retI (M := M_X12_shorter) 29 dX12_shorter_29 rfl ⟨G11, R11, ⟨by unfold spShort; rw [cif_neg (by omega)], by unfold spShort; rw [cif_neg (by omega)]; exact (rowz S11 (fun _ => rfl)).trans row_⟩, (NPi.call (NPi.put NPi.rf E1 (by decide)) S11 (fun _ => rfl) (fun _ => rfl) (fun _ => rfl))⟩
abbrev P_X12_entry3 (h0 : m_H) (a1 a2 a3 a4 : Int) : Int → m_H → Prop := fun x h' => GI h' ∧ FR [109, 110] [(108, 0), (108, 1)] h0 h' ∧ mRr (spEntry a1 a2 a3 a4) x h0 h' ∧ NPi h0 h'
set_option maxHeartbeats 4000000 in
set_option maxRecDepth 100000 in
theorem c_X12_entry3 (h0 : m_H) (a1 a2 a3 a4 : Int) (G0 : GI h0) : m_CI M_X12_entry [mR 108, mI a1, mI a2, mI a3, mI a4] h0 (P_X12_entry3 h0 a1 a2 a3 a4) := by
  refine m_CI_of ⟨by decide, rfl, by simp [m_arg, m_isL, M_X12_entry], ⟨rfl, rfl⟩, rfl, rfl⟩ (ls := [some (mR 108), some (mI a1), some (mI a2), some (mI a3), some (mI a4)]) rfl ?_
  refine z_ok (fun _ _ ok => ?_)
  have oa1 : m_32 a1 := ok 1 _ rfl
  unfold m_32 at oa1
  have oa2 : m_32 a2 := ok 2 _ rfl
  unfold m_32 at oa2
  have oa3 : m_32 a3 := ok 3 _ rfl
  unfold m_32 at oa3
  have oa4 : m_32 a4 := ok 4 _ rfl
  unfold m_32 at oa4
  refine z_aload_n (M := M_X12_entry) 0 dX12_entry_0 rfl ?_
  refine z_iconst (M := M_X12_entry) 1 dX12_entry_1 ?_
  refine z_putIH (M := M_X12_entry) 2 dX12_entry_2 p_X12_133 o_108 rfl (u_108_0 G0) ((FR.rf (cs := [109, 110]) (ss := [(108, 0), (108, 1)]) (h := h0)).up rfl) (fun h1 E1 G1 R1 => ?_)
  have row_ : h1 110 = h0 110 := tl_r E1 (by decide)
  refine z_iload_n (M := M_X12_entry) 5 dX12_entry_5 rfl ?_
  refine z_iload_n (M := M_X12_entry) 6 dX12_entry_6 rfl ?_
  refine z_iload_n (M := M_X12_entry) 7 dX12_entry_7 rfl ?_
  refine z_iload (M := M_X12_entry) 8 dX12_entry_8 rfl ?_
  refine z_sI (M := M_X12_entry) 10 dX12_entry_10 t_X12_canEnter l_X12_184 (m_rr_of rfl) (rest := []) (c_X12_canEnter h1 a1 a2 a3 a4 G1) rfl rfl (Nat.le_of_ble_eq_true rfl) ⟨rfl, rfl⟩ (fun x1 h2 qx1 => ?_)
  obtain ⟨rfl, ⟨rfl, cx1⟩ | ⟨rfl, cx1⟩⟩ := qx1
  · refine z_if_ne_T (M := M_X12_entry) 13 dX12_entry_13 22 rfl (by omega) ?_
    refine z_aload_n (M := M_X12_entry) 22 dX12_entry_22 rfl ?_
    refine z_getR (M := M_X12_entry) 23 dX12_entry_23 f_X12_13 o_108 rfl (g_108_3 G1) ?_
    refine z_iconst (M := M_X12_entry) 26 dX12_entry_26 ?_
    refine z_ialdG (M := M_X12_entry) 27 dX12_entry_27 o_110 (by omega) (by omega) (gw_0 G1) (fun x2 ex2 ax2 bx2 => ?_)
    refine z_bipush (M := M_X12_entry) 28 dX12_entry_28 ?_
    refine z_icmp_ne (M := M_X12_entry) 30 dX12_entry_30 40 rfl (fun c3 => ?_) (fun c3 => ?_)
    · refine z_aload_n (M := M_X12_entry) 40 dX12_entry_40 rfl ?_
      refine z_iload_n (M := M_X12_entry) 41 dX12_entry_41 rfl ?_
      refine z_iload_n (M := M_X12_entry) 42 dX12_entry_42 rfl ?_
      refine z_iload_n (M := M_X12_entry) 43 dX12_entry_43 rfl ?_
      refine z_iload (M := M_X12_entry) 44 dX12_entry_44 rfl ?_
      refine z_vV (M := M_X12_entry) 46 dX12_entry_46 t_X12_addEntry l_X12_188 (m_rr_of rfl) (rest := []) (c_X12_addEntry2 h1 a1 a2 a3 a4 G1 ⟨by omega, by omega⟩ ⟨by omega, by omega⟩ ⟨by omega, by omega⟩ ⟨by omega, by omega⟩ (le_e ex2 (by omega))) o_108 rfl rfl rfl (Nat.le_of_ble_eq_true rfl) ⟨rfl, rfl⟩ (fun h3 qx4 => ?_)
      obtain ⟨G3, S3, fx4_0, fx4_1, fx4_2, npx4⟩ := qx4
      have R3 := R1.call S3 (by decide +kernel)
      refine z_aload_n (M := M_X12_entry) 49 dX12_entry_49 rfl ?_
      refine z_aload_n (M := M_X12_entry) 50 dX12_entry_50 rfl ?_
      refine z_getR (M := M_X12_entry) 51 dX12_entry_51 f_X12_13 o_108 rfl (g_108_3 G3) ?_
      refine z_iconst (M := M_X12_entry) 54 dX12_entry_54 ?_
      refine z_ialdE (M := M_X12_entry) 55 dX12_entry_55 o_110 (by omega) (by omega) (eq_ad fx4_0 ex2) ?_
      refine z_iconst (M := M_X12_entry) 56 dX12_entry_56 ?_
      refine z_isubN (M := M_X12_entry) 57 dX12_entry_57 (by omega) (by omega) ?_
      refine z_vI (M := M_X12_entry) 58 dX12_entry_58 t_X12_answer l_X12_147 (m_rr_of rfl) (rest := []) (c_X12_answer h3 ((x2 + 1) - 1) G3 ⟨by omega, by omega⟩) o_108 rfl rfl rfl (Nat.le_of_ble_eq_true rfl) ⟨rfl, rfl⟩ (fun x5 h4 qx5 => ?_)
      obtain ⟨G4, S4, rfl⟩ := qx5
      have R4 := R3.call S4 (by decide +kernel)
      have e1_ : h0 110 0 = x2 := (congrFun row_ 0).symm.trans ex2
      have ra_ : h3 110 = rE (h0 110) a1 a2 a3 a4 := fx4_2.trans (by rw [row_])
      have e2_ : h3 110 0 = h0 110 0 + 1 := congrFun ra_ 0
      have e3_ : h3 110 0 = (x2 + 1) := (eq_ad fx4_0 ex2)
      exact z_retI (M := M_X12_entry) 61 dX12_entry_61 rfl ⟨G4, R4, ⟨by unfold spEntry; rw [cif_pos (by unfold canE; omega), cif_pos (by omega)]; show ((x2 + 1) - 1) = h0 110 0; omega, by unfold spEntry; rw [cif_pos (by unfold canE; omega), cif_pos (by omega)]; exact (rowz S4 (fun _ => rfl)).trans ra_⟩, (NPi.call (NPi.tr (NPi.put NPi.rf E1 (by decide)) npx4) S4 (fun _ => rfl) (fun _ => rfl) (fun _ => rfl))⟩
    · refine z_aload_n (M := M_X12_entry) 33 dX12_entry_33 rfl ?_
      refine z_bipush (M := M_X12_entry) 34 dX12_entry_34 ?_
      refine z_vI (M := M_X12_entry) 36 dX12_entry_36 t_X12_answer l_X12_147 (m_rr_of rfl) (rest := []) (c_X12_answer h1 (-5) G1 ⟨by omega, by omega⟩) o_108 rfl rfl rfl (Nat.le_of_ble_eq_true rfl) ⟨rfl, rfl⟩ (fun x6 h5 qx6 => ?_)
      obtain ⟨G5, S5, rfl⟩ := qx6
      have R5 := R1.call S5 (by decide +kernel)
      have e1_ : h0 110 0 = x2 := (congrFun row_ 0).symm.trans ex2
      exact z_retI (M := M_X12_entry) 39 dX12_entry_39 rfl ⟨G5, R5, ⟨by unfold spEntry; rw [cif_pos (by unfold canE; omega), cif_neg (by omega)], by unfold spEntry; rw [cif_pos (by unfold canE; omega), cif_neg (by omega)]; exact (rowz S5 (fun _ => rfl)).trans row_⟩, (NPi.call (NPi.put NPi.rf E1 (by decide)) S5 (fun _ => rfl) (fun _ => rfl) (fun _ => rfl))⟩
  · refine z_if_ne_F (M := M_X12_entry) 13 dX12_entry_13 22 rfl (by omega) ?_
    refine z_aload_n (M := M_X12_entry) 16 dX12_entry_16 rfl ?_
    refine z_iconst (M := M_X12_entry) 17 dX12_entry_17 ?_
    refine z_vI (M := M_X12_entry) 18 dX12_entry_18 t_X12_answer l_X12_147 (m_rr_of rfl) (rest := []) (c_X12_answer h1 (-1) G1 ⟨by omega, by omega⟩) o_108 rfl rfl rfl (Nat.le_of_ble_eq_true rfl) ⟨rfl, rfl⟩ (fun x7 h6 qx7 => ?_)
    obtain ⟨G6, S6, rfl⟩ := qx7
    have R6 := R1.call S6 (by decide +kernel)
    exact z_retI (M := M_X12_entry) 21 dX12_entry_21 rfl ⟨G6, R6, ⟨by unfold spEntry; rw [cif_neg (by unfold canE; omega)], by unfold spEntry; rw [cif_neg (by unfold canE; omega)]; exact (rowz S6 (fun _ => rfl)).trans row_⟩, (NPi.call (NPi.put NPi.rf E1 (by decide)) S6 (fun _ => rfl) (fun _ => rfl) (fun _ => rfl))⟩
abbrev P_X12_row3 (h0 : m_H) : Int → m_H → Prop := fun x h' => GI h' ∧ FR [109, 110] [(108, 0), (108, 1), (108, 6), (108, 8)] h0 h' ∧ h' 108 8 = 0 ∧ rwM (h0 113) (h0 108 8) (h0 110) x (h0 108 6) (h' 108 6) h' ∧ NPi h0 h'
def q_X12_row3 (h0 : m_H) (n : Nat) : Prop := (∀ (l1 l2 l3 y_108_8 : Int) (h : m_H), GI h → FR [109, 110] [(108, 0), (108, 1), (108, 6), (108, 8)] h0 h → 1 ≤ l1 → l1 ≤ 400 → 0 ≤ l2 → l2 ≤ 101 → 0 ≤ l3 → l3 ≤ 403 → 0 ≤ y_108_8 → y_108_8 ≤ 0 → (h 108 8 = y_108_8) → (∃ i : Nat, l3 = 4 * (i : Int) ∧ h 110 = (rwL (h0 113) (h0 108 8) (h0 110) i).2.2 ∧ h 108 6 = (rwL (h0 113) (h0 108 8) (h0 110) i).2.1 ∧ l2 = (rwL (h0 113) (h0 108 8) (h0 110) i).1) → (l1 = h0 108 8) → (l3 ≤ l1 + 3 ∧ h0 108 8 ≠ 0 ∧ 4 * l2 ≤ l3) → (NPi h0 h) → 2 * (403 - l3) + (1) ≤ (n : Int) → m_Z oF M_X12_row 35 [some (mR 108), some (mI l1), some (mI l2), some (mI l3), none] [] h (m_QI (P_X12_row3 h0)))
set_option maxHeartbeats 4000000 in
set_option maxRecDepth 100000 in
theorem s_X12_row3_35 (h0 : m_H) (G0 : GI h0) (n : Nat) (ih : q_X12_row3 h0 n) : ∀ (l1 l2 l3 y_108_8 : Int) (h : m_H), GI h → FR [109, 110] [(108, 0), (108, 1), (108, 6), (108, 8)] h0 h → 1 ≤ l1 → l1 ≤ 400 → 0 ≤ l2 → l2 ≤ 101 → 0 ≤ l3 → l3 ≤ 403 → 0 ≤ y_108_8 → y_108_8 ≤ 0 → (h 108 8 = y_108_8) → (∃ i : Nat, l3 = 4 * (i : Int) ∧ h 110 = (rwL (h0 113) (h0 108 8) (h0 110) i).2.2 ∧ h 108 6 = (rwL (h0 113) (h0 108 8) (h0 110) i).2.1 ∧ l2 = (rwL (h0 113) (h0 108 8) (h0 110) i).1) → (l1 = h0 108 8) → (l3 ≤ l1 + 3 ∧ h0 108 8 ≠ 0 ∧ 4 * l2 ≤ l3) → (NPi h0 h) → 2 * (403 - l3) + (1) ≤ ((n + 1 : Nat) : Int) → m_Z oF M_X12_row 35 [some (mR 108), some (mI l1), some (mI l2), some (mI l3), none] [] h (m_QI (P_X12_row3 h0)) := by
  intro l1 l2 l3 y_108_8 h G R v0 v1 v2 v3 v4 v5 v6 v7 t_108_8 i0 i1 i2 i3 hr
  obtain ⟨i_, ki_, ri_, bi_, ci_⟩ := i0
  refine z_iload_n (M := M_X12_row) 35 dX12_row_35 rfl ?_
  refine z_iload_n (M := M_X12_row) 36 dX12_row_36 rfl ?_
  refine z_icmp_ge (M := M_X12_row) 37 dX12_row_37 174 rfl (fun c1 => ?_) (fun c1 => ?_)
  · refine z_aload_n (M := M_X12_row) 174 dX12_row_174 rfl ?_
    refine z_iload_n (M := M_X12_row) 175 dX12_row_175 rfl ?_
    refine z_vI (M := M_X12_row) 176 dX12_row_176 t_X12_answer l_X12_147 (m_rr_of rfl) (rest := []) (c_X12_answer h l2 G ⟨by omega, by omega⟩) o_108 rfl rfl rfl (Nat.le_of_ble_eq_true rfl) ⟨rfl, rfl⟩ (fun x2 h1 qx2 => ?_)
    obtain ⟨G1, S1, rfl⟩ := qx2
    have R1 := R.call S1 (by decide +kernel)
    have z8 : h1 108 8 = y_108_8 := ((S1 108 8 rfl).trans t_108_8)
    have hi_ : rwN (h0 108 8) = i_ := by unfold rwN; omega
    exact z_retI (M := M_X12_row) 179 dX12_row_179 rfl ⟨G1, R1, by omega, Or.inr ⟨by omega, by rw [hi_]; exact ci_, by rw [hi_]; exact (S1 108 6 rfl).trans bi_, by rw [hi_]; exact (rowz S1 (fun _ => rfl)).trans ri_⟩, (NPi.call i3 S1 (fun _ => rfl) (fun _ => rfl) (fun _ => rfl))⟩
  · refine z_iload_n (M := M_X12_row) 40 dX12_row_40 rfl ?_
    refine z_iconst (M := M_X12_row) 41 dX12_row_41 ?_
    refine z_iaddN (M := M_X12_row) 42 dX12_row_42 (by omega) (by omega) ?_
    refine z_iload_n (M := M_X12_row) 43 dX12_row_43 rfl ?_
    refine z_icmp_ge (M := M_X12_row) 44 dX12_row_44 62 rfl (fun c3 => ?_) (fun c3 => ?_)
    · refine z_iconst (M := M_X12_row) 62 dX12_row_62 ?_
      refine z_istore (M := M_X12_row) 63 dX12_row_63 (ls' := [some (mR 108), some (mI l1), some (mI l2), some (mI l3), some (mI 0)]) (by decide) rfl ?_
      refine z_iload (M := M_X12_row) 65 dX12_row_65 rfl ?_
      refine z_if_eq_T (M := M_X12_row) 67 dX12_row_67 110 rfl (by omega) ?_
      refine z_iconst (M := M_X12_row) 110 dX12_row_110 ?_
      refine z_istore (M := M_X12_row) 111 dX12_row_111 (ls' := [some (mR 108), some (mI l1), some (mI l2), some (mI l3), some (mI 0)]) (by decide) rfl ?_
      refine z_iload (M := M_X12_row) 113 dX12_row_113 rfl ?_
      refine z_if_eq_T (M := M_X12_row) 115 dX12_row_115 158 rfl (by omega) ?_
      refine z_aload_n (M := M_X12_row) 158 dX12_row_158 rfl ?_
      refine z_dup (M := M_X12_row) 159 dX12_row_159 rfl ?_
      refine z_getIV (M := M_X12_row) 160 dX12_row_160 f_X12_204 o_108 (by decide) (fun x4 ex4 => ?_)
      refine z_ok (fun ox4 _ _ => ?_)
      have ox4 := ox4.1; unfold m_ok m_32 at ox4
      refine z_iconst (M := M_X12_row) 163 dX12_row_163 ?_
      have rb_ := rwL_b (b := h0 113) (n := h0 108 8) (r := h0 110) i_
      have x5_ : x4 = (rwL (h0 113) (h0 108 8) (h0 110) i_).2.1 := ex4.symm.trans bi_
      refine z_iaddN (M := M_X12_row) 164 dX12_row_164 (by omega) (by omega) ?_
      refine z_topBI (lo := 1) (hi := 102) ⟨by omega, by omega⟩ (fun x5 ex5 ax5 bx5 => ?_)
      refine z_putIH (M := M_X12_row) 165 dX12_row_165 p_X12_204 o_108 rfl (u_108_6 G) (R.up rfl) (fun h2 E2 G2 R2 => ?_)
      refine z_iincN (M := M_X12_row) 168 dX12_row_168 (ls' := [some (mR 108), some (mI l1), some (mI l2), some (mI (l3 + 4)), some (mI 0)]) (by decide) rfl (by (unfold m_32; decide)) (by omega) (by omega) rfl ?_
      refine z_goto (M := M_X12_row) 171 dX12_row_171 35 rfl ?_
      exact z_mask [true, true, true, true, false] rfl (ih l1 l2 (l3 + 4) y_108_8 h2 G2 R2 (by omega) (by omega) (by omega) (by omega) (by omega) (by omega) (by omega) (by omega) ((upN E2 (fun q => absurd q.2 (by decide))).trans t_108_8) ⟨i_ + 1, (by omega), (by rw [rw_n ki_ (fun z => by have z2 := z.1.1; omega)]; exact (tl_r E2 (by decide)).trans ri_), (by rw [rw_n ki_ (fun z => by have z2 := z.1.1; omega)]; show _ = _ + 1; rw [upE E2, ← bi_]; have w_ := ex4; omega), (by rw [rw_n ki_ (fun z => by have z2 := z.1.1; omega)]; exact ci_)⟩ (by omega) (by omega) (NPi.put i3 E2 (by decide)) (by omega))
    · refine z_aload_n (M := M_X12_row) 47 dX12_row_47 rfl ?_
      refine z_getR (M := M_X12_row) 48 dX12_row_48 f_X12_13 o_108 rfl (g_108_3 G) ?_
      refine z_iconst (M := M_X12_row) 51 dX12_row_51 ?_
      refine z_ialdG (M := M_X12_row) 52 dX12_row_52 o_110 (by omega) (by omega) (gw_0 G) (fun x6 ex6 ax6 bx6 => ?_)
      refine z_bipush (M := M_X12_row) 53 dX12_row_53 ?_
      refine z_icmp_ge (M := M_X12_row) 55 dX12_row_55 62 rfl (fun c7 => ?_) (fun c7 => ?_)
      · refine z_iconst (M := M_X12_row) 62 dX12_row_62 ?_
        refine z_istore (M := M_X12_row) 63 dX12_row_63 (ls' := [some (mR 108), some (mI l1), some (mI l2), some (mI l3), some (mI 0)]) (by decide) rfl ?_
        refine z_iload (M := M_X12_row) 65 dX12_row_65 rfl ?_
        refine z_if_eq_T (M := M_X12_row) 67 dX12_row_67 110 rfl (by omega) ?_
        refine z_iconst (M := M_X12_row) 110 dX12_row_110 ?_
        refine z_istore (M := M_X12_row) 111 dX12_row_111 (ls' := [some (mR 108), some (mI l1), some (mI l2), some (mI l3), some (mI 0)]) (by decide) rfl ?_
        refine z_iload (M := M_X12_row) 113 dX12_row_113 rfl ?_
        refine z_if_eq_T (M := M_X12_row) 115 dX12_row_115 158 rfl (by omega) ?_
        refine z_aload_n (M := M_X12_row) 158 dX12_row_158 rfl ?_
        refine z_dup (M := M_X12_row) 159 dX12_row_159 rfl ?_
        refine z_getIV (M := M_X12_row) 160 dX12_row_160 f_X12_204 o_108 (by decide) (fun x8 ex8 => ?_)
        refine z_ok (fun ox8 _ _ => ?_)
        have ox8 := ox8.1; unfold m_ok m_32 at ox8
        refine z_iconst (M := M_X12_row) 163 dX12_row_163 ?_
        have rb_ := rwL_b (b := h0 113) (n := h0 108 8) (r := h0 110) i_
        have x5_ : x8 = (rwL (h0 113) (h0 108 8) (h0 110) i_).2.1 := ex8.symm.trans bi_
        refine z_iaddN (M := M_X12_row) 164 dX12_row_164 (by omega) (by omega) ?_
        refine z_topBI (lo := 1) (hi := 102) ⟨by omega, by omega⟩ (fun x9 ex9 ax9 bx9 => ?_)
        refine z_putIH (M := M_X12_row) 165 dX12_row_165 p_X12_204 o_108 rfl (u_108_6 G) (R.up rfl) (fun h3 E3 G3 R3 => ?_)
        refine z_iincN (M := M_X12_row) 168 dX12_row_168 (ls' := [some (mR 108), some (mI l1), some (mI l2), some (mI (l3 + 4)), some (mI 0)]) (by decide) rfl (by (unfold m_32; decide)) (by omega) (by omega) rfl ?_
        refine z_goto (M := M_X12_row) 171 dX12_row_171 35 rfl ?_
        exact z_mask [true, true, true, true, false] rfl (ih l1 l2 (l3 + 4) y_108_8 h3 G3 R3 (by omega) (by omega) (by omega) (by omega) (by omega) (by omega) (by omega) (by omega) ((upN E3 (fun q => absurd q.2 (by decide))).trans t_108_8) ⟨i_ + 1, (by omega), (by rw [rw_n ki_ (fun z => by have z2 := z.1.2; rw [← ri_] at z2; have z_ := (show h 110 0 = x6 from ex6); omega)]; exact (tl_r E3 (by decide)).trans ri_), (by rw [rw_n ki_ (fun z => by have z2 := z.1.2; rw [← ri_] at z2; have z_ := (show h 110 0 = x6 from ex6); omega)]; show _ = _ + 1; rw [upE E3, ← bi_]; have w_ := ex8; omega), (by rw [rw_n ki_ (fun z => by have z2 := z.1.2; rw [← ri_] at z2; have z_ := (show h 110 0 = x6 from ex6); omega)]; exact ci_)⟩ (by omega) (by omega) (NPi.put i3 E3 (by decide)) (by omega))
      · refine z_iconst (M := M_X12_row) 58 dX12_row_58 ?_
        refine z_goto (M := M_X12_row) 59 dX12_row_59 63 rfl ?_
        refine z_istore (M := M_X12_row) 63 dX12_row_63 (ls' := [some (mR 108), some (mI l1), some (mI l2), some (mI l3), some (mI 1)]) (by decide) rfl ?_
        refine z_iload (M := M_X12_row) 65 dX12_row_65 rfl ?_
        refine z_if_eq_F (M := M_X12_row) 67 dX12_row_67 110 rfl (by omega) ?_
        refine z_aload_n (M := M_X12_row) 70 dX12_row_70 rfl ?_
        refine z_getR (M := M_X12_row) 71 dX12_row_71 f_X12_23 o_108 rfl (g_108_7 G) ?_
        refine z_iload_n (M := M_X12_row) 74 dX12_row_74 rfl ?_
        refine z_ialdG (M := M_X12_row) 75 dX12_row_75 o_113 (by omega) (by omega) (g_113 G (by omega)) (fun x10 ex10 ax10 bx10 => ?_)
        refine z_aload_n (M := M_X12_row) 76 dX12_row_76 rfl ?_
        refine z_getR (M := M_X12_row) 77 dX12_row_77 f_X12_23 o_108 rfl (g_108_7 G) ?_
        refine z_iload_n (M := M_X12_row) 80 dX12_row_80 rfl ?_
        refine z_iconst (M := M_X12_row) 81 dX12_row_81 ?_
        refine z_iaddN (M := M_X12_row) 82 dX12_row_82 (by omega) (by omega) ?_
        refine z_ialdG (M := M_X12_row) 83 dX12_row_83 o_113 (by omega) (by omega) (g_113 G (by omega)) (fun x11 ex11 ax11 bx11 => ?_)
        refine z_aload_n (M := M_X12_row) 84 dX12_row_84 rfl ?_
        refine z_getR (M := M_X12_row) 85 dX12_row_85 f_X12_23 o_108 rfl (g_108_7 G) ?_
        refine z_iload_n (M := M_X12_row) 88 dX12_row_88 rfl ?_
        refine z_iconst (M := M_X12_row) 89 dX12_row_89 ?_
        refine z_iaddN (M := M_X12_row) 90 dX12_row_90 (by omega) (by omega) ?_
        refine z_ialdG (M := M_X12_row) 91 dX12_row_91 o_113 (by omega) (by omega) (g_113 G (by omega)) (fun x12 ex12 ax12 bx12 => ?_)
        refine z_aload_n (M := M_X12_row) 92 dX12_row_92 rfl ?_
        refine z_getR (M := M_X12_row) 93 dX12_row_93 f_X12_23 o_108 rfl (g_108_7 G) ?_
        refine z_iload_n (M := M_X12_row) 96 dX12_row_96 rfl ?_
        refine z_iconst (M := M_X12_row) 97 dX12_row_97 ?_
        refine z_iaddN (M := M_X12_row) 98 dX12_row_98 (by omega) (by omega) ?_
        refine z_ialdG (M := M_X12_row) 99 dX12_row_99 o_113 (by omega) (by omega) (g_113 G (by omega)) (fun x13 ex13 ax13 bx13 => ?_)
        have b75_ : h0 113 l3.toNat = x10 := (R 113 _ rfl).symm.trans ex10
        have b83_ : h0 113 (l3 + 1).toNat = x11 := (R 113 _ rfl).symm.trans ex11
        have b91_ : h0 113 (l3 + 2).toNat = x12 := (R 113 _ rfl).symm.trans ex12
        have b99_ : h0 113 (l3 + 3).toNat = x13 := (R 113 _ rfl).symm.trans ex13
        refine z_sI (M := M_X12_row) 100 dX12_row_100 t_X12_canEnter l_X12_184 (m_rr_of rfl) (rest := []) (c_X12_canEnter h x10 x11 x12 x13 G) rfl rfl (Nat.le_of_ble_eq_true rfl) ⟨rfl, rfl⟩ (fun x14 h4 qx14 => ?_)
        obtain ⟨rfl, ⟨rfl, cx14⟩ | ⟨rfl, cx14⟩⟩ := qx14
        · refine z_if_eq_F (M := M_X12_row) 103 dX12_row_103 110 rfl (by omega) ?_
          refine z_iconst (M := M_X12_row) 106 dX12_row_106 ?_
          refine z_goto (M := M_X12_row) 107 dX12_row_107 111 rfl ?_
          refine z_istore (M := M_X12_row) 111 dX12_row_111 (ls' := [some (mR 108), some (mI l1), some (mI l2), some (mI l3), some (mI 1)]) (by decide) rfl ?_
          refine z_iload (M := M_X12_row) 113 dX12_row_113 rfl ?_
          refine z_if_eq_F (M := M_X12_row) 115 dX12_row_115 158 rfl (by omega) ?_
          refine z_aload_n (M := M_X12_row) 118 dX12_row_118 rfl ?_
          refine z_aload_n (M := M_X12_row) 119 dX12_row_119 rfl ?_
          refine z_getR (M := M_X12_row) 120 dX12_row_120 f_X12_23 o_108 rfl (g_108_7 G) ?_
          refine z_iload_n (M := M_X12_row) 123 dX12_row_123 rfl ?_
          refine z_ialdE (M := M_X12_row) 124 dX12_row_124 o_113 (by omega) (by omega) ex10 ?_
          refine z_aload_n (M := M_X12_row) 125 dX12_row_125 rfl ?_
          refine z_getR (M := M_X12_row) 126 dX12_row_126 f_X12_23 o_108 rfl (g_108_7 G) ?_
          refine z_iload_n (M := M_X12_row) 129 dX12_row_129 rfl ?_
          refine z_iconst (M := M_X12_row) 130 dX12_row_130 ?_
          refine z_iaddN (M := M_X12_row) 131 dX12_row_131 (by omega) (by omega) ?_
          refine z_ialdE (M := M_X12_row) 132 dX12_row_132 o_113 (by omega) (by omega) ex11 ?_
          refine z_aload_n (M := M_X12_row) 133 dX12_row_133 rfl ?_
          refine z_getR (M := M_X12_row) 134 dX12_row_134 f_X12_23 o_108 rfl (g_108_7 G) ?_
          refine z_iload_n (M := M_X12_row) 137 dX12_row_137 rfl ?_
          refine z_iconst (M := M_X12_row) 138 dX12_row_138 ?_
          refine z_iaddN (M := M_X12_row) 139 dX12_row_139 (by omega) (by omega) ?_
          refine z_ialdE (M := M_X12_row) 140 dX12_row_140 o_113 (by omega) (by omega) ex12 ?_
          refine z_aload_n (M := M_X12_row) 141 dX12_row_141 rfl ?_
          refine z_getR (M := M_X12_row) 142 dX12_row_142 f_X12_23 o_108 rfl (g_108_7 G) ?_
          refine z_iload_n (M := M_X12_row) 145 dX12_row_145 rfl ?_
          refine z_iconst (M := M_X12_row) 146 dX12_row_146 ?_
          refine z_iaddN (M := M_X12_row) 147 dX12_row_147 (by omega) (by omega) ?_
          refine z_ialdE (M := M_X12_row) 148 dX12_row_148 o_113 (by omega) (by omega) ex13 ?_
          refine z_vV (M := M_X12_row) 149 dX12_row_149 t_X12_addEntry l_X12_188 (m_rr_of rfl) (rest := []) (c_X12_addEntry2 h x10 x11 x12 x13 G ⟨by omega, by omega⟩ ⟨by omega, by omega⟩ ⟨by omega, by omega⟩ ⟨by omega, by omega⟩ (le_e ex6 (by omega))) o_108 rfl rfl rfl (Nat.le_of_ble_eq_true rfl) ⟨rfl, rfl⟩ (fun h5 qx15 => ?_)
          obtain ⟨G5, S5, fx15_0, fx15_1, fx15_2, npx15⟩ := qx15
          have R5 := R.call S5 (by decide +kernel)
          refine z_iincN (M := M_X12_row) 152 dX12_row_152 (ls' := [some (mR 108), some (mI l1), some (mI (l2 + 1)), some (mI l3), some (mI 1)]) (by decide) rfl (by (unfold m_32; decide)) (by omega) (by omega) rfl ?_
          refine z_goto (M := M_X12_row) 155 dX12_row_155 168 rfl ?_
          refine z_iincN (M := M_X12_row) 168 dX12_row_168 (ls' := [some (mR 108), some (mI l1), some (mI (l2 + 1)), some (mI (l3 + 4)), some (mI 1)]) (by decide) rfl (by (unfold m_32; decide)) (by omega) (by omega) rfl ?_
          refine z_goto (M := M_X12_row) 171 dX12_row_171 35 rfl ?_
          exact z_mask [true, true, true, true, false] rfl (ih l1 (l2 + 1) (l3 + 4) y_108_8 h5 G5 R5 (by omega) (by omega) (by omega) (by omega) (by omega) (by omega) (by omega) (by omega) ((S5 108 8 rfl).trans t_108_8) ⟨i_ + 1, (by omega), (by rw [rw_y ki_ ⟨⟨by omega, by rw [← ri_]; have z_ := (show h 110 0 = x6 from ex6); omega⟩, (by unfold canE; rw [b75_, b83_, b91_, b99_]; omega)⟩]; show _ = rE _ _ _ _ _; rw [b75_, b83_, b91_, b99_, ← ri_]; exact fx15_2), (by rw [rw_y ki_ ⟨⟨by omega, by rw [← ri_]; have z_ := (show h 110 0 = x6 from ex6); omega⟩, (by unfold canE; rw [b75_, b83_, b91_, b99_]; omega)⟩]; exact (S5 108 6 rfl).trans bi_), (by rw [rw_y ki_ ⟨⟨by omega, by rw [← ri_]; have z_ := (show h 110 0 = x6 from ex6); omega⟩, (by unfold canE; rw [b75_, b83_, b91_, b99_]; omega)⟩]; show _ = _ + 1; rw [← ci_])⟩ (by omega) (by omega) (NPi.tr i3 npx15) (by omega))
        · refine z_if_eq_T (M := M_X12_row) 103 dX12_row_103 110 rfl (by omega) ?_
          refine z_iconst (M := M_X12_row) 110 dX12_row_110 ?_
          refine z_istore (M := M_X12_row) 111 dX12_row_111 (ls' := [some (mR 108), some (mI l1), some (mI l2), some (mI l3), some (mI 0)]) (by decide) rfl ?_
          refine z_iload (M := M_X12_row) 113 dX12_row_113 rfl ?_
          refine z_if_eq_T (M := M_X12_row) 115 dX12_row_115 158 rfl (by omega) ?_
          refine z_aload_n (M := M_X12_row) 158 dX12_row_158 rfl ?_
          refine z_dup (M := M_X12_row) 159 dX12_row_159 rfl ?_
          refine z_getIV (M := M_X12_row) 160 dX12_row_160 f_X12_204 o_108 (by decide) (fun x16 ex16 => ?_)
          refine z_ok (fun ox16 _ _ => ?_)
          have ox16 := ox16.1; unfold m_ok m_32 at ox16
          refine z_iconst (M := M_X12_row) 163 dX12_row_163 ?_
          have rb_ := rwL_b (b := h0 113) (n := h0 108 8) (r := h0 110) i_
          have x5_ : x16 = (rwL (h0 113) (h0 108 8) (h0 110) i_).2.1 := ex16.symm.trans bi_
          refine z_iaddN (M := M_X12_row) 164 dX12_row_164 (by omega) (by omega) ?_
          refine z_topBI (lo := 1) (hi := 102) ⟨by omega, by omega⟩ (fun x17 ex17 ax17 bx17 => ?_)
          refine z_putIH (M := M_X12_row) 165 dX12_row_165 p_X12_204 o_108 rfl (u_108_6 G) (R.up rfl) (fun h6 E6 G6 R6 => ?_)
          refine z_iincN (M := M_X12_row) 168 dX12_row_168 (ls' := [some (mR 108), some (mI l1), some (mI l2), some (mI (l3 + 4)), some (mI 0)]) (by decide) rfl (by (unfold m_32; decide)) (by omega) (by omega) rfl ?_
          refine z_goto (M := M_X12_row) 171 dX12_row_171 35 rfl ?_
          exact z_mask [true, true, true, true, false] rfl (ih l1 l2 (l3 + 4) y_108_8 h6 G6 R6 (by omega) (by omega) (by omega) (by omega) (by omega) (by omega) (by omega) (by omega) ((upN E6 (fun q => absurd q.2 (by decide))).trans t_108_8) ⟨i_ + 1, (by omega), (by rw [rw_n ki_ (fun z => by have z2 := z.2; unfold canE at z2; rw [b75_, b83_, b91_, b99_] at z2; omega)]; exact (tl_r E6 (by decide)).trans ri_), (by rw [rw_n ki_ (fun z => by have z2 := z.2; unfold canE at z2; rw [b75_, b83_, b91_, b99_] at z2; omega)]; show _ = _ + 1; rw [upE E6, ← bi_]; have w_ := ex16; omega), (by rw [rw_n ki_ (fun z => by have z2 := z.2; unfold canE at z2; rw [b75_, b83_, b91_, b99_] at z2; omega)]; exact ci_)⟩ (by omega) (by omega) (NPi.put i3 E6 (by decide)) (by omega))
theorem a_X12_row3 (h0 : m_H) (G0 : GI h0) : ∀ n, q_X12_row3 h0 n := by
  intro n
  induction n with
  | zero => unfold q_X12_row3; intros; omega
  | succ n ih => exact s_X12_row3_35 h0 G0 n ih
set_option maxHeartbeats 4000000 in
set_option maxRecDepth 100000 in
theorem c_X12_row3 (h0 : m_H) (G0 : GI h0) : m_CI M_X12_row [mR 108] h0 (P_X12_row3 h0) := by
  refine m_CI_of ⟨by decide, rfl, by simp [m_arg, m_isL, M_X12_row], ⟨rfl, rfl⟩, rfl, rfl⟩ (ls := [some (mR 108), none, none, none, none]) rfl ?_
  have ih := a_X12_row3 h0 G0 814
  obtain ⟨x1, ex1⟩ : ∃ y : Int, h0 108 8 = y := ⟨_, rfl⟩
  have bx1 : 0 ≤ x1 ∧ x1 ≤ 400 := ex1 ▸ g_108_8 G0
  refine z_aload_n (M := M_X12_row) 0 dX12_row_0 rfl ?_
  refine z_iconst (M := M_X12_row) 1 dX12_row_1 ?_
  refine z_putIH (M := M_X12_row) 2 dX12_row_2 p_X12_133 o_108 rfl (u_108_0 G0) ((FR.rf (cs := [109, 110]) (ss := [(108, 0), (108, 1), (108, 6), (108, 8)]) (h := h0)).up rfl) (fun h1 E1 G1 R1 => ?_)
  refine z_aload_n (M := M_X12_row) 5 dX12_row_5 rfl ?_
  refine z_getIE (M := M_X12_row) 6 dX12_row_6 f_X12_201 o_108 (by decide) ((upN E1 (fun q => absurd q.2 (by decide))).trans ex1) ?_
  refine z_istore_n (M := M_X12_row) 9 dX12_row_9 (ls' := [some (mR 108), some (mI x1), none, none, none]) (by decide) rfl ?_
  refine z_aload_n (M := M_X12_row) 10 dX12_row_10 rfl ?_
  refine z_iconst (M := M_X12_row) 11 dX12_row_11 ?_
  refine z_putIH (M := M_X12_row) 12 dX12_row_12 p_X12_201 o_108 rfl (u_108_8 G1 (by omega) (by omega)) (R1.up rfl) (fun h2 E2 G2 R2 => ?_)
  refine z_iload_n (M := M_X12_row) 15 dX12_row_15 rfl ?_
  refine z_if_ne (M := M_X12_row) 16 dX12_row_16 26 rfl (fun c2 => ?_) (fun c2 => ?_)
  · refine z_aload_n (M := M_X12_row) 26 dX12_row_26 rfl ?_
    refine z_iconst (M := M_X12_row) 27 dX12_row_27 ?_
    refine z_putIH (M := M_X12_row) 28 dX12_row_28 p_X12_204 o_108 rfl (u_108_6 G2) (R2.up rfl) (fun h3 E3 G3 R3 => ?_)
    refine z_iconst (M := M_X12_row) 31 dX12_row_31 ?_
    refine z_istore_n (M := M_X12_row) 32 dX12_row_32 (ls' := [some (mR 108), some (mI x1), some (mI 0), none, none]) (by decide) rfl ?_
    refine z_iconst (M := M_X12_row) 33 dX12_row_33 ?_
    refine z_istore_n (M := M_X12_row) 34 dX12_row_34 (ls' := [some (mR 108), some (mI x1), some (mI 0), some (mI 0), none]) (by decide) rfl ?_
    exact z_mask [true, true, true, true, false] rfl (ih x1 0 0 0 h3 G3 R3 (by omega) (by omega) (by omega) (by omega) (by omega) (by omega) (by omega) (by omega) ((upN E3 (fun q => absurd q.2 (by decide))).trans (upE E2)) ⟨0, rfl, ((tl_r E3 (by decide)).trans ((tl_r E2 (by decide)).trans (tl_r E1 (by decide)))), (upE E3), rfl⟩ (by have y_ := ex1; omega) (by omega) (NPi.put (NPi.put (NPi.put NPi.rf E1 (by decide)) E2 (by decide)) E3 (by decide)) (by omega))
  · refine z_aload_n (M := M_X12_row) 19 dX12_row_19 rfl ?_
    refine z_bipush (M := M_X12_row) 20 dX12_row_20 ?_
    refine z_vI (M := M_X12_row) 22 dX12_row_22 t_X12_answer l_X12_147 (m_rr_of rfl) (rest := []) (c_X12_answer h2 (-6) G2 ⟨by omega, by omega⟩) o_108 rfl rfl rfl (Nat.le_of_ble_eq_true rfl) ⟨rfl, rfl⟩ (fun x3 h4 qx3 => ?_)
    obtain ⟨G4, S4, rfl⟩ := qx3
    have R4 := R2.call S4 (by decide +kernel)
    have z8 : h4 108 8 = 0 := ((S4 108 8 rfl).trans (upE E2))
    exact z_retI (M := M_X12_row) 25 dX12_row_25 rfl ⟨G4, R4, by omega, Or.inl ⟨by have y_ := ex1; omega, rfl, (S4 108 6 rfl).trans ((upN E2 (by decide)).trans (upN E1 (by decide))), (rowz S4 (fun _ => rfl)).trans ((tl_r E2 (by decide)).trans (tl_r E1 (by decide)))⟩, (NPi.call (NPi.put (NPi.put NPi.rf E1 (by decide)) E2 (by decide)) S4 (fun _ => rfl) (fun _ => rfl) (fun _ => rfl))⟩
/-! the tape's bytes -/
def byt (v k : Int) : Int := m_and (m_shr v k) 255
def tp4 (b : Nat → Int) (n v : Int) : Nat → Int := fun j => if j = n.toNat then byt v 24 else if j = (n + 1).toNat then byt v 16 else if j = (n + 2).toNat then byt v 8 else if j = (n + 3).toNat then byt v 0 else b j
theorem tp4_c {b b' : Nat → Int} {n v : Int} (h0 : 0 ≤ n) (e : ∀ j : Nat, (j : Int) < n → b' j = b j) : ∀ j : Nat, (j : Int) < n + 4 → tp4 b' n v j = tp4 b n v j := by
  intro j hj
  unfold tp4
  by_cases c0 : j = n.toNat
  · rw [if_pos c0, if_pos c0]
  by_cases c1 : j = (n + 1).toNat
  · rw [if_neg c0, if_neg c0, if_pos c1, if_pos c1]
  by_cases c2 : j = (n + 2).toNat
  · rw [if_neg c0, if_neg c0, if_neg c1, if_neg c1, if_pos c2, if_pos c2]
  by_cases c3 : j = (n + 3).toNat
  · rw [if_neg c0, if_neg c0, if_neg c1, if_neg c1, if_neg c2, if_neg c2, if_pos c3, if_pos c3]
  · rw [if_neg c0, if_neg c0, if_neg c1, if_neg c1, if_neg c2, if_neg c2, if_neg c3, if_neg c3]; exact e j (by omega)
def tp20 (b : Nat → Int) (n v1 v2 v3 v4 v5 : Int) : Nat → Int := tp4 (tp4 (tp4 (tp4 (tp4 b n v1) (n + 4) v2) (n + 8) v3) (n + 12) v4) (n + 16) v5
theorem tp20_c {b b' : Nat → Int} {n v1 v2 v3 v4 v5 : Int} (h0 : 0 ≤ n) (e : ∀ j : Nat, (j : Int) < n → b' j = b j) : ∀ j : Nat, (j : Int) < n + 20 → tp20 b' n v1 v2 v3 v4 v5 j = tp20 b n v1 v2 v3 v4 v5 j := by
  have a1 := tp4_c (v := v1) h0 e
  have a2 := tp4_c (v := v2) (n := n + 4) (by omega) a1
  have a3 := tp4_c (v := v3) (n := n + 8) (by omega) (fun j hj => a2 j (by omega))
  have a4 := tp4_c (v := v4) (n := n + 12) (by omega) (fun j hj => a3 j (by omega))
  have a5 := tp4_c (v := v5) (n := n + 16) (by omega) (fun j hj => a4 j (by omega))
  exact fun j hj => a5 j (by omega)
theorem sh24 : ∀ v : BitVec 32, v >>> 24 = (v.sshiftRight 24) &&& 255#32 := by
  intro v
  apply BitVec.eq_of_getLsbD_eq
  intro i hi
  rw [BitVec.getLsbD_ushiftRight, BitVec.getLsbD_and, BitVec.getLsbD_sshiftRight]
  by_cases g : i < 8
  · have e : (255#32).getLsbD i = true := by
      have : ∀ i : Fin 8, (255#32).getLsbD i.1 = true := by decide
      exact this ⟨i, g⟩
    rw [e, Bool.and_true]
    have h1 : ¬ 32 ≤ i := by omega
    have h2 : 24 + i < 32 := by omega
    simp [h1, h2]
  · have e : (255#32).getLsbD i = false := by
      have : ∀ i : Fin 32, 8 ≤ i.1 → (255#32).getLsbD i.1 = false := by decide
      exact this ⟨i, hi⟩ (show 8 ≤ i by omega)
    rw [e, Bool.and_false]
    exact BitVec.getLsbD_of_ge _ _ (by omega)
theorem shk {k : Nat} (hk : k ≤ 24) : ∀ v : BitVec 32, (v >>> k) &&& 255#32 = (v.sshiftRight k) &&& 255#32 := by
  intro v
  apply BitVec.eq_of_getLsbD_eq
  intro i hi
  rw [BitVec.getLsbD_and, BitVec.getLsbD_and, BitVec.getLsbD_ushiftRight, BitVec.getLsbD_sshiftRight]
  by_cases g : i < 8
  · have h1 : ¬ 32 ≤ i := by omega
    have h2 : k + i < 32 := by omega
    simp [h1, h2]
  · have e : (255#32).getLsbD i = false := by
      have : ∀ i : Fin 32, 8 ≤ i.1 → (255#32).getLsbD i.1 = false := by decide
      exact this ⟨i, hi⟩ (show 8 ≤ i by omega)
    rw [e, Bool.and_false, Bool.and_false]
theorem us_b {v : Int} {k : Nat} (hk : k < 32) : (((Int32.ofInt v).toUInt32 >>> ((Int32.ofInt (k : Int)).toUInt32 &&& Int32.toUInt32 31)).toInt32).toBitVec = (Int32.ofInt v).toBitVec >>> k := by
  show ((Int32.ofInt v).toUInt32 >>> ((Int32.ofInt (k : Int)).toUInt32 &&& Int32.toUInt32 31)).toBitVec = _
  rw [UInt32.toBitVec_shiftRight, us_am ⟨k, hk⟩]
  show (Int32.ofInt v).toBitVec >>> (BitVec.ofNat 32 k % 32#32) = _
  rw [us_mod ⟨k, hk⟩, BitVec.ushiftRight_eq', BitVec.toNat_ofNat, Nat.mod_eq_of_lt (show k < 2 ^ 32 by omega)]
theorem sr_b {v : Int} {k : Nat} (hk : k < 32) : (Int32.ofInt v >>> (Int32.ofInt (k : Int) &&& 31)).toBitVec = (Int32.ofInt v).toBitVec.sshiftRight k := by
  rw [Int32.toBitVec_shiftRight, sh_am ⟨k, hk⟩, BitVec.sshiftRight_eq', BitVec.toNat_ofNat, Nat.mod_eq_of_lt (show k < 2 ^ 32 by omega)]
theorem byt_24 {v : Int} : m_ushr v 24 = byt v 24 := by
  unfold m_ushr byt m_and m_shr
  rw [Int32.ofInt_toInt]
  show (BitVec.toInt _) = BitVec.toInt _
  congr 1
  show (((Int32.ofInt v).toUInt32 >>> ((Int32.ofInt ((24 : Nat) : Int)).toUInt32 &&& Int32.toUInt32 31)).toInt32).toBitVec = (Int32.ofInt v >>> (Int32.ofInt ((24 : Nat) : Int) &&& 31) &&& Int32.ofInt 255).toBitVec
  rw [us_b (by decide), Int32.toBitVec_and, sr_b (by decide)]
  exact sh24 _
theorem byt_k {v : Int} {k : Nat} (hk : k ≤ 24) : m_and (m_ushr v (k : Int)) 255 = byt v (k : Int) := by
  unfold m_ushr byt m_and m_shr
  rw [Int32.ofInt_toInt, Int32.ofInt_toInt]
  show (BitVec.toInt _) = BitVec.toInt _
  congr 1
  rw [Int32.toBitVec_and, Int32.toBitVec_and, us_b (by omega), sr_b (by omega)]
  exact shk hk _
theorem byt_0 {v : Int} (h1 : -2147483648 ≤ v) (h2 : v ≤ 2147483647) : m_and v 255 = byt v 0 := by
  unfold byt m_shr m_and
  rw [Int32.ofInt_toInt]
  show (BitVec.toInt _) = BitVec.toInt _
  congr 1
  show (Int32.ofInt v &&& Int32.ofInt 255).toBitVec = (Int32.ofInt v >>> (Int32.ofInt ((0 : Nat) : Int) &&& 31) &&& Int32.ofInt 255).toBitVec
  rw [Int32.toBitVec_and, Int32.toBitVec_and, sr_b (by decide)]
  congr 1
  simp
theorem tp4_up {h0 h1 h2 h3 h4 h5 : m_H} {L : Nat} {n v v1 v2 v3 v4 w : Int} (h0n : 0 ≤ n) (hL : ¬ L = 35) (E1 : h1 = m_up h0 L n.toNat v1) (E2 : h2 = m_up h1 L (n + 1).toNat v2) (E3 : h3 = m_up h2 L (n + 2).toNat v3) (E4 : h4 = m_up h3 L (n + 3).toNat v4) (E5 : h5 = m_up h4 35 1 w) (b1 : v1 = byt v 24) (b2 : v2 = byt v 16) (b3 : v3 = byt v 8) (b4 : v4 = byt v 0) : h5 L = tp4 (h0 L) n v := by
  funext j
  rw [upN E5 (fun q => hL q.1)]
  unfold tp4
  by_cases c0 : j = n.toNat
  · rw [if_pos c0, upN E4 (fun q => by omega), upN E3 (fun q => by omega), upN E2 (fun q => by omega), c0, upE E1, b1]
  rw [if_neg c0]
  by_cases c1 : j = (n + 1).toNat
  · rw [if_pos c1, upN E4 (fun q => by omega), upN E3 (fun q => by omega), c1, upE E2, b2]
  rw [if_neg c1]
  by_cases c2 : j = (n + 2).toNat
  · rw [if_pos c2, upN E4 (fun q => by omega), c2, upE E3, b3]
  rw [if_neg c2]
  by_cases c3 : j = (n + 3).toNat
  · rw [if_pos c3, c3, upE E4, b4]
  rw [if_neg c3, upN E4 (fun q => c3 q.2), upN E3 (fun q => c2 q.2), upN E2 (fun q => c1 q.2), upN E1 (fun q => c0 q.2)]
def tq (b : Nat → Int) (n v y : Int) : Nat → Int := fun j => if n ≤ (j : Int) ∧ (j : Int) < y then byt v (24 - 8 * ((j : Int) - n)) else b j
theorem tq_0 {b : Nat → Int} {n v : Int} : b = tq b n v n := by
  funext j; unfold tq; rw [if_neg (by omega)]
theorem tq_s {h h1 h2 : m_H} {b : Nat → Int} {n v y l x : Int} {w : Int} (hn : 0 ≤ n) (hy : n ≤ y) (k : h 113 = tq b n v y) (e : l = 24 - 8 * (y - n)) (ex : byt v l = x) (E1 : h1 = m_up h 113 y.toNat x) (E2 : h2 = m_up h1 108 8 w) : h2 113 = tq b n v (y + 1) := by
  funext j
  rw [upN E2 (fun q => absurd q.1 (by decide))]
  by_cases c : j = y.toNat
  · rw [c, upE E1, ← ex, e]
    unfold tq
    rw [if_pos (by omega), Int.toNat_of_nonneg (by omega)]
  · rw [upN E1 (fun q => c q.2), k]
    unfold tq
    by_cases d : n ≤ (j : Int) ∧ (j : Int) < y
    · rw [if_pos d, if_pos (by omega)]
    · rw [if_neg d, if_neg (by omega)]
theorem tq_4 {b : Nat → Int} {n v y : Int} (hn : 0 ≤ n) (e : y = n + 4) : tq b n v y = tp4 b n v := by
  subst e
  funext j
  unfold tq tp4
  by_cases c0 : j = n.toNat
  · rw [if_pos (by omega), if_pos c0, show 24 - 8 * ((j : Int) - n) = 24 by omega]
  by_cases c1 : j = (n + 1).toNat
  · rw [if_pos (by omega), if_neg c0, if_pos c1, show 24 - 8 * ((j : Int) - n) = 16 by omega]
  by_cases c2 : j = (n + 2).toNat
  · rw [if_pos (by omega), if_neg c0, if_neg c1, if_pos c2, show 24 - 8 * ((j : Int) - n) = 8 by omega]
  by_cases c3 : j = (n + 3).toNat
  · rw [if_pos (by omega), if_neg c0, if_neg c1, if_neg c2, if_pos c3, show 24 - 8 * ((j : Int) - n) = 0 by omega]
  · rw [if_neg (by omega), if_neg c0, if_neg c1, if_neg c2, if_neg c3]
theorem tp20_ch {b0 b1 b2 b3 b4 b5 : Nat → Int} {n0 n1 n2 n3 n4 v1 v2 v3 v4 v5 : Int} (k1 : b1 = tp4 b0 n0 v1) (e1 : n1 = n0 + 4) (k2 : b2 = tp4 b1 n1 v2) (e2 : n2 = n1 + 4) (k3 : b3 = tp4 b2 n2 v3) (e3 : n3 = n2 + 4) (k4 : b4 = tp4 b3 n3 v4) (e4 : n4 = n3 + 4) (k5 : b5 = tp4 b4 n4 v5) : b5 = tp20 b0 n0 v1 v2 v3 v4 v5 := by
  have f2 : n2 = n0 + 8 := by omega
  have f3 : n3 = n0 + 12 := by omega
  have f4 : n4 = n0 + 16 := by omega
  rw [k5, k4, k3, k2, k1, f4, f3, f2, e1]; rfl
abbrev P_X8_append3 (h0 : m_H) (a1 : Int) : m_H → Prop := fun h' => GI h' ∧ FR [36] [(35, 1)] h0 h' ∧ h' 35 1 = h0 35 1 + 4 ∧ h' 36 = tp4 (h0 36) (h0 35 1) a1
set_option maxHeartbeats 4000000 in
set_option maxRecDepth 100000 in
theorem c_X8_append3 (h0 : m_H) (a1 : Int) (G0 : GI h0) (ht : h0 35 1 ≤ 396) : m_CV M_X8_append [mR 35, mI a1] h0 (P_X8_append3 h0 a1) := by
  refine m_CV_of ⟨by decide, rfl, by simp [m_arg, m_isL, M_X8_append], ⟨rfl, rfl⟩, rfl, rfl⟩ (ls := [some (mR 35), some (mI a1)]) rfl ?_
  refine z_ok (fun _ _ ok => ?_)
  have oa1 : m_32 a1 := ok 1 _ rfl
  unfold m_32 at oa1
  obtain ⟨x1, ex1⟩ : ∃ y : Int, h0 35 1 = y := ⟨_, rfl⟩
  have bx1 : 0 ≤ x1 ∧ x1 ≤ 400 := ex1 ▸ g_35_1 G0
  refine z_aload_n (M := M_X8_append) 0 dX8_append_0 rfl ?_
  refine z_getIE (M := M_X8_append) 1 dX8_append_1 f_X8_15 o_35 (by decide) ex1 ?_
  refine z_iconst (M := M_X8_append) 4 dX8_append_4 ?_
  refine z_iaddN (M := M_X8_append) 5 dX8_append_5 (by omega) (by omega) ?_
  refine z_sipush (M := M_X8_append) 6 dX8_append_6 ?_
  refine z_icmp_le (M := M_X8_append) 9 dX8_append_9 13 rfl (fun c2 => ?_) (fun c2 => ?_)
  · refine z_aload_n (M := M_X8_append) 13 dX8_append_13 rfl ?_
    refine z_getR (M := M_X8_append) 14 dX8_append_14 f_X8_9 o_35 rfl (g_35_0 G0) ?_
    refine z_aload_n (M := M_X8_append) 17 dX8_append_17 rfl ?_
    refine z_getIE (M := M_X8_append) 18 dX8_append_18 f_X8_15 o_35 (by decide) ex1 ?_
    refine z_iload_n (M := M_X8_append) 21 dX8_append_21 rfl ?_
    refine z_bipush (M := M_X8_append) 22 dX8_append_22 ?_
    refine z_iushr (M := M_X8_append) 24 dX8_append_24 ?_
    refine z_topBI (m_ushr_24 _) (fun x3 ex3 ax3 bx3 => ?_)
    refine z_iastH (M := M_X8_append) 25 dX8_append_25 o_36 (by omega) (by omega) (u_36 G0 (by omega) (by omega)) ((FR.rf (cs := [36]) (ss := [(35, 1)]) (h := h0)).up rfl) (fun h1 E1 G1 R1 => ?_)
    refine z_aload_n (M := M_X8_append) 26 dX8_append_26 rfl ?_
    refine z_getR (M := M_X8_append) 27 dX8_append_27 f_X8_9 o_35 rfl (g_35_0 G1) ?_
    refine z_aload_n (M := M_X8_append) 30 dX8_append_30 rfl ?_
    refine z_getIE (M := M_X8_append) 31 dX8_append_31 f_X8_15 o_35 (by decide) ((upN E1 (fun q => absurd q.1 (by decide))).trans ex1) ?_
    refine z_iconst (M := M_X8_append) 34 dX8_append_34 ?_
    refine z_iaddN (M := M_X8_append) 35 dX8_append_35 (by omega) (by omega) ?_
    refine z_iload_n (M := M_X8_append) 36 dX8_append_36 rfl ?_
    refine z_bipush (M := M_X8_append) 37 dX8_append_37 ?_
    refine z_iushr (M := M_X8_append) 39 dX8_append_39 ?_
    refine z_topm (fun x4 ex4 ox4 => ?_)
    unfold m_32 at ox4
    refine z_sipush (M := M_X8_append) 40 dX8_append_40 ?_
    refine z_iand (M := M_X8_append) 43 dX8_append_43 ?_
    refine z_topBI (m_and_255 _) (fun x5 ex5 ax5 bx5 => ?_)
    refine z_iastH (M := M_X8_append) 44 dX8_append_44 o_36 (by omega) (by omega) (u_36 G1 (by omega) (by omega)) (R1.up rfl) (fun h2 E2 G2 R2 => ?_)
    refine z_aload_n (M := M_X8_append) 45 dX8_append_45 rfl ?_
    refine z_getR (M := M_X8_append) 46 dX8_append_46 f_X8_9 o_35 rfl (g_35_0 G2) ?_
    refine z_aload_n (M := M_X8_append) 49 dX8_append_49 rfl ?_
    refine z_getIE (M := M_X8_append) 50 dX8_append_50 f_X8_15 o_35 (by decide) ((upN E2 (fun q => absurd q.1 (by decide))).trans ((upN E1 (fun q => absurd q.1 (by decide))).trans ex1)) ?_
    refine z_iconst (M := M_X8_append) 53 dX8_append_53 ?_
    refine z_iaddN (M := M_X8_append) 54 dX8_append_54 (by omega) (by omega) ?_
    refine z_iload_n (M := M_X8_append) 55 dX8_append_55 rfl ?_
    refine z_bipush (M := M_X8_append) 56 dX8_append_56 ?_
    refine z_iushr (M := M_X8_append) 58 dX8_append_58 ?_
    refine z_topm (fun x6 ex6 ox6 => ?_)
    unfold m_32 at ox6
    refine z_sipush (M := M_X8_append) 59 dX8_append_59 ?_
    refine z_iand (M := M_X8_append) 62 dX8_append_62 ?_
    refine z_topBI (m_and_255 _) (fun x7 ex7 ax7 bx7 => ?_)
    refine z_iastH (M := M_X8_append) 63 dX8_append_63 o_36 (by omega) (by omega) (u_36 G2 (by omega) (by omega)) (R2.up rfl) (fun h3 E3 G3 R3 => ?_)
    refine z_aload_n (M := M_X8_append) 64 dX8_append_64 rfl ?_
    refine z_getR (M := M_X8_append) 65 dX8_append_65 f_X8_9 o_35 rfl (g_35_0 G3) ?_
    refine z_aload_n (M := M_X8_append) 68 dX8_append_68 rfl ?_
    refine z_getIE (M := M_X8_append) 69 dX8_append_69 f_X8_15 o_35 (by decide) ((upN E3 (fun q => absurd q.1 (by decide))).trans ((upN E2 (fun q => absurd q.1 (by decide))).trans ((upN E1 (fun q => absurd q.1 (by decide))).trans ex1))) ?_
    refine z_iconst (M := M_X8_append) 72 dX8_append_72 ?_
    refine z_iaddN (M := M_X8_append) 73 dX8_append_73 (by omega) (by omega) ?_
    refine z_iload_n (M := M_X8_append) 74 dX8_append_74 rfl ?_
    refine z_sipush (M := M_X8_append) 75 dX8_append_75 ?_
    refine z_iand (M := M_X8_append) 78 dX8_append_78 ?_
    refine z_topBI (m_and_255 _) (fun x8 ex8 ax8 bx8 => ?_)
    refine z_iastH (M := M_X8_append) 79 dX8_append_79 o_36 (by omega) (by omega) (u_36 G3 (by omega) (by omega)) (R3.up rfl) (fun h4 E4 G4 R4 => ?_)
    refine z_aload_n (M := M_X8_append) 80 dX8_append_80 rfl ?_
    refine z_dup (M := M_X8_append) 81 dX8_append_81 rfl ?_
    refine z_getIE (M := M_X8_append) 82 dX8_append_82 f_X8_15 o_35 (by decide) ((upN E4 (fun q => absurd q.1 (by decide))).trans ((upN E3 (fun q => absurd q.1 (by decide))).trans ((upN E2 (fun q => absurd q.1 (by decide))).trans ((upN E1 (fun q => absurd q.1 (by decide))).trans ex1)))) ?_
    refine z_iconst (M := M_X8_append) 85 dX8_append_85 ?_
    refine z_iaddN (M := M_X8_append) 86 dX8_append_86 (by omega) (by omega) ?_
    refine z_putIH (M := M_X8_append) 87 dX8_append_87 p_X8_15 o_35 rfl (u_35_1 G4 (by omega) (by omega)) (R4.up rfl) (fun h5 E5 G5 R5 => ?_)
    have z8 : h5 35 1 = (x1 + 4) := (upE E5)
    exact z_retV (M := M_X8_append) 90 dX8_append_90 rfl ⟨G5, R5, by omega, by rw [ex1]; exact tp4_up (by omega) (by decide) E1 E2 E3 E4 E5 (ex3.symm.trans byt_24) (by rw [← ex5, ← ex4]; exact byt_k (k := 16) (by decide)) (by rw [← ex7, ← ex6]; exact byt_k (k := 8) (by decide)) (ex8.symm.trans (byt_0 (by omega) (by omega)))⟩
  · have z8 : h0 35 1 = x1 := ex1
    exact z_retV (M := M_X8_append) 12 dX8_append_12 rfl ⟨G0, (FR.rf (cs := [36]) (ss := [(35, 1)]) (h := h0)), by omega, by exfalso; omega⟩
abbrev P_X11_feed3 (h0 : m_H) (a1 a2 a3 a4 a5 : Int) : Int → m_H → Prop := fun x h' => GI h' ∧ FR [36] [(35, 1)] h0 h' ∧ ((380 < h0 35 1 ∧ x = -1 ∧ h' 35 1 = h0 35 1) ∨ (h0 35 1 ≤ 380 ∧ x = h0 35 1 + 20 ∧ h' 35 1 = h0 35 1 + 20)) ∧ h' 36 = (if h0 35 1 ≤ 380 then tp20 (h0 36) (h0 35 1) a1 a2 a3 a4 a5 else h0 36)
set_option maxHeartbeats 4000000 in
set_option maxRecDepth 100000 in
theorem c_X11_feed3 (h0 : m_H) (a1 a2 a3 a4 a5 : Int) (G0 : GI h0) : m_CI M_X11_feed [mR 0, mI a1, mI a2, mI a3, mI a4, mI a5] h0 (P_X11_feed3 h0 a1 a2 a3 a4 a5) := by
  refine m_CI_of ⟨by decide, rfl, by simp [m_arg, m_isL, M_X11_feed], ⟨rfl, rfl⟩, rfl, rfl⟩ (ls := [some (mR 0), some (mI a1), some (mI a2), some (mI a3), some (mI a4), some (mI a5)]) rfl ?_
  refine z_ok (fun _ _ ok => ?_)
  have oa1 : m_32 a1 := ok 1 _ rfl
  unfold m_32 at oa1
  have oa2 : m_32 a2 := ok 2 _ rfl
  unfold m_32 at oa2
  have oa3 : m_32 a3 := ok 3 _ rfl
  unfold m_32 at oa3
  have oa4 : m_32 a4 := ok 4 _ rfl
  unfold m_32 at oa4
  have oa5 : m_32 a5 := ok 5 _ rfl
  unfold m_32 at oa5
  obtain ⟨x1, ex1⟩ : ∃ y : Int, h0 35 1 = y := ⟨_, rfl⟩
  have bx1 : 0 ≤ x1 ∧ x1 ≤ 400 := ex1 ▸ g_35_1 G0
  refine z_aload_n (M := M_X11_feed) 0 dX11_feed_0 rfl ?_
  refine z_getR (M := M_X11_feed) 1 dX11_feed_1 f_X11_30 o_0 rfl (g_0_4 G0) ?_
  refine z_getIE (M := M_X11_feed) 4 dX11_feed_4 f_X11_187 o_35 (by decide) ex1 ?_
  refine z_bipush (M := M_X11_feed) 7 dX11_feed_7 ?_
  refine z_iaddN (M := M_X11_feed) 9 dX11_feed_9 (by omega) (by omega) ?_
  refine z_sipush (M := M_X11_feed) 10 dX11_feed_10 ?_
  refine z_icmp_le (M := M_X11_feed) 13 dX11_feed_13 18 rfl (fun c2 => ?_) (fun c2 => ?_)
  · refine z_aload_n (M := M_X11_feed) 18 dX11_feed_18 rfl ?_
    refine z_getR (M := M_X11_feed) 19 dX11_feed_19 f_X11_30 o_0 rfl (g_0_4 G0) ?_
    refine z_iload_n (M := M_X11_feed) 22 dX11_feed_22 rfl ?_
    refine z_vV (M := M_X11_feed) 23 dX11_feed_23 t_X8_append l_X11_190 (m_rr_of rfl) (rest := []) (c_X8_append3 h0 a1 G0 (le_e ex1 (by omega))) o_35 rfl rfl rfl (Nat.le_of_ble_eq_true rfl) ⟨rfl, rfl⟩ (fun h1 qx3 => ?_)
    obtain ⟨G1, S1, fx3_0, K3⟩ := qx3
    have R1 := (FR.rf (cs := [36]) (ss := [(35, 1)]) (h := h0)).call S1 (by decide +kernel)
    refine z_aload_n (M := M_X11_feed) 26 dX11_feed_26 rfl ?_
    refine z_getR (M := M_X11_feed) 27 dX11_feed_27 f_X11_30 o_0 rfl (g_0_4 G1) ?_
    refine z_iload_n (M := M_X11_feed) 30 dX11_feed_30 rfl ?_
    refine z_vV (M := M_X11_feed) 31 dX11_feed_31 t_X8_append l_X11_190 (m_rr_of rfl) (rest := []) (c_X8_append3 h1 a2 G1 (le_e (eq_ad fx3_0 ex1) (by omega))) o_35 rfl rfl rfl (Nat.le_of_ble_eq_true rfl) ⟨rfl, rfl⟩ (fun h2 qx4 => ?_)
    obtain ⟨G2, S2, fx4_0, K4⟩ := qx4
    have R2 := R1.call S2 (by decide +kernel)
    refine z_aload_n (M := M_X11_feed) 34 dX11_feed_34 rfl ?_
    refine z_getR (M := M_X11_feed) 35 dX11_feed_35 f_X11_30 o_0 rfl (g_0_4 G2) ?_
    refine z_iload_n (M := M_X11_feed) 38 dX11_feed_38 rfl ?_
    refine z_vV (M := M_X11_feed) 39 dX11_feed_39 t_X8_append l_X11_190 (m_rr_of rfl) (rest := []) (c_X8_append3 h2 a3 G2 (le_e (eq_ad fx4_0 (eq_ad fx3_0 ex1)) (by omega))) o_35 rfl rfl rfl (Nat.le_of_ble_eq_true rfl) ⟨rfl, rfl⟩ (fun h3 qx5 => ?_)
    obtain ⟨G3, S3, fx5_0, K5⟩ := qx5
    have R3 := R2.call S3 (by decide +kernel)
    refine z_aload_n (M := M_X11_feed) 42 dX11_feed_42 rfl ?_
    refine z_getR (M := M_X11_feed) 43 dX11_feed_43 f_X11_30 o_0 rfl (g_0_4 G3) ?_
    refine z_iload (M := M_X11_feed) 46 dX11_feed_46 rfl ?_
    refine z_vV (M := M_X11_feed) 48 dX11_feed_48 t_X8_append l_X11_190 (m_rr_of rfl) (rest := []) (c_X8_append3 h3 a4 G3 (le_e (eq_ad fx5_0 (eq_ad fx4_0 (eq_ad fx3_0 ex1))) (by omega))) o_35 rfl rfl rfl (Nat.le_of_ble_eq_true rfl) ⟨rfl, rfl⟩ (fun h4 qx6 => ?_)
    obtain ⟨G4, S4, fx6_0, K6⟩ := qx6
    have R4 := R3.call S4 (by decide +kernel)
    refine z_aload_n (M := M_X11_feed) 51 dX11_feed_51 rfl ?_
    refine z_getR (M := M_X11_feed) 52 dX11_feed_52 f_X11_30 o_0 rfl (g_0_4 G4) ?_
    refine z_iload (M := M_X11_feed) 55 dX11_feed_55 rfl ?_
    refine z_vV (M := M_X11_feed) 57 dX11_feed_57 t_X8_append l_X11_190 (m_rr_of rfl) (rest := []) (c_X8_append3 h4 a5 G4 (le_e (eq_ad fx6_0 (eq_ad fx5_0 (eq_ad fx4_0 (eq_ad fx3_0 ex1)))) (by omega))) o_35 rfl rfl rfl (Nat.le_of_ble_eq_true rfl) ⟨rfl, rfl⟩ (fun h5 qx7 => ?_)
    obtain ⟨G5, S5, fx7_0, K7⟩ := qx7
    have R5 := R4.call S5 (by decide +kernel)
    refine z_aload_n (M := M_X11_feed) 60 dX11_feed_60 rfl ?_
    refine z_getR (M := M_X11_feed) 61 dX11_feed_61 f_X11_30 o_0 rfl (g_0_4 G5) ?_
    refine z_getIE (M := M_X11_feed) 64 dX11_feed_64 f_X11_187 o_35 (by decide) (eq_ad fx7_0 (eq_ad fx6_0 (eq_ad fx5_0 (eq_ad fx4_0 (eq_ad fx3_0 ex1))))) ?_
    have z8 : h5 35 1 = (((((x1 + 4) + 4) + 4) + 4) + 4) := (eq_ad fx7_0 (eq_ad fx6_0 (eq_ad fx5_0 (eq_ad fx4_0 (eq_ad fx3_0 ex1)))))
    exact z_retI (M := M_X11_feed) 67 dX11_feed_67 rfl ⟨G5, R5, by omega, by rw [if_pos (by omega)]; exact tp20_ch K3 fx3_0 K4 fx4_0 K5 fx5_0 K6 fx6_0 K7⟩
  · refine z_iconst (M := M_X11_feed) 16 dX11_feed_16 ?_
    have z8 : h0 35 1 = x1 := ex1
    exact z_retI (M := M_X11_feed) 17 dX11_feed_17 rfl ⟨G0, (FR.rf (cs := [36]) (ss := [(35, 1)]) (h := h0)), by omega, by rw [if_neg (by omega)]⟩
abbrev P_X12_four3 (h0 : m_H) (a1 : Int) : m_H → Prop := fun h' => GI h' ∧ FR [113] [(108, 8)] h0 h' ∧ h' 108 8 = h0 108 8 + 4 ∧ h' 113 = tp4 (h0 113) (h0 108 8) a1
def q_X12_four3 (h0 : m_H) (a1 : Int) (n : Nat) : Prop := (∀ (l2 y_108_8 : Int) (h : m_H), GI h → FR [113] [(108, 8)] h0 h → (-8) ≤ l2 → l2 ≤ 24 → 0 ≤ y_108_8 → y_108_8 ≤ 400 → (-2147483648) ≤ a1 → a1 ≤ 2147483647 → (h 108 8 = y_108_8) → (8 * y_108_8 = 8 * h0 108 8 + 24 - l2) → (h 113 = tq (h0 113) (h0 108 8) a1 y_108_8) → 2 * (l2 - (-8)) + (1) ≤ (n : Int) → m_Z oF M_X12_four 3 [some (mR 108), some (mI a1), some (mI l2)] [] h (m_QV (P_X12_four3 h0 a1)))
set_option maxHeartbeats 4000000 in
set_option maxRecDepth 100000 in
theorem s_X12_four3_3 (h0 : m_H) (a1 : Int) (G0 : GI h0) (ht : h0 108 8 ≤ 396) (n : Nat) (ih : q_X12_four3 h0 a1 n) : ∀ (l2 y_108_8 : Int) (h : m_H), GI h → FR [113] [(108, 8)] h0 h → (-8) ≤ l2 → l2 ≤ 24 → 0 ≤ y_108_8 → y_108_8 ≤ 400 → (-2147483648) ≤ a1 → a1 ≤ 2147483647 → (h 108 8 = y_108_8) → (8 * y_108_8 = 8 * h0 108 8 + 24 - l2) → (h 113 = tq (h0 113) (h0 108 8) a1 y_108_8) → 2 * (l2 - (-8)) + (1) ≤ ((n + 1 : Nat) : Int) → m_Z oF M_X12_four 3 [some (mR 108), some (mI a1), some (mI l2)] [] h (m_QV (P_X12_four3 h0 a1)) := by
  intro l2 y_108_8 h G R v0 v1 v2 v3 v4 v5 t_108_8 i0 i1 hr
  refine z_iload_n (M := M_X12_four) 3 dX12_four_3 rfl ?_
  refine z_if_lt (M := M_X12_four) 4 dX12_four_4 39 rfl (fun c1 => ?_) (fun c1 => ?_)
  · exact z_retV (M := M_X12_four) 39 dX12_four_39 rfl ⟨G, R, by omega, by have := (g_108_8 G0); rw [i1]; exact tq_4 (by omega) (by omega)⟩
  · refine z_aload_n (M := M_X12_four) 7 dX12_four_7 rfl ?_
    refine z_getR (M := M_X12_four) 8 dX12_four_8 f_X12_23 o_108 rfl (g_108_7 G) ?_
    refine z_aload_n (M := M_X12_four) 11 dX12_four_11 rfl ?_
    refine z_getIE (M := M_X12_four) 12 dX12_four_12 f_X12_201 o_108 (by decide) t_108_8 ?_
    refine z_iload_n (M := M_X12_four) 15 dX12_four_15 rfl ?_
    refine z_iload_n (M := M_X12_four) 16 dX12_four_16 rfl ?_
    refine z_ishr (M := M_X12_four) 17 dX12_four_17 ?_
    refine z_topm (fun x2 ex2 ox2 => ?_)
    unfold m_32 at ox2
    refine z_sipush (M := M_X12_four) 18 dX12_four_18 ?_
    refine z_iand (M := M_X12_four) 21 dX12_four_21 ?_
    refine z_topBI (m_and_255 _) (fun x3 ex3 ax3 bx3 => ?_)
    refine z_iastH (M := M_X12_four) 22 dX12_four_22 o_113 (by omega) (by omega) (u_113 G (by omega) (by omega)) (R.up rfl) (fun h1 E1 G1 R1 => ?_)
    refine z_aload_n (M := M_X12_four) 23 dX12_four_23 rfl ?_
    refine z_dup (M := M_X12_four) 24 dX12_four_24 rfl ?_
    refine z_getIE (M := M_X12_four) 25 dX12_four_25 f_X12_201 o_108 (by decide) ((upN E1 (fun q => absurd q.1 (by decide))).trans t_108_8) ?_
    refine z_iconst (M := M_X12_four) 28 dX12_four_28 ?_
    refine z_iaddN (M := M_X12_four) 29 dX12_four_29 (by omega) (by omega) ?_
    refine z_putIH (M := M_X12_four) 30 dX12_four_30 p_X12_201 o_108 rfl (u_108_8 G1 (by omega) (by omega)) (R1.up rfl) (fun h2 E2 G2 R2 => ?_)
    refine z_iincN (M := M_X12_four) 33 dX12_four_33 (ls' := [some (mR 108), some (mI a1), some (mI (l2 + (-8)))]) (by decide) rfl (by (unfold m_32; decide)) (by omega) (by omega) rfl ?_
    refine z_goto (M := M_X12_four) 36 dX12_four_36 3 rfl ?_
    exact z_mask [true, true, true] rfl (ih (l2 + (-8)) (y_108_8 + 1) h2 G2 R2 (by omega) (by omega) (by omega) (by omega) (by omega) (by omega) (upE E2) (by omega) (by have := (g_108_8 G0); exact tq_s (l := l2) (by omega) (by omega) i1 (by omega) (by rw [← ex3, ← ex2]; rfl) E1 E2) (by omega))
theorem a_X12_four3 (h0 : m_H) (a1 : Int) (G0 : GI h0) (ht : h0 108 8 ≤ 396) : ∀ n, q_X12_four3 h0 a1 n := by
  intro n
  induction n with
  | zero => unfold q_X12_four3; intros; omega
  | succ n ih => exact s_X12_four3_3 h0 a1 G0 ht n ih
set_option maxHeartbeats 4000000 in
set_option maxRecDepth 100000 in
theorem c_X12_four3 (h0 : m_H) (a1 : Int) (G0 : GI h0) (ht : h0 108 8 ≤ 396) : m_CV M_X12_four [mR 108, mI a1] h0 (P_X12_four3 h0 a1) := by
  refine m_CV_of ⟨by decide, rfl, by simp [m_arg, m_isL, M_X12_four], ⟨rfl, rfl⟩, rfl, rfl⟩ (ls := [some (mR 108), some (mI a1), none]) rfl ?_
  have ih := a_X12_four3 h0 a1 G0 ht 72
  refine z_ok (fun _ _ ok => ?_)
  have oa1 : m_32 a1 := ok 1 _ rfl
  unfold m_32 at oa1
  obtain ⟨x1, ex1⟩ : ∃ y : Int, h0 108 8 = y := ⟨_, rfl⟩
  have bx1 : 0 ≤ x1 ∧ x1 ≤ 400 := ex1 ▸ g_108_8 G0
  refine z_bipush (M := M_X12_four) 0 dX12_four_0 ?_
  refine z_istore_n (M := M_X12_four) 2 dX12_four_2 (ls' := [some (mR 108), some (mI a1), some (mI 24)]) (by decide) rfl ?_
  exact z_mask [true, true, true] rfl (ih 24 x1 h0 G0 (FR.rf (cs := [113]) (ss := [(108, 8)]) (h := h0)) (by omega) (by omega) (by omega) (by omega) (by omega) (by omega) ex1 (by omega) (by rw [← ex1]; exact tq_0) (by omega))
abbrev P_X12_feed3 (h0 : m_H) (a1 a2 a3 a4 a5 : Int) : Int → m_H → Prop := fun x h' => GI h' ∧ FR [113] [(108, 0), (108, 8)] h0 h' ∧ ((380 < h0 108 8 ∧ x = -1 ∧ h' 108 8 = h0 108 8) ∨ (h0 108 8 ≤ 380 ∧ x = h0 108 8 + 20 ∧ h' 108 8 = h0 108 8 + 20)) ∧ h' 113 = (if h0 108 8 ≤ 380 then tp20 (h0 113) (h0 108 8) a1 a2 a3 a4 a5 else h0 113)
set_option maxHeartbeats 4000000 in
set_option maxRecDepth 100000 in
theorem c_X12_feed3 (h0 : m_H) (a1 a2 a3 a4 a5 : Int) (G0 : GI h0) : m_CI M_X12_feed [mR 108, mI a1, mI a2, mI a3, mI a4, mI a5] h0 (P_X12_feed3 h0 a1 a2 a3 a4 a5) := by
  refine m_CI_of ⟨by decide, rfl, by simp [m_arg, m_isL, M_X12_feed], ⟨rfl, rfl⟩, rfl, rfl⟩ (ls := [some (mR 108), some (mI a1), some (mI a2), some (mI a3), some (mI a4), some (mI a5)]) rfl ?_
  refine z_ok (fun _ _ ok => ?_)
  have oa1 : m_32 a1 := ok 1 _ rfl
  unfold m_32 at oa1
  have oa2 : m_32 a2 := ok 2 _ rfl
  unfold m_32 at oa2
  have oa3 : m_32 a3 := ok 3 _ rfl
  unfold m_32 at oa3
  have oa4 : m_32 a4 := ok 4 _ rfl
  unfold m_32 at oa4
  have oa5 : m_32 a5 := ok 5 _ rfl
  unfold m_32 at oa5
  obtain ⟨x1, ex1⟩ : ∃ y : Int, h0 108 8 = y := ⟨_, rfl⟩
  have bx1 : 0 ≤ x1 ∧ x1 ≤ 400 := ex1 ▸ g_108_8 G0
  refine z_aload_n (M := M_X12_feed) 0 dX12_feed_0 rfl ?_
  refine z_iconst (M := M_X12_feed) 1 dX12_feed_1 ?_
  refine z_putIH (M := M_X12_feed) 2 dX12_feed_2 p_X12_133 o_108 rfl (u_108_0 G0) ((FR.rf (cs := [113]) (ss := [(108, 0), (108, 8)]) (h := h0)).up rfl) (fun h1 E1 G1 R1 => ?_)
  refine z_aload_n (M := M_X12_feed) 5 dX12_feed_5 rfl ?_
  refine z_getIE (M := M_X12_feed) 6 dX12_feed_6 f_X12_201 o_108 (by decide) ((upN E1 (fun q => absurd q.2 (by decide))).trans ex1) ?_
  refine z_bipush (M := M_X12_feed) 9 dX12_feed_9 ?_
  refine z_iaddN (M := M_X12_feed) 11 dX12_feed_11 (by omega) (by omega) ?_
  refine z_sipush (M := M_X12_feed) 12 dX12_feed_12 ?_
  refine z_icmp_le (M := M_X12_feed) 15 dX12_feed_15 20 rfl (fun c2 => ?_) (fun c2 => ?_)
  · refine z_aload_n (M := M_X12_feed) 20 dX12_feed_20 rfl ?_
    refine z_iload_n (M := M_X12_feed) 21 dX12_feed_21 rfl ?_
    refine z_vV (M := M_X12_feed) 22 dX12_feed_22 t_X12_four l_X12_207 (m_rr_of rfl) (rest := []) (c_X12_four3 h1 a1 G1 (le_e ((upN E1 (fun q => absurd q.2 (by decide))).trans ex1) (by omega))) o_108 rfl rfl rfl (Nat.le_of_ble_eq_true rfl) ⟨rfl, rfl⟩ (fun h2 qx3 => ?_)
    obtain ⟨G2, S2, fx3_0, K3⟩ := qx3
    have R2 := R1.call S2 (by decide +kernel)
    refine z_aload_n (M := M_X12_feed) 25 dX12_feed_25 rfl ?_
    refine z_iload_n (M := M_X12_feed) 26 dX12_feed_26 rfl ?_
    refine z_vV (M := M_X12_feed) 27 dX12_feed_27 t_X12_four l_X12_207 (m_rr_of rfl) (rest := []) (c_X12_four3 h2 a2 G2 (le_e (eq_ad fx3_0 ((upN E1 (fun q => absurd q.2 (by decide))).trans ex1)) (by omega))) o_108 rfl rfl rfl (Nat.le_of_ble_eq_true rfl) ⟨rfl, rfl⟩ (fun h3 qx4 => ?_)
    obtain ⟨G3, S3, fx4_0, K4⟩ := qx4
    have R3 := R2.call S3 (by decide +kernel)
    refine z_aload_n (M := M_X12_feed) 30 dX12_feed_30 rfl ?_
    refine z_iload_n (M := M_X12_feed) 31 dX12_feed_31 rfl ?_
    refine z_vV (M := M_X12_feed) 32 dX12_feed_32 t_X12_four l_X12_207 (m_rr_of rfl) (rest := []) (c_X12_four3 h3 a3 G3 (le_e (eq_ad fx4_0 (eq_ad fx3_0 ((upN E1 (fun q => absurd q.2 (by decide))).trans ex1))) (by omega))) o_108 rfl rfl rfl (Nat.le_of_ble_eq_true rfl) ⟨rfl, rfl⟩ (fun h4 qx5 => ?_)
    obtain ⟨G4, S4, fx5_0, K5⟩ := qx5
    have R4 := R3.call S4 (by decide +kernel)
    refine z_aload_n (M := M_X12_feed) 35 dX12_feed_35 rfl ?_
    refine z_iload (M := M_X12_feed) 36 dX12_feed_36 rfl ?_
    refine z_vV (M := M_X12_feed) 38 dX12_feed_38 t_X12_four l_X12_207 (m_rr_of rfl) (rest := []) (c_X12_four3 h4 a4 G4 (le_e (eq_ad fx5_0 (eq_ad fx4_0 (eq_ad fx3_0 ((upN E1 (fun q => absurd q.2 (by decide))).trans ex1)))) (by omega))) o_108 rfl rfl rfl (Nat.le_of_ble_eq_true rfl) ⟨rfl, rfl⟩ (fun h5 qx6 => ?_)
    obtain ⟨G5, S5, fx6_0, K6⟩ := qx6
    have R5 := R4.call S5 (by decide +kernel)
    refine z_aload_n (M := M_X12_feed) 41 dX12_feed_41 rfl ?_
    refine z_iload (M := M_X12_feed) 42 dX12_feed_42 rfl ?_
    refine z_vV (M := M_X12_feed) 44 dX12_feed_44 t_X12_four l_X12_207 (m_rr_of rfl) (rest := []) (c_X12_four3 h5 a5 G5 (le_e (eq_ad fx6_0 (eq_ad fx5_0 (eq_ad fx4_0 (eq_ad fx3_0 ((upN E1 (fun q => absurd q.2 (by decide))).trans ex1))))) (by omega))) o_108 rfl rfl rfl (Nat.le_of_ble_eq_true rfl) ⟨rfl, rfl⟩ (fun h6 qx7 => ?_)
    obtain ⟨G6, S6, fx7_0, K7⟩ := qx7
    have R6 := R5.call S6 (by decide +kernel)
    refine z_aload_n (M := M_X12_feed) 47 dX12_feed_47 rfl ?_
    refine z_getIE (M := M_X12_feed) 48 dX12_feed_48 f_X12_201 o_108 (by decide) (eq_ad fx7_0 (eq_ad fx6_0 (eq_ad fx5_0 (eq_ad fx4_0 (eq_ad fx3_0 ((upN E1 (fun q => absurd q.2 (by decide))).trans ex1)))))) ?_
    have z8 : h6 108 8 = (((((x1 + 4) + 4) + 4) + 4) + 4) := (eq_ad fx7_0 (eq_ad fx6_0 (eq_ad fx5_0 (eq_ad fx4_0 (eq_ad fx3_0 ((upN E1 (fun q => absurd q.2 (by decide))).trans ex1))))))
    exact z_retI (M := M_X12_feed) 51 dX12_feed_51 rfl ⟨G6, R6, by omega, by rw [if_pos (by omega), show h0 113 = h1 113 from (funext fun j => (upN E1 (fun q => absurd q.1 (by decide))).symm), show h0 108 8 = h1 108 8 from (upN E1 (fun q => absurd q.2 (by decide))).symm]; exact tp20_ch K3 fx3_0 K4 fx4_0 K5 fx5_0 K6 fx6_0 K7⟩
  · refine z_iconst (M := M_X12_feed) 18 dX12_feed_18 ?_
    have z8 : h1 108 8 = x1 := ((upN E1 (fun q => absurd q.2 (by decide))).trans ex1)
    exact z_retI (M := M_X12_feed) 19 dX12_feed_19 rfl ⟨G1, R1, by omega, by rw [if_neg (by omega)]; exact (funext fun j => upN E1 (fun q => absurd q.1 (by decide)))⟩
/-! both, wholly alike -/
abbrev P_X11_image3 (h0 : m_H) (a1 : Int) : Int → m_H → Prop := fun x h' => GI h' ∧ FR [18, 19, 20, 21, 22, 23, 24, 25, 26, 27, 28, 29, 30, 31, 32, 33, 34, 107] [(0, 14)] h0 h' ∧ imQ 34 a1 x h0 h' ∧ imC a1 h0 h'
set_option maxHeartbeats 4000000 in
set_option maxRecDepth 100000 in
theorem c_X11_image3 (h0 : m_H) (a1 : Int) (G0 : GI h0) : m_CI M_X11_image [mR 0, mI a1] h0 (P_X11_image3 h0 a1) := by
  refine m_CI_of ⟨by decide, rfl, by simp [m_arg, m_isL, M_X11_image], ⟨rfl, rfl⟩, rfl, rfl⟩ (ls := [some (mR 0), some (mI a1)]) rfl ?_
  refine z_ok (fun _ _ ok => ?_)
  have oa1 : m_32 a1 := ok 1 _ rfl
  unfold m_32 at oa1
  refine z_iload_n (M := M_X11_image) 0 dX11_image_0 rfl ?_
  refine z_iconst (M := M_X11_image) 1 dX11_image_1 ?_
  refine z_iconst (M := M_X11_image) 2 dX11_image_2 ?_
  refine z_sI (M := M_X11_image) 3 dX11_image_3 t_X11_within l_X11_112 (m_rr_of rfl) (rest := []) (c_X11_within h0 a1 0 1 G0) rfl rfl (Nat.le_of_ble_eq_true rfl) ⟨rfl, rfl⟩ (fun x1 h1 qx1 => ?_)
  obtain ⟨rfl, ⟨rfl, cx1⟩ | ⟨rfl, cx1⟩⟩ := qx1
  · refine z_if_ne_T (M := M_X11_image) 6 dX11_image_6 15 rfl (by omega) ?_
    refine z_aload_n (M := M_X11_image) 15 dX11_image_15 rfl ?_
    refine z_getR (M := M_X11_image) 16 dX11_image_16 f_X11_19 o_0 rfl (g_0_2 G0) ?_
    refine z_iload_n (M := M_X11_image) 19 dX11_image_19 rfl ?_
    have hi2 := isL_17 (i := a1) (by omega) (by omega)
    refine z_aaldL (M := M_X11_image) 20 dX11_image_20 o_17 (by omega) (by omega) (g_17 G0 (by omega)) ?_
    refine z_aload_n (M := M_X11_image) 21 dX11_image_21 rfl ?_
    refine z_getR (M := M_X11_image) 22 dX11_image_22 f_X11_12 o_0 rfl (g_0_0 G0) ?_
    refine z_vV (M := M_X11_image) 25 dX11_image_25 t_X4_copyFrom l_X11_197 (m_rr_of rfl) (rest := []) (c_X4_copyFrom2 h0 (18 + 8 * (a1).toNat) 1 hi2 (Or.inl rfl) G0) (oL hi2) rfl rfl rfl (Nat.le_of_ble_eq_true rfl) ⟨rfl, rfl⟩ (fun h2 qx3 => ?_)
    obtain ⟨G2, S2, C2⟩ := qx3
    have R2 := (FR.rf (cs := [18, 19, 20, 21, 22, 23, 24, 25, 26, 27, 28, 29, 30, 31, 32, 33, 34, 107]) (ss := [(0, 14)]) (h := h0)).call S2 (by rcases (show a1 = 0 ∨ a1 = 1 by omega) with rfl | rfl <;> decide +kernel)
    refine z_aload_n (M := M_X11_image) 28 dX11_image_28 rfl ?_
    refine z_getR (M := M_X11_image) 29 dX11_image_29 f_X11_23 o_0 rfl (g_0_3 G2) ?_
    refine z_iload_n (M := M_X11_image) 32 dX11_image_32 rfl ?_
    refine z_iconst (M := M_X11_image) 33 dX11_image_33 ?_
    refine z_zastH (M := M_X11_image) 34 dX11_image_34 o_34 (by omega) (by omega) (by omega) (u_34 G2 (by omega) (by omega)) (R2.up rfl) (fun h3 E3 G3 R3 => ?_)
    refine z_aload_n (M := M_X11_image) 35 dX11_image_35 rfl ?_
    refine z_iconst (M := M_X11_image) 36 dX11_image_36 ?_
    refine z_vI (M := M_X11_image) 37 dX11_image_37 t_X11_accept l_X11_123 (m_rr_of rfl) (rest := []) (c_X11_accept h3 0 G3) o_0 rfl rfl rfl (Nat.le_of_ble_eq_true rfl) ⟨rfl, rfl⟩ (fun x4 h4 qx4 => ?_)
    obtain ⟨G4, S4, rfl⟩ := qx4
    have R4 := R3.call S4 (by decide +kernel)
    exact z_retI (M := M_X11_image) 40 dX11_image_40 rfl ⟨G4, R4, Or.inr ⟨by omega, by omega, rfl, (S4 34 _ rfl).trans (upE E3), fun j hj => ((S4 34 j rfl).trans (upN E3 (fun q => hj q.2))).trans (S2 34 j (by rcases (show a1 = 0 ∨ a1 = 1 by omega) with rfl | rfl <;> rfl))⟩, imC_ok (by omega) (by omega) rfl S2 C2 E3 S4 (by decide)⟩
  · refine z_if_ne_F (M := M_X11_image) 6 dX11_image_6 15 rfl (by omega) ?_
    refine z_aload_n (M := M_X11_image) 9 dX11_image_9 rfl ?_
    refine z_iconst (M := M_X11_image) 10 dX11_image_10 ?_
    refine z_vI (M := M_X11_image) 11 dX11_image_11 t_X11_refuse l_X11_116 (m_rr_of rfl) (rest := []) (c_X11_refuse h0 (-1) G0 ⟨by omega, by omega⟩) o_0 rfl rfl rfl (Nat.le_of_ble_eq_true rfl) ⟨rfl, rfl⟩ (fun x5 h5 qx5 => ?_)
    obtain ⟨G5, S5, rfl⟩ := qx5
    have R5 := (FR.rf (cs := [18, 19, 20, 21, 22, 23, 24, 25, 26, 27, 28, 29, 30, 31, 32, 33, 34, 107]) (ss := [(0, 14)]) (h := h0)).call S5 (by decide +kernel)
    exact z_retI (M := M_X11_image) 14 dX11_image_14 rfl ⟨G5, R5, Or.inl ⟨by omega, rfl, fun j => S5 34 j rfl⟩, imC_no (by omega) S5 (by decide)⟩
abbrev P_X11_blurred3 (h0 : m_H) : Int → m_H → Prop := fun x h' => GI h' ∧ FR [] [] h0 h' ∧ h0 0 15 = x
set_option maxHeartbeats 4000000 in
set_option maxRecDepth 100000 in
theorem c_X11_blurred3 (h0 : m_H) (G0 : GI h0) : m_CI M_X11_blurred [mR 0] h0 (P_X11_blurred3 h0) := by
  refine m_CI_of ⟨by decide, rfl, by simp [m_arg, m_isL, M_X11_blurred], ⟨rfl, rfl⟩, rfl, rfl⟩ (ls := [some (mR 0)]) rfl ?_
  refine z_aload_n (M := M_X11_blurred) 0 dX11_blurred_0 rfl ?_
  refine z_getIV (M := M_X11_blurred) 1 dX11_blurred_1 f_X11_102 o_0 (by decide) (fun x1 ex1 => ?_)
  refine z_ok (fun ox1 _ _ => ?_)
  have ox1 := ox1.1; unfold m_ok m_32 at ox1
  exact z_retI (M := M_X11_blurred) 4 dX11_blurred_4 rfl ⟨G0, (FR.rf (cs := []) (ss := []) (h := h0)), ex1⟩
abbrev P_X12_blurred3 (h0 : m_H) : Int → m_H → Prop := fun x h' => GI h' ∧ FR [] [(108, 0)] h0 h' ∧ h0 108 6 = x
set_option maxHeartbeats 4000000 in
set_option maxRecDepth 100000 in
theorem c_X12_blurred3 (h0 : m_H) (G0 : GI h0) : m_CI M_X12_blurred [mR 108] h0 (P_X12_blurred3 h0) := by
  refine m_CI_of ⟨by decide, rfl, by simp [m_arg, m_isL, M_X12_blurred], ⟨rfl, rfl⟩, rfl, rfl⟩ (ls := [some (mR 108)]) rfl ?_
  refine z_aload_n (M := M_X12_blurred) 0 dX12_blurred_0 rfl ?_
  refine z_iconst (M := M_X12_blurred) 1 dX12_blurred_1 ?_
  refine z_putIH (M := M_X12_blurred) 2 dX12_blurred_2 p_X12_133 o_108 rfl (u_108_0 G0) ((FR.rf (cs := []) (ss := [(108, 0)]) (h := h0)).up rfl) (fun h1 E1 G1 R1 => ?_)
  refine z_aload_n (M := M_X12_blurred) 5 dX12_blurred_5 rfl ?_
  refine z_getIV (M := M_X12_blurred) 6 dX12_blurred_6 f_X12_204 o_108 (by decide) (fun x1 ex1 => ?_)
  refine z_ok (fun ox1 _ _ => ?_)
  have ox1 := ox1.1; unfold m_ok m_32 at ox1
  exact z_retI (M := M_X12_blurred) 9 dX12_blurred_9 rfl ⟨G1, R1, (upN E1 (fun q => absurd q.2 (by decide))).symm.trans ex1⟩
abbrev P_X11_fault3 (h0 : m_H) : Int → m_H → Prop := fun x h' => GI h' ∧ FR [] [] h0 h' ∧ h0 0 16 = x
set_option maxHeartbeats 4000000 in
set_option maxRecDepth 100000 in
theorem c_X11_fault3 (h0 : m_H) (G0 : GI h0) : m_CI M_X11_fault [mR 0] h0 (P_X11_fault3 h0) := by
  refine m_CI_of ⟨by decide, rfl, by simp [m_arg, m_isL, M_X11_fault], ⟨rfl, rfl⟩, rfl, rfl⟩ (ls := [some (mR 0)]) rfl ?_
  refine z_aload_n (M := M_X11_fault) 0 dX11_fault_0 rfl ?_
  refine z_getIV (M := M_X11_fault) 1 dX11_fault_1 f_X11_105 o_0 (by decide) (fun x1 ex1 => ?_)
  refine z_ok (fun ox1 _ _ => ?_)
  have ox1 := ox1.1; unfold m_ok m_32 at ox1
  exact z_retI (M := M_X11_fault) 4 dX11_fault_4 rfl ⟨G0, (FR.rf (cs := []) (ss := []) (h := h0)), ex1⟩
abbrev P_X12_fault3 (h0 : m_H) : Int → m_H → Prop := fun x h' => GI h' ∧ FR [] [(108, 0)] h0 h' ∧ h0 108 13 = x
set_option maxHeartbeats 4000000 in
set_option maxRecDepth 100000 in
theorem c_X12_fault3 (h0 : m_H) (G0 : GI h0) : m_CI M_X12_fault [mR 108] h0 (P_X12_fault3 h0) := by
  refine m_CI_of ⟨by decide, rfl, by simp [m_arg, m_isL, M_X12_fault], ⟨rfl, rfl⟩, rfl, rfl⟩ (ls := [some (mR 108)]) rfl ?_
  refine z_aload_n (M := M_X12_fault) 0 dX12_fault_0 rfl ?_
  refine z_iconst (M := M_X12_fault) 1 dX12_fault_1 ?_
  refine z_putIH (M := M_X12_fault) 2 dX12_fault_2 p_X12_133 o_108 rfl (u_108_0 G0) ((FR.rf (cs := []) (ss := [(108, 0)]) (h := h0)).up rfl) (fun h1 E1 G1 R1 => ?_)
  refine z_aload_n (M := M_X12_fault) 5 dX12_fault_5 rfl ?_
  refine z_getIV (M := M_X12_fault) 6 dX12_fault_6 f_X12_26 o_108 (by decide) (fun x1 ex1 => ?_)
  refine z_ok (fun ox1 _ _ => ?_)
  have ox1 := ox1.1; unfold m_ok m_32 at ox1
  exact z_retI (M := M_X12_fault) 9 dX12_fault_9 rfl ⟨G1, R1, (upN E1 (fun q => absurd q.2 (by decide))).symm.trans ex1⟩
def LX (h : m_H) : Prop := KP h ∧ LR 1 h (h 110) ∧ (∀ k, k < 2 → h 34 k ≠ 0 → LR (18 + 8 * k) h (fun j => h 111 (200 * k + j))) ∧ h 36 = h 113 ∧ h 0 15 = h 108 6 ∧ h 0 16 = h 108 13
theorem LX.gen {h h' : m_H} (R : LX h) (L : LR 1 h' (h' 110)) (eI : ∀ c, 18 ≤ c → c ≤ 34 → ∀ j, h' c j = h c j) (e1 : ∀ j, h' 111 j = h 111 j) (e2 : ∀ j, h' 112 j = h 112 j) (t : h' 36 = h' 113) (b : h' 0 15 = h' 108 6) (f : h' 0 16 = h' 108 13) : LX h' := by
  obtain ⟨r1, r2, r3, -⟩ := R
  refine ⟨r1.call (eI 34 (by decide) (by decide)) e2, L, fun k hk hn => ?_, t, b, f⟩
  rw [eI 34 (by decide) (by decide)] at hn
  exact LR.same (r3 k hk hn) (fun i hi j => eI _ (by omega) (by omega) j) (fun j _ => e1 _)
/-- a frame leaves the images; the tape's bytes; what is kept of row and book -/
def fzI (cs : List Nat) (ss : List (Nat × Nat)) : Bool := out 18 34 cs ss && out 111 112 cs ss
def fzT (cs : List Nat) (ss : List (Nat × Nat)) : Bool := out 36 36 cs ss && out 113 113 cs ss
def fzB (cs : List Nat) (ss : List (Nat × Nat)) : Bool := !fr cs ss 0 15 && !fr cs ss 0 16 && !fr cs ss 108 6 && !fr cs ss 108 13
theorem fzI_1 {cs : List Nat} {ss : List (Nat × Nat)} {h h' : m_H} (o : fzI cs ss = true) (S : FR cs ss h h') : (∀ c, 18 ≤ c → c ≤ 34 → ∀ j, h' c j = h c j) ∧ (∀ j, h' 111 j = h 111 j) ∧ (∀ j, h' 112 j = h 112 j) := by
  unfold fzI at o; rw [Bool.and_eq_true] at o
  exact ⟨fun c u v j => S _ _ (fr_out o.1 u v j), fun j => S _ _ (fr_out o.2 (by decide) (by decide) j), fun j => S _ _ (fr_out o.2 (by decide) (by decide) j)⟩
theorem fzT_1 {cs : List Nat} {ss : List (Nat × Nat)} {h h' : m_H} (o : fzT cs ss = true) (S : FR cs ss h h') : h' 36 = h 36 ∧ h' 113 = h 113 := by
  unfold fzT at o; rw [Bool.and_eq_true] at o
  exact ⟨rowz S (fr_out o.1 (by decide) (by decide)), rowz S (fr_out o.2 (by decide) (by decide))⟩
theorem fzB_1 {cs : List Nat} {ss : List (Nat × Nat)} {h h' : m_H} (o : fzB cs ss = true) (S : FR cs ss h h') : h' 0 15 = h 0 15 ∧ h' 0 16 = h 0 16 ∧ h' 108 6 = h 108 6 ∧ h' 108 13 = h 108 13 := by
  unfold fzB at o
  simp only [Bool.and_eq_true, Bool.not_eq_true'] at o
  exact ⟨S _ _ o.1.1.1, S _ _ o.1.1.2, S _ _ o.1.2, S _ _ o.2⟩
theorem LX.cls {h h' : m_H} {cs : List Nat} {ss : List (Nat × Nat)} (R : LX h) (S : FR cs ss h h') (o1 : fzI cs ss = true) (o2 : fzT cs ss = true) (o3 : fzB cs ss = true) (o4 : out 1 8 cs ss = true) (o5 : out 110 110 cs ss = true) : LX h' := by
  obtain ⟨a1, a2, a3⟩ := fzI_1 o1 S
  obtain ⟨t1, t2⟩ := fzT_1 o2 S
  obtain ⟨b1, b2, b3, b4⟩ := fzB_1 o3 S
  have e : h' 110 = h 110 := rowz S (fr_out o5 (by decide) (by decide))
  obtain ⟨_, r2, _, r4, r5, r6⟩ := R
  refine LX.gen (h := h) ⟨‹_›, r2, ‹_›, r4, r5, r6⟩ (by rw [e]; exact r2.S S o4) a1 a2 a3 (by rw [t1, t2, r4]) (by rw [b1, b3, r5]) (by rw [b2, b4, r6])
/-- both calls leave images, tape and what is kept, and the ledger stays the row -/
theorem LX.mut {h h1 h2 : m_H} {cs cs' : List Nat} {ss ss' : List (Nat × Nat)} (R : LX h) (S1 : FR cs ss h h1) (S2 : FR cs' ss' h1 h2) (L : LR 1 h2 (h2 110)) (o1 : fzI cs ss = true) (o2 : fzT cs ss = true) (o3 : fzB cs ss = true) (q1 : fzI cs' ss' = true) (q2 : fzT cs' ss' = true) (q3 : fzB cs' ss' = true) : LX h2 := by
  obtain ⟨a1, a2, a3⟩ := fzI_1 o1 S1
  obtain ⟨t1, t2⟩ := fzT_1 o2 S1
  obtain ⟨b1, b2, b3, b4⟩ := fzB_1 o3 S1
  obtain ⟨c1, c2, c3⟩ := fzI_1 q1 S2
  obtain ⟨u1, u2⟩ := fzT_1 q2 S2
  obtain ⟨v1, v2, v3, v4⟩ := fzB_1 q3 S2
  obtain ⟨r1, r2, r3, r4, r5, r6⟩ := R
  exact LX.gen (h := h) ⟨r1, r2, r3, r4, r5, r6⟩ L (fun c x y j => (c1 c x y j).trans (a1 c x y j)) (fun j => (c2 j).trans (a2 j)) (fun j => (c3 j).trans (a3 j)) (by rw [u1, u2, t1, t2, r4]) (by rw [v1, v3, b1, b3, r5]) (by rw [v2, v4, b2, b4, r6])
theorem both2 {a1 a2 : Int} {cs cs' : List Nat} {ss ss' : List (Nat × Nat)} {h h1 h2 : m_H} (A : LR 1 h1 (spCount a1 a2 (h 110))) (B : h2 110 = spCount a1 a2 (h1 110)) (S1 : FR cs ss h h1) (S2 : FR cs' ss' h1 h2) (o1 : ∀ j, fr cs ss 110 j = false) (o2 : out 1 8 cs' ss' = true) : LR 1 h2 (h2 110) := by
  have e : h1 110 = h 110 := rowz S1 o1
  rw [e] at B
  rw [B]; exact A.S S2 o2
theorem LX.row {h h1 h2 : m_H} {cs cs' : List Nat} {ss ss' : List (Nat × Nat)} {x y : Int} (R : LX h) (T : h 35 1 = h 108 8) (S1 : FR cs ss h h1) (S2 : FR cs' ss' h1 h2) (A : rwQ (h 36) (h 35 1) (h 110) x (h 0 15) (h1 0 15) h1) (B : rwM (h1 113) (h1 108 8) (h1 110) y (h1 108 6) (h2 108 6) h2) (o1 : fzI cs ss = true) (o2 : fzT cs ss = true) (o3 : out 108 110 cs ss = true) (o4 : fr cs ss 0 16 = false) (q1 : fzI cs' ss' = true) (q2 : fzT cs' ss' = true) (q3 : out 0 8 cs' ss' = true) (q4 : fr cs' ss' 108 13 = false) : LX h2 ∧ x = y := by
  obtain ⟨a1, a2, a3⟩ := fzI_1 o1 S1
  obtain ⟨t1, t2⟩ := fzT_1 o2 S1
  obtain ⟨c1, c2, c3⟩ := fzI_1 q1 S2
  obtain ⟨u1, u2⟩ := fzT_1 q2 S2
  obtain ⟨r1, r2, r3, r4, r5, r6⟩ := R
  have e110 : h1 110 = h 110 := rowz S1 (fr_out o3 (by decide) (by decide))
  have e108 : ∀ j, h1 108 j = h 108 j := fun j => S1 _ _ (fr_out o3 (by decide) (by decide) j)
  have f0 : ∀ j, h2 0 j = h1 0 j := fun j => S2 _ _ (fr_out q3 (by decide) (by decide) j)
  have o8 : out 1 8 cs' ss' = true := by
    unfold out at q3 ⊢
    rw [Bool.and_eq_true, List.all_eq_true, List.all_eq_true] at q3 ⊢
    refine ⟨fun c hc => ?_, fun p hp => ?_⟩
    · have z := q3.1 c hc
      simp only [Bool.or_eq_true, decide_eq_true_eq] at z ⊢
      omega
    · have z := q3.2 p hp
      simp only [Bool.or_eq_true, decide_eq_true_eq] at z ⊢
      omega
  rw [t2, e108, e108, e110, ← r4, ← T, ← r5] at B
  have key : LR 1 h2 (h2 110) ∧ x = y ∧ h1 0 15 = h2 108 6 := by
    rcases A with ⟨n0, x0, b0, L0⟩ | ⟨n0, x0, b0, L0⟩
    · rcases B with ⟨_, y0, d0, g0⟩ | ⟨m0, _⟩
      · exact ⟨by rw [g0]; exact L0.S S2 o8, by rw [x0, y0], by rw [b0, d0]⟩
      · exact absurd n0 m0
    · rcases B with ⟨m0, _⟩ | ⟨_, y0, d0, g0⟩
      · exact absurd m0 n0
      · exact ⟨by rw [g0]; exact L0.S S2 o8, by rw [x0, y0], by rw [b0, d0]⟩
  refine ⟨LX.gen (h := h) ⟨r1, r2, r3, r4, r5, r6⟩ key.1 (fun c x y j => (c1 c x y j).trans (a1 c x y j)) (fun j => (c2 j).trans (a2 j)) (fun j => (c3 j).trans (a3 j)) (by rw [u1, u2, t1, t2, r4]) (by rw [f0, key.2.2]) ?_, key.2.1⟩
  rw [f0, S1 0 16 o4, S2 108 13 q4, e108, r6]
theorem LX.book {h h1 h2 : m_H} {cs cs' : List Nat} {ss ss' : List (Nat × Nat)} {x y : Int} (R : LX h) (T : h 35 1 = h 108 8) (S1 : FR cs ss h h1) (S2 : FR cs' ss' h1 h2) (A : boQ (rdBook (h 36) (h 35 1) 400 (nx (h 36) (h 35 1) 0) (h 110) 1) (h 110) x h1) (B : bmQ (rdBook (h1 113) (h1 108 8) 400 (nx (h1 113) (h1 108 8) 0) (h1 110) 1) y h1 h2) (o1 : fzI cs ss = true) (o2 : fzT cs ss = true) (o3 : out 108 110 cs ss = true) (o4 : fr cs ss 0 15 = false) (q1 : fzI cs' ss' = true) (q2 : fzT cs' ss' = true) (q3 : out 0 8 cs' ss' = true) (q4 : fr cs' ss' 108 6 = false) (q5 : out 1 8 cs' ss' = true) : LX h2 ∧ x = y := by
  obtain ⟨a1, a2, a3⟩ := fzI_1 o1 S1
  obtain ⟨t1, t2⟩ := fzT_1 o2 S1
  obtain ⟨c1, c2, c3⟩ := fzI_1 q1 S2
  obtain ⟨u1, u2⟩ := fzT_1 q2 S2
  obtain ⟨r1, r2, r3, r4, r5, r6⟩ := R
  have e110 : h1 110 = h 110 := rowz S1 (fr_out o3 (by decide) (by decide))
  have e108 : ∀ j, h1 108 j = h 108 j := fun j => S1 _ _ (fr_out o3 (by decide) (by decide) j)
  have f0 : ∀ j, h2 0 j = h1 0 j := fun j => S2 _ _ (fr_out q3 (by decide) (by decide) j)
  rw [t2, e108, e110, ← r4, ← T] at B
  have key : LR 1 h2 (h2 110) ∧ x = y ∧ h1 0 16 = h2 108 13 := by
    generalize rdBook (h 36) (h 35 1) 400 (nx (h 36) (h 35 1) 0) (h 110) 1 = z at A B
    unfold boQ at A; unfold bmQ at B
    cases z with
    | ok p =>
      obtain ⟨x0, L0, d0⟩ := A
      obtain ⟨y0, g0, e0⟩ := B
      exact ⟨by rw [g0]; exact L0.S S2 q5, by rw [x0, y0], by rw [d0, e0]⟩
    | error e =>
      obtain ⟨x0, L0, d0⟩ := A
      obtain ⟨y0, g0, e0⟩ := B
      exact ⟨by rw [g0, e110]; exact L0.S S2 q5, by rw [x0, y0], by rw [d0, e0]⟩
  refine ⟨LX.gen (h := h) ⟨r1, r2, r3, r4, r5, r6⟩ key.1 (fun c x y j => (c1 c x y j).trans (a1 c x y j)) (fun j => (c2 j).trans (a2 j)) (fun j => (c3 j).trans (a3 j)) (by rw [u1, u2, t1, t2, r4]) ?_ (by rw [f0, key.2.2]), key.2.1⟩
  rw [f0, S1 0 15 o4, S2 108 6 q4, e108, r5]
theorem LX.feed {h h1 h2 : m_H} {cs cs' : List Nat} {ss ss' : List (Nat × Nat)} {v1 v2 v3 v4 v5 : Int} (R : LX h) (T : h 35 1 = h 108 8) (S1 : FR cs ss h h1) (S2 : FR cs' ss' h1 h2) (A : h1 36 = (if h 35 1 ≤ 380 then tp20 (h 36) (h 35 1) v1 v2 v3 v4 v5 else h 36)) (B : h2 113 = (if h1 108 8 ≤ 380 then tp20 (h1 113) (h1 108 8) v1 v2 v3 v4 v5 else h1 113)) (o1 : fzI cs ss = true) (o2 : out 108 113 cs ss = true) (o3 : fzB cs ss = true) (o4 : out 1 8 cs ss = true) (q1 : fzI cs' ss' = true) (q2 : out 36 36 cs' ss' = true) (q3 : fzB cs' ss' = true) (q4 : out 1 8 cs' ss' = true) (q5 : out 110 110 cs' ss' = true) : LX h2 := by
  obtain ⟨a1, a2, a3⟩ := fzI_1 o1 S1
  obtain ⟨b1, b2, b3, b4⟩ := fzB_1 o3 S1
  obtain ⟨c1, c2, c3⟩ := fzI_1 q1 S2
  obtain ⟨v1', v2', v3', v4'⟩ := fzB_1 q3 S2
  obtain ⟨r1, r2, r3, r4, r5, r6⟩ := R
  have e113 : h1 113 = h 113 := rowz S1 (fr_out o2 (by decide) (by decide))
  have e108 : h1 108 8 = h 108 8 := S1 _ _ (fr_out o2 (by decide) (by decide) 8)
  have e110 : h2 110 = h 110 := (rowz S2 (fr_out q5 (by decide) (by decide))).trans (rowz S1 (fr_out o2 (by decide) (by decide)))
  have e36 : h2 36 = h1 36 := rowz S2 (fr_out q2 (by decide) (by decide))
  exact LX.gen (h := h) ⟨r1, r2, r3, r4, r5, r6⟩ (by rw [e110]; exact (r2.S S1 o4).S S2 q4) (fun c x y j => (c1 c x y j).trans (a1 c x y j)) (fun j => (c2 j).trans (a2 j)) (fun j => (c3 j).trans (a3 j)) (by rw [e36, A, B, e113, e108, ← T, r4]) (by rw [v1', v3', b1, b3, r5]) (by rw [v2', v4', b2, b4, r6])
theorem LX.image {h h1 h2 : m_H} {cs cs' : List Nat} {ss ss' : List (Nat × Nat)} {a1 x y : Int} (R : LX h) (S1 : FR cs ss h h1) (S2 : FR cs' ss' h1 h2) (A : imQ 34 a1 x h h1) (A2 : imC a1 h h1) (B : imQ 112 a1 y h1 h2) (B2 : imM a1 h1 h2) (o1 : out 1 8 cs ss = true) (o2 : fzT cs ss = true) (o3 : fzB cs ss = true) (o4 : out 110 112 cs ss = true) (q1 : out 1 8 cs' ss' = true) (q2 : fzT cs' ss' = true) (q3 : fzB cs' ss' = true) (q4 : out 18 34 cs' ss' = true) (q5 : out 110 110 cs' ss' = true) : LX h2 ∧ x = y := by
  obtain ⟨t1, t2⟩ := fzT_1 o2 S1
  obtain ⟨b1, b2, b3, b4⟩ := fzB_1 o3 S1
  obtain ⟨u1, u2⟩ := fzT_1 q2 S2
  obtain ⟨v1, v2, v3, v4⟩ := fzB_1 q3 S2
  obtain ⟨r1, r2, r3, r4, r5, r6⟩ := R
  have k2 := imKP r1 A B (fun j => S1 _ _ (fr_out o4 (by decide) (by decide) j)) (fun j => S2 _ _ (fr_out q4 (by decide) (by decide) j))
  have f34 : ∀ c, 18 ≤ c → c ≤ 34 → ∀ j, h2 c j = h1 c j := fun c u v j => S2 _ _ (fr_out q4 u v j)
  have g110 : h1 110 = h 110 := rowz S1 (fr_out o4 (by decide) (by decide))
  have g111 : ∀ j, h1 111 j = h 111 j := fun j => S1 _ _ (fr_out o4 (by decide) (by decide) j)
  have f110 : h2 110 = h 110 := (rowz S2 (fr_out q5 (by decide) (by decide))).trans g110
  refine ⟨⟨k2.1, by rw [f110]; exact (r2.S S1 o1).S S2 q1, fun k hk hn => ?_, by rw [u1, u2, t1, t2, r4], by rw [v1, v3, b1, b3, r5], by rw [v2, v4, b2, b4, r6]⟩, k2.2⟩
  by_cases w : (k : Int) = a1
  · have hk2 : a1.toNat = k := by omega
    have l := A2.1 (by omega) (by omega)
    have m := B2.1 (by omega) (by omega)
    rw [hk2] at l m
    refine LR.same (r := h 110) (LR.copy r2 l) (fun i hi j => f34 _ (by omega) (by omega) j) (fun j hj => ?_)
    rw [m j hj, g110]
  · have l := A2.2 k hk w
    have m := B2.2 k hk w
    have hn1 : h 34 k ≠ 0 := by
      rw [f34 34 (by decide) (by decide)] at hn
      rcases A with ⟨_, _, e⟩ | ⟨_, _, _, _, e⟩
      · rw [e] at hn; exact hn
      · rw [e k (by omega)] at hn; exact hn
    refine LR.same (r3 k hk hn1) (fun i hi j => (f34 _ (by omega) (by omega) j).trans (l i hi j)) (fun j hj => ?_)
    show h2 111 _ = _
    rw [m j hj, g111]
theorem LX.back {h h1 h2 : m_H} {cs cs' : List Nat} {ss ss' : List (Nat × Nat)} {a1 x y : Int} (R : LX h) (S1 : FR cs ss h h1) (S2 : FR cs' ss' h1 h2) (A : bkQ 34 a1 x h) (A2 : bkC a1 x h h1) (B : bkQ 112 a1 y h1) (B2 : bkM a1 y h1 h2) (o1 : fzI cs ss = true) (o2 : fzT cs ss = true) (o3 : fzB cs ss = true) (o4 : out 110 112 cs ss = true) (q1 : fzI cs' ss' = true) (q2 : fzT cs' ss' = true) (q3 : fzB cs' ss' = true) (q4 : out 1 8 cs' ss' = true) : LX h2 ∧ x = y := by
  have e := bkE R.1 A B (fun j => S1 _ _ (fr_out o4 (by decide) (by decide) j))
  have g110 : ∀ c, 110 ≤ c → c ≤ 112 → ∀ j, h1 c j = h c j := fun c u v j => S1 _ _ (fr_out o4 u v j)
  obtain ⟨r1, r2, r3, r4, r5, r6⟩ := R
  refine ⟨LX.mut (h := h) ⟨r1, r2, r3, r4, r5, r6⟩ S1 S2 ?_ o1 o2 o3 q1 q2 q3, e⟩
  by_cases w : x = 0
  · obtain ⟨a, b, c⟩ := A2.1 w
    obtain ⟨_, _, d⟩ := B2.1 (by omega)
    have hn : h 34 a1.toNat ≠ 0 := by
      rcases A with ⟨_, q⟩ | ⟨_, _, _, q⟩ | ⟨_, _, q, _⟩
      · omega
      · omega
      · exact q
    refine LR.S ?_ S2 q4
    refine LR.same (LR.copy (r3 a1.toNat (by omega) hn) c) (fun _ _ _ => rfl) (fun j hj => ?_)
    rw [d j hj, g110 111 (by decide) (by decide)]
  · have l := A2.2 w
    refine LR.S ?_ S2 q4
    refine LR.same r2 (fun i hi j => l i hi j) (fun j _ => ?_)
    rw [B2.2 (by omega), g110 110 (by decide) (by decide)]
/-! the start: an empty ledger is an empty row -/
theorem LR_0 {h : m_H} {r : Nat → Int} (hr : ∀ j, r j = rwF 32 6 16 j) (k : ∀ j, j < 32 → h 2 j = (-1)) (c : ∀ j, j < 6 → h 3 j = (-1)) (w : ∀ j, j < 16 → h 8 j = 100) (n : h 1 7 = 0) (cb : h 1 8 = 0) (sb : h 1 9 = 0) : LR 1 h r := by
  have r0 : r 0 = 0 := (hr 0).trans rfl
  have r1 : r 1 = 0 := (hr 1).trans rfl
  have b0 : ∀ e, bt 0 e = false := fun e => by
    have z := bt_div (x := 0) (by decide) (p := e)
    rw [Nat.zero_div] at z
    exact z
  refine ⟨⟨by omega, by omega, by omega, by omega⟩, fun j hj => ?_, fun j hj => ?_, fun j hj => ?_, by rw [r0]; exact n, fun e he => by omega, fun e he => ?_, ?_⟩
  · rw [hr]; unfold rwF; rw [if_pos (by omega)]; exact k j hj
  · rw [hr]; unfold rwF; rw [if_neg (by omega), if_pos (by omega)]; exact c j hj
  · rw [hr]; unfold rwF; rw [if_neg (by omega), if_neg (by omega), if_pos (by omega)]; exact w j hj
  · rw [cb, b0]
    exact ⟨fun z => absurd z (by decide), fun z => by have := z.1; omega⟩
  · rw [sb]
    refine ⟨Int.le_refl _, by decide, ?_, fun p hp => ?_⟩
    · rw [r1]; decide
    · rw [b0]
      exact ⟨fun z => absurd z (by decide), fun ⟨k', z, _⟩ => by omega⟩
/-! of, exact in both -/
def lnV (c t w : Int) : Int := if c = -1 ∨ w < c then t else t + 6
abbrev P_X4_lengthIn2 (h0 : m_H) (L : Nat) (a1 a2 : Int) : Int → m_H → Prop := fun x h' => GI h' ∧ FR [] [] h0 h' ∧ 0 ≤ x ∧ x ≤ 11 ∧ lnV (h0 (L + 2) a1.toNat) a1 a2 = x
set_option maxHeartbeats 4000000 in
set_option maxRecDepth 100000 in
theorem c_X4_lengthIn2 (h0 : m_H) (L : Nat) (a1 a2 : Int) (hL : isL L) (G0 : GI h0) (pa1 : 0 ≤ a1 ∧ a1 ≤ 5) : m_CI M_X4_lengthIn [mR L, mI a1, mI a2] h0 (P_X4_lengthIn2 h0 L a1 a2) := by
  refine m_CI_of ⟨by decide, rfl, by simp [m_arg, m_isL, M_X4_lengthIn], ⟨rfl, rfl⟩, rfl, rfl⟩ (ls := [some (mR L), some (mI a1), some (mI a2), none]) rfl ?_
  refine z_ok (fun _ _ ok => ?_)
  have oa2 : m_32 a2 := ok 2 _ rfl
  unfold m_32 at oa2
  refine z_aload_n (M := M_X4_lengthIn) 0 dX4_lengthIn_0 rfl ?_
  refine z_getR (M := M_X4_lengthIn) 1 dX4_lengthIn_1 f_X4_15 (oL hL) rfl (rL_1 hL G0) ?_
  refine z_iload_n (M := M_X4_lengthIn) 4 dX4_lengthIn_4 rfl ?_
  refine z_ialdG (M := M_X4_lengthIn) 5 dX4_lengthIn_5 (oL_2 hL) (by omega) (by omega) (gL_2 hL G0 (by omega)) (fun x1 ex1 ax1 bx1 => ?_)
  refine z_istore_n (M := M_X4_lengthIn) 6 dX4_lengthIn_6 (ls' := [some (mR L), some (mI a1), some (mI a2), some (mI x1)]) (by decide) rfl ?_
  refine z_iload_n (M := M_X4_lengthIn) 7 dX4_lengthIn_7 rfl ?_
  refine z_iconst (M := M_X4_lengthIn) 8 dX4_lengthIn_8 ?_
  refine z_icmp_eq (M := M_X4_lengthIn) 9 dX4_lengthIn_9 24 rfl (fun c2 => ?_) (fun c2 => ?_)
  · refine z_iload_n (M := M_X4_lengthIn) 24 dX4_lengthIn_24 rfl ?_
    exact z_retI (M := M_X4_lengthIn) 25 dX4_lengthIn_25 rfl ⟨G0, (FR.rf (cs := []) (ss := []) (h := h0)), by omega, by omega, by rw [ex1]; unfold lnV; rw [if_pos (by omega)]⟩
  · refine z_iload_n (M := M_X4_lengthIn) 12 dX4_lengthIn_12 rfl ?_
    refine z_iload_n (M := M_X4_lengthIn) 13 dX4_lengthIn_13 rfl ?_
    refine z_icmp_lt (M := M_X4_lengthIn) 14 dX4_lengthIn_14 24 rfl (fun c3 => ?_) (fun c3 => ?_)
    · refine z_iload_n (M := M_X4_lengthIn) 24 dX4_lengthIn_24 rfl ?_
      exact z_retI (M := M_X4_lengthIn) 25 dX4_lengthIn_25 rfl ⟨G0, (FR.rf (cs := []) (ss := []) (h := h0)), by omega, by omega, by rw [ex1]; unfold lnV; rw [if_pos (by omega)]⟩
    · refine z_iload_n (M := M_X4_lengthIn) 17 dX4_lengthIn_17 rfl ?_
      refine z_bipush (M := M_X4_lengthIn) 18 dX4_lengthIn_18 ?_
      refine z_iaddN (M := M_X4_lengthIn) 20 dX4_lengthIn_20 (by omega) (by omega) ?_
      refine z_goto (M := M_X4_lengthIn) 21 dX4_lengthIn_21 25 rfl ?_
      exact z_retI (M := M_X4_lengthIn) 25 dX4_lengthIn_25 rfl ⟨G0, (FR.rf (cs := []) (ss := []) (h := h0)), by omega, by omega, by rw [ex1]; unfold lnV; rw [if_neg (by omega)]⟩
abbrev P_X4_lengthOf2 (h0 : m_H) (L : Nat) (a1 : Int) : Int → m_H → Prop := fun x h' => GI h' ∧ FR [] [] h0 h' ∧ 0 ≤ x ∧ x ≤ 11 ∧ lnV (h0 (L + 2) (h0 (L + 3) a1.toNat).toNat) (h0 (L + 3) a1.toNat) (h0 (L + 4) a1.toNat) = x
set_option maxHeartbeats 4000000 in
set_option maxRecDepth 100000 in
theorem c_X4_lengthOf2 (h0 : m_H) (L : Nat) (a1 : Int) (hL : isL L) (G0 : GI h0) (pa1 : 0 ≤ a1 ∧ a1 ≤ 23) : m_CI M_X4_lengthOf [mR L, mI a1] h0 (P_X4_lengthOf2 h0 L a1) := by
  refine m_CI_of ⟨by decide, rfl, by simp [m_arg, m_isL, M_X4_lengthOf], ⟨rfl, rfl⟩, rfl, rfl⟩ (ls := [some (mR L), some (mI a1)]) rfl ?_
  refine z_aload_n (M := M_X4_lengthOf) 0 dX4_lengthOf_0 rfl ?_
  refine z_aload_n (M := M_X4_lengthOf) 1 dX4_lengthOf_1 rfl ?_
  refine z_getR (M := M_X4_lengthOf) 2 dX4_lengthOf_2 f_X4_18 (oL hL) rfl (rL_2 hL G0) ?_
  refine z_iload_n (M := M_X4_lengthOf) 5 dX4_lengthOf_5 rfl ?_
  refine z_ialdG (M := M_X4_lengthOf) 6 dX4_lengthOf_6 (oL_3 hL) (by omega) (by omega) (gL_3 hL G0 (by omega)) (fun x1 ex1 ax1 bx1 => ?_)
  refine z_aload_n (M := M_X4_lengthOf) 7 dX4_lengthOf_7 rfl ?_
  refine z_getR (M := M_X4_lengthOf) 8 dX4_lengthOf_8 f_X4_21 (oL hL) rfl (rL_3 hL G0) ?_
  refine z_iload_n (M := M_X4_lengthOf) 11 dX4_lengthOf_11 rfl ?_
  refine z_ialdG (M := M_X4_lengthOf) 12 dX4_lengthOf_12 (oL_4 hL) (by omega) (by omega) (gL_4 hL G0 (by omega)) (fun x2 ex2 ax2 bx2 => ?_)
  refine z_vI (M := M_X4_lengthOf) 13 dX4_lengthOf_13 t_X4_lengthIn l_X4_77 (m_rr_of rfl) (rest := []) (c_X4_lengthIn2 h0 L x1 x2 hL G0 ⟨by omega, by omega⟩) (oL hL) rfl rfl rfl (Nat.le_of_ble_eq_true rfl) ⟨rfl, rfl⟩ (fun x3 h1 qx3 => ?_)
  obtain ⟨G1, S1, ax3, bx3, fx3⟩ := qx3
  have R1 := (FR.rf (cs := []) (ss := []) (h := h0)).call S1 (by decide +kernel)
  exact z_retI (M := M_X4_lengthOf) 16 dX4_lengthOf_16 rfl ⟨G1, R1, by omega, by omega, by rw [ex1, ex2]; exact fx3⟩
abbrev P_X4_isCounting2 (h0 : m_H) (L : Nat) (a1 : Int) : Int → m_H → Prop := fun x h' => GI h' ∧ FR [] [] h0 h' ∧ 0 ≤ x ∧ x ≤ 1 ∧ (x = 1 ↔ m_and (m_shr (h0 L 8) a1) 1 = 1)
set_option maxHeartbeats 4000000 in
set_option maxRecDepth 100000 in
theorem c_X4_isCounting2 (h0 : m_H) (L : Nat) (a1 : Int) (hL : isL L) (G0 : GI h0) : m_CI M_X4_isCounting [mR L, mI a1] h0 (P_X4_isCounting2 h0 L a1) := by
  refine m_CI_of ⟨by decide, rfl, by simp [m_arg, m_isL, M_X4_isCounting], ⟨rfl, rfl⟩, rfl, rfl⟩ (ls := [some (mR L), some (mI a1)]) rfl ?_
  refine z_ok (fun _ _ ok => ?_)
  have oa1 : m_32 a1 := ok 1 _ rfl
  unfold m_32 at oa1
  refine z_aload_n (M := M_X4_isCounting) 0 dX4_isCounting_0 rfl ?_
  refine z_getIV (M := M_X4_isCounting) 1 dX4_isCounting_1 f_X4_49 (oL hL) (by decide) (fun x1 ex1 => ?_)
  refine z_ok (fun ox1 _ _ => ?_)
  have ox1 := ox1.1; unfold m_ok m_32 at ox1
  refine z_iload_n (M := M_X4_isCounting) 4 dX4_isCounting_4 rfl ?_
  refine z_nI (M := M_X4_isCounting) 5 dX4_isCounting_5 t_X11_hasBit l_X4_59 (m_rr_of rfl) (rest := []) (c_X11_hasBit h0 x1 a1 G0) rfl rfl (Nat.le_of_ble_eq_true rfl) ⟨rfl, rfl⟩ (fun x2 h1 qx2 => ?_)
  obtain ⟨rfl, ⟨rfl, cx2⟩ | ⟨rfl, cx2⟩⟩ := qx2
  · exact z_retZ (M := M_X4_isCounting) 8 dX4_isCounting_8 rfl (by omega) ⟨G0, (FR.rf (cs := []) (ss := []) (h := h0)), by omega, by omega, by rw [ex1]; exact ⟨fun _ => cx2, fun _ => rfl⟩⟩
  · exact z_retZ (M := M_X4_isCounting) 8 dX4_isCounting_8 rfl (by omega) ⟨G0, (FR.rf (cs := []) (ss := []) (h := h0)), by omega, by omega, by rw [ex1]; exact ⟨fun z => absurd z (by decide), fun z => absurd z cx2⟩⟩
noncomputable def ofC (h : m_H) (e w : Int) : Int := cif (0 ≤ e ∧ e < h 1 7) (if w = 0 then h 4 e.toNat else if w = 1 then h 5 e.toNat else if w = 2 then h 6 e.toNat else if w = 3 then h 7 e.toNat else if w = 4 then cif (m_and (m_shr (h 1 8) e) 1 = 1) 1 0 else if w = 5 then lnV (h 3 (h 4 e.toNat).toNat) (h 4 e.toNat) (h 5 e.toNat) else -1) (-1)
noncomputable def ofM (r : Nat → Int) (e w : Int) : Int := cif (0 ≤ e ∧ e < r 0) (if w = 5 then lnV (r (42 + r (5 * e.toNat + 80)).toNat) (r (5 * e.toNat + 80)) (r (5 * e.toNat + 81)) else if 0 ≤ w ∧ w ≤ 4 then r (80 + 5 * e + w).toNat else -1) (-1)
abbrev P_X11_of3 (h0 : m_H) (a1 a2 : Int) : Int → m_H → Prop := fun x h' => GI h' ∧ FR [] [] h0 h' ∧ (-1) ≤ x ∧ x ≤ 99 ∧ ofC h0 a1 a2 = x
set_option maxHeartbeats 4000000 in
set_option maxRecDepth 100000 in
theorem c_X11_of3 (h0 : m_H) (a1 a2 : Int) (G0 : GI h0) : m_CI M_X11_of [mR 0, mI a1, mI a2] h0 (P_X11_of3 h0 a1 a2) := by
  refine m_CI_of ⟨by decide, rfl, by simp [m_arg, m_isL, M_X11_of], ⟨rfl, rfl⟩, rfl, rfl⟩ (ls := [some (mR 0), some (mI a1), some (mI a2)]) rfl ?_
  refine z_ok (fun _ _ ok => ?_)
  have oa1 : m_32 a1 := ok 1 _ rfl
  unfold m_32 at oa1
  have oa2 : m_32 a2 := ok 2 _ rfl
  unfold m_32 at oa2
  refine z_iload_n (M := M_X11_of) 0 dX11_of_0 rfl ?_
  refine z_iconst (M := M_X11_of) 1 dX11_of_1 ?_
  refine z_aload_n (M := M_X11_of) 2 dX11_of_2 rfl ?_
  refine z_getR (M := M_X11_of) 3 dX11_of_3 f_X11_12 o_0 rfl (g_0_0 G0) ?_
  refine z_getIG (M := M_X11_of) 6 dX11_of_6 f_X11_162 o_1 (by decide) (g_1_7 G0) (fun x1 ex1 ax1 bx1 => ?_)
  refine z_iconst (M := M_X11_of) 9 dX11_of_9 ?_
  refine z_isubN (M := M_X11_of) 10 dX11_of_10 (by omega) (by omega) ?_
  refine z_sI (M := M_X11_of) 11 dX11_of_11 t_X11_within l_X11_112 (m_rr_of rfl) (rest := []) (c_X11_within h0 a1 0 (x1 - 1) G0) rfl rfl (Nat.le_of_ble_eq_true rfl) ⟨rfl, rfl⟩ (fun x2 h1 qx2 => ?_)
  obtain ⟨rfl, ⟨rfl, cx2⟩ | ⟨rfl, cx2⟩⟩ := qx2
  · refine z_if_ne_T (M := M_X11_of) 14 dX11_of_14 19 rfl (by omega) ?_
    refine z_iload_n (M := M_X11_of) 19 dX11_of_19 rfl ?_
    by_cases c3 : a2 = 0 ∨ a2 = 1 ∨ a2 = 2 ∨ a2 = 3 ∨ a2 = 4 ∨ a2 = 5
    · rcases c3 with c3_0 | c3_1 | c3_2 | c3_3 | c3_4 | c3_5
      · refine z_tabIn (M := M_X11_of) 20 dX11_of_20 (off := 40) 60 (by omega) (by omega) (by rw [c3_0]; rfl) rfl ?_
        refine z_aload_n (M := M_X11_of) 60 dX11_of_60 rfl ?_
        refine z_getR (M := M_X11_of) 61 dX11_of_61 f_X11_12 o_0 rfl (g_0_0 G0) ?_
        refine z_getR (M := M_X11_of) 64 dX11_of_64 f_X11_172 o_1 rfl (g_1_2 G0) ?_
        refine z_iload_n (M := M_X11_of) 67 dX11_of_67 rfl ?_
        refine z_ialdG (M := M_X11_of) 68 dX11_of_68 o_4 (by omega) (by omega) (g_4 G0 (by omega)) (fun x4 ex4 ax4 bx4 => ?_)
        exact z_retI (M := M_X11_of) 69 dX11_of_69 rfl ⟨G0, (FR.rf (cs := []) (ss := []) (h := h0)), by omega, by omega, by unfold ofC; rw [cif_pos (by omega), if_pos c3_0]; exact ex4⟩
      · refine z_tabIn (M := M_X11_of) 20 dX11_of_20 (off := 50) 70 (by omega) (by omega) (by rw [c3_1]; rfl) rfl ?_
        refine z_aload_n (M := M_X11_of) 70 dX11_of_70 rfl ?_
        refine z_getR (M := M_X11_of) 71 dX11_of_71 f_X11_12 o_0 rfl (g_0_0 G0) ?_
        refine z_getR (M := M_X11_of) 74 dX11_of_74 f_X11_175 o_1 rfl (g_1_3 G0) ?_
        refine z_iload_n (M := M_X11_of) 77 dX11_of_77 rfl ?_
        refine z_ialdG (M := M_X11_of) 78 dX11_of_78 o_5 (by omega) (by omega) (g_5 G0 (by omega)) (fun x5 ex5 ax5 bx5 => ?_)
        exact z_retI (M := M_X11_of) 79 dX11_of_79 rfl ⟨G0, (FR.rf (cs := []) (ss := []) (h := h0)), by omega, by omega, by unfold ofC; rw [cif_pos (by omega), if_neg (by omega), if_pos c3_1]; exact ex5⟩
      · refine z_tabIn (M := M_X11_of) 20 dX11_of_20 (off := 60) 80 (by omega) (by omega) (by rw [c3_2]; rfl) rfl ?_
        refine z_aload_n (M := M_X11_of) 80 dX11_of_80 rfl ?_
        refine z_getR (M := M_X11_of) 81 dX11_of_81 f_X11_12 o_0 rfl (g_0_0 G0) ?_
        refine z_getR (M := M_X11_of) 84 dX11_of_84 f_X11_178 o_1 rfl (g_1_4 G0) ?_
        refine z_iload_n (M := M_X11_of) 87 dX11_of_87 rfl ?_
        refine z_ialdG (M := M_X11_of) 88 dX11_of_88 o_6 (by omega) (by omega) (g_6 G0 (by omega)) (fun x6 ex6 ax6 bx6 => ?_)
        exact z_retI (M := M_X11_of) 89 dX11_of_89 rfl ⟨G0, (FR.rf (cs := []) (ss := []) (h := h0)), by omega, by omega, by unfold ofC; rw [cif_pos (by omega), if_neg (by omega), if_neg (by omega), if_pos c3_2]; exact ex6⟩
      · refine z_tabIn (M := M_X11_of) 20 dX11_of_20 (off := 70) 90 (by omega) (by omega) (by rw [c3_3]; rfl) rfl ?_
        refine z_aload_n (M := M_X11_of) 90 dX11_of_90 rfl ?_
        refine z_getR (M := M_X11_of) 91 dX11_of_91 f_X11_12 o_0 rfl (g_0_0 G0) ?_
        refine z_getR (M := M_X11_of) 94 dX11_of_94 f_X11_181 o_1 rfl (g_1_5 G0) ?_
        refine z_iload_n (M := M_X11_of) 97 dX11_of_97 rfl ?_
        refine z_ialdG (M := M_X11_of) 98 dX11_of_98 o_7 (by omega) (by omega) (g_7 G0 (by omega)) (fun x7 ex7 ax7 bx7 => ?_)
        exact z_retI (M := M_X11_of) 99 dX11_of_99 rfl ⟨G0, (FR.rf (cs := []) (ss := []) (h := h0)), by omega, by omega, by unfold ofC; rw [cif_pos (by omega), if_neg (by omega), if_neg (by omega), if_neg (by omega), if_pos c3_3]; exact ex7⟩
      · refine z_tabIn (M := M_X11_of) 20 dX11_of_20 (off := 80) 100 (by omega) (by omega) (by rw [c3_4]; rfl) rfl ?_
        refine z_aload_n (M := M_X11_of) 100 dX11_of_100 rfl ?_
        refine z_getR (M := M_X11_of) 101 dX11_of_101 f_X11_12 o_0 rfl (g_0_0 G0) ?_
        refine z_iload_n (M := M_X11_of) 104 dX11_of_104 rfl ?_
        refine z_vI (M := M_X11_of) 105 dX11_of_105 t_X4_isCounting l_X11_165 (m_rr_of rfl) (rest := []) (c_X4_isCounting2 h0 1 a1 (Or.inl rfl) G0) o_1 rfl rfl rfl (Nat.le_of_ble_eq_true rfl) ⟨rfl, rfl⟩ (fun x8 h2 qx8 => ?_)
        obtain ⟨G2, S2, ax8, bx8, fx8⟩ := qx8
        have R2 := (FR.rf (cs := []) (ss := []) (h := h0)).call S2 (by decide +kernel)
        refine z_if_eq (M := M_X11_of) 108 dX11_of_108 115 rfl (fun c9 => ?_) (fun c9 => ?_)
        · refine z_iconst (M := M_X11_of) 115 dX11_of_115 ?_
          exact z_retI (M := M_X11_of) 116 dX11_of_116 rfl ⟨G2, R2, by omega, by omega, by unfold ofC; rw [cif_pos (by omega), if_neg (by omega), if_neg (by omega), if_neg (by omega), if_neg (by omega), if_pos c3_4, cif_neg (fun z => by have := fx8.mpr z; omega)]⟩
        · refine z_iconst (M := M_X11_of) 111 dX11_of_111 ?_
          refine z_goto (M := M_X11_of) 112 dX11_of_112 116 rfl ?_
          exact z_retI (M := M_X11_of) 116 dX11_of_116 rfl ⟨G2, R2, by omega, by omega, by unfold ofC; rw [cif_pos (by omega), if_neg (by omega), if_neg (by omega), if_neg (by omega), if_neg (by omega), if_pos c3_4, cif_pos (fx8.mp (by omega))]⟩
      · refine z_tabIn (M := M_X11_of) 20 dX11_of_20 (off := 97) 117 (by omega) (by omega) (by rw [c3_5]; rfl) rfl ?_
        refine z_aload_n (M := M_X11_of) 117 dX11_of_117 rfl ?_
        refine z_getR (M := M_X11_of) 118 dX11_of_118 f_X11_12 o_0 rfl (g_0_0 G0) ?_
        refine z_iload_n (M := M_X11_of) 121 dX11_of_121 rfl ?_
        refine z_vI (M := M_X11_of) 122 dX11_of_122 t_X4_lengthOf l_X11_184 (m_rr_of rfl) (rest := []) (c_X4_lengthOf2 h0 1 a1 (Or.inl rfl) G0 ⟨by omega, by omega⟩) o_1 rfl rfl rfl (Nat.le_of_ble_eq_true rfl) ⟨rfl, rfl⟩ (fun x10 h3 qx10 => ?_)
        obtain ⟨G3, S3, ax10, bx10, fx10⟩ := qx10
        have R3 := (FR.rf (cs := []) (ss := []) (h := h0)).call S3 (by decide +kernel)
        exact z_retI (M := M_X11_of) 125 dX11_of_125 rfl ⟨G3, R3, by omega, by omega, by unfold ofC; rw [cif_pos (by omega), if_neg (by omega), if_neg (by omega), if_neg (by omega), if_neg (by omega), if_neg (by omega), if_pos c3_5]; exact fx10⟩
    · refine z_tabOut (M := M_X11_of) 20 dX11_of_20 126 (by omega) rfl ?_
      refine z_iconst (M := M_X11_of) 126 dX11_of_126 ?_
      exact z_retI (M := M_X11_of) 127 dX11_of_127 rfl ⟨G0, (FR.rf (cs := []) (ss := []) (h := h0)), by omega, by omega, by unfold ofC; rw [cif_pos (by omega), if_neg (by omega), if_neg (by omega), if_neg (by omega), if_neg (by omega), if_neg (by omega), if_neg (by omega)]⟩
  · refine z_if_ne_F (M := M_X11_of) 14 dX11_of_14 19 rfl (by omega) ?_
    refine z_iconst (M := M_X11_of) 17 dX11_of_17 ?_
    exact z_retI (M := M_X11_of) 18 dX11_of_18 rfl ⟨G0, (FR.rf (cs := []) (ss := []) (h := h0)), by omega, by omega, by unfold ofC; rw [cif_neg (by omega)]⟩
abbrev P_X12_lengthOf2 (h0 : m_H) (a1 : Int) : Int → m_H → Prop := fun x h' => GI h' ∧ FR [] [] h0 h' ∧ 0 ≤ x ∧ x ≤ 11 ∧ lnV (h0 110 (42 + h0 110 (5 * a1.toNat + 80)).toNat) (h0 110 (5 * a1.toNat + 80)) (h0 110 (5 * a1.toNat + 81)) = x
set_option maxHeartbeats 4000000 in
set_option maxRecDepth 100000 in
theorem c_X12_lengthOf2 (h0 : m_H) (a1 : Int) (G0 : GI h0) (pa1 : 0 ≤ a1 ∧ a1 ≤ 23) : m_CI M_X12_lengthOf [mR 108, mI a1] h0 (P_X12_lengthOf2 h0 a1) := by
  refine m_CI_of ⟨by decide, rfl, by simp [m_arg, m_isL, M_X12_lengthOf], ⟨rfl, rfl⟩, rfl, rfl⟩ (ls := [some (mR 108), some (mI a1), none]) rfl ?_
  refine z_aload_n (M := M_X12_lengthOf) 0 dX12_lengthOf_0 rfl ?_
  refine z_iload_n (M := M_X12_lengthOf) 1 dX12_lengthOf_1 rfl ?_
  refine z_iconst (M := M_X12_lengthOf) 2 dX12_lengthOf_2 ?_
  refine z_vI (M := M_X12_lengthOf) 3 dX12_lengthOf_3 t_X12_ofEntry l_X12_195 (m_rr_of rfl) (rest := []) (c_X12_ofEntry h0 a1 0 G0 ⟨by omega, by omega⟩ ⟨by omega, by omega⟩) o_108 rfl rfl rfl (Nat.le_of_ble_eq_true rfl) ⟨rfl, rfl⟩ (fun x1 h1 qx1 => ?_)
  obtain ⟨rfl, fx1⟩ := qx1
  have gx1 := gw_e0 G0 (i := (80 + 5 * a1 + 0)) (e := a1) (by omega) (by omega) (by omega)
  rw [fx1] at gx1
  have kx1 : h0 110 (5 * a1.toNat + 80) = x1 := by rw [← fx1, show (80 + 5 * a1 + 0).toNat = 5 * a1.toNat + 80 by omega]
  refine z_istore_n (M := M_X12_lengthOf) 6 dX12_lengthOf_6 (ls' := [some (mR 108), some (mI a1), some (mI x1)]) (by decide) rfl ?_
  refine z_aload_n (M := M_X12_lengthOf) 7 dX12_lengthOf_7 rfl ?_
  refine z_getR (M := M_X12_lengthOf) 8 dX12_lengthOf_8 f_X12_13 o_108 rfl (g_108_3 G0) ?_
  refine z_bipush (M := M_X12_lengthOf) 11 dX12_lengthOf_11 ?_
  refine z_iload_n (M := M_X12_lengthOf) 13 dX12_lengthOf_13 rfl ?_
  refine z_iaddN (M := M_X12_lengthOf) 14 dX12_lengthOf_14 (by omega) (by omega) ?_
  refine z_ialdG (M := M_X12_lengthOf) 15 dX12_lengthOf_15 o_110 (by omega) (by omega) (gw_c G0 (by omega) (by omega)) (fun x2 ex2 ax2 bx2 => ?_)
  refine z_iconst (M := M_X12_lengthOf) 16 dX12_lengthOf_16 ?_
  refine z_icmp_eq (M := M_X12_lengthOf) 17 dX12_lengthOf_17 45 rfl (fun c3 => ?_) (fun c3 => ?_)
  · refine z_iload_n (M := M_X12_lengthOf) 45 dX12_lengthOf_45 rfl ?_
    exact z_retI (M := M_X12_lengthOf) 46 dX12_lengthOf_46 rfl ⟨G0, (FR.rf (cs := []) (ss := []) (h := h0)), by omega, by omega, by rw [kx1, ex2]; unfold lnV; rw [if_pos (by omega)]⟩
  · refine z_aload_n (M := M_X12_lengthOf) 20 dX12_lengthOf_20 rfl ?_
    refine z_iload_n (M := M_X12_lengthOf) 21 dX12_lengthOf_21 rfl ?_
    refine z_iconst (M := M_X12_lengthOf) 22 dX12_lengthOf_22 ?_
    refine z_vI (M := M_X12_lengthOf) 23 dX12_lengthOf_23 t_X12_ofEntry l_X12_195 (m_rr_of rfl) (rest := []) (c_X12_ofEntry h0 a1 1 G0 ⟨by omega, by omega⟩ ⟨by omega, by omega⟩) o_108 rfl rfl rfl (Nat.le_of_ble_eq_true rfl) ⟨rfl, rfl⟩ (fun x4 h2 qx4 => ?_)
    obtain ⟨rfl, fx4⟩ := qx4
    have gx4 := gw_e1 G0 (i := (80 + 5 * a1 + 1)) (e := a1) (by omega) (by omega) (by omega)
    rw [fx4] at gx4
    have kx4 : h0 110 (5 * a1.toNat + 81) = x4 := by rw [← fx4, show (80 + 5 * a1 + 1).toNat = 5 * a1.toNat + 81 by omega]
    refine z_aload_n (M := M_X12_lengthOf) 26 dX12_lengthOf_26 rfl ?_
    refine z_getR (M := M_X12_lengthOf) 27 dX12_lengthOf_27 f_X12_13 o_108 rfl (g_108_3 G0) ?_
    refine z_bipush (M := M_X12_lengthOf) 30 dX12_lengthOf_30 ?_
    refine z_iload_n (M := M_X12_lengthOf) 32 dX12_lengthOf_32 rfl ?_
    refine z_iaddN (M := M_X12_lengthOf) 33 dX12_lengthOf_33 (by omega) (by omega) ?_
    refine z_ialdE (M := M_X12_lengthOf) 34 dX12_lengthOf_34 o_110 (by omega) (by omega) ex2 ?_
    refine z_icmp_lt (M := M_X12_lengthOf) 35 dX12_lengthOf_35 45 rfl (fun c5 => ?_) (fun c5 => ?_)
    · refine z_iload_n (M := M_X12_lengthOf) 45 dX12_lengthOf_45 rfl ?_
      exact z_retI (M := M_X12_lengthOf) 46 dX12_lengthOf_46 rfl ⟨G0, (FR.rf (cs := []) (ss := []) (h := h0)), by omega, by omega, by rw [kx1, ex2, kx4]; unfold lnV; rw [if_pos (by omega)]⟩
    · refine z_bipush (M := M_X12_lengthOf) 38 dX12_lengthOf_38 ?_
      refine z_iload_n (M := M_X12_lengthOf) 40 dX12_lengthOf_40 rfl ?_
      refine z_iaddN (M := M_X12_lengthOf) 41 dX12_lengthOf_41 (by omega) (by omega) ?_
      refine z_goto (M := M_X12_lengthOf) 42 dX12_lengthOf_42 46 rfl ?_
      exact z_retI (M := M_X12_lengthOf) 46 dX12_lengthOf_46 rfl ⟨G0, (FR.rf (cs := []) (ss := []) (h := h0)), by omega, by omega, by rw [kx1, ex2, kx4]; unfold lnV; rw [if_neg (by omega)]; omega⟩
abbrev P_X12_of3 (h0 : m_H) (a1 a2 : Int) : Int → m_H → Prop := fun x h' => GI h' ∧ FR [] [(108, 0)] h0 h' ∧ (-1) ≤ x ∧ x ≤ 99 ∧ ofM (h0 110) a1 a2 = x
set_option maxHeartbeats 4000000 in
set_option maxRecDepth 100000 in
theorem c_X12_of3 (h0 : m_H) (a1 a2 : Int) (G0 : GI h0) : m_CI M_X12_of [mR 108, mI a1, mI a2] h0 (P_X12_of3 h0 a1 a2) := by
  refine m_CI_of ⟨by decide, rfl, by simp [m_arg, m_isL, M_X12_of], ⟨rfl, rfl⟩, rfl, rfl⟩ (ls := [some (mR 108), some (mI a1), some (mI a2)]) rfl ?_
  refine z_ok (fun _ _ ok => ?_)
  have oa1 : m_32 a1 := ok 1 _ rfl
  unfold m_32 at oa1
  have oa2 : m_32 a2 := ok 2 _ rfl
  unfold m_32 at oa2
  refine z_aload_n (M := M_X12_of) 0 dX12_of_0 rfl ?_
  refine z_iconst (M := M_X12_of) 1 dX12_of_1 ?_
  refine z_putIH (M := M_X12_of) 2 dX12_of_2 p_X12_133 o_108 rfl (u_108_0 G0) ((FR.rf (cs := []) (ss := [(108, 0)]) (h := h0)).up rfl) (fun h1 E1 G1 R1 => ?_)
  have row_ : h1 110 = h0 110 := tl_r E1 (by decide)
  have q0_ : h1 110 (0 : Int).toNat = h1 110 0 := rfl
  have g0_ := gw_0 G1
  refine z_aload_n (M := M_X12_of) 5 dX12_of_5 rfl ?_
  refine z_iload_n (M := M_X12_of) 6 dX12_of_6 rfl ?_
  refine z_vI (M := M_X12_of) 7 dX12_of_7 t_X12_isEntry l_X12_192 (m_rr_of rfl) (rest := []) (c_X12_isEntry h1 a1 G1) o_108 rfl rfl rfl (Nat.le_of_ble_eq_true rfl) ⟨rfl, rfl⟩ (fun x1 h2 qx1 => ?_)
  obtain ⟨rfl, ⟨rfl, cx1⟩ | ⟨rfl, cx1⟩⟩ := qx1
  · refine z_if_eq_F (M := M_X12_of) 10 dX12_of_10 25 rfl (by omega) ?_
    refine z_iload_n (M := M_X12_of) 13 dX12_of_13 rfl ?_
    refine z_i2l (M := M_X12_of) 14 dX12_of_14 ?_
    refine z_lconst (M := M_X12_of) 15 dX12_of_15 (v := 0) ?_
    refine z_ldc2 (M := M_X12_of) 16 dX12_of_16 k_X12_150 ?_
    refine z_sI (M := M_X12_of) 19 dX12_of_19 t_X12_in l_X12_143 (m_rr_of rfl) (rest := []) (c_X12_in h1 a2 0 5 G1) rfl rfl (Nat.le_of_ble_eq_true rfl) ⟨rfl, rfl⟩ (fun x2 h3 qx2 => ?_)
    obtain ⟨rfl, ⟨rfl, cx2⟩ | ⟨rfl, cx2⟩⟩ := qx2
    · refine z_if_ne_T (M := M_X12_of) 22 dX12_of_22 27 rfl (by omega) ?_
      refine z_iload_n (M := M_X12_of) 27 dX12_of_27 rfl ?_
      refine z_iconst (M := M_X12_of) 28 dX12_of_28 ?_
      refine z_icmp_ne (M := M_X12_of) 29 dX12_of_29 40 rfl (fun c3 => ?_) (fun c3 => ?_)
      · refine z_aload_n (M := M_X12_of) 40 dX12_of_40 rfl ?_
        refine z_iload_n (M := M_X12_of) 41 dX12_of_41 rfl ?_
        refine z_iload_n (M := M_X12_of) 42 dX12_of_42 rfl ?_
        refine z_vI (M := M_X12_of) 43 dX12_of_43 t_X12_ofEntry l_X12_195 (m_rr_of rfl) (rest := []) (c_X12_ofEntry h1 a1 a2 G1 ⟨by omega, by omega⟩ ⟨by omega, by omega⟩) o_108 rfl rfl rfl (Nat.le_of_ble_eq_true rfl) ⟨rfl, rfl⟩ (fun x4 h4 qx4 => ?_)
        obtain ⟨rfl, fx4⟩ := qx4
        have gx4 := gw_e G1 (i := (80 + 5 * a1 + a2)) (by omega) (by omega)
        rw [fx4] at gx4
        exact z_retI (M := M_X12_of) 46 dX12_of_46 rfl ⟨G1, R1, by omega, by omega, by unfold ofM; rw [← row_, cif_pos (by omega), if_neg (by omega), if_pos (by omega)]; exact fx4⟩
      · refine z_aload_n (M := M_X12_of) 32 dX12_of_32 rfl ?_
        refine z_iload_n (M := M_X12_of) 33 dX12_of_33 rfl ?_
        refine z_vI (M := M_X12_of) 34 dX12_of_34 t_X12_lengthOf l_X12_198 (m_rr_of rfl) (rest := []) (c_X12_lengthOf2 h1 a1 G1 ⟨by omega, by omega⟩) o_108 rfl rfl rfl (Nat.le_of_ble_eq_true rfl) ⟨rfl, rfl⟩ (fun x5 h5 qx5 => ?_)
        obtain ⟨G5, S5, ax5, bx5, fx5⟩ := qx5
        have R5 := R1.call S5 (by decide +kernel)
        refine z_goto (M := M_X12_of) 37 dX12_of_37 46 rfl ?_
        exact z_retI (M := M_X12_of) 46 dX12_of_46 rfl ⟨G5, R5, by omega, by omega, by unfold ofM; rw [← row_, cif_pos (by omega), if_pos (by omega)]; exact fx5⟩
    · refine z_if_ne_F (M := M_X12_of) 22 dX12_of_22 27 rfl (by omega) ?_
      refine z_iconst (M := M_X12_of) 25 dX12_of_25 ?_
      exact z_retI (M := M_X12_of) 26 dX12_of_26 rfl ⟨G1, R1, by omega, by omega, by unfold ofM; rw [← row_, cif_pos (by omega), if_neg (by omega), if_neg (by omega)]⟩
  · refine z_if_eq_T (M := M_X12_of) 10 dX12_of_10 25 rfl (by omega) ?_
    refine z_iconst (M := M_X12_of) 25 dX12_of_25 ?_
    exact z_retI (M := M_X12_of) 26 dX12_of_26 rfl ⟨G1, R1, by omega, by omega, by unfold ofM; rw [← row_, cif_neg (by omega)]⟩
theorem of_eq {h : m_H} {e w : Int} (R : LR 1 h (h 110)) (G : GI h) : ofC h e w = ofM (h 110) e w := by
  obtain ⟨b, k, c, wd, n, q, cb, sb⟩ := R
  obtain ⟨b1, b2, b3, b4⟩ := b
  unfold ofC ofM
  by_cases g : 0 ≤ e ∧ e < h 110 0
  · have lt : ((e.toNat : Nat) : Int) < h 110 0 := by omega
    obtain ⟨q1, q2, q3, q4⟩ := q e.toNat lt
    have he : e = ((e.toNat : Nat) : Int) := by omega
    have q1' : h 4 e.toNat = h 110 (5 * e.toNat + 80) := q1
    have q2' : h 5 e.toNat = h 110 (5 * e.toNat + 81) := q2
    have q3' : h 6 e.toNat = h 110 (5 * e.toNat + 82) := q3
    have q4' : h 7 e.toNat = h 110 (5 * e.toNat + 83) := q4
    have gn := gw_n G (e := e.toNat) (by omega)
    have g4 := gw_e4 G (i := 80 + 5 * e + 4) (e := e) rfl (by omega) (by omega)
    have i4 : (80 + 5 * e + 4).toNat = 5 * e.toNat + 84 := by omega
    rw [i4] at g4
    rw [cif_pos (show 0 ≤ e ∧ e < h 1 7 by omega), cif_pos g]
    by_cases w0 : w = 0
    · rw [if_pos w0, if_neg (by omega), if_pos (by omega), q1', show (80 + 5 * e + w).toNat = 5 * e.toNat + 80 by omega]
    by_cases w1 : w = 1
    · rw [if_neg w0, if_pos w1, if_neg (by omega), if_pos (by omega), q2', show (80 + 5 * e + w).toNat = 5 * e.toNat + 81 by omega]
    by_cases w2 : w = 2
    · rw [if_neg w0, if_neg w1, if_pos w2, if_neg (by omega), if_pos (by omega), q3', show (80 + 5 * e + w).toNat = 5 * e.toNat + 82 by omega]
    by_cases w3 : w = 3
    · rw [if_neg w0, if_neg w1, if_neg w2, if_pos w3, if_neg (by omega), if_pos (by omega), q4', show (80 + 5 * e + w).toNat = 5 * e.toNat + 83 by omega]
    by_cases w4 : w = 4
    · rw [if_neg w0, if_neg w1, if_neg w2, if_neg w3, if_pos w4, if_neg (by omega), if_pos (by omega), show (80 + 5 * e + w).toNat = 5 * e.toNat + 84 by omega]
      have z := cb e.toNat (by omega)
      have y : m_and (m_shr (h 1 8) e) 1 = 1 ↔ h 110 (5 * e.toNat + 84) = 1 := by
        rw [he, hasBit_iff (by omega), Int.toNat_natCast, z]
        exact ⟨fun u => u.2, fun u => ⟨lt, u⟩⟩
      by_cases v : h 110 (5 * e.toNat + 84) = 1
      · rw [cif_pos (y.mpr v), v]
      · rw [cif_neg (fun u => v (y.mp u))]; omega
    by_cases w5 : w = 5
    · rw [if_neg w0, if_neg w1, if_neg w2, if_neg w3, if_neg w4, if_pos w5, if_pos w5, q1', q2']
      have cc := c (h 110 (5 * e.toNat + 80)).toNat (by omega)
      have cc' : h 3 (h 110 (5 * e.toNat + 80)).toNat = h 110 (42 + (h 110 (5 * e.toNat + 80)).toNat) := cc
      rw [cc', show (42 + h 110 (5 * e.toNat + 80)).toNat = 42 + (h 110 (5 * e.toNat + 80)).toNat by omega]
    rw [if_neg w0, if_neg w1, if_neg w2, if_neg w3, if_neg w4, if_neg w5, if_neg w5, if_neg (by omega)]
  · rw [cif_neg (by omega), cif_neg g]
theorem LX.of {h h1 : m_H} {e w x y : Int} {cs : List Nat} {ss : List (Nat × Nat)} (R : LX h) (G : GI h) (S1 : FR cs ss h h1) (A : ofC h e w = x) (B : ofM (h1 110) e w = y) (o : out 110 110 cs ss = true) : x = y := by
  rw [rowz S1 (fr_out o (by decide) (by decide))] at B
  rw [← A, ← B]; exact of_eq R.2.1 G
/-! told, exact in both -/
def tdS (f : Nat → Int) : Nat → Int
  | 0 => 0
  | k + 1 => m_w (tdS f k + f k)
theorem tdS_c {f g : Nat → Int} : ∀ n : Nat, (∀ k, k < n → f k = g k) → tdS f n = tdS g n
  | 0, _ => rfl
  | n + 1, e => by
    show m_w (tdS f n + f n) = m_w (tdS g n + g n)
    rw [tdS_c n (fun k hk => e k (by omega)), e n (by omega)]
theorem tdS_s {f : Nat → Int} {l k x y : Int} (h0 : 0 ≤ k) (i : l = tdS f k.toNat) (e : x = f k.toNat) (ey : m_w (l + x) = y) : y = tdS f (k + 1).toNat := by
  rw [show (k + 1).toNat = k.toNat + 1 by omega, ← ey, i, e]; rfl
def tfC (h : m_H) (a : Int) : Nat → Int := fun w => h 8 (lnV (h 3 a.toNat) a (w : Int)).toNat / h 8 (12 + h 106 w).toNat
def tfM (h : m_H) (a : Int) : Nat → Int := fun w => h 110 (60 + lnV (h 110 (42 + a).toNat) a (w : Int)).toNat / h 110 (72 + h 147 w).toNat
theorem td_C {h0 h h1 : m_H} {a l x2 x3 x4 : Int} (R : FR [] [] h0 h) (R1 : FR [] [] h0 h1) (hl : 0 ≤ l) (f2 : lnV (h (1 + 2) a.toNat) a l = x2) (e3 : h1 106 l.toNat = x3) (f4 : h1 (1 + 7) x2.toNat / h1 (1 + 7) (12 + x3).toNat = x4) : x4 = tfC h0 a l.toNat := by
  have e : h = h0 := funext fun c => funext fun j => R c j rfl
  have e1 : h1 = h0 := funext fun c => funext fun j => R1 c j rfl
  subst e; subst e1
  unfold tfC
  rw [Int.toNat_of_nonneg hl, e3]
  rw [← f4, ← f2]
theorem td_M {h0 h : m_H} {a l ln x2 x4 x5 : Int} (R : FR [] [(108, 0)] h0 h) (hl : 0 ≤ l) (e2 : h 110 (42 + a).toNat = x2) (en : lnV x2 a l = ln) (e4 : h 147 l.toNat = x4) (f5 : h 110 (60 + ln).toNat / h 110 (72 + x4).toNat = x5) : x5 = tfM h0 a l.toNat := by
  have e : h 110 = h0 110 := rowz R (fun _ => rfl)
  have e1 : h 147 = h0 147 := rowz R (fun _ => rfl)
  unfold tfM
  rw [Int.toNat_of_nonneg hl, ← e, ← e1, e4, e2, en]
  exact f5.symm
def tdQ (o s : Nat) (f : Nat → Int) (a x : Int) (h : m_H) : Prop := ((h o s = 0 ∨ a < 0 ∨ 5 < a) ∧ x = -1) ∨ (h o s ≠ 0 ∧ 0 ≤ a ∧ a ≤ 5 ∧ x = tdS f 32)
abbrev P_X11_told3 (h0 : m_H) (a1 : Int) : Int → m_H → Prop := fun x h' => GI h' ∧ FR [] [] h0 h' ∧ tdQ 105 1 (tfC h0 a1) a1 x h0
def q_X11_told3 (h0 : m_H) (a1 : Int) (n : Nat) : Prop := (∀ (l2 l3 : Int) (h : m_H), GI h → FR [] [] h0 h → 0 ≤ l3 → l3 ≤ 32 → 0 ≤ a1 → a1 ≤ 5 → (l2 = tdS (tfC h0 a1) l3.toNat) → (h0 105 1 ≠ 0) → 2 * (32 - l3) + (1) ≤ (n : Int) → m_Z oF M_X11_told 23 [some (mR 0), some (mI a1), some (mI l2), some (mI l3)] [] h (m_QI (P_X11_told3 h0 a1)))
set_option maxHeartbeats 4000000 in
set_option maxRecDepth 100000 in
theorem s_X11_told3_23 (h0 : m_H) (a1 : Int) (G0 : GI h0) (n : Nat) (ih : q_X11_told3 h0 a1 n) : ∀ (l2 l3 : Int) (h : m_H), GI h → FR [] [] h0 h → 0 ≤ l3 → l3 ≤ 32 → 0 ≤ a1 → a1 ≤ 5 → (l2 = tdS (tfC h0 a1) l3.toNat) → (h0 105 1 ≠ 0) → 2 * (32 - l3) + (1) ≤ ((n + 1 : Nat) : Int) → m_Z oF M_X11_told 23 [some (mR 0), some (mI a1), some (mI l2), some (mI l3)] [] h (m_QI (P_X11_told3 h0 a1)) := by
  intro l2 l3 h G R v0 v1 v2 v3 i0 i1 hr
  refine z_ok (fun ostk _ olocs => ?_)
  have ol2 : m_32 l2 := olocs 2 _ rfl
  unfold m_32 at ol2
  refine z_iload_n (M := M_X11_told) 23 dX11_told_23 rfl ?_
  refine z_bipush (M := M_X11_told) 24 dX11_told_24 ?_
  refine z_icmp_ge (M := M_X11_told) 26 dX11_told_26 63 rfl (fun c1 => ?_) (fun c1 => ?_)
  · refine z_iload_n (M := M_X11_told) 63 dX11_told_63 rfl ?_
    exact z_retI (M := M_X11_told) 64 dX11_told_64 rfl ⟨G, R, Or.inr ⟨i1, by omega, by omega, by rw [i0, show l3.toNat = 32 by omega]⟩⟩
  · refine z_iload_n (M := M_X11_told) 29 dX11_told_29 rfl ?_
    refine z_aload_n (M := M_X11_told) 30 dX11_told_30 rfl ?_
    refine z_getR (M := M_X11_told) 31 dX11_told_31 f_X11_12 o_0 rfl (g_0_0 G) ?_
    refine z_aload_n (M := M_X11_told) 34 dX11_told_34 rfl ?_
    refine z_getR (M := M_X11_told) 35 dX11_told_35 f_X11_12 o_0 rfl (g_0_0 G) ?_
    refine z_iload_n (M := M_X11_told) 38 dX11_told_38 rfl ?_
    refine z_iload_n (M := M_X11_told) 39 dX11_told_39 rfl ?_
    refine z_vI (M := M_X11_told) 40 dX11_told_40 t_X4_lengthIn l_X11_409 (m_rr_of rfl) (rest := [mR 1, mI l2]) (c_X4_lengthIn2 h 1 a1 l3 (Or.inl rfl) G ⟨by omega, by omega⟩) o_1 rfl rfl rfl (Nat.le_of_ble_eq_true rfl) ⟨rfl, rfl⟩ (fun x2 h1 qx2 => ?_)
    obtain ⟨G1, S1, ax2, bx2, fx2⟩ := qx2
    have R1 := R.call S1 (by decide +kernel)
    refine z_aload_n (M := M_X11_told) 43 dX11_told_43 rfl ?_
    refine z_getR (M := M_X11_told) 44 dX11_told_44 f_X11_90 o_0 rfl (g_0_12 G1) ?_
    refine z_getR (M := M_X11_told) 47 dX11_told_47 f_X11_408 o_105 rfl (g_105_0 G1) ?_
    refine z_iload_n (M := M_X11_told) 50 dX11_told_50 rfl ?_
    refine z_ialdG (M := M_X11_told) 51 dX11_told_51 o_106 (by omega) (by omega) (g_106 G1 (by omega)) (fun x3 ex3 ax3 bx3 => ?_)
    refine z_vI (M := M_X11_told) 52 dX11_told_52 t_X4_wholeFeet l_X11_412 (m_rr_of rfl) (rest := [mI l2]) (c_X4_wholeFeet2 h1 1 x2 x3 (Or.inl rfl) G1 ⟨by omega, by omega⟩ ⟨by omega, by omega⟩) o_1 rfl rfl rfl (Nat.le_of_ble_eq_true rfl) ⟨rfl, rfl⟩ (fun x4 h2 qx4 => ?_)
    obtain ⟨G2, S2, ax4, bx4, fx4⟩ := qx4
    have R2 := R1.call S2 (by decide +kernel)
    refine z_ok (fun ox4 _ _ => ?_)
    have ox4 := ox4.1; unfold m_ok m_32 at ox4
    refine z_iadd (M := M_X11_told) 55 dX11_told_55 ?_
    refine z_topm (fun x5 ex5 ox5 => ?_)
    unfold m_32 at ox5
    refine z_istore_n (M := M_X11_told) 56 dX11_told_56 (ls' := [some (mR 0), some (mI a1), some (mI x5), some (mI l3)]) (by decide) rfl ?_
    refine z_iincN (M := M_X11_told) 57 dX11_told_57 (ls' := [some (mR 0), some (mI a1), some (mI x5), some (mI (l3 + 1))]) (by decide) rfl (by (unfold m_32; decide)) (by omega) (by omega) rfl ?_
    refine z_goto (M := M_X11_told) 60 dX11_told_60 23 rfl ?_
    exact z_mask [true, true, true, true] rfl (ih x5 (l3 + 1) h2 G2 R2 (by omega) (by omega) (by omega) (by omega) (tdS_s (by omega) i0 (td_C R R1 (by omega) fx2 ex3 fx4) ex5) i1 (by omega))
theorem a_X11_told3 (h0 : m_H) (a1 : Int) (G0 : GI h0) : ∀ n, q_X11_told3 h0 a1 n := by
  intro n
  induction n with
  | zero => unfold q_X11_told3; intros; omega
  | succ n ih => exact s_X11_told3_23 h0 a1 G0 n ih
set_option maxHeartbeats 4000000 in
set_option maxRecDepth 100000 in
theorem c_X11_told3 (h0 : m_H) (a1 : Int) (G0 : GI h0) : m_CI M_X11_told [mR 0, mI a1] h0 (P_X11_told3 h0 a1) := by
  refine m_CI_of ⟨by decide, rfl, by simp [m_arg, m_isL, M_X11_told], ⟨rfl, rfl⟩, rfl, rfl⟩ (ls := [some (mR 0), some (mI a1), none, none]) rfl ?_
  have ih := a_X11_told3 h0 a1 G0 72
  refine z_ok (fun _ _ ok => ?_)
  have oa1 : m_32 a1 := ok 1 _ rfl
  unfold m_32 at oa1
  refine z_aload_n (M := M_X11_told) 0 dX11_told_0 rfl ?_
  refine z_getR (M := M_X11_told) 1 dX11_told_1 f_X11_90 o_0 rfl (g_0_12 G0) ?_
  refine z_getIG (M := M_X11_told) 4 dX11_told_4 f_X11_399 o_105 (by decide) (g_105_1 G0) (fun x1 ex1 ax1 bx1 => ?_)
  refine z_if_eq (M := M_X11_told) 7 dX11_told_7 17 rfl (fun c2 => ?_) (fun c2 => ?_)
  · refine z_iconst (M := M_X11_told) 17 dX11_told_17 ?_
    exact z_retI (M := M_X11_told) 18 dX11_told_18 rfl ⟨G0, (FR.rf (cs := []) (ss := []) (h := h0)), Or.inl ⟨by omega, rfl⟩⟩
  · refine z_iload_n (M := M_X11_told) 10 dX11_told_10 rfl ?_
    refine z_sI (M := M_X11_told) 11 dX11_told_11 t_X11_isThing l_X11_126 (m_rr_of rfl) (rest := []) (c_X11_isThing h0 a1 G0) rfl rfl (Nat.le_of_ble_eq_true rfl) ⟨rfl, rfl⟩ (fun x3 h1 qx3 => ?_)
    obtain ⟨rfl, ⟨rfl, cx3⟩ | ⟨rfl, cx3⟩⟩ := qx3
    · refine z_if_ne_T (M := M_X11_told) 14 dX11_told_14 19 rfl (by omega) ?_
      refine z_iconst (M := M_X11_told) 19 dX11_told_19 ?_
      refine z_istore_n (M := M_X11_told) 20 dX11_told_20 (ls' := [some (mR 0), some (mI a1), some (mI 0), none]) (by decide) rfl ?_
      refine z_iconst (M := M_X11_told) 21 dX11_told_21 ?_
      refine z_istore_n (M := M_X11_told) 22 dX11_told_22 (ls' := [some (mR 0), some (mI a1), some (mI 0), some (mI 0)]) (by decide) rfl ?_
      exact z_mask [true, true, true, true] rfl (ih 0 0 h0 G0 (FR.rf (cs := []) (ss := []) (h := h0)) (by omega) (by omega) (by omega) (by omega) rfl (by omega) (by omega))
    · refine z_if_ne_F (M := M_X11_told) 14 dX11_told_14 19 rfl (by omega) ?_
      refine z_iconst (M := M_X11_told) 17 dX11_told_17 ?_
      exact z_retI (M := M_X11_told) 18 dX11_told_18 rfl ⟨G0, (FR.rf (cs := []) (ss := []) (h := h0)), Or.inl ⟨by omega, rfl⟩⟩
abbrev P_X12_told3 (h0 : m_H) (a1 : Int) : Int → m_H → Prop := fun x h' => GI h' ∧ FR [] [(108, 0)] h0 h' ∧ tdQ 108 60 (tfM h0 a1) a1 x h0
def q_X12_told3 (h0 : m_H) (a1 : Int) (n : Nat) : Prop := (∀ (l2 l3 : Int) (h : m_H), GI h → FR [] [(108, 0)] h0 h → 0 ≤ l3 → l3 ≤ 32 → 0 ≤ a1 → a1 ≤ 5 → (l2 = tdS (tfM h0 a1) l3.toNat) → (h0 108 60 ≠ 0) → 2 * (32 - l3) + (1) ≤ (n : Int) → m_Z oF M_X12_told 25 [some (mR 108), some (mI a1), some (mI l2), some (mI l3), none] [] h (m_QI (P_X12_told3 h0 a1)))
set_option maxHeartbeats 4000000 in
set_option maxRecDepth 100000 in
theorem s_X12_told3_25 (h0 : m_H) (a1 : Int) (G0 : GI h0) (n : Nat) (ih : q_X12_told3 h0 a1 n) : ∀ (l2 l3 : Int) (h : m_H), GI h → FR [] [(108, 0)] h0 h → 0 ≤ l3 → l3 ≤ 32 → 0 ≤ a1 → a1 ≤ 5 → (l2 = tdS (tfM h0 a1) l3.toNat) → (h0 108 60 ≠ 0) → 2 * (32 - l3) + (1) ≤ ((n + 1 : Nat) : Int) → m_Z oF M_X12_told 25 [some (mR 108), some (mI a1), some (mI l2), some (mI l3), none] [] h (m_QI (P_X12_told3 h0 a1)) := by
  intro l2 l3 h G R v0 v1 v2 v3 i0 i1 hr
  refine z_ok (fun ostk _ olocs => ?_)
  have ol2 : m_32 l2 := olocs 2 _ rfl
  unfold m_32 at ol2
  refine z_iload_n (M := M_X12_told) 25 dX12_told_25 rfl ?_
  refine z_bipush (M := M_X12_told) 26 dX12_told_26 ?_
  refine z_icmp_ge (M := M_X12_told) 28 dX12_told_28 88 rfl (fun c1 => ?_) (fun c1 => ?_)
  · refine z_iload_n (M := M_X12_told) 88 dX12_told_88 rfl ?_
    exact z_retI (M := M_X12_told) 89 dX12_told_89 rfl ⟨G, R, Or.inr ⟨i1, by omega, by omega, by rw [i0, show l3.toNat = 32 by omega]⟩⟩
  · refine z_aload_n (M := M_X12_told) 31 dX12_told_31 rfl ?_
    refine z_getR (M := M_X12_told) 32 dX12_told_32 f_X12_13 o_108 rfl (g_108_3 G) ?_
    refine z_bipush (M := M_X12_told) 35 dX12_told_35 ?_
    refine z_iload_n (M := M_X12_told) 37 dX12_told_37 rfl ?_
    refine z_iaddN (M := M_X12_told) 38 dX12_told_38 (by omega) (by omega) ?_
    refine z_ialdG (M := M_X12_told) 39 dX12_told_39 o_110 (by omega) (by omega) (gw_c G (by omega) (by omega)) (fun x2 ex2 ax2 bx2 => ?_)
    refine z_iconst (M := M_X12_told) 40 dX12_told_40 ?_
    refine z_icmp_eq (M := M_X12_told) 41 dX12_told_41 64 rfl (fun c3 => ?_) (fun c3 => ?_)
    · refine z_iload_n (M := M_X12_told) 64 dX12_told_64 rfl ?_
      refine z_istore (M := M_X12_told) 65 dX12_told_65 (ls' := [some (mR 108), some (mI a1), some (mI l2), some (mI l3), some (mI a1)]) (by decide) rfl ?_
      refine z_iload_n (M := M_X12_told) 67 dX12_told_67 rfl ?_
      refine z_aload_n (M := M_X12_told) 68 dX12_told_68 rfl ?_
      refine z_iload (M := M_X12_told) 69 dX12_told_69 rfl ?_
      refine z_aload_n (M := M_X12_told) 71 dX12_told_71 rfl ?_
      refine z_getR (M := M_X12_told) 72 dX12_told_72 f_X12_130 o_108 rfl (g_108_59 G) ?_
      refine z_iload_n (M := M_X12_told) 75 dX12_told_75 rfl ?_
      refine z_ialdG (M := M_X12_told) 76 dX12_told_76 o_147 (by omega) (by omega) (g_147 G (by omega)) (fun x4 ex4 ax4 bx4 => ?_)
      refine z_vI (M := M_X12_told) 77 dX12_told_77 t_X12_feetOf l_X12_521 (m_rr_of rfl) (rest := [mI l2]) (c_X12_feetOf2 h a1 x4 G ⟨by omega, by omega⟩ ⟨by omega, by omega⟩) o_108 rfl rfl rfl (Nat.le_of_ble_eq_true rfl) ⟨rfl, rfl⟩ (fun x5 h1 qx5 => ?_)
      obtain ⟨G1, S1, ax5, bx5, fx5⟩ := qx5
      have R1 := R.call S1 (by decide +kernel)
      refine z_iadd (M := M_X12_told) 80 dX12_told_80 ?_
      refine z_topm (fun x6 ex6 ox6 => ?_)
      unfold m_32 at ox6
      refine z_istore_n (M := M_X12_told) 81 dX12_told_81 (ls' := [some (mR 108), some (mI a1), some (mI x6), some (mI l3), some (mI a1)]) (by decide) rfl ?_
      refine z_iincN (M := M_X12_told) 82 dX12_told_82 (ls' := [some (mR 108), some (mI a1), some (mI x6), some (mI (l3 + 1)), some (mI a1)]) (by decide) rfl (by (unfold m_32; decide)) (by omega) (by omega) rfl ?_
      refine z_goto (M := M_X12_told) 85 dX12_told_85 25 rfl ?_
      exact z_mask [true, true, true, true, false] rfl (ih x6 (l3 + 1) h1 G1 R1 (by omega) (by omega) (by omega) (by omega) (tdS_s (by omega) i0 (td_M R (by omega) ex2 (by unfold lnV; rw [if_pos (by omega)]) ex4 fx5) ex6) i1 (by omega))
    · refine z_iload_n (M := M_X12_told) 44 dX12_told_44 rfl ?_
      refine z_aload_n (M := M_X12_told) 45 dX12_told_45 rfl ?_
      refine z_getR (M := M_X12_told) 46 dX12_told_46 f_X12_13 o_108 rfl (g_108_3 G) ?_
      refine z_bipush (M := M_X12_told) 49 dX12_told_49 ?_
      refine z_iload_n (M := M_X12_told) 51 dX12_told_51 rfl ?_
      refine z_iaddN (M := M_X12_told) 52 dX12_told_52 (by omega) (by omega) ?_
      refine z_ialdE (M := M_X12_told) 53 dX12_told_53 o_110 (by omega) (by omega) ex2 ?_
      refine z_icmp_lt (M := M_X12_told) 54 dX12_told_54 64 rfl (fun c7 => ?_) (fun c7 => ?_)
      · refine z_iload_n (M := M_X12_told) 64 dX12_told_64 rfl ?_
        refine z_istore (M := M_X12_told) 65 dX12_told_65 (ls' := [some (mR 108), some (mI a1), some (mI l2), some (mI l3), some (mI a1)]) (by decide) rfl ?_
        refine z_iload_n (M := M_X12_told) 67 dX12_told_67 rfl ?_
        refine z_aload_n (M := M_X12_told) 68 dX12_told_68 rfl ?_
        refine z_iload (M := M_X12_told) 69 dX12_told_69 rfl ?_
        refine z_aload_n (M := M_X12_told) 71 dX12_told_71 rfl ?_
        refine z_getR (M := M_X12_told) 72 dX12_told_72 f_X12_130 o_108 rfl (g_108_59 G) ?_
        refine z_iload_n (M := M_X12_told) 75 dX12_told_75 rfl ?_
        refine z_ialdG (M := M_X12_told) 76 dX12_told_76 o_147 (by omega) (by omega) (g_147 G (by omega)) (fun x8 ex8 ax8 bx8 => ?_)
        refine z_vI (M := M_X12_told) 77 dX12_told_77 t_X12_feetOf l_X12_521 (m_rr_of rfl) (rest := [mI l2]) (c_X12_feetOf2 h a1 x8 G ⟨by omega, by omega⟩ ⟨by omega, by omega⟩) o_108 rfl rfl rfl (Nat.le_of_ble_eq_true rfl) ⟨rfl, rfl⟩ (fun x9 h2 qx9 => ?_)
        obtain ⟨G2, S2, ax9, bx9, fx9⟩ := qx9
        have R2 := R.call S2 (by decide +kernel)
        refine z_iadd (M := M_X12_told) 80 dX12_told_80 ?_
        refine z_topm (fun x10 ex10 ox10 => ?_)
        unfold m_32 at ox10
        refine z_istore_n (M := M_X12_told) 81 dX12_told_81 (ls' := [some (mR 108), some (mI a1), some (mI x10), some (mI l3), some (mI a1)]) (by decide) rfl ?_
        refine z_iincN (M := M_X12_told) 82 dX12_told_82 (ls' := [some (mR 108), some (mI a1), some (mI x10), some (mI (l3 + 1)), some (mI a1)]) (by decide) rfl (by (unfold m_32; decide)) (by omega) (by omega) rfl ?_
        refine z_goto (M := M_X12_told) 85 dX12_told_85 25 rfl ?_
        exact z_mask [true, true, true, true, false] rfl (ih x10 (l3 + 1) h2 G2 R2 (by omega) (by omega) (by omega) (by omega) (tdS_s (by omega) i0 (td_M R (by omega) ex2 (by unfold lnV; rw [if_pos (by omega)]) ex8 fx9) ex10) i1 (by omega))
      · refine z_bipush (M := M_X12_told) 57 dX12_told_57 ?_
        refine z_iload_n (M := M_X12_told) 59 dX12_told_59 rfl ?_
        refine z_iaddN (M := M_X12_told) 60 dX12_told_60 (by omega) (by omega) ?_
        refine z_goto (M := M_X12_told) 61 dX12_told_61 65 rfl ?_
        refine z_istore (M := M_X12_told) 65 dX12_told_65 (ls' := [some (mR 108), some (mI a1), some (mI l2), some (mI l3), some (mI (6 + a1))]) (by decide) rfl ?_
        refine z_iload_n (M := M_X12_told) 67 dX12_told_67 rfl ?_
        refine z_aload_n (M := M_X12_told) 68 dX12_told_68 rfl ?_
        refine z_iload (M := M_X12_told) 69 dX12_told_69 rfl ?_
        refine z_aload_n (M := M_X12_told) 71 dX12_told_71 rfl ?_
        refine z_getR (M := M_X12_told) 72 dX12_told_72 f_X12_130 o_108 rfl (g_108_59 G) ?_
        refine z_iload_n (M := M_X12_told) 75 dX12_told_75 rfl ?_
        refine z_ialdG (M := M_X12_told) 76 dX12_told_76 o_147 (by omega) (by omega) (g_147 G (by omega)) (fun x11 ex11 ax11 bx11 => ?_)
        refine z_vI (M := M_X12_told) 77 dX12_told_77 t_X12_feetOf l_X12_521 (m_rr_of rfl) (rest := [mI l2]) (c_X12_feetOf2 h (6 + a1) x11 G ⟨by omega, by omega⟩ ⟨by omega, by omega⟩) o_108 rfl rfl rfl (Nat.le_of_ble_eq_true rfl) ⟨rfl, rfl⟩ (fun x12 h3 qx12 => ?_)
        obtain ⟨G3, S3, ax12, bx12, fx12⟩ := qx12
        have R3 := R.call S3 (by decide +kernel)
        refine z_iadd (M := M_X12_told) 80 dX12_told_80 ?_
        refine z_topm (fun x13 ex13 ox13 => ?_)
        unfold m_32 at ox13
        refine z_istore_n (M := M_X12_told) 81 dX12_told_81 (ls' := [some (mR 108), some (mI a1), some (mI x13), some (mI l3), some (mI (6 + a1))]) (by decide) rfl ?_
        refine z_iincN (M := M_X12_told) 82 dX12_told_82 (ls' := [some (mR 108), some (mI a1), some (mI x13), some (mI (l3 + 1)), some (mI (6 + a1))]) (by decide) rfl (by (unfold m_32; decide)) (by omega) (by omega) rfl ?_
        refine z_goto (M := M_X12_told) 85 dX12_told_85 25 rfl ?_
        exact z_mask [true, true, true, true, false] rfl (ih x13 (l3 + 1) h3 G3 R3 (by omega) (by omega) (by omega) (by omega) (tdS_s (by omega) i0 (td_M R (by omega) ex2 (by unfold lnV; rw [if_neg (by omega)]; omega) ex11 fx12) ex13) i1 (by omega))
theorem a_X12_told3 (h0 : m_H) (a1 : Int) (G0 : GI h0) : ∀ n, q_X12_told3 h0 a1 n := by
  intro n
  induction n with
  | zero => unfold q_X12_told3; intros; omega
  | succ n ih => exact s_X12_told3_25 h0 a1 G0 n ih
set_option maxHeartbeats 4000000 in
set_option maxRecDepth 100000 in
theorem c_X12_told3 (h0 : m_H) (a1 : Int) (G0 : GI h0) : m_CI M_X12_told [mR 108, mI a1] h0 (P_X12_told3 h0 a1) := by
  refine m_CI_of ⟨by decide, rfl, by simp [m_arg, m_isL, M_X12_told], ⟨rfl, rfl⟩, rfl, rfl⟩ (ls := [some (mR 108), some (mI a1), none, none, none]) rfl ?_
  have ih := a_X12_told3 h0 a1 G0 72
  refine z_ok (fun _ _ ok => ?_)
  have oa1 : m_32 a1 := ok 1 _ rfl
  unfold m_32 at oa1
  refine z_aload_n (M := M_X12_told) 0 dX12_told_0 rfl ?_
  refine z_iconst (M := M_X12_told) 1 dX12_told_1 ?_
  refine z_putIH (M := M_X12_told) 2 dX12_told_2 p_X12_133 o_108 rfl (u_108_0 G0) ((FR.rf (cs := []) (ss := [(108, 0)]) (h := h0)).up rfl) (fun h1 E1 G1 R1 => ?_)
  refine z_aload_n (M := M_X12_told) 5 dX12_told_5 rfl ?_
  refine z_getIG (M := M_X12_told) 6 dX12_told_6 f_X12_512 o_108 (by decide) (g_108_60 G1) (fun x1 ex1 ax1 bx1 => ?_)
  have d60_ : h1 108 60 = h0 108 60 := upN E1 (fun q => absurd q.2 (by decide))
  refine z_if_eq (M := M_X12_told) 9 dX12_told_9 19 rfl (fun c2 => ?_) (fun c2 => ?_)
  · refine z_iconst (M := M_X12_told) 19 dX12_told_19 ?_
    exact z_retI (M := M_X12_told) 20 dX12_told_20 rfl ⟨G1, R1, Or.inl ⟨by omega, rfl⟩⟩
  · refine z_iload_n (M := M_X12_told) 12 dX12_told_12 rfl ?_
    refine z_sI (M := M_X12_told) 13 dX12_told_13 t_X12_isThing l_X12_166 (m_rr_of rfl) (rest := []) (c_X12_isThing h1 a1 G1) rfl rfl (Nat.le_of_ble_eq_true rfl) ⟨rfl, rfl⟩ (fun x3 h2 qx3 => ?_)
    obtain ⟨rfl, ⟨rfl, cx3⟩ | ⟨rfl, cx3⟩⟩ := qx3
    · refine z_if_ne_T (M := M_X12_told) 16 dX12_told_16 21 rfl (by omega) ?_
      refine z_iconst (M := M_X12_told) 21 dX12_told_21 ?_
      refine z_istore_n (M := M_X12_told) 22 dX12_told_22 (ls' := [some (mR 108), some (mI a1), some (mI 0), none, none]) (by decide) rfl ?_
      refine z_iconst (M := M_X12_told) 23 dX12_told_23 ?_
      refine z_istore_n (M := M_X12_told) 24 dX12_told_24 (ls' := [some (mR 108), some (mI a1), some (mI 0), some (mI 0), none]) (by decide) rfl ?_
      exact z_mask [true, true, true, true, false] rfl (ih 0 0 h1 G1 R1 (by omega) (by omega) (by omega) (by omega) rfl (by omega) (by omega))
    · refine z_if_ne_F (M := M_X12_told) 16 dX12_told_16 21 rfl (by omega) ?_
      refine z_iconst (M := M_X12_told) 19 dX12_told_19 ?_
      exact z_retI (M := M_X12_told) 20 dX12_told_20 rfl ⟨G1, R1, Or.inl ⟨by omega, rfl⟩⟩
theorem LX.told {h h1 : m_H} {a x y : Int} {cs : List Nat} {ss : List (Nat × Nat)} (R : LX h) (D : DR h) (G : GI h) (S1 : FR cs ss h h1) (A : tdQ 105 1 (tfC h a) a x h) (B : tdQ 108 60 (tfM h1 a) a y h1) (o : out 108 147 cs ss = true) : x = y := by
  have e110 : h1 110 = h 110 := rowz S1 (fr_out o (by decide) (by decide))
  have e147 : h1 147 = h 147 := rowz S1 (fr_out o (by decide) (by decide))
  have e60 : h1 108 60 = h 108 60 := S1 _ _ (fr_out o (by decide) (by decide) 60)
  have d := D.1
  rcases A with ⟨a1, a2⟩ | ⟨a1, a2, a3, a4⟩
  · rcases B with ⟨b1, b2⟩ | ⟨b1, b2, b3, b4⟩
    · rw [a2, b2]
    · omega
  · rcases B with ⟨b1, b2⟩ | ⟨b1, b2, b3, b4⟩
    · omega
    · rw [a4, b4]
      have l := R.2.1
      have dd := (D.2 a1).2.2
      refine tdS_c 32 (fun w hw => ?_)
      have c3 : h 3 a.toNat = h 110 (42 + a.toNat) := l.2.2.1 a.toNat (by omega)
      have i3 : (42 + a).toNat = 42 + a.toNat := by omega
      unfold tfC tfM
      rw [e110, e147, i3, ← c3, ← dd w hw]
      generalize hv : lnV (h 3 a.toNat) a (w : Int) = v
      have hb : 0 ≤ v ∧ v ≤ 11 := by
        rw [← hv]; unfold lnV; split <;> omega
      have g := g_106 G (j := w) hw
      have k1 : h 8 v.toNat = h 110 (60 + v.toNat) := l.2.2.2.1 v.toNat (by omega)
      have k2 : h 8 (12 + h 106 w).toNat = h 110 (60 + (12 + h 106 w).toNat) := l.2.2.2.1 _ (by omega)
      rw [k1, k2, show (60 + v).toNat = 60 + v.toNat by omega, show (72 + h 106 w).toNat = 60 + (12 + h 106 w).toNat by omega]
/-! an entry by the told world, exact in both -/
theorem frE {h h' : m_H} (R : FR [] [] h h') : h' = h := funext fun c => funext fun j => R c j rfl
def soV (l f n k : Int) : Prop := if k = 0 then l = n * f else if k = 1 then n * f ≤ l ∧ l < (n + 1) * f else (2 * n - 1) * f ≤ 2 * l ∧ 2 * l < (2 * n + 1) * f
def hvL (n k : Int) : Int := 2 * n - (if k = 2 then 1 else 0)
def hvE (n k : Int) : Int := if k = 0 then 2 * n else hvL n k + 2
theorem mul_b {a b : Int} (h1 : 0 ≤ a) (h2 : a ≤ 99) (h3 : 1 ≤ b) (h4 : b ≤ 9999) : 0 ≤ a * b ∧ a * b ≤ 989901 := by
  refine ⟨Int.mul_nonneg h1 (by omega), ?_⟩
  have z := Int.mul_le_mul h2 h4 (by omega) (by omega)
  omega
theorem so_0 {l f n k : Int} (h1 : 0 ≤ n) (h2 : n ≤ 99) (h3 : 1 ≤ f) (h4 : f ≤ 9999) (hk : k = 0) : soV l f n k ↔ l = m_w (n * f) := by
  have b := mul_b h1 h2 h3 h4
  unfold soV
  rw [if_pos hk, m_w_id (by omega) (by omega)]
theorem so_1 {l f n k : Int} (h1 : 0 ≤ n) (h2 : n ≤ 99) (h3 : 1 ≤ f) (h4 : f ≤ 9999) (hk : k = 1) : soV l f n k ↔ m_w (n * f) ≤ l ∧ l < m_w ((n + 1) * f) := by
  have b := mul_b h1 h2 h3 h4
  have e : (n + 1) * f = n * f + f := by rw [Int.add_mul, Int.one_mul]
  unfold soV
  rw [if_neg (by omega), if_pos hk, m_w_id (by omega) (by omega), e, m_w_id (by omega) (by omega)]
theorem so_2 {l f n k : Int} (h1 : 0 ≤ n) (h2 : n ≤ 99) (h3 : 1 ≤ f) (h4 : f ≤ 9999) (hk : ¬ k = 0) (hk1 : ¬ k = 1) : soV l f n k ↔ m_w ((2 * n - 1) * f) ≤ 2 * l ∧ 2 * l < m_w ((2 * n + 1) * f) := by
  have b := mul_b h1 h2 h3 h4
  have e1 : (2 * n - 1) * f = 2 * (n * f) - f := by rw [Int.sub_mul, Int.one_mul, Int.mul_assoc]
  have e2 : (2 * n + 1) * f = 2 * (n * f) + f := by rw [Int.add_mul, Int.one_mul, Int.mul_assoc]
  unfold soV
  rw [if_neg hk, if_neg hk1, e1, e2, m_w_id (by omega) (by omega), m_w_id (by omega) (by omega)]
theorem so_C {l f n k lo en x7 x9 : Int} (h1 : 0 ≤ n) (h2 : n ≤ 99) (h3 : 1 ≤ f) (h4 : f ≤ 9999) (k0 : 0 ≤ k) (k2 : k ≤ 2) (el : hvL n k = lo) (ee : hvE n k = en) (e7 : m_w (lo * f) = x7) (e9 : m_w (en * f) = x9) : soV l f n k ↔ (if k = 0 then 2 * l = x9 else x7 ≤ 2 * l ∧ 2 * l < x9) := by
  have b := mul_b h1 h2 h3 h4
  have e1 : (2 * n) * f = 2 * (n * f) := Int.mul_assoc _ _ _
  unfold hvE at ee
  unfold hvL at el ee
  unfold soV
  by_cases c0 : k = 0
  · rw [if_pos c0] at ee ⊢
    rw [if_pos c0, ← e9, ← ee, e1, m_w_id (by omega) (by omega)]; omega
  rw [if_neg c0] at ee ⊢
  rw [if_neg c0]
  by_cases c1 : k = 1
  · rw [if_neg (by omega)] at el ee
    rw [if_pos c1]
    have e2 : (2 * n - 0) * f = 2 * (n * f) := by rw [show 2 * n - 0 = 2 * n by omega, e1]
    have e3 : (2 * n - 0 + 2) * f = 2 * (n * f) + 2 * f := by rw [show 2 * n - 0 + 2 = 2 * n + 2 by omega, Int.add_mul, e1]
    have e4 : (n + 1) * f = n * f + f := by rw [Int.add_mul, Int.one_mul]
    rw [← e7, ← e9, ← el, ← ee, e2, e3, e4, m_w_id (by omega) (by omega), m_w_id (by omega) (by omega)]; omega
  · rw [if_pos (show k = 2 by omega)] at el ee
    rw [if_neg c1]
    have e2 : (2 * n - 1) * f = 2 * (n * f) - f := by rw [Int.sub_mul, Int.one_mul, e1]
    have e3 : (2 * n - 1 + 2) * f = 2 * (n * f) + f := by rw [show 2 * n - 1 + 2 = 2 * n + 1 by omega, Int.add_mul, Int.one_mul, e1]
    have e4 : (2 * n + 1) * f = 2 * (n * f) + f := by rw [Int.add_mul, Int.one_mul, e1]
    rw [← e7, ← e9, ← el, ← ee, e2, e3, e4, m_w_id (by omega) (by omega), m_w_id (by omega) (by omega)]
def soC (h : m_H) (L : Nat) (e : Int) : Prop := h (L + 1) (h (L + 4) e.toNat).toNat = -1 ∨ soV (h (L + 7) (lnV (h (L + 2) (h (L + 3) e.toNat).toNat) (h (L + 3) e.toNat) (h (L + 4) e.toNat)).toNat) (h (L + 7) (12 + h (L + 1) (h (L + 4) e.toNat).toNat).toNat) (h (L + 5) e.toNat) (h (L + 6) e.toNat)
def soM (r : Nat → Int) (e : Int) : Prop := soV (r (60 + lnV (r (42 + r (5 * e.toNat + 80)).toNat) (r (5 * e.toNat + 80)) (r (5 * e.toNat + 81))).toNat) (r (72 + r (10 + r (5 * e.toNat + 81)).toNat).toNat) (r (5 * e.toNat + 82)) (r (5 * e.toNat + 83))
abbrev P_X4_keeperOf2 (h0 : m_H) (L : Nat) (a1 : Int) : Int → m_H → Prop := fun x h' => GI h' ∧ FR [] [] h0 h' ∧ (-1) ≤ x ∧ x ≤ 3 ∧ h0 (L + 1) (h0 (L + 4) a1.toNat).toNat = x
set_option maxHeartbeats 4000000 in
set_option maxRecDepth 100000 in
theorem c_X4_keeperOf2 (h0 : m_H) (L : Nat) (a1 : Int) (hL : isL L) (G0 : GI h0) (pa1 : 0 ≤ a1 ∧ a1 ≤ 23) : m_CI M_X4_keeperOf [mR L, mI a1] h0 (P_X4_keeperOf2 h0 L a1) := by
  refine m_CI_of ⟨by decide, rfl, by simp [m_arg, m_isL, M_X4_keeperOf], ⟨rfl, rfl⟩, rfl, rfl⟩ (ls := [some (mR L), some (mI a1)]) rfl ?_
  refine z_aload_n (M := M_X4_keeperOf) 0 dX4_keeperOf_0 rfl ?_
  refine z_getR (M := M_X4_keeperOf) 1 dX4_keeperOf_1 f_X4_9 (oL hL) rfl (rL_0 hL G0) ?_
  refine z_aload_n (M := M_X4_keeperOf) 4 dX4_keeperOf_4 rfl ?_
  refine z_getR (M := M_X4_keeperOf) 5 dX4_keeperOf_5 f_X4_21 (oL hL) rfl (rL_3 hL G0) ?_
  refine z_iload_n (M := M_X4_keeperOf) 8 dX4_keeperOf_8 rfl ?_
  refine z_ialdG (M := M_X4_keeperOf) 9 dX4_keeperOf_9 (oL_4 hL) (by omega) (by omega) (gL_4 hL G0 (by omega)) (fun x1 ex1 ax1 bx1 => ?_)
  refine z_ialdG (M := M_X4_keeperOf) 10 dX4_keeperOf_10 (oL_1 hL) (by omega) (by omega) (gL_1 hL G0 (by omega)) (fun x2 ex2 ax2 bx2 => ?_)
  exact z_retI (M := M_X4_keeperOf) 11 dX4_keeperOf_11 rfl ⟨G0, (FR.rf (cs := []) (ss := []) (h := h0)), by omega, by omega, by rw [ex1]; exact ex2⟩
abbrev P_X4_leastHalves2 (h0 : m_H) (L : Nat) (a1 : Int) : Int → m_H → Prop := fun x h' => GI h' ∧ FR [] [] h0 h' ∧ (-1) ≤ x ∧ x ≤ 198 ∧ hvL (h0 (L + 5) a1.toNat) (h0 (L + 6) a1.toNat) = x
set_option maxHeartbeats 4000000 in
set_option maxRecDepth 100000 in
theorem c_X4_leastHalves2 (h0 : m_H) (L : Nat) (a1 : Int) (hL : isL L) (G0 : GI h0) (pa1 : 0 ≤ a1 ∧ a1 ≤ 23) : m_CI M_X4_leastHalves [mR L, mI a1] h0 (P_X4_leastHalves2 h0 L a1) := by
  refine m_CI_of ⟨by decide, rfl, by simp [m_arg, m_isL, M_X4_leastHalves], ⟨rfl, rfl⟩, rfl, rfl⟩ (ls := [some (mR L), some (mI a1)]) rfl ?_
  refine z_iconst (M := M_X4_leastHalves) 0 dX4_leastHalves_0 ?_
  refine z_aload_n (M := M_X4_leastHalves) 1 dX4_leastHalves_1 rfl ?_
  refine z_getR (M := M_X4_leastHalves) 2 dX4_leastHalves_2 f_X4_24 (oL hL) rfl (rL_4 hL G0) ?_
  refine z_iload_n (M := M_X4_leastHalves) 5 dX4_leastHalves_5 rfl ?_
  refine z_ialdG (M := M_X4_leastHalves) 6 dX4_leastHalves_6 (oL_5 hL) (by omega) (by omega) (gL_5 hL G0 (by omega)) (fun x1 ex1 ax1 bx1 => ?_)
  refine z_imulN (M := M_X4_leastHalves) 7 dX4_leastHalves_7 (by omega) (by omega) ?_
  refine z_aload_n (M := M_X4_leastHalves) 8 dX4_leastHalves_8 rfl ?_
  refine z_getR (M := M_X4_leastHalves) 9 dX4_leastHalves_9 f_X4_27 (oL hL) rfl (rL_5 hL G0) ?_
  refine z_iload_n (M := M_X4_leastHalves) 12 dX4_leastHalves_12 rfl ?_
  refine z_ialdG (M := M_X4_leastHalves) 13 dX4_leastHalves_13 (oL_6 hL) (by omega) (by omega) (gL_6 hL G0 (by omega)) (fun x2 ex2 ax2 bx2 => ?_)
  refine z_iconst (M := M_X4_leastHalves) 14 dX4_leastHalves_14 ?_
  refine z_icmp_ne (M := M_X4_leastHalves) 15 dX4_leastHalves_15 22 rfl (fun c3 => ?_) (fun c3 => ?_)
  · refine z_iconst (M := M_X4_leastHalves) 22 dX4_leastHalves_22 ?_
    refine z_isubN (M := M_X4_leastHalves) 23 dX4_leastHalves_23 (by omega) (by omega) ?_
    exact z_retI (M := M_X4_leastHalves) 24 dX4_leastHalves_24 rfl ⟨G0, (FR.rf (cs := []) (ss := []) (h := h0)), by omega, by omega, by rw [ex1, ex2]; unfold hvL; rw [if_neg (by omega)]⟩
  · refine z_iconst (M := M_X4_leastHalves) 18 dX4_leastHalves_18 ?_
    refine z_goto (M := M_X4_leastHalves) 19 dX4_leastHalves_19 23 rfl ?_
    refine z_isubN (M := M_X4_leastHalves) 23 dX4_leastHalves_23 (by omega) (by omega) ?_
    exact z_retI (M := M_X4_leastHalves) 24 dX4_leastHalves_24 rfl ⟨G0, (FR.rf (cs := []) (ss := []) (h := h0)), by omega, by omega, by rw [ex1, ex2]; unfold hvL; rw [if_pos (by omega)]⟩
abbrev P_X4_endHalves2 (h0 : m_H) (L : Nat) (a1 : Int) : Int → m_H → Prop := fun x h' => GI h' ∧ FR [] [] h0 h' ∧ 0 ≤ x ∧ x ≤ 200 ∧ hvE (h0 (L + 5) a1.toNat) (h0 (L + 6) a1.toNat) = x
set_option maxHeartbeats 4000000 in
set_option maxRecDepth 100000 in
theorem c_X4_endHalves2 (h0 : m_H) (L : Nat) (a1 : Int) (hL : isL L) (G0 : GI h0) (pa1 : 0 ≤ a1 ∧ a1 ≤ 23) : m_CI M_X4_endHalves [mR L, mI a1] h0 (P_X4_endHalves2 h0 L a1) := by
  refine m_CI_of ⟨by decide, rfl, by simp [m_arg, m_isL, M_X4_endHalves], ⟨rfl, rfl⟩, rfl, rfl⟩ (ls := [some (mR L), some (mI a1)]) rfl ?_
  refine z_aload_n (M := M_X4_endHalves) 0 dX4_endHalves_0 rfl ?_
  refine z_getR (M := M_X4_endHalves) 1 dX4_endHalves_1 f_X4_27 (oL hL) rfl (rL_5 hL G0) ?_
  refine z_iload_n (M := M_X4_endHalves) 4 dX4_endHalves_4 rfl ?_
  refine z_ialdG (M := M_X4_endHalves) 5 dX4_endHalves_5 (oL_6 hL) (by omega) (by omega) (gL_6 hL G0 (by omega)) (fun x1 ex1 ax1 bx1 => ?_)
  refine z_if_ne (M := M_X4_endHalves) 6 dX4_endHalves_6 18 rfl (fun c2 => ?_) (fun c2 => ?_)
  · refine z_aload_n (M := M_X4_endHalves) 18 dX4_endHalves_18 rfl ?_
    refine z_iload_n (M := M_X4_endHalves) 19 dX4_endHalves_19 rfl ?_
    refine z_vI (M := M_X4_endHalves) 20 dX4_endHalves_20 t_X4_leastHalves l_X4_81 (m_rr_of rfl) (rest := []) (c_X4_leastHalves2 h0 L a1 hL G0 ⟨by omega, by omega⟩) (oL hL) rfl rfl rfl (Nat.le_of_ble_eq_true rfl) ⟨rfl, rfl⟩ (fun x3 h1 qx3 => ?_)
    obtain ⟨G1, S1, ax3, bx3, fx3⟩ := qx3
    have R1 := (FR.rf (cs := []) (ss := []) (h := h0)).call S1 (by decide +kernel)
    refine z_iconst (M := M_X4_endHalves) 23 dX4_endHalves_23 ?_
    refine z_iaddN (M := M_X4_endHalves) 24 dX4_endHalves_24 (by omega) (by omega) ?_
    exact z_retI (M := M_X4_endHalves) 25 dX4_endHalves_25 rfl ⟨G1, R1, by omega, by omega, by rw [← fx3]; unfold hvE; rw [if_neg (by omega)]⟩
  · refine z_iconst (M := M_X4_endHalves) 9 dX4_endHalves_9 ?_
    refine z_aload_n (M := M_X4_endHalves) 10 dX4_endHalves_10 rfl ?_
    refine z_getR (M := M_X4_endHalves) 11 dX4_endHalves_11 f_X4_24 (oL hL) rfl (rL_4 hL G0) ?_
    refine z_iload_n (M := M_X4_endHalves) 14 dX4_endHalves_14 rfl ?_
    refine z_ialdG (M := M_X4_endHalves) 15 dX4_endHalves_15 (oL_5 hL) (by omega) (by omega) (gL_5 hL G0 (by omega)) (fun x4 ex4 ax4 bx4 => ?_)
    refine z_imulN (M := M_X4_endHalves) 16 dX4_endHalves_16 (by omega) (by omega) ?_
    exact z_retI (M := M_X4_endHalves) 17 dX4_endHalves_17 rfl ⟨G0, (FR.rf (cs := []) (ss := []) (h := h0)), by omega, by omega, by unfold hvE; rw [if_pos (by omega), ex4]⟩
abbrev P_X4_isSoByWorld2 (h0 : m_H) (L : Nat) (a1 : Int) : Int → m_H → Prop := fun x h' => GI h' ∧ FR [] [] h0 h' ∧ 0 ≤ x ∧ x ≤ 1 ∧ (x = 1 ↔ soC h0 L a1)
set_option maxHeartbeats 4000000 in
set_option maxRecDepth 100000 in
theorem c_X4_isSoByWorld2 (h0 : m_H) (L : Nat) (a1 : Int) (hL : isL L) (G0 : GI h0) (pa1 : 0 ≤ a1 ∧ a1 ≤ 23) : m_CI M_X4_isSoByWorld [mR L, mI a1] h0 (P_X4_isSoByWorld2 h0 L a1) := by
  refine m_CI_of ⟨by decide, rfl, by simp [m_arg, m_isL, M_X4_isSoByWorld], ⟨rfl, rfl⟩, rfl, rfl⟩ (ls := [some (mR L), some (mI a1), none, none, none, none, none]) rfl ?_
  refine z_aload_n (M := M_X4_isSoByWorld) 0 dX4_isSoByWorld_0 rfl ?_
  refine z_iload_n (M := M_X4_isSoByWorld) 1 dX4_isSoByWorld_1 rfl ?_
  refine z_vI (M := M_X4_isSoByWorld) 2 dX4_isSoByWorld_2 t_X4_keeperOf l_X4_88 (m_rr_of rfl) (rest := []) (c_X4_keeperOf2 h0 L a1 hL G0 ⟨by omega, by omega⟩) (oL hL) rfl rfl rfl (Nat.le_of_ble_eq_true rfl) ⟨rfl, rfl⟩ (fun x1 h1 qx1 => ?_)
  obtain ⟨G1, S1, ax1, bx1, fx1⟩ := qx1
  have R1 := (FR.rf (cs := []) (ss := []) (h := h0)).call S1 (by decide +kernel)
  refine z_istore_n (M := M_X4_isSoByWorld) 5 dX4_isSoByWorld_5 (ls' := [some (mR L), some (mI a1), some (mI x1), none, none, none, none]) (by decide) rfl ?_
  refine z_iload_n (M := M_X4_isSoByWorld) 6 dX4_isSoByWorld_6 rfl ?_
  refine z_iconst (M := M_X4_isSoByWorld) 7 dX4_isSoByWorld_7 ?_
  refine z_icmp_ne (M := M_X4_isSoByWorld) 8 dX4_isSoByWorld_8 13 rfl (fun c2 => ?_) (fun c2 => ?_)
  · refine z_aload_n (M := M_X4_isSoByWorld) 13 dX4_isSoByWorld_13 rfl ?_
    refine z_getR (M := M_X4_isSoByWorld) 14 dX4_isSoByWorld_14 f_X4_30 (oL hL) rfl (rL_6 hL G1) ?_
    refine z_bipush (M := M_X4_isSoByWorld) 17 dX4_isSoByWorld_17 ?_
    refine z_iload_n (M := M_X4_isSoByWorld) 19 dX4_isSoByWorld_19 rfl ?_
    refine z_iaddN (M := M_X4_isSoByWorld) 20 dX4_isSoByWorld_20 (by omega) (by omega) ?_
    refine z_ialdG (M := M_X4_isSoByWorld) 21 dX4_isSoByWorld_21 (oL_7 hL) (by omega) (by omega) (gL_7 hL G1 (by omega)) (fun x3 ex3 ax3 bx3 => ?_)
    refine z_istore_n (M := M_X4_isSoByWorld) 22 dX4_isSoByWorld_22 (ls' := [some (mR L), some (mI a1), some (mI x1), some (mI x3), none, none, none]) (by decide) rfl ?_
    refine z_iconst (M := M_X4_isSoByWorld) 23 dX4_isSoByWorld_23 ?_
    refine z_aload_n (M := M_X4_isSoByWorld) 24 dX4_isSoByWorld_24 rfl ?_
    refine z_getR (M := M_X4_isSoByWorld) 25 dX4_isSoByWorld_25 f_X4_30 (oL hL) rfl (rL_6 hL G1) ?_
    refine z_aload_n (M := M_X4_isSoByWorld) 28 dX4_isSoByWorld_28 rfl ?_
    refine z_iload_n (M := M_X4_isSoByWorld) 29 dX4_isSoByWorld_29 rfl ?_
    refine z_vI (M := M_X4_isSoByWorld) 30 dX4_isSoByWorld_30 t_X4_lengthOf l_X4_91 (m_rr_of rfl) (rest := [mR (L + 7), mI 2]) (c_X4_lengthOf2 h1 L a1 hL G1 ⟨by omega, by omega⟩) (oL hL) rfl rfl rfl (Nat.le_of_ble_eq_true rfl) ⟨rfl, rfl⟩ (fun x4 h2 qx4 => ?_)
    obtain ⟨G2, S2, ax4, bx4, fx4⟩ := qx4
    have R2 := R1.call S2 (by decide +kernel)
    refine z_ialdG (M := M_X4_isSoByWorld) 33 dX4_isSoByWorld_33 (oL_7 hL) (by omega) (by omega) (gL_7 hL G2 (by omega)) (fun x5 ex5 ax5 bx5 => ?_)
    refine z_imulN (M := M_X4_isSoByWorld) 34 dX4_isSoByWorld_34 (by omega) (by omega) ?_
    refine z_istore (M := M_X4_isSoByWorld) 35 dX4_isSoByWorld_35 (ls' := [some (mR L), some (mI a1), some (mI x1), some (mI x3), some (mI (2 * x5)), none, none]) (by decide) rfl ?_
    refine z_aload_n (M := M_X4_isSoByWorld) 37 dX4_isSoByWorld_37 rfl ?_
    refine z_iload_n (M := M_X4_isSoByWorld) 38 dX4_isSoByWorld_38 rfl ?_
    refine z_vI (M := M_X4_isSoByWorld) 39 dX4_isSoByWorld_39 t_X4_leastHalves l_X4_81 (m_rr_of rfl) (rest := []) (c_X4_leastHalves2 h2 L a1 hL G2 ⟨by omega, by omega⟩) (oL hL) rfl rfl rfl (Nat.le_of_ble_eq_true rfl) ⟨rfl, rfl⟩ (fun x6 h3 qx6 => ?_)
    obtain ⟨G3, S3, ax6, bx6, fx6⟩ := qx6
    have R3 := R2.call S3 (by decide +kernel)
    refine z_iload_n (M := M_X4_isSoByWorld) 42 dX4_isSoByWorld_42 rfl ?_
    refine z_imul (M := M_X4_isSoByWorld) 43 dX4_isSoByWorld_43 ?_
    refine z_topm (fun x7 ex7 ox7 => ?_)
    unfold m_32 at ox7
    refine z_istore (M := M_X4_isSoByWorld) 44 dX4_isSoByWorld_44 (ls' := [some (mR L), some (mI a1), some (mI x1), some (mI x3), some (mI (2 * x5)), some (mI x7), none]) (by decide) rfl ?_
    refine z_aload_n (M := M_X4_isSoByWorld) 46 dX4_isSoByWorld_46 rfl ?_
    refine z_iload_n (M := M_X4_isSoByWorld) 47 dX4_isSoByWorld_47 rfl ?_
    refine z_vI (M := M_X4_isSoByWorld) 48 dX4_isSoByWorld_48 t_X4_endHalves l_X4_94 (m_rr_of rfl) (rest := []) (c_X4_endHalves2 h3 L a1 hL G3 ⟨by omega, by omega⟩) (oL hL) rfl rfl rfl (Nat.le_of_ble_eq_true rfl) ⟨rfl, rfl⟩ (fun x8 h4 qx8 => ?_)
    obtain ⟨G4, S4, ax8, bx8, fx8⟩ := qx8
    have R4 := R3.call S4 (by decide +kernel)
    refine z_iload_n (M := M_X4_isSoByWorld) 51 dX4_isSoByWorld_51 rfl ?_
    refine z_imul (M := M_X4_isSoByWorld) 52 dX4_isSoByWorld_52 ?_
    refine z_topm (fun x9 ex9 ox9 => ?_)
    unfold m_32 at ox9
    refine z_istore (M := M_X4_isSoByWorld) 53 dX4_isSoByWorld_53 (ls' := [some (mR L), some (mI a1), some (mI x1), some (mI x3), some (mI (2 * x5)), some (mI x7), some (mI x9)]) (by decide) rfl ?_
    refine z_aload_n (M := M_X4_isSoByWorld) 55 dX4_isSoByWorld_55 rfl ?_
    refine z_getR (M := M_X4_isSoByWorld) 56 dX4_isSoByWorld_56 f_X4_27 (oL hL) rfl (rL_5 hL G4) ?_
    refine z_iload_n (M := M_X4_isSoByWorld) 59 dX4_isSoByWorld_59 rfl ?_
    refine z_ialdG (M := M_X4_isSoByWorld) 60 dX4_isSoByWorld_60 (oL_6 hL) (by omega) (by omega) (gL_6 hL G4 (by omega)) (fun x10 ex10 ax10 bx10 => ?_)
    have so_ : soC h0 L a1 ↔ (if x10 = 0 then 2 * x5 = x9 else x7 ≤ 2 * x5 ∧ 2 * x5 < x9) := by
      rw [frE R1] at ex3 fx4
      rw [frE R2] at ex5 fx6
      rw [frE R3] at fx8
      rw [frE R4] at ex10
      rw [ex10] at fx6 fx8
      have gn := gL_5 hL G0 (j := a1.toNat) (by omega)
      unfold soC
      rw [fx1, fx4, ex5, ex3, ex10, or_iff_right (by omega)]
      exact so_C (by omega) (by omega) (by omega) (by omega) (by omega) (by omega) fx6 fx8 ex7 ex9
    refine z_if_ne (M := M_X4_isSoByWorld) 61 dX4_isSoByWorld_61 79 rfl (fun c11 => ?_) (fun c11 => ?_)
    · refine z_iload (M := M_X4_isSoByWorld) 79 dX4_isSoByWorld_79 rfl ?_
      refine z_iload (M := M_X4_isSoByWorld) 81 dX4_isSoByWorld_81 rfl ?_
      refine z_icmp_lt (M := M_X4_isSoByWorld) 83 dX4_isSoByWorld_83 97 rfl (fun c12 => ?_) (fun c12 => ?_)
      · refine z_iconst (M := M_X4_isSoByWorld) 97 dX4_isSoByWorld_97 ?_
        exact z_retZ (M := M_X4_isSoByWorld) 98 dX4_isSoByWorld_98 rfl (by omega) ⟨G4, R4, by omega, by omega, ⟨fun z => absurd z (by decide), fun z => by have y := so_.mp z; rw [if_neg (by omega)] at y; omega⟩⟩
      · refine z_iload (M := M_X4_isSoByWorld) 86 dX4_isSoByWorld_86 rfl ?_
        refine z_iload (M := M_X4_isSoByWorld) 88 dX4_isSoByWorld_88 rfl ?_
        refine z_icmp_ge (M := M_X4_isSoByWorld) 90 dX4_isSoByWorld_90 97 rfl (fun c13 => ?_) (fun c13 => ?_)
        · refine z_iconst (M := M_X4_isSoByWorld) 97 dX4_isSoByWorld_97 ?_
          exact z_retZ (M := M_X4_isSoByWorld) 98 dX4_isSoByWorld_98 rfl (by omega) ⟨G4, R4, by omega, by omega, ⟨fun z => absurd z (by decide), fun z => by have y := so_.mp z; rw [if_neg (by omega)] at y; omega⟩⟩
        · refine z_iconst (M := M_X4_isSoByWorld) 93 dX4_isSoByWorld_93 ?_
          refine z_goto (M := M_X4_isSoByWorld) 94 dX4_isSoByWorld_94 98 rfl ?_
          exact z_retZ (M := M_X4_isSoByWorld) 98 dX4_isSoByWorld_98 rfl (by omega) ⟨G4, R4, by omega, by omega, ⟨fun _ => so_.mpr (by rw [if_neg (by omega)]; omega), fun _ => rfl⟩⟩
    · refine z_iload (M := M_X4_isSoByWorld) 64 dX4_isSoByWorld_64 rfl ?_
      refine z_iload (M := M_X4_isSoByWorld) 66 dX4_isSoByWorld_66 rfl ?_
      refine z_icmp_ne (M := M_X4_isSoByWorld) 68 dX4_isSoByWorld_68 75 rfl (fun c14 => ?_) (fun c14 => ?_)
      · refine z_iconst (M := M_X4_isSoByWorld) 75 dX4_isSoByWorld_75 ?_
        refine z_goto (M := M_X4_isSoByWorld) 76 dX4_isSoByWorld_76 98 rfl ?_
        exact z_retZ (M := M_X4_isSoByWorld) 98 dX4_isSoByWorld_98 rfl (by omega) ⟨G4, R4, by omega, by omega, ⟨fun z => absurd z (by decide), fun z => by have y := so_.mp z; rw [if_pos (by omega)] at y; omega⟩⟩
      · refine z_iconst (M := M_X4_isSoByWorld) 71 dX4_isSoByWorld_71 ?_
        refine z_goto (M := M_X4_isSoByWorld) 72 dX4_isSoByWorld_72 98 rfl ?_
        exact z_retZ (M := M_X4_isSoByWorld) 98 dX4_isSoByWorld_98 rfl (by omega) ⟨G4, R4, by omega, by omega, ⟨fun _ => so_.mpr (by rw [if_pos (by omega)]; omega), fun _ => rfl⟩⟩
  · refine z_iconst (M := M_X4_isSoByWorld) 11 dX4_isSoByWorld_11 ?_
    exact z_retZ (M := M_X4_isSoByWorld) 12 dX4_isSoByWorld_12 rfl (by omega) ⟨G1, R1, by omega, by omega, ⟨fun _ => Or.inl (by omega), fun _ => rfl⟩⟩
abbrev P_X12_isSo2 (h0 : m_H) (a1 : Int) : Int → m_H → Prop := fun x h' => GI h' ∧ FR [] [] h0 h' ∧ 0 ≤ x ∧ x ≤ 1 ∧ (x = 1 ↔ soM (h0 110) a1)
set_option maxHeartbeats 4000000 in
set_option maxRecDepth 100000 in
theorem c_X12_isSo2 (h0 : m_H) (a1 : Int) (G0 : GI h0) (pa1 : 0 ≤ a1 ∧ a1 ≤ 23) : m_CI M_X12_isSo [mR 108, mI a1] h0 (P_X12_isSo2 h0 a1) := by
  refine m_CI_of ⟨by decide, rfl, by simp [m_arg, m_isL, M_X12_isSo], ⟨rfl, rfl⟩, rfl, rfl⟩ (ls := [some (mR 108), some (mI a1), none, none, none]) rfl ?_
  refine z_aload_n (M := M_X12_isSo) 0 dX12_isSo_0 rfl ?_
  refine z_getR (M := M_X12_isSo) 1 dX12_isSo_1 f_X12_13 o_108 rfl (g_108_3 G0) ?_
  refine z_bipush (M := M_X12_isSo) 4 dX12_isSo_4 ?_
  refine z_aload_n (M := M_X12_isSo) 6 dX12_isSo_6 rfl ?_
  refine z_iload_n (M := M_X12_isSo) 7 dX12_isSo_7 rfl ?_
  refine z_vI (M := M_X12_isSo) 8 dX12_isSo_8 t_X12_lengthOf l_X12_198 (m_rr_of rfl) (rest := [mI 60, mR 110]) (c_X12_lengthOf2 h0 a1 G0 ⟨by omega, by omega⟩) o_108 rfl rfl rfl (Nat.le_of_ble_eq_true rfl) ⟨rfl, rfl⟩ (fun x1 h1 qx1 => ?_)
  obtain ⟨G1, S1, ax1, bx1, fx1⟩ := qx1
  have R1 := (FR.rf (cs := []) (ss := []) (h := h0)).call S1 (by decide +kernel)
  refine z_iaddN (M := M_X12_isSo) 11 dX12_isSo_11 (by omega) (by omega) ?_
  refine z_ialdG (M := M_X12_isSo) 12 dX12_isSo_12 o_110 (by omega) (by omega) (gw_l G1 (by omega) (by omega)) (fun x2 ex2 ax2 bx2 => ?_)
  refine z_istore_n (M := M_X12_isSo) 13 dX12_isSo_13 (ls' := [some (mR 108), some (mI a1), some (mI x2), none, none]) (by decide) rfl ?_
  refine z_aload_n (M := M_X12_isSo) 14 dX12_isSo_14 rfl ?_
  refine z_getR (M := M_X12_isSo) 15 dX12_isSo_15 f_X12_13 o_108 rfl (g_108_3 G1) ?_
  refine z_bipush (M := M_X12_isSo) 18 dX12_isSo_18 ?_
  refine z_aload_n (M := M_X12_isSo) 20 dX12_isSo_20 rfl ?_
  refine z_getR (M := M_X12_isSo) 21 dX12_isSo_21 f_X12_13 o_108 rfl (g_108_3 G1) ?_
  refine z_bipush (M := M_X12_isSo) 24 dX12_isSo_24 ?_
  refine z_aload_n (M := M_X12_isSo) 26 dX12_isSo_26 rfl ?_
  refine z_iload_n (M := M_X12_isSo) 27 dX12_isSo_27 rfl ?_
  refine z_iconst (M := M_X12_isSo) 28 dX12_isSo_28 ?_
  refine z_vI (M := M_X12_isSo) 29 dX12_isSo_29 t_X12_ofEntry l_X12_195 (m_rr_of rfl) (rest := [mI 10, mR 110, mI 72, mR 110]) (c_X12_ofEntry h1 a1 1 G1 ⟨by omega, by omega⟩ ⟨by omega, by omega⟩) o_108 rfl rfl rfl (Nat.le_of_ble_eq_true rfl) ⟨rfl, rfl⟩ (fun x3 h2 qx3 => ?_)
  obtain ⟨rfl, fx3⟩ := qx3
  have gx3 := gw_e1 G1 (i := (80 + 5 * a1 + 1)) (e := a1) (by omega) (by omega) (by omega)
  rw [fx3] at gx3
  refine z_iaddN (M := M_X12_isSo) 32 dX12_isSo_32 (by omega) (by omega) ?_
  refine z_ialdG (M := M_X12_isSo) 33 dX12_isSo_33 o_110 (by omega) (by omega) (gw_w G1 (by omega) (by omega)) (fun x4 ex4 ax4 bx4 => ?_)
  refine z_iaddN (M := M_X12_isSo) 34 dX12_isSo_34 (by omega) (by omega) ?_
  refine z_ialdG (M := M_X12_isSo) 35 dX12_isSo_35 o_110 (by omega) (by omega) (gw_l G1 (by omega) (by omega)) (fun x5 ex5 ax5 bx5 => ?_)
  refine z_istore_n (M := M_X12_isSo) 36 dX12_isSo_36 (ls' := [some (mR 108), some (mI a1), some (mI x2), some (mI x5), none]) (by decide) rfl ?_
  refine z_aload_n (M := M_X12_isSo) 37 dX12_isSo_37 rfl ?_
  refine z_iload_n (M := M_X12_isSo) 38 dX12_isSo_38 rfl ?_
  refine z_iconst (M := M_X12_isSo) 39 dX12_isSo_39 ?_
  refine z_vI (M := M_X12_isSo) 40 dX12_isSo_40 t_X12_ofEntry l_X12_195 (m_rr_of rfl) (rest := []) (c_X12_ofEntry h1 a1 2 G1 ⟨by omega, by omega⟩ ⟨by omega, by omega⟩) o_108 rfl rfl rfl (Nat.le_of_ble_eq_true rfl) ⟨rfl, rfl⟩ (fun x6 h3 qx6 => ?_)
  obtain ⟨rfl, fx6⟩ := qx6
  have gx6 := gw_e2 G1 (i := (80 + 5 * a1 + 2)) (e := a1) (by omega) (by omega) (by omega)
  rw [fx6] at gx6
  refine z_istore (M := M_X12_isSo) 43 dX12_isSo_43 (ls' := [some (mR 108), some (mI a1), some (mI x2), some (mI x5), some (mI x6)]) (by decide) rfl ?_
  refine z_aload_n (M := M_X12_isSo) 45 dX12_isSo_45 rfl ?_
  refine z_iload_n (M := M_X12_isSo) 46 dX12_isSo_46 rfl ?_
  refine z_iconst (M := M_X12_isSo) 47 dX12_isSo_47 ?_
  refine z_vI (M := M_X12_isSo) 48 dX12_isSo_48 t_X12_ofEntry l_X12_195 (m_rr_of rfl) (rest := []) (c_X12_ofEntry h1 a1 3 G1 ⟨by omega, by omega⟩ ⟨by omega, by omega⟩) o_108 rfl rfl rfl (Nat.le_of_ble_eq_true rfl) ⟨rfl, rfl⟩ (fun x7 h4 qx7 => ?_)
  obtain ⟨rfl, fx7⟩ := qx7
  have gx7 := gw_e3 G1 (i := (80 + 5 * a1 + 3)) (e := a1) (by omega) (by omega) (by omega)
  rw [fx7] at gx7
  have so_ : soM (h0 110) a1 ↔ soV x2 x5 x6 x7 := by
    have i1 : (80 + 5 * a1 + 1).toNat = 5 * a1.toNat + 81 := by omega
    have i2 : (80 + 5 * a1 + 2).toNat = 5 * a1.toNat + 82 := by omega
    have i3 : (80 + 5 * a1 + 3).toNat = 5 * a1.toNat + 83 := by omega
    rw [frE R1] at ex2 ex4 ex5 fx3 fx6 fx7
    rw [i1] at fx3
    rw [i2] at fx6
    rw [i3] at fx7
    unfold soM
    rw [fx1, ex2, fx3, ex4, ex5, fx6, fx7]
  by_cases c8 : x7 = 0 ∨ x7 = 1
  · rcases c8 with c8_0 | c8_1
    · refine z_lookup (M := M_X12_isSo) 51 dX12_isSo_51 (off := 25) 76 (by decide) (by rw [c8_0]; rfl) rfl ?_
      refine z_iload_n (M := M_X12_isSo) 76 dX12_isSo_76 rfl ?_
      refine z_iload (M := M_X12_isSo) 77 dX12_isSo_77 rfl ?_
      refine z_iload_n (M := M_X12_isSo) 79 dX12_isSo_79 rfl ?_
      refine z_imul (M := M_X12_isSo) 80 dX12_isSo_80 ?_
      refine z_topm (fun x9 ex9 ox9 => ?_)
      unfold m_32 at ox9
      refine z_icmp_ne (M := M_X12_isSo) 81 dX12_isSo_81 88 rfl (fun c10 => ?_) (fun c10 => ?_)
      · refine z_iconst (M := M_X12_isSo) 88 dX12_isSo_88 ?_
        exact z_retZ (M := M_X12_isSo) 89 dX12_isSo_89 rfl (by omega) ⟨G1, R1, by omega, by omega, ⟨fun z => absurd z (by decide), fun z => by have y := (so_0 (by omega) (by omega) (by omega) (by omega) c8_0).mp (so_.mp z); rw [ex9] at y; omega⟩⟩
      · refine z_iconst (M := M_X12_isSo) 84 dX12_isSo_84 ?_
        refine z_goto (M := M_X12_isSo) 85 dX12_isSo_85 89 rfl ?_
        exact z_retZ (M := M_X12_isSo) 89 dX12_isSo_89 rfl (by omega) ⟨G1, R1, by omega, by omega, ⟨fun _ => so_.mpr ((so_0 (by omega) (by omega) (by omega) (by omega) c8_0).mpr (by rw [ex9]; omega)), fun _ => rfl⟩⟩
    · refine z_lookup (M := M_X12_isSo) 51 dX12_isSo_51 (off := 39) 90 (by decide) (by rw [c8_1]; rfl) rfl ?_
      refine z_iload_n (M := M_X12_isSo) 90 dX12_isSo_90 rfl ?_
      refine z_iload (M := M_X12_isSo) 91 dX12_isSo_91 rfl ?_
      refine z_iload_n (M := M_X12_isSo) 93 dX12_isSo_93 rfl ?_
      refine z_imul (M := M_X12_isSo) 94 dX12_isSo_94 ?_
      refine z_topm (fun x11 ex11 ox11 => ?_)
      unfold m_32 at ox11
      refine z_icmp_lt (M := M_X12_isSo) 95 dX12_isSo_95 112 rfl (fun c12 => ?_) (fun c12 => ?_)
      · refine z_iconst (M := M_X12_isSo) 112 dX12_isSo_112 ?_
        exact z_retZ (M := M_X12_isSo) 113 dX12_isSo_113 rfl (by omega) ⟨G1, R1, by omega, by omega, ⟨fun z => absurd z (by decide), fun z => by have y := (so_1 (by omega) (by omega) (by omega) (by omega) c8_1).mp (so_.mp z); rw [ex11] at y; omega⟩⟩
      · refine z_iload_n (M := M_X12_isSo) 98 dX12_isSo_98 rfl ?_
        refine z_iload (M := M_X12_isSo) 99 dX12_isSo_99 rfl ?_
        refine z_iconst (M := M_X12_isSo) 101 dX12_isSo_101 ?_
        refine z_iaddN (M := M_X12_isSo) 102 dX12_isSo_102 (by omega) (by omega) ?_
        refine z_iload_n (M := M_X12_isSo) 103 dX12_isSo_103 rfl ?_
        refine z_imul (M := M_X12_isSo) 104 dX12_isSo_104 ?_
        refine z_topm (fun x13 ex13 ox13 => ?_)
        unfold m_32 at ox13
        refine z_icmp_ge (M := M_X12_isSo) 105 dX12_isSo_105 112 rfl (fun c14 => ?_) (fun c14 => ?_)
        · refine z_iconst (M := M_X12_isSo) 112 dX12_isSo_112 ?_
          exact z_retZ (M := M_X12_isSo) 113 dX12_isSo_113 rfl (by omega) ⟨G1, R1, by omega, by omega, ⟨fun z => absurd z (by decide), fun z => by have y := (so_1 (by omega) (by omega) (by omega) (by omega) c8_1).mp (so_.mp z); rw [ex11, ex13] at y; omega⟩⟩
        · refine z_iconst (M := M_X12_isSo) 108 dX12_isSo_108 ?_
          refine z_goto (M := M_X12_isSo) 109 dX12_isSo_109 113 rfl ?_
          exact z_retZ (M := M_X12_isSo) 113 dX12_isSo_113 rfl (by omega) ⟨G1, R1, by omega, by omega, ⟨fun _ => so_.mpr ((so_1 (by omega) (by omega) (by omega) (by omega) c8_1).mpr (by rw [ex11, ex13]; omega)), fun _ => rfl⟩⟩
  · refine z_lookup (M := M_X12_isSo) 51 dX12_isSo_51 (off := 63) 114 (by decide) (by simp only [Op.lookupswitch.offset]; split <;> (try omega) <;> (split <;> omega)) rfl ?_
    refine z_iconst (M := M_X12_isSo) 114 dX12_isSo_114 ?_
    refine z_iload_n (M := M_X12_isSo) 115 dX12_isSo_115 rfl ?_
    refine z_imulN (M := M_X12_isSo) 116 dX12_isSo_116 (by omega) (by omega) ?_
    refine z_iconst (M := M_X12_isSo) 117 dX12_isSo_117 ?_
    refine z_iload (M := M_X12_isSo) 118 dX12_isSo_118 rfl ?_
    refine z_imulN (M := M_X12_isSo) 120 dX12_isSo_120 (by omega) (by omega) ?_
    refine z_iconst (M := M_X12_isSo) 121 dX12_isSo_121 ?_
    refine z_isubN (M := M_X12_isSo) 122 dX12_isSo_122 (by omega) (by omega) ?_
    refine z_iload_n (M := M_X12_isSo) 123 dX12_isSo_123 rfl ?_
    refine z_imul (M := M_X12_isSo) 124 dX12_isSo_124 ?_
    refine z_topm (fun x15 ex15 ox15 => ?_)
    unfold m_32 at ox15
    refine z_icmp_lt (M := M_X12_isSo) 125 dX12_isSo_125 146 rfl (fun c16 => ?_) (fun c16 => ?_)
    · refine z_iconst (M := M_X12_isSo) 146 dX12_isSo_146 ?_
      exact z_retZ (M := M_X12_isSo) 147 dX12_isSo_147 rfl (by omega) ⟨G1, R1, by omega, by omega, ⟨fun z => absurd z (by decide), fun z => by have y := (so_2 (by omega) (by omega) (by omega) (by omega) (by omega) (by omega)).mp (so_.mp z); rw [ex15] at y; omega⟩⟩
    · refine z_iconst (M := M_X12_isSo) 128 dX12_isSo_128 ?_
      refine z_iload_n (M := M_X12_isSo) 129 dX12_isSo_129 rfl ?_
      refine z_imulN (M := M_X12_isSo) 130 dX12_isSo_130 (by omega) (by omega) ?_
      refine z_iconst (M := M_X12_isSo) 131 dX12_isSo_131 ?_
      refine z_iload (M := M_X12_isSo) 132 dX12_isSo_132 rfl ?_
      refine z_imulN (M := M_X12_isSo) 134 dX12_isSo_134 (by omega) (by omega) ?_
      refine z_iconst (M := M_X12_isSo) 135 dX12_isSo_135 ?_
      refine z_iaddN (M := M_X12_isSo) 136 dX12_isSo_136 (by omega) (by omega) ?_
      refine z_iload_n (M := M_X12_isSo) 137 dX12_isSo_137 rfl ?_
      refine z_imul (M := M_X12_isSo) 138 dX12_isSo_138 ?_
      refine z_topm (fun x17 ex17 ox17 => ?_)
      unfold m_32 at ox17
      refine z_icmp_ge (M := M_X12_isSo) 139 dX12_isSo_139 146 rfl (fun c18 => ?_) (fun c18 => ?_)
      · refine z_iconst (M := M_X12_isSo) 146 dX12_isSo_146 ?_
        exact z_retZ (M := M_X12_isSo) 147 dX12_isSo_147 rfl (by omega) ⟨G1, R1, by omega, by omega, ⟨fun z => absurd z (by decide), fun z => by have y := (so_2 (by omega) (by omega) (by omega) (by omega) (by omega) (by omega)).mp (so_.mp z); rw [ex15, ex17] at y; omega⟩⟩
      · refine z_iconst (M := M_X12_isSo) 142 dX12_isSo_142 ?_
        refine z_goto (M := M_X12_isSo) 143 dX12_isSo_143 147 rfl ?_
        exact z_retZ (M := M_X12_isSo) 147 dX12_isSo_147 rfl (by omega) ⟨G1, R1, by omega, by omega, ⟨fun _ => so_.mpr ((so_2 (by omega) (by omega) (by omega) (by omega) (by omega) (by omega)).mpr (by rw [ex15, ex17]; omega)), fun _ => rfl⟩⟩
theorem so_eq {h : m_H} {e : Int} (R : LR 1 h (h 110)) (G : GI h) (h0 : 0 ≤ e) (h1 : e < h 110 0) : ¬ soC h 1 e ↔ (h 110 (10 + h 110 (5 * e.toNat + 81)).toNat ≠ -1 ∧ ¬ soM (h 110) e) := by
  obtain ⟨b, k, c, wd, n, q, cb, sb⟩ := R
  obtain ⟨b1, b2, b3, b4⟩ := b
  obtain ⟨q1, q2, q3, q4⟩ := q e.toNat (by omega)
  have q1' : h (1 + 3) e.toNat = h 110 (5 * e.toNat + 80) := q1
  have q2' : h (1 + 4) e.toNat = h 110 (5 * e.toNat + 81) := q2
  have q3' : h (1 + 5) e.toNat = h 110 (5 * e.toNat + 82) := q3
  have q4' : h (1 + 6) e.toNat = h 110 (5 * e.toNat + 83) := q4
  have gn := gw_n G (e := e.toNat) (by omega)
  obtain ⟨⟨g1, g2⟩, ⟨g3, g4⟩, _⟩ := gn
  have kk := k (h 110 (5 * e.toNat + 81)).toNat (by omega)
  have cc := c (h 110 (5 * e.toNat + 80)).toNat (by omega)
  have ik : (10 + h 110 (5 * e.toNat + 81)).toNat = 10 + (h 110 (5 * e.toNat + 81)).toNat := by omega
  have ic : (42 + h 110 (5 * e.toNat + 80)).toNat = 42 + (h 110 (5 * e.toNat + 80)).toNat := by omega
  unfold soC soM
  rw [q1', q2', q3', q4', kk, cc, ik, ic]
  generalize hv : lnV (h 110 (42 + (h 110 (5 * e.toNat + 80)).toNat)) (h 110 (5 * e.toNat + 80)) (h 110 (5 * e.toNat + 81)) = v
  have hb : 0 ≤ v ∧ v ≤ 11 := by
    rw [← hv]; unfold lnV; split <;> omega
  have gk := gw_w G (i := 10 + h 110 (5 * e.toNat + 81)) (by omega) (by omega)
  rw [ik] at gk
  generalize h 110 (10 + (h 110 (5 * e.toNat + 81)).toNat) = kp at gk ⊢
  by_cases g : kp = -1
  · exact ⟨fun z => absurd (Or.inl g) z, fun z => absurd g z.1⟩
  · have w1 := wd v.toNat (by omega)
    have w2 := wd (12 + kp).toNat (by omega)
    rw [w1, w2, show (60 + v).toNat = 60 + v.toNat by omega, show (72 + kp).toNat = 60 + (12 + kp).toNat by omega, or_iff_right g]
    exact ⟨fun z => ⟨g, z⟩, fun z => z.2⟩
/-! judge, exact in both -/
noncomputable def jS (W : Int → Prop) (n : Int) : Nat → Int × Int
  | 0 => (-1, 0)
  | d + 1 => cif (W (n - 1 - (d : Int))) (n - 1 - (d : Int), (jS W n d).2 + 1) (jS W n d)
theorem jS_c {W V : Int → Prop} {n : Int} (e : ∀ k, 0 ≤ k → k < n → (W k ↔ V k)) : ∀ d : Nat, (d : Int) ≤ n → jS W n d = jS V n d
  | 0, _ => rfl
  | d + 1, hd => by
    have i := jS_c e d (by omega)
    have z := e (n - 1 - (d : Int)) (by omega) (by omega)
    show cif (W (n - 1 - (d : Int))) _ _ = cif (V (n - 1 - (d : Int))) _ _
    rw [i]
    by_cases g : W (n - 1 - (d : Int))
    · rw [cif_pos g, cif_pos (z.mp g)]
    · rw [cif_neg g, cif_neg (fun y => g (z.mpr y))]
theorem jS_b {W : Int → Prop} {n : Int} : ∀ d : Nat, 0 ≤ (jS W n d).2 ∧ (jS W n d).2 ≤ (d : Int)
  | 0 => ⟨Int.le_refl _, Int.le_refl _⟩
  | d + 1 => by
    have i := jS_b (W := W) (n := n) d
    show 0 ≤ (cif (W (n - 1 - (d : Int))) (n - 1 - (d : Int), (jS W n d).2 + 1) (jS W n d)).2 ∧ (cif (W (n - 1 - (d : Int))) (n - 1 - (d : Int), (jS W n d).2 + 1) (jS W n d)).2 ≤ _
    by_cases g : W (n - 1 - (d : Int))
    · rw [cif_pos g]; show 0 ≤ (jS W n d).2 + 1 ∧ (jS W n d).2 + 1 ≤ _; omega
    · rw [cif_neg g]; omega
def jI (W : Int → Prop) (n l f m : Int) : Prop := f = (jS W n (n - 1 - l).toNat).1 ∧ m = (jS W n (n - 1 - l).toNat).2
theorem jI_0 {W : Int → Prop} {n l : Int} (e : l = n - 1) : jI W n l (-1) 0 := by
  unfold jI; rw [show (n - 1 - l).toNat = 0 by omega]; exact ⟨rfl, rfl⟩
theorem jI_b {W : Int → Prop} {n l f m : Int} (i : jI W n l f m) (h : l ≤ n - 1) : 0 ≤ m ∧ m ≤ n - 1 - l := by
  have z := jS_b (W := W) (n := n) (n - 1 - l).toNat
  rw [i.2]; omega
theorem jI_y {W : Int → Prop} {n l f m : Int} (i : jI W n l f m) (h : l ≤ n - 1) (w : W l) : jI W n (l + (-1)) l (m + 1) := by
  have e : (n - 1 - (l + (-1))).toNat = (n - 1 - l).toNat + 1 := by omega
  have e2 : n - 1 - ((n - 1 - l).toNat : Int) = l := by omega
  unfold jI
  rw [e]
  show l = (cif (W (n - 1 - ((n - 1 - l).toNat : Int))) (n - 1 - ((n - 1 - l).toNat : Int), (jS W n (n - 1 - l).toNat).2 + 1) (jS W n (n - 1 - l).toNat)).1 ∧ m + 1 = (cif (W (n - 1 - ((n - 1 - l).toNat : Int))) (n - 1 - ((n - 1 - l).toNat : Int), (jS W n (n - 1 - l).toNat).2 + 1) (jS W n (n - 1 - l).toNat)).2
  rw [e2, cif_pos w, i.2]; exact ⟨rfl, rfl⟩
theorem jI_n {W : Int → Prop} {n l f m : Int} (i : jI W n l f m) (h : l ≤ n - 1) (w : ¬ W l) : jI W n (l + (-1)) f m := by
  have e : (n - 1 - (l + (-1))).toNat = (n - 1 - l).toNat + 1 := by omega
  have e2 : n - 1 - ((n - 1 - l).toNat : Int) = l := by omega
  unfold jI
  rw [e]
  show f = (cif (W (n - 1 - ((n - 1 - l).toNat : Int))) (n - 1 - ((n - 1 - l).toNat : Int), (jS W n (n - 1 - l).toNat).2 + 1) (jS W n (n - 1 - l).toNat)).1 ∧ m = (cif (W (n - 1 - ((n - 1 - l).toNat : Int))) (n - 1 - ((n - 1 - l).toNat : Int), (jS W n (n - 1 - l).toNat).2 + 1) (jS W n (n - 1 - l).toNat)).2
  rw [e2, cif_neg w]; exact i
theorem jI_e {W : Int → Prop} {n l f m : Int} (i : jI W n l f m) (h : l = -1) : f = (jS W n n.toNat).1 ∧ m = (jS W n n.toNat).2 := by
  unfold jI at i; rw [show (n - 1 - l).toNat = n.toNat by omega] at i; exact i
/-- shorters and cuts by the world -/
def shC (h : m_H) (L : Nat) (p : Int) : Prop := m_and (m_shr (h L 9) p) 1 = 1 → h (L + 7) (12 + p / 4).toNat < h (L + 7) (12 + p % 4).toNat
def cuC (h : m_H) (L : Nat) (t : Int) : Prop := h (L + 2) t.toNat = -1 ∨ h (L + 7) (t + 6).toNat ≤ h (L + 7) t.toNat
def al (P : Int → Prop) (n : Int) : Prop := ∀ k, 0 ≤ k → k < n → P k
theorem al_s {P : Int → Prop} {n : Int} (i : al P n) (p : P n) : al P (n + 1) := fun k h0 h1 => by
  by_cases g : k = n
  · rw [g]; exact p
  · exact i k h0 (by omega)
theorem al_0 {P : Int → Prop} : al P 0 := fun k h0 h1 => by omega
abbrev P_X4_hasShortersByWorld2 (h0 : m_H) (L : Nat) : Int → m_H → Prop := fun x h' => GI h' ∧ FR [] [] h0 h' ∧ 0 ≤ x ∧ x ≤ 1 ∧ (x = 1 ↔ al (shC h0 L) 16)
def q_X4_hasShortersByWorld2 (h0 : m_H) (L : Nat) (n : Nat) : Prop := (∀ (l1 : Int) (h : m_H), GI h → FR [] [] h0 h → 0 ≤ l1 → l1 ≤ 16 → (al (shC h0 L) l1) → 2 * (16 - l1) + (1) ≤ (n : Int) → m_Z oF M_X4_hasShortersByWorld 2 [some (mR L), some (mI l1), none, none] [] h (m_QI (P_X4_hasShortersByWorld2 h0 L)))
set_option maxHeartbeats 4000000 in
set_option maxRecDepth 100000 in
theorem s_X4_hasShortersByWorld2_2 (h0 : m_H) (L : Nat) (hL : isL L) (G0 : GI h0) (n : Nat) (ih : q_X4_hasShortersByWorld2 h0 L n) : ∀ (l1 : Int) (h : m_H), GI h → FR [] [] h0 h → 0 ≤ l1 → l1 ≤ 16 → (al (shC h0 L) l1) → 2 * (16 - l1) + (1) ≤ ((n + 1 : Nat) : Int) → m_Z oF M_X4_hasShortersByWorld 2 [some (mR L), some (mI l1), none, none] [] h (m_QI (P_X4_hasShortersByWorld2 h0 L)) := by
  intro l1 h G R v0 v1 i0 hr
  have e_ := frE R
  refine z_iload_n (M := M_X4_hasShortersByWorld) 2 dX4_hasShortersByWorld_2 rfl ?_
  refine z_bipush (M := M_X4_hasShortersByWorld) 3 dX4_hasShortersByWorld_3 ?_
  refine z_icmp_ge (M := M_X4_hasShortersByWorld) 5 dX4_hasShortersByWorld_5 56 rfl (fun c1 => ?_) (fun c1 => ?_)
  · refine z_iconst (M := M_X4_hasShortersByWorld) 56 dX4_hasShortersByWorld_56 ?_
    exact z_retZ (M := M_X4_hasShortersByWorld) 57 dX4_hasShortersByWorld_57 rfl (by omega) ⟨G, R, by omega, by omega, ⟨fun _ => by rw [show (16 : Int) = l1 by omega]; exact i0, fun _ => rfl⟩⟩
  · refine z_aload_n (M := M_X4_hasShortersByWorld) 8 dX4_hasShortersByWorld_8 rfl ?_
    refine z_getR (M := M_X4_hasShortersByWorld) 9 dX4_hasShortersByWorld_9 f_X4_30 (oL hL) rfl (rL_6 hL G) ?_
    refine z_bipush (M := M_X4_hasShortersByWorld) 12 dX4_hasShortersByWorld_12 ?_
    refine z_iload_n (M := M_X4_hasShortersByWorld) 14 dX4_hasShortersByWorld_14 rfl ?_
    refine z_iconst (M := M_X4_hasShortersByWorld) 15 dX4_hasShortersByWorld_15 ?_
    refine z_idivN (M := M_X4_hasShortersByWorld) 16 dX4_hasShortersByWorld_16 (by omega) (by omega) ?_
    refine z_topBI (lo := 0) (hi := 3) ⟨by omega, by omega⟩ (fun x2 ex2 ax2 bx2 => ?_)
    refine z_iaddN (M := M_X4_hasShortersByWorld) 17 dX4_hasShortersByWorld_17 (by omega) (by omega) ?_
    refine z_ialdG (M := M_X4_hasShortersByWorld) 18 dX4_hasShortersByWorld_18 (oL_7 hL) (by omega) (by omega) (gL_7 hL G (by omega)) (fun x3 ex3 ax3 bx3 => ?_)
    refine z_istore_n (M := M_X4_hasShortersByWorld) 19 dX4_hasShortersByWorld_19 (ls' := [some (mR L), some (mI l1), some (mI x3), none]) (by decide) rfl ?_
    refine z_aload_n (M := M_X4_hasShortersByWorld) 20 dX4_hasShortersByWorld_20 rfl ?_
    refine z_getR (M := M_X4_hasShortersByWorld) 21 dX4_hasShortersByWorld_21 f_X4_30 (oL hL) rfl (rL_6 hL G) ?_
    refine z_bipush (M := M_X4_hasShortersByWorld) 24 dX4_hasShortersByWorld_24 ?_
    refine z_iload_n (M := M_X4_hasShortersByWorld) 26 dX4_hasShortersByWorld_26 rfl ?_
    refine z_iconst (M := M_X4_hasShortersByWorld) 27 dX4_hasShortersByWorld_27 ?_
    refine z_iremN (M := M_X4_hasShortersByWorld) 28 dX4_hasShortersByWorld_28 (by omega) (by omega) ?_
    refine z_topBI (lo := 0) (hi := 3) ⟨by omega, by omega⟩ (fun x4 ex4 ax4 bx4 => ?_)
    refine z_iaddN (M := M_X4_hasShortersByWorld) 29 dX4_hasShortersByWorld_29 (by omega) (by omega) ?_
    refine z_ialdG (M := M_X4_hasShortersByWorld) 30 dX4_hasShortersByWorld_30 (oL_7 hL) (by omega) (by omega) (gL_7 hL G (by omega)) (fun x5 ex5 ax5 bx5 => ?_)
    refine z_istore_n (M := M_X4_hasShortersByWorld) 31 dX4_hasShortersByWorld_31 (ls' := [some (mR L), some (mI l1), some (mI x3), some (mI x5)]) (by decide) rfl ?_
    refine z_aload_n (M := M_X4_hasShortersByWorld) 32 dX4_hasShortersByWorld_32 rfl ?_
    refine z_getIV (M := M_X4_hasShortersByWorld) 33 dX4_hasShortersByWorld_33 f_X4_52 (oL hL) (by decide) (fun x6 ex6 => ?_)
    refine z_ok (fun ox6 _ _ => ?_)
    have ox6 := ox6.1; unfold m_ok m_32 at ox6
    refine z_iload_n (M := M_X4_hasShortersByWorld) 36 dX4_hasShortersByWorld_36 rfl ?_
    refine z_nI (M := M_X4_hasShortersByWorld) 37 dX4_hasShortersByWorld_37 t_X11_hasBit l_X4_59 (m_rr_of rfl) (rest := []) (c_X11_hasBit h x6 l1 G) rfl rfl (Nat.le_of_ble_eq_true rfl) ⟨rfl, rfl⟩ (fun x7 h1 qx7 => ?_)
    obtain ⟨rfl, ⟨rfl, cx7⟩ | ⟨rfl, cx7⟩⟩ := qx7
    · refine z_if_eq_F (M := M_X4_hasShortersByWorld) 40 dX4_hasShortersByWorld_40 50 rfl (by omega) ?_
      refine z_iload_n (M := M_X4_hasShortersByWorld) 43 dX4_hasShortersByWorld_43 rfl ?_
      refine z_iload_n (M := M_X4_hasShortersByWorld) 44 dX4_hasShortersByWorld_44 rfl ?_
      refine z_icmp_lt (M := M_X4_hasShortersByWorld) 45 dX4_hasShortersByWorld_45 50 rfl (fun c8 => ?_) (fun c8 => ?_)
      · refine z_iincN (M := M_X4_hasShortersByWorld) 50 dX4_hasShortersByWorld_50 (ls' := [some (mR L), some (mI (l1 + 1)), some (mI x3), some (mI x5)]) (by decide) rfl (by (unfold m_32; decide)) (by omega) (by omega) rfl ?_
        refine z_goto (M := M_X4_hasShortersByWorld) 53 dX4_hasShortersByWorld_53 2 rfl ?_
        exact z_mask [true, true, false, false] rfl (ih (l1 + 1) h G R (by omega) (by omega) (al_s i0 (fun z => by rw [← e_, ex2, ex4, ex3, ex5]; omega)) (by omega))
      · refine z_iconst (M := M_X4_hasShortersByWorld) 48 dX4_hasShortersByWorld_48 ?_
        exact z_retZ (M := M_X4_hasShortersByWorld) 49 dX4_hasShortersByWorld_49 rfl (by omega) ⟨G, R, by omega, by omega, ⟨fun z => absurd z (by decide), fun z => by have y := z l1 (by omega) (by omega) (by rw [← e_, ex6]; exact cx7); rw [← e_, ex2, ex4, ex3, ex5] at y; omega⟩⟩
    · refine z_if_eq_T (M := M_X4_hasShortersByWorld) 40 dX4_hasShortersByWorld_40 50 rfl (by omega) ?_
      refine z_iincN (M := M_X4_hasShortersByWorld) 50 dX4_hasShortersByWorld_50 (ls' := [some (mR L), some (mI (l1 + 1)), some (mI x3), some (mI x5)]) (by decide) rfl (by (unfold m_32; decide)) (by omega) (by omega) rfl ?_
      refine z_goto (M := M_X4_hasShortersByWorld) 53 dX4_hasShortersByWorld_53 2 rfl ?_
      exact z_mask [true, true, false, false] rfl (ih (l1 + 1) h G R (by omega) (by omega) (al_s i0 (fun z => absurd (by rw [← e_, ex6] at z; exact z) cx7)) (by omega))
theorem a_X4_hasShortersByWorld2 (h0 : m_H) (L : Nat) (hL : isL L) (G0 : GI h0) : ∀ n, q_X4_hasShortersByWorld2 h0 L n := by
  intro n
  induction n with
  | zero => unfold q_X4_hasShortersByWorld2; intros; omega
  | succ n ih => exact s_X4_hasShortersByWorld2_2 h0 L hL G0 n ih
set_option maxHeartbeats 4000000 in
set_option maxRecDepth 100000 in
theorem c_X4_hasShortersByWorld2 (h0 : m_H) (L : Nat) (hL : isL L) (G0 : GI h0) : m_CI M_X4_hasShortersByWorld [mR L] h0 (P_X4_hasShortersByWorld2 h0 L) := by
  refine m_CI_of ⟨by decide, rfl, by simp [m_arg, m_isL, M_X4_hasShortersByWorld], ⟨rfl, rfl⟩, rfl, rfl⟩ (ls := [some (mR L), none, none, none]) rfl ?_
  have ih := a_X4_hasShortersByWorld2 h0 L hL G0 40
  refine z_iconst (M := M_X4_hasShortersByWorld) 0 dX4_hasShortersByWorld_0 ?_
  refine z_istore_n (M := M_X4_hasShortersByWorld) 1 dX4_hasShortersByWorld_1 (ls' := [some (mR L), some (mI 0), none, none]) (by decide) rfl ?_
  exact z_mask [true, true, false, false] rfl (ih 0 h0 G0 (FR.rf (cs := []) (ss := []) (h := h0)) (by omega) (by omega) al_0 (by omega))
abbrev P_X4_hasCutsByWorld2 (h0 : m_H) (L : Nat) : Int → m_H → Prop := fun x h' => GI h' ∧ FR [] [] h0 h' ∧ 0 ≤ x ∧ x ≤ 1 ∧ (x = 1 ↔ al (cuC h0 L) 6)
def q_X4_hasCutsByWorld2 (h0 : m_H) (L : Nat) (n : Nat) : Prop := (∀ (l1 : Int) (h : m_H), GI h → FR [] [] h0 h → 0 ≤ l1 → l1 ≤ 6 → (al (cuC h0 L) l1) → 2 * (6 - l1) + (1) ≤ (n : Int) → m_Z oF M_X4_hasCutsByWorld 2 [some (mR L), some (mI l1)] [] h (m_QI (P_X4_hasCutsByWorld2 h0 L)))
set_option maxHeartbeats 4000000 in
set_option maxRecDepth 100000 in
theorem s_X4_hasCutsByWorld2_2 (h0 : m_H) (L : Nat) (hL : isL L) (G0 : GI h0) (n : Nat) (ih : q_X4_hasCutsByWorld2 h0 L n) : ∀ (l1 : Int) (h : m_H), GI h → FR [] [] h0 h → 0 ≤ l1 → l1 ≤ 6 → (al (cuC h0 L) l1) → 2 * (6 - l1) + (1) ≤ ((n + 1 : Nat) : Int) → m_Z oF M_X4_hasCutsByWorld 2 [some (mR L), some (mI l1)] [] h (m_QI (P_X4_hasCutsByWorld2 h0 L)) := by
  intro l1 h G R v0 v1 i0 hr
  have e_ := frE R
  refine z_iload_n (M := M_X4_hasCutsByWorld) 2 dX4_hasCutsByWorld_2 rfl ?_
  refine z_bipush (M := M_X4_hasCutsByWorld) 3 dX4_hasCutsByWorld_3 ?_
  refine z_icmp_ge (M := M_X4_hasCutsByWorld) 5 dX4_hasCutsByWorld_5 44 rfl (fun c1 => ?_) (fun c1 => ?_)
  · refine z_iconst (M := M_X4_hasCutsByWorld) 44 dX4_hasCutsByWorld_44 ?_
    exact z_retZ (M := M_X4_hasCutsByWorld) 45 dX4_hasCutsByWorld_45 rfl (by omega) ⟨G, R, by omega, by omega, ⟨fun _ => by rw [show (6 : Int) = l1 by omega]; exact i0, fun _ => rfl⟩⟩
  · refine z_aload_n (M := M_X4_hasCutsByWorld) 8 dX4_hasCutsByWorld_8 rfl ?_
    refine z_getR (M := M_X4_hasCutsByWorld) 9 dX4_hasCutsByWorld_9 f_X4_15 (oL hL) rfl (rL_1 hL G) ?_
    refine z_iload_n (M := M_X4_hasCutsByWorld) 12 dX4_hasCutsByWorld_12 rfl ?_
    refine z_ialdG (M := M_X4_hasCutsByWorld) 13 dX4_hasCutsByWorld_13 (oL_2 hL) (by omega) (by omega) (gL_2 hL G (by omega)) (fun x2 ex2 ax2 bx2 => ?_)
    refine z_iconst (M := M_X4_hasCutsByWorld) 14 dX4_hasCutsByWorld_14 ?_
    refine z_icmp_eq (M := M_X4_hasCutsByWorld) 15 dX4_hasCutsByWorld_15 38 rfl (fun c3 => ?_) (fun c3 => ?_)
    · refine z_iincN (M := M_X4_hasCutsByWorld) 38 dX4_hasCutsByWorld_38 (ls' := [some (mR L), some (mI (l1 + 1))]) (by decide) rfl (by (unfold m_32; decide)) (by omega) (by omega) rfl ?_
      refine z_goto (M := M_X4_hasCutsByWorld) 41 dX4_hasCutsByWorld_41 2 rfl ?_
      exact z_mask [true, true] rfl (ih (l1 + 1) h G R (by omega) (by omega) (al_s i0 (Or.inl (by rw [← e_, ex2]; omega))) (by omega))
    · refine z_aload_n (M := M_X4_hasCutsByWorld) 18 dX4_hasCutsByWorld_18 rfl ?_
      refine z_getR (M := M_X4_hasCutsByWorld) 19 dX4_hasCutsByWorld_19 f_X4_30 (oL hL) rfl (rL_6 hL G) ?_
      refine z_iload_n (M := M_X4_hasCutsByWorld) 22 dX4_hasCutsByWorld_22 rfl ?_
      refine z_bipush (M := M_X4_hasCutsByWorld) 23 dX4_hasCutsByWorld_23 ?_
      refine z_iaddN (M := M_X4_hasCutsByWorld) 25 dX4_hasCutsByWorld_25 (by omega) (by omega) ?_
      refine z_ialdG (M := M_X4_hasCutsByWorld) 26 dX4_hasCutsByWorld_26 (oL_7 hL) (by omega) (by omega) (gL_7 hL G (by omega)) (fun x4 ex4 ax4 bx4 => ?_)
      refine z_aload_n (M := M_X4_hasCutsByWorld) 27 dX4_hasCutsByWorld_27 rfl ?_
      refine z_getR (M := M_X4_hasCutsByWorld) 28 dX4_hasCutsByWorld_28 f_X4_30 (oL hL) rfl (rL_6 hL G) ?_
      refine z_iload_n (M := M_X4_hasCutsByWorld) 31 dX4_hasCutsByWorld_31 rfl ?_
      refine z_ialdG (M := M_X4_hasCutsByWorld) 32 dX4_hasCutsByWorld_32 (oL_7 hL) (by omega) (by omega) (gL_7 hL G (by omega)) (fun x5 ex5 ax5 bx5 => ?_)
      refine z_icmp_le (M := M_X4_hasCutsByWorld) 33 dX4_hasCutsByWorld_33 38 rfl (fun c6 => ?_) (fun c6 => ?_)
      · refine z_iincN (M := M_X4_hasCutsByWorld) 38 dX4_hasCutsByWorld_38 (ls' := [some (mR L), some (mI (l1 + 1))]) (by decide) rfl (by (unfold m_32; decide)) (by omega) (by omega) rfl ?_
        refine z_goto (M := M_X4_hasCutsByWorld) 41 dX4_hasCutsByWorld_41 2 rfl ?_
        exact z_mask [true, true] rfl (ih (l1 + 1) h G R (by omega) (by omega) (al_s i0 (Or.inr (by rw [← e_, ex4, ex5]; omega))) (by omega))
      · refine z_iconst (M := M_X4_hasCutsByWorld) 36 dX4_hasCutsByWorld_36 ?_
        exact z_retZ (M := M_X4_hasCutsByWorld) 37 dX4_hasCutsByWorld_37 rfl (by omega) ⟨G, R, by omega, by omega, ⟨fun z => absurd z (by decide), fun z => by have y := z l1 (by omega) (by omega); unfold cuC at y; rw [← e_, ex2, ex4, ex5] at y; omega⟩⟩
theorem a_X4_hasCutsByWorld2 (h0 : m_H) (L : Nat) (hL : isL L) (G0 : GI h0) : ∀ n, q_X4_hasCutsByWorld2 h0 L n := by
  intro n
  induction n with
  | zero => unfold q_X4_hasCutsByWorld2; intros; omega
  | succ n ih => exact s_X4_hasCutsByWorld2_2 h0 L hL G0 n ih
set_option maxHeartbeats 4000000 in
set_option maxRecDepth 100000 in
theorem c_X4_hasCutsByWorld2 (h0 : m_H) (L : Nat) (hL : isL L) (G0 : GI h0) : m_CI M_X4_hasCutsByWorld [mR L] h0 (P_X4_hasCutsByWorld2 h0 L) := by
  refine m_CI_of ⟨by decide, rfl, by simp [m_arg, m_isL, M_X4_hasCutsByWorld], ⟨rfl, rfl⟩, rfl, rfl⟩ (ls := [some (mR L), none]) rfl ?_
  have ih := a_X4_hasCutsByWorld2 h0 L hL G0 20
  refine z_iconst (M := M_X4_hasCutsByWorld) 0 dX4_hasCutsByWorld_0 ?_
  refine z_istore_n (M := M_X4_hasCutsByWorld) 1 dX4_hasCutsByWorld_1 (ls' := [some (mR L), some (mI 0)]) (by decide) rfl ?_
  exact z_mask [true, true] rfl (ih 0 h0 G0 (FR.rf (cs := []) (ss := []) (h := h0)) (by omega) (by omega) al_0 (by omega))
def wrC (h : m_H) (e : Int) : Prop := m_and (m_shr (h 1 8) e) 1 = 1 ∧ ¬ soC h 1 e
def jdQ (W : Int → Prop) (n : Int) (A B : Prop) (a x : Int) : Prop := ((a < 0 ∨ 2 < a) ∧ x = -1) ∨ (a = 0 ∧ x = (jS W n n.toNat).1) ∨ (a = 1 ∧ x = (jS W n n.toNat).2) ∨ (a = 2 ∧ (x = 0 ∨ x = 1) ∧ (x = 1 ↔ ((jS W n n.toNat).2 = 0 ∧ A ∧ B)))
abbrev P_X11_judge3 (h0 : m_H) (a1 : Int) : Int → m_H → Prop := fun x h' => GI h' ∧ FR [] [] h0 h' ∧ jdQ (wrC h0) (h0 1 7) (al (shC h0 1) 16) (al (cuC h0 1) 6) a1 x
def q_X11_judge3 (h0 : m_H) (a1 : Int) (n : Nat) : Prop := (∀ (l2 l3 l4 : Int) (h : m_H), GI h → FR [] [] h0 h → (-1) ≤ l2 → l2 ≤ 23 → (-1) ≤ l4 → l4 ≤ 23 → 0 ≤ a1 → a1 ≤ 2 → (jI (wrC h0) (h0 1 7) l4 l2 l3) → (l4 ≤ h0 1 7 - 1) → 2 * (l4 - (-1)) + (1) ≤ (n : Int) → m_Z oF M_X11_judge 26 [some (mR 0), some (mI a1), some (mI l2), some (mI l3), some (mI l4)] [] h (m_QI (P_X11_judge3 h0 a1)))
set_option maxHeartbeats 4000000 in
set_option maxRecDepth 100000 in
theorem s_X11_judge3_26 (h0 : m_H) (a1 : Int) (G0 : GI h0) (n : Nat) (ih : q_X11_judge3 h0 a1 n) : ∀ (l2 l3 l4 : Int) (h : m_H), GI h → FR [] [] h0 h → (-1) ≤ l2 → l2 ≤ 23 → (-1) ≤ l4 → l4 ≤ 23 → 0 ≤ a1 → a1 ≤ 2 → (jI (wrC h0) (h0 1 7) l4 l2 l3) → (l4 ≤ h0 1 7 - 1) → 2 * (l4 - (-1)) + (1) ≤ ((n + 1 : Nat) : Int) → m_Z oF M_X11_judge 26 [some (mR 0), some (mI a1), some (mI l2), some (mI l3), some (mI l4)] [] h (m_QI (P_X11_judge3 h0 a1)) := by
  intro l2 l3 l4 h G R v0 v1 v2 v3 v4 v5 i0 i1 hr
  have e_ := frE R
  have b0_ := jI_b i0 i1
  have g17_ := g_1_7 G0
  refine z_ok (fun ostk _ olocs => ?_)
  have ol3 : m_32 l3 := olocs 3 _ rfl
  unfold m_32 at ol3
  refine z_iload (M := M_X11_judge) 26 dX11_judge_26 rfl ?_
  refine z_if_lt (M := M_X11_judge) 28 dX11_judge_28 67 rfl (fun c1 => ?_) (fun c1 => ?_)
  · refine z_iload_n (M := M_X11_judge) 67 dX11_judge_67 rfl ?_
    refine z_iconst (M := M_X11_judge) 68 dX11_judge_68 ?_
    refine z_icmp_ne (M := M_X11_judge) 69 dX11_judge_69 102 rfl (fun c2 => ?_) (fun c2 => ?_)
    · refine z_iload_n (M := M_X11_judge) 102 dX11_judge_102 rfl ?_
      refine z_if_ne (M := M_X11_judge) 103 dX11_judge_103 110 rfl (fun c3 => ?_) (fun c3 => ?_)
      · refine z_iload_n (M := M_X11_judge) 110 dX11_judge_110 rfl ?_
        exact z_retI (M := M_X11_judge) 111 dX11_judge_111 rfl ⟨G, R, by obtain ⟨e1, e2⟩ := jI_e i0 (by omega); exact Or.inr (Or.inr (Or.inl ⟨by omega, e2⟩))⟩
      · refine z_iload_n (M := M_X11_judge) 106 dX11_judge_106 rfl ?_
        refine z_goto (M := M_X11_judge) 107 dX11_judge_107 111 rfl ?_
        exact z_retI (M := M_X11_judge) 111 dX11_judge_111 rfl ⟨G, R, by obtain ⟨e1, e2⟩ := jI_e i0 (by omega); exact Or.inr (Or.inl ⟨by omega, e1⟩)⟩
    · refine z_iload_n (M := M_X11_judge) 72 dX11_judge_72 rfl ?_
      refine z_if_ne (M := M_X11_judge) 73 dX11_judge_73 100 rfl (fun c4 => ?_) (fun c4 => ?_)
      · refine z_iconst (M := M_X11_judge) 100 dX11_judge_100 ?_
        exact z_retI (M := M_X11_judge) 101 dX11_judge_101 rfl ⟨G, R, by obtain ⟨e1, e2⟩ := jI_e i0 (by omega); exact Or.inr (Or.inr (Or.inr ⟨by omega, Or.inl rfl, fun z => absurd z (by decide), fun z => by have y := z.1; omega⟩))⟩
      · refine z_aload_n (M := M_X11_judge) 76 dX11_judge_76 rfl ?_
        refine z_getR (M := M_X11_judge) 77 dX11_judge_77 f_X11_12 o_0 rfl (g_0_0 G) ?_
        refine z_vI (M := M_X11_judge) 80 dX11_judge_80 t_X4_hasShortersByWorld l_X11_386 (m_rr_of rfl) (rest := []) (c_X4_hasShortersByWorld2 h 1 (Or.inl rfl) G) o_1 rfl rfl rfl (Nat.le_of_ble_eq_true rfl) ⟨rfl, rfl⟩ (fun x5 h1 qx5 => ?_)
        obtain ⟨G1, S1, ax5, bx5, fx5⟩ := qx5
        have R1 := R.call S1 (by decide +kernel)
        refine z_if_eq (M := M_X11_judge) 83 dX11_judge_83 100 rfl (fun c6 => ?_) (fun c6 => ?_)
        · refine z_iconst (M := M_X11_judge) 100 dX11_judge_100 ?_
          exact z_retI (M := M_X11_judge) 101 dX11_judge_101 rfl ⟨G1, R1, by obtain ⟨e1, e2⟩ := jI_e i0 (by omega); exact Or.inr (Or.inr (Or.inr ⟨by omega, Or.inl rfl, fun z => absurd z (by decide), fun z => by have y := fx5.mpr (by rw [e_]; exact z.2.1); omega⟩))⟩
        · refine z_aload_n (M := M_X11_judge) 86 dX11_judge_86 rfl ?_
          refine z_getR (M := M_X11_judge) 87 dX11_judge_87 f_X11_12 o_0 rfl (g_0_0 G1) ?_
          refine z_vI (M := M_X11_judge) 90 dX11_judge_90 t_X4_hasCutsByWorld l_X11_389 (m_rr_of rfl) (rest := []) (c_X4_hasCutsByWorld2 h1 1 (Or.inl rfl) G1) o_1 rfl rfl rfl (Nat.le_of_ble_eq_true rfl) ⟨rfl, rfl⟩ (fun x7 h2 qx7 => ?_)
          obtain ⟨G2, S2, ax7, bx7, fx7⟩ := qx7
          have R2 := R1.call S2 (by decide +kernel)
          refine z_if_eq (M := M_X11_judge) 93 dX11_judge_93 100 rfl (fun c8 => ?_) (fun c8 => ?_)
          · refine z_iconst (M := M_X11_judge) 100 dX11_judge_100 ?_
            exact z_retI (M := M_X11_judge) 101 dX11_judge_101 rfl ⟨G2, R2, by obtain ⟨e1, e2⟩ := jI_e i0 (by omega); exact Or.inr (Or.inr (Or.inr ⟨by omega, Or.inl rfl, fun z => absurd z (by decide), fun z => by have y := fx7.mpr (by rw [frE R1]; exact z.2.2); omega⟩))⟩
          · refine z_iconst (M := M_X11_judge) 96 dX11_judge_96 ?_
            refine z_goto (M := M_X11_judge) 97 dX11_judge_97 101 rfl ?_
            exact z_retI (M := M_X11_judge) 101 dX11_judge_101 rfl ⟨G2, R2, by obtain ⟨e1, e2⟩ := jI_e i0 (by omega); exact Or.inr (Or.inr (Or.inr ⟨by omega, Or.inr rfl, fun _ => ⟨by omega, by rw [← e_]; exact fx5.mp (by omega), by rw [← frE R1]; exact fx7.mp (by omega)⟩, fun _ => rfl⟩))⟩
  · refine z_aload_n (M := M_X11_judge) 31 dX11_judge_31 rfl ?_
    refine z_getR (M := M_X11_judge) 32 dX11_judge_32 f_X11_12 o_0 rfl (g_0_0 G) ?_
    refine z_iload (M := M_X11_judge) 35 dX11_judge_35 rfl ?_
    refine z_vI (M := M_X11_judge) 37 dX11_judge_37 t_X4_isCounting l_X11_165 (m_rr_of rfl) (rest := []) (c_X4_isCounting2 h 1 l4 (Or.inl rfl) G) o_1 rfl rfl rfl (Nat.le_of_ble_eq_true rfl) ⟨rfl, rfl⟩ (fun x9 h3 qx9 => ?_)
    obtain ⟨G3, S3, ax9, bx9, fx9⟩ := qx9
    have R3 := R.call S3 (by decide +kernel)
    refine z_if_eq (M := M_X11_judge) 40 dX11_judge_40 61 rfl (fun c10 => ?_) (fun c10 => ?_)
    · refine z_iincN (M := M_X11_judge) 61 dX11_judge_61 (ls' := [some (mR 0), some (mI a1), some (mI l2), some (mI l3), some (mI (l4 + (-1)))]) (by decide) rfl (by (unfold m_32; decide)) (by omega) (by omega) rfl ?_
      refine z_goto (M := M_X11_judge) 64 dX11_judge_64 26 rfl ?_
      exact z_mask [true, true, true, true, true] rfl (ih l2 l3 (l4 + (-1)) h3 G3 R3 (by omega) (by omega) (by omega) (by omega) (by omega) (by omega) (jI_n i0 i1 (fun z => by have y := z.1; rw [← e_] at y; have := fx9.mpr y; omega)) (by omega) (by omega))
    · refine z_aload_n (M := M_X11_judge) 43 dX11_judge_43 rfl ?_
      refine z_getR (M := M_X11_judge) 44 dX11_judge_44 f_X11_12 o_0 rfl (g_0_0 G3) ?_
      refine z_iload (M := M_X11_judge) 47 dX11_judge_47 rfl ?_
      refine z_vI (M := M_X11_judge) 49 dX11_judge_49 t_X4_isSoByWorld l_X11_383 (m_rr_of rfl) (rest := []) (c_X4_isSoByWorld2 h3 1 l4 (Or.inl rfl) G3 ⟨by omega, by omega⟩) o_1 rfl rfl rfl (Nat.le_of_ble_eq_true rfl) ⟨rfl, rfl⟩ (fun x11 h4 qx11 => ?_)
      obtain ⟨G4, S4, ax11, bx11, fx11⟩ := qx11
      have R4 := R3.call S4 (by decide +kernel)
      refine z_if_ne (M := M_X11_judge) 52 dX11_judge_52 61 rfl (fun c12 => ?_) (fun c12 => ?_)
      · refine z_iincN (M := M_X11_judge) 61 dX11_judge_61 (ls' := [some (mR 0), some (mI a1), some (mI l2), some (mI l3), some (mI (l4 + (-1)))]) (by decide) rfl (by (unfold m_32; decide)) (by omega) (by omega) rfl ?_
        refine z_goto (M := M_X11_judge) 64 dX11_judge_64 26 rfl ?_
        exact z_mask [true, true, true, true, true] rfl (ih l2 l3 (l4 + (-1)) h4 G4 R4 (by omega) (by omega) (by omega) (by omega) (by omega) (by omega) (jI_n i0 i1 (fun z => z.2 (by rw [← e_, ← frE S3]; exact fx11.mp (by omega)))) (by omega) (by omega))
      · refine z_iload (M := M_X11_judge) 55 dX11_judge_55 rfl ?_
        refine z_istore_n (M := M_X11_judge) 57 dX11_judge_57 (ls' := [some (mR 0), some (mI a1), some (mI l4), some (mI l3), some (mI l4)]) (by decide) rfl ?_
        refine z_iincN (M := M_X11_judge) 58 dX11_judge_58 (ls' := [some (mR 0), some (mI a1), some (mI l4), some (mI (l3 + 1)), some (mI l4)]) (by decide) rfl (by (unfold m_32; decide)) (by omega) (by omega) rfl ?_
        refine z_iincN (M := M_X11_judge) 61 dX11_judge_61 (ls' := [some (mR 0), some (mI a1), some (mI l4), some (mI (l3 + 1)), some (mI (l4 + (-1)))]) (by decide) rfl (by (unfold m_32; decide)) (by omega) (by omega) rfl ?_
        refine z_goto (M := M_X11_judge) 64 dX11_judge_64 26 rfl ?_
        exact z_mask [true, true, true, true, true] rfl (ih l4 (l3 + 1) (l4 + (-1)) h4 G4 R4 (by omega) (by omega) (by omega) (by omega) (by omega) (by omega) (jI_y i0 i1 ⟨by rw [← e_]; exact fx9.mp (by omega), fun z => by rw [← e_, ← frE S3] at z; have := fx11.mpr z; omega⟩) (by omega) (by omega))
theorem a_X11_judge3 (h0 : m_H) (a1 : Int) (G0 : GI h0) : ∀ n, q_X11_judge3 h0 a1 n := by
  intro n
  induction n with
  | zero => unfold q_X11_judge3; intros; omega
  | succ n ih => exact s_X11_judge3_26 h0 a1 G0 n ih
set_option maxHeartbeats 4000000 in
set_option maxRecDepth 100000 in
theorem c_X11_judge3 (h0 : m_H) (a1 : Int) (G0 : GI h0) : m_CI M_X11_judge [mR 0, mI a1] h0 (P_X11_judge3 h0 a1) := by
  refine m_CI_of ⟨by decide, rfl, by simp [m_arg, m_isL, M_X11_judge], ⟨rfl, rfl⟩, rfl, rfl⟩ (ls := [some (mR 0), some (mI a1), none, none, none]) rfl ?_
  have ih := a_X11_judge3 h0 a1 G0 56
  refine z_ok (fun _ _ ok => ?_)
  have oa1 : m_32 a1 := ok 1 _ rfl
  unfold m_32 at oa1
  refine z_iload_n (M := M_X11_judge) 0 dX11_judge_0 rfl ?_
  refine z_iconst (M := M_X11_judge) 1 dX11_judge_1 ?_
  refine z_iconst (M := M_X11_judge) 2 dX11_judge_2 ?_
  refine z_sI (M := M_X11_judge) 3 dX11_judge_3 t_X11_within l_X11_112 (m_rr_of rfl) (rest := []) (c_X11_within h0 a1 0 2 G0) rfl rfl (Nat.le_of_ble_eq_true rfl) ⟨rfl, rfl⟩ (fun x1 h1 qx1 => ?_)
  obtain ⟨rfl, ⟨rfl, cx1⟩ | ⟨rfl, cx1⟩⟩ := qx1
  · refine z_if_ne_T (M := M_X11_judge) 6 dX11_judge_6 11 rfl (by omega) ?_
    refine z_iconst (M := M_X11_judge) 11 dX11_judge_11 ?_
    refine z_istore_n (M := M_X11_judge) 12 dX11_judge_12 (ls' := [some (mR 0), some (mI a1), some (mI (-1)), none, none]) (by decide) rfl ?_
    refine z_iconst (M := M_X11_judge) 13 dX11_judge_13 ?_
    refine z_istore_n (M := M_X11_judge) 14 dX11_judge_14 (ls' := [some (mR 0), some (mI a1), some (mI (-1)), some (mI 0), none]) (by decide) rfl ?_
    refine z_aload_n (M := M_X11_judge) 15 dX11_judge_15 rfl ?_
    refine z_getR (M := M_X11_judge) 16 dX11_judge_16 f_X11_12 o_0 rfl (g_0_0 G0) ?_
    refine z_getIG (M := M_X11_judge) 19 dX11_judge_19 f_X11_162 o_1 (by decide) (g_1_7 G0) (fun x2 ex2 ax2 bx2 => ?_)
    refine z_iconst (M := M_X11_judge) 22 dX11_judge_22 ?_
    refine z_isubN (M := M_X11_judge) 23 dX11_judge_23 (by omega) (by omega) ?_
    refine z_istore (M := M_X11_judge) 24 dX11_judge_24 (ls' := [some (mR 0), some (mI a1), some (mI (-1)), some (mI 0), some (mI (x2 - 1))]) (by decide) rfl ?_
    exact z_mask [true, true, true, true, true] rfl (ih (-1) 0 (x2 - 1) h0 G0 (FR.rf (cs := []) (ss := []) (h := h0)) (by omega) (by omega) (by omega) (by omega) (by omega) (by omega) (jI_0 (by omega)) (by omega) (by omega))
  · refine z_if_ne_F (M := M_X11_judge) 6 dX11_judge_6 11 rfl (by omega) ?_
    refine z_iconst (M := M_X11_judge) 9 dX11_judge_9 ?_
    exact z_retI (M := M_X11_judge) 10 dX11_judge_10 rfl ⟨G0, (FR.rf (cs := []) (ss := []) (h := h0)), Or.inl ⟨by omega, rfl⟩⟩
/-! judge, exact in the reference -/
def shM (r : Nat → Int) (k : Int) : Prop := r (72 + r (48 + 2 * k).toNat).toNat < r (72 + r (48 + 2 * k + 1).toNat).toNat
def cuM (r : Nat → Int) (t : Int) : Prop := r (42 + t).toNat = -1 ∨ r (66 + t).toNat ≤ r (60 + t).toNat
def wrM (r : Nat → Int) (e : Int) : Prop := r (5 * e.toNat + 84) = 1 ∧ (r (10 + r (5 * e.toNat + 81)).toNat ≠ -1 ∧ ¬ soM r e)
abbrev P_X12_judge3 (h0 : m_H) (a1 : Int) : Int → m_H → Prop := fun x h' => GI h' ∧ FR [] [(108, 0)] h0 h' ∧ jdQ (wrM (h0 110)) (h0 110 0) (al (shM (h0 110)) (h0 110 1)) (al (cuM (h0 110)) 6) a1 x
def q_X12_judge3 (h0 : m_H) (a1 : Int) (n : Nat) : Prop := (∀ (l2 l3 l4 : Int) (h : m_H), GI h → FR [] [(108, 0)] h0 h → (-1) ≤ l3 → l3 ≤ 23 → (-1) ≤ l4 → l4 ≤ 23 → 0 ≤ a1 → a1 ≤ 2 → (jI (wrM (h0 110)) (h0 110 0) l4 l3 l2) → (l4 ≤ h0 110 0 - 1) → 2 * (l4 - (-1)) + (31) ≤ (n : Int) → m_Z oF M_X12_judge 33 [some (mR 108), some (mI a1), some (mI l2), some (mI l3), some (mI l4), none] [] h (m_QI (P_X12_judge3 h0 a1))) ∧ (∀ (l4 l5 : Int) (h : m_H), GI h → FR [] [(108, 0)] h0 h → 0 ≤ l4 → l4 ≤ 1 → 0 ≤ l5 → l5 ≤ 6 → 2 ≤ a1 → a1 ≤ 2 → (l4 = 1 ↔ ((jS (wrM (h0 110)) (h0 110 0) (h0 110 0).toNat).2 = 0 ∧ al (shM (h0 110)) l5)) → (l5 ≤ h0 110 1) → 2 * (6 - l5) + (16) ≤ (n : Int) → m_Z oF M_X12_judge 118 [some (mR 108), none, none, none, some (mI l4), some (mI l5)] [] h (m_QI (P_X12_judge3 h0 a1))) ∧ (∀ (l4 l5 : Int) (h : m_H), GI h → FR [] [(108, 0)] h0 h → 0 ≤ l4 → l4 ≤ 1 → 0 ≤ l5 → l5 ≤ 6 → 2 ≤ a1 → a1 ≤ 2 → (l4 = 1 ↔ ((jS (wrM (h0 110)) (h0 110 0) (h0 110 0).toNat).2 = 0 ∧ al (shM (h0 110)) (h0 110 1) ∧ al (cuM (h0 110)) l5)) → 2 * (6 - l5) + (1) ≤ (n : Int) → m_Z oF M_X12_judge 195 [some (mR 108), none, none, none, some (mI l4), some (mI l5)] [] h (m_QI (P_X12_judge3 h0 a1)))
set_option maxHeartbeats 4000000 in
set_option maxRecDepth 100000 in
theorem s_X12_judge3_33 (h0 : m_H) (a1 : Int) (G0 : GI h0) (n : Nat) (ih : q_X12_judge3 h0 a1 n) : ∀ (l2 l3 l4 : Int) (h : m_H), GI h → FR [] [(108, 0)] h0 h → (-1) ≤ l3 → l3 ≤ 23 → (-1) ≤ l4 → l4 ≤ 23 → 0 ≤ a1 → a1 ≤ 2 → (jI (wrM (h0 110)) (h0 110 0) l4 l3 l2) → (l4 ≤ h0 110 0 - 1) → 2 * (l4 - (-1)) + (31) ≤ ((n + 1 : Nat) : Int) → m_Z oF M_X12_judge 33 [some (mR 108), some (mI a1), some (mI l2), some (mI l3), some (mI l4), none] [] h (m_QI (P_X12_judge3 h0 a1)) := by
  intro l2 l3 l4 h G R v0 v1 v2 v3 v4 v5 i0 i1 hr
  have e_ : h 110 = h0 110 := rowz R (fun _ => rfl)
  have g0_ := gw_0 G0
  have g1_ := gw_1 G0
  have q0_ : h0 110 (0 : Int).toNat = h0 110 0 := rfl
  have q1_ : h0 110 (1 : Int).toNat = h0 110 1 := rfl
  have b0_ := jI_b i0 i1
  refine z_ok (fun ostk _ olocs => ?_)
  have ol2 : m_32 l2 := olocs 2 _ rfl
  unfold m_32 at ol2
  refine z_iload (M := M_X12_judge) 33 dX12_judge_33 rfl ?_
  refine z_if_lt (M := M_X12_judge) 35 dX12_judge_35 89 rfl (fun c1 => ?_) (fun c1 => ?_)
  · refine z_iload_n (M := M_X12_judge) 89 dX12_judge_89 rfl ?_
    refine z_iconst (M := M_X12_judge) 90 dX12_judge_90 ?_
    refine z_icmp_ge (M := M_X12_judge) 91 dX12_judge_91 104 rfl (fun c2 => ?_) (fun c2 => ?_)
    · refine z_iload_n (M := M_X12_judge) 104 dX12_judge_104 rfl ?_
      refine z_if_ne (M := M_X12_judge) 105 dX12_judge_105 112 rfl (fun c3 => ?_) (fun c3 => ?_)
      · refine z_iconst (M := M_X12_judge) 112 dX12_judge_112 ?_
        refine z_istore (M := M_X12_judge) 113 dX12_judge_113 (ls' := [some (mR 108), some (mI a1), some (mI l2), some (mI l3), some (mI 0), none]) (by decide) rfl ?_
        refine z_iconst (M := M_X12_judge) 115 dX12_judge_115 ?_
        refine z_istore (M := M_X12_judge) 116 dX12_judge_116 (ls' := [some (mR 108), some (mI a1), some (mI l2), some (mI l3), some (mI 0), some (mI 0)]) (by decide) rfl ?_
        exact z_mask [true, false, false, false, true, true] rfl (ih.2.1 0 0 h G R (by omega) (by omega) (by omega) (by omega) (by omega) (by omega) ⟨fun z => absurd z (by decide), fun z => by have y := z.1; have := (jI_e i0 (by omega)).2; omega⟩ (by omega) (by omega))
      · refine z_iconst (M := M_X12_judge) 108 dX12_judge_108 ?_
        refine z_goto (M := M_X12_judge) 109 dX12_judge_109 113 rfl ?_
        refine z_istore (M := M_X12_judge) 113 dX12_judge_113 (ls' := [some (mR 108), some (mI a1), some (mI l2), some (mI l3), some (mI 1), none]) (by decide) rfl ?_
        refine z_iconst (M := M_X12_judge) 115 dX12_judge_115 ?_
        refine z_istore (M := M_X12_judge) 116 dX12_judge_116 (ls' := [some (mR 108), some (mI a1), some (mI l2), some (mI l3), some (mI 1), some (mI 0)]) (by decide) rfl ?_
        exact z_mask [true, false, false, false, true, true] rfl (ih.2.1 1 0 h G R (by omega) (by omega) (by omega) (by omega) (by omega) (by omega) ⟨fun _ => ⟨by have := (jI_e i0 (by omega)).2; omega, al_0⟩, fun _ => rfl⟩ (by omega) (by omega))
    · refine z_iload_n (M := M_X12_judge) 94 dX12_judge_94 rfl ?_
      refine z_if_ne (M := M_X12_judge) 95 dX12_judge_95 102 rfl (fun c4 => ?_) (fun c4 => ?_)
      · refine z_iload_n (M := M_X12_judge) 102 dX12_judge_102 rfl ?_
        exact z_retI (M := M_X12_judge) 103 dX12_judge_103 rfl ⟨G, R, Or.inr (Or.inr (Or.inl ⟨by omega, (jI_e i0 (by omega)).2⟩))⟩
      · refine z_iload_n (M := M_X12_judge) 98 dX12_judge_98 rfl ?_
        refine z_goto (M := M_X12_judge) 99 dX12_judge_99 103 rfl ?_
        exact z_retI (M := M_X12_judge) 103 dX12_judge_103 rfl ⟨G, R, Or.inr (Or.inl ⟨by omega, (jI_e i0 (by omega)).1⟩)⟩
  · refine z_aload_n (M := M_X12_judge) 38 dX12_judge_38 rfl ?_
    refine z_iload (M := M_X12_judge) 39 dX12_judge_39 rfl ?_
    refine z_iconst (M := M_X12_judge) 41 dX12_judge_41 ?_
    refine z_vI (M := M_X12_judge) 42 dX12_judge_42 t_X12_ofEntry l_X12_195 (m_rr_of rfl) (rest := []) (c_X12_ofEntry h l4 4 G ⟨by omega, by omega⟩ ⟨by omega, by omega⟩) o_108 rfl rfl rfl (Nat.le_of_ble_eq_true rfl) ⟨rfl, rfl⟩ (fun x5 h1 qx5 => ?_)
    obtain ⟨rfl, fx5⟩ := qx5
    have gx5 := gw_e4 G (i := (80 + 5 * l4 + 4)) (e := l4) (by omega) (by omega) (by omega)
    rw [fx5] at gx5
    have k5_ : h0 110 (5 * l4.toNat + 84) = x5 := by rw [← e_, ← fx5, show (80 + 5 * l4 + 4).toNat = 5 * l4.toNat + 84 by omega]
    refine z_iconst (M := M_X12_judge) 45 dX12_judge_45 ?_
    refine z_icmp_ne (M := M_X12_judge) 46 dX12_judge_46 83 rfl (fun c6 => ?_) (fun c6 => ?_)
    · refine z_iincN (M := M_X12_judge) 83 dX12_judge_83 (ls' := [some (mR 108), some (mI a1), some (mI l2), some (mI l3), some (mI (l4 + (-1))), none]) (by decide) rfl (by (unfold m_32; decide)) (by omega) (by omega) rfl ?_
      refine z_goto (M := M_X12_judge) 86 dX12_judge_86 33 rfl ?_
      exact z_mask [true, true, true, true, true, false] rfl (ih.1 l2 l3 (l4 + (-1)) h G R (by omega) (by omega) (by omega) (by omega) (by omega) (by omega) (jI_n i0 i1 (fun z => by have y := z.1; omega)) (by omega) (by omega))
    · refine z_aload_n (M := M_X12_judge) 49 dX12_judge_49 rfl ?_
      refine z_getR (M := M_X12_judge) 50 dX12_judge_50 f_X12_13 o_108 rfl (g_108_3 G) ?_
      refine z_bipush (M := M_X12_judge) 53 dX12_judge_53 ?_
      refine z_aload_n (M := M_X12_judge) 55 dX12_judge_55 rfl ?_
      refine z_iload (M := M_X12_judge) 56 dX12_judge_56 rfl ?_
      refine z_iconst (M := M_X12_judge) 58 dX12_judge_58 ?_
      refine z_vI (M := M_X12_judge) 59 dX12_judge_59 t_X12_ofEntry l_X12_195 (m_rr_of rfl) (rest := [mI 10, mR 110]) (c_X12_ofEntry h l4 1 G ⟨by omega, by omega⟩ ⟨by omega, by omega⟩) o_108 rfl rfl rfl (Nat.le_of_ble_eq_true rfl) ⟨rfl, rfl⟩ (fun x7 h2 qx7 => ?_)
      obtain ⟨rfl, fx7⟩ := qx7
      have gx7 := gw_e1 G (i := (80 + 5 * l4 + 1)) (e := l4) (by omega) (by omega) (by omega)
      rw [fx7] at gx7
      have k7_ : h0 110 (5 * l4.toNat + 81) = x7 := by rw [← e_, ← fx7, show (80 + 5 * l4 + 1).toNat = 5 * l4.toNat + 81 by omega]
      refine z_iaddN (M := M_X12_judge) 62 dX12_judge_62 (by omega) (by omega) ?_
      refine z_ialdG (M := M_X12_judge) 63 dX12_judge_63 o_110 (by omega) (by omega) (gw_w G (by omega) (by omega)) (fun x8 ex8 ax8 bx8 => ?_)
      refine z_iconst (M := M_X12_judge) 64 dX12_judge_64 ?_
      refine z_icmp_eq (M := M_X12_judge) 65 dX12_judge_65 83 rfl (fun c9 => ?_) (fun c9 => ?_)
      · refine z_iincN (M := M_X12_judge) 83 dX12_judge_83 (ls' := [some (mR 108), some (mI a1), some (mI l2), some (mI l3), some (mI (l4 + (-1))), none]) (by decide) rfl (by (unfold m_32; decide)) (by omega) (by omega) rfl ?_
        refine z_goto (M := M_X12_judge) 86 dX12_judge_86 33 rfl ?_
        exact z_mask [true, true, true, true, true, false] rfl (ih.1 l2 l3 (l4 + (-1)) h G R (by omega) (by omega) (by omega) (by omega) (by omega) (by omega) (jI_n i0 i1 (fun z => z.2.1 (by rw [k7_, ← e_, ex8]; omega))) (by omega) (by omega))
      · refine z_aload_n (M := M_X12_judge) 68 dX12_judge_68 rfl ?_
        refine z_iload (M := M_X12_judge) 69 dX12_judge_69 rfl ?_
        refine z_vI (M := M_X12_judge) 71 dX12_judge_71 t_X12_isSo l_X12_501 (m_rr_of rfl) (rest := []) (c_X12_isSo2 h l4 G ⟨by omega, by omega⟩) o_108 rfl rfl rfl (Nat.le_of_ble_eq_true rfl) ⟨rfl, rfl⟩ (fun x10 h3 qx10 => ?_)
        obtain ⟨G3, S3, ax10, bx10, fx10⟩ := qx10
        have R3 := R.call S3 (by decide +kernel)
        refine z_if_ne (M := M_X12_judge) 74 dX12_judge_74 83 rfl (fun c11 => ?_) (fun c11 => ?_)
        · refine z_iincN (M := M_X12_judge) 83 dX12_judge_83 (ls' := [some (mR 108), some (mI a1), some (mI l2), some (mI l3), some (mI (l4 + (-1))), none]) (by decide) rfl (by (unfold m_32; decide)) (by omega) (by omega) rfl ?_
          refine z_goto (M := M_X12_judge) 86 dX12_judge_86 33 rfl ?_
          exact z_mask [true, true, true, true, true, false] rfl (ih.1 l2 l3 (l4 + (-1)) h3 G3 R3 (by omega) (by omega) (by omega) (by omega) (by omega) (by omega) (jI_n i0 i1 (fun z => z.2.2 (by rw [← e_]; exact fx10.mp (by omega)))) (by omega) (by omega))
        · refine z_iincN (M := M_X12_judge) 77 dX12_judge_77 (ls' := [some (mR 108), some (mI a1), some (mI (l2 + 1)), some (mI l3), some (mI l4), none]) (by decide) rfl (by (unfold m_32; decide)) (by omega) (by omega) rfl ?_
          refine z_iload (M := M_X12_judge) 80 dX12_judge_80 rfl ?_
          refine z_istore_n (M := M_X12_judge) 82 dX12_judge_82 (ls' := [some (mR 108), some (mI a1), some (mI (l2 + 1)), some (mI l4), some (mI l4), none]) (by decide) rfl ?_
          refine z_iincN (M := M_X12_judge) 83 dX12_judge_83 (ls' := [some (mR 108), some (mI a1), some (mI (l2 + 1)), some (mI l4), some (mI (l4 + (-1))), none]) (by decide) rfl (by (unfold m_32; decide)) (by omega) (by omega) rfl ?_
          refine z_goto (M := M_X12_judge) 86 dX12_judge_86 33 rfl ?_
          exact z_mask [true, true, true, true, true, false] rfl (ih.1 (l2 + 1) l4 (l4 + (-1)) h3 G3 R3 (by omega) (by omega) (by omega) (by omega) (by omega) (by omega) (jI_y i0 i1 ⟨by omega, by rw [k7_, ← e_, ex8]; omega, fun z => by rw [← e_] at z; have := fx10.mpr z; omega⟩) (by omega) (by omega))
set_option maxHeartbeats 4000000 in
set_option maxRecDepth 100000 in
theorem s_X12_judge3_118 (h0 : m_H) (a1 : Int) (G0 : GI h0) (n : Nat) (ih : q_X12_judge3 h0 a1 n) : ∀ (l4 l5 : Int) (h : m_H), GI h → FR [] [(108, 0)] h0 h → 0 ≤ l4 → l4 ≤ 1 → 0 ≤ l5 → l5 ≤ 6 → 2 ≤ a1 → a1 ≤ 2 → (l4 = 1 ↔ ((jS (wrM (h0 110)) (h0 110 0) (h0 110 0).toNat).2 = 0 ∧ al (shM (h0 110)) l5)) → (l5 ≤ h0 110 1) → 2 * (6 - l5) + (16) ≤ ((n + 1 : Nat) : Int) → m_Z oF M_X12_judge 118 [some (mR 108), none, none, none, some (mI l4), some (mI l5)] [] h (m_QI (P_X12_judge3 h0 a1)) := by
  intro l4 l5 h G R v0 v1 v2 v3 v4 v5 i0 i1 hr
  have e_ : h 110 = h0 110 := rowz R (fun _ => rfl)
  have g0_ := gw_0 G0
  have g1_ := gw_1 G0
  have q0_ : h0 110 (0 : Int).toNat = h0 110 0 := rfl
  have q1_ : h0 110 (1 : Int).toNat = h0 110 1 := rfl
  refine z_iload (M := M_X12_judge) 118 dX12_judge_118 rfl ?_
  refine z_aload_n (M := M_X12_judge) 120 dX12_judge_120 rfl ?_
  refine z_getR (M := M_X12_judge) 121 dX12_judge_121 f_X12_13 o_108 rfl (g_108_3 G) ?_
  refine z_iconst (M := M_X12_judge) 124 dX12_judge_124 ?_
  refine z_ialdG (M := M_X12_judge) 125 dX12_judge_125 o_110 (by omega) (by omega) (gw_1 G) (fun x1 ex1 ax1 bx1 => ?_)
  have k1_ : h0 110 1 = x1 := (congrFun e_ 1).symm.trans ex1
  refine z_icmp_ge (M := M_X12_judge) 126 dX12_judge_126 192 rfl (fun c2 => ?_) (fun c2 => ?_)
  · refine z_iconst (M := M_X12_judge) 192 dX12_judge_192 ?_
    refine z_istore (M := M_X12_judge) 193 dX12_judge_193 (ls' := [some (mR 108), none, none, none, some (mI l4), some (mI 0)]) (by decide) rfl ?_
    exact z_mask [true, false, false, false, true, true] rfl (ih.2.2 l4 0 h G R (by omega) (by omega) (by omega) (by omega) (by omega) (by omega) ⟨fun z => ⟨(i0.mp z).1, by have y := (i0.mp z).2; rw [show l5 = h0 110 1 by omega] at y; exact y, al_0⟩, fun z => i0.mpr ⟨z.1, by rw [show l5 = h0 110 1 by omega]; exact z.2.1⟩⟩ (by omega))
  · refine z_iload (M := M_X12_judge) 129 dX12_judge_129 rfl ?_
    refine z_if_eq (M := M_X12_judge) 131 dX12_judge_131 183 rfl (fun c3 => ?_) (fun c3 => ?_)
    · refine z_iconst (M := M_X12_judge) 183 dX12_judge_183 ?_
      refine z_istore (M := M_X12_judge) 184 dX12_judge_184 (ls' := [some (mR 108), none, none, none, some (mI 0), some (mI l5)]) (by decide) rfl ?_
      refine z_iincN (M := M_X12_judge) 186 dX12_judge_186 (ls' := [some (mR 108), none, none, none, some (mI 0), some (mI (l5 + 1))]) (by decide) rfl (by (unfold m_32; decide)) (by omega) (by omega) rfl ?_
      refine z_goto (M := M_X12_judge) 189 dX12_judge_189 118 rfl ?_
      exact z_mask [true, false, false, false, true, true] rfl (ih.2.1 0 (l5 + 1) h G R (by omega) (by omega) (by omega) (by omega) (by omega) (by omega) ⟨fun z => absurd z (by decide), fun z => by have y := i0.mpr ⟨z.1, fun k u v => z.2 k u (by omega)⟩; omega⟩ (by omega) (by omega))
    · refine z_aload_n (M := M_X12_judge) 134 dX12_judge_134 rfl ?_
      refine z_getR (M := M_X12_judge) 135 dX12_judge_135 f_X12_13 o_108 rfl (g_108_3 G) ?_
      refine z_bipush (M := M_X12_judge) 138 dX12_judge_138 ?_
      refine z_aload_n (M := M_X12_judge) 140 dX12_judge_140 rfl ?_
      refine z_getR (M := M_X12_judge) 141 dX12_judge_141 f_X12_13 o_108 rfl (g_108_3 G) ?_
      refine z_bipush (M := M_X12_judge) 144 dX12_judge_144 ?_
      refine z_iconst (M := M_X12_judge) 146 dX12_judge_146 ?_
      refine z_iload (M := M_X12_judge) 147 dX12_judge_147 rfl ?_
      refine z_imulN (M := M_X12_judge) 149 dX12_judge_149 (by omega) (by omega) ?_
      refine z_iaddN (M := M_X12_judge) 150 dX12_judge_150 (by omega) (by omega) ?_
      refine z_ialdG (M := M_X12_judge) 151 dX12_judge_151 o_110 (by omega) (by omega) (gw_s G (by omega) (by omega)) (fun x4 ex4 ax4 bx4 => ?_)
      refine z_iaddN (M := M_X12_judge) 152 dX12_judge_152 (by omega) (by omega) ?_
      refine z_ialdG (M := M_X12_judge) 153 dX12_judge_153 o_110 (by omega) (by omega) (gw_l G (by omega) (by omega)) (fun x5 ex5 ax5 bx5 => ?_)
      refine z_aload_n (M := M_X12_judge) 154 dX12_judge_154 rfl ?_
      refine z_getR (M := M_X12_judge) 155 dX12_judge_155 f_X12_13 o_108 rfl (g_108_3 G) ?_
      refine z_bipush (M := M_X12_judge) 158 dX12_judge_158 ?_
      refine z_aload_n (M := M_X12_judge) 160 dX12_judge_160 rfl ?_
      refine z_getR (M := M_X12_judge) 161 dX12_judge_161 f_X12_13 o_108 rfl (g_108_3 G) ?_
      refine z_bipush (M := M_X12_judge) 164 dX12_judge_164 ?_
      refine z_iconst (M := M_X12_judge) 166 dX12_judge_166 ?_
      refine z_iload (M := M_X12_judge) 167 dX12_judge_167 rfl ?_
      refine z_imulN (M := M_X12_judge) 169 dX12_judge_169 (by omega) (by omega) ?_
      refine z_iaddN (M := M_X12_judge) 170 dX12_judge_170 (by omega) (by omega) ?_
      refine z_iconst (M := M_X12_judge) 171 dX12_judge_171 ?_
      refine z_iaddN (M := M_X12_judge) 172 dX12_judge_172 (by omega) (by omega) ?_
      refine z_ialdG (M := M_X12_judge) 173 dX12_judge_173 o_110 (by omega) (by omega) (gw_s G (by omega) (by omega)) (fun x6 ex6 ax6 bx6 => ?_)
      refine z_iaddN (M := M_X12_judge) 174 dX12_judge_174 (by omega) (by omega) ?_
      refine z_ialdG (M := M_X12_judge) 175 dX12_judge_175 o_110 (by omega) (by omega) (gw_l G (by omega) (by omega)) (fun x7 ex7 ax7 bx7 => ?_)
      refine z_icmp_ge (M := M_X12_judge) 176 dX12_judge_176 183 rfl (fun c8 => ?_) (fun c8 => ?_)
      · refine z_iconst (M := M_X12_judge) 183 dX12_judge_183 ?_
        refine z_istore (M := M_X12_judge) 184 dX12_judge_184 (ls' := [some (mR 108), none, none, none, some (mI 0), some (mI l5)]) (by decide) rfl ?_
        refine z_iincN (M := M_X12_judge) 186 dX12_judge_186 (ls' := [some (mR 108), none, none, none, some (mI 0), some (mI (l5 + 1))]) (by decide) rfl (by (unfold m_32; decide)) (by omega) (by omega) rfl ?_
        refine z_goto (M := M_X12_judge) 189 dX12_judge_189 118 rfl ?_
        exact z_mask [true, false, false, false, true, true] rfl (ih.2.1 0 (l5 + 1) h G R (by omega) (by omega) (by omega) (by omega) (by omega) (by omega) ⟨fun z => absurd z (by decide), fun z => by have y := z.2 l5 (by omega) (by omega); unfold shM at y; rw [← e_, ex4, ex5, ex6, ex7] at y; omega⟩ (by omega) (by omega))
      · refine z_iconst (M := M_X12_judge) 179 dX12_judge_179 ?_
        refine z_goto (M := M_X12_judge) 180 dX12_judge_180 184 rfl ?_
        refine z_istore (M := M_X12_judge) 184 dX12_judge_184 (ls' := [some (mR 108), none, none, none, some (mI 1), some (mI l5)]) (by decide) rfl ?_
        refine z_iincN (M := M_X12_judge) 186 dX12_judge_186 (ls' := [some (mR 108), none, none, none, some (mI 1), some (mI (l5 + 1))]) (by decide) rfl (by (unfold m_32; decide)) (by omega) (by omega) rfl ?_
        refine z_goto (M := M_X12_judge) 189 dX12_judge_189 118 rfl ?_
        exact z_mask [true, false, false, false, true, true] rfl (ih.2.1 1 (l5 + 1) h G R (by omega) (by omega) (by omega) (by omega) (by omega) (by omega) ⟨fun _ => ⟨(i0.mp (by omega)).1, al_s (i0.mp (by omega)).2 (by unfold shM; rw [← e_, ex4, ex5, ex6, ex7]; omega)⟩, fun _ => rfl⟩ (by omega) (by omega))
set_option maxHeartbeats 4000000 in
set_option maxRecDepth 100000 in
theorem s_X12_judge3_195 (h0 : m_H) (a1 : Int) (G0 : GI h0) (n : Nat) (ih : q_X12_judge3 h0 a1 n) : ∀ (l4 l5 : Int) (h : m_H), GI h → FR [] [(108, 0)] h0 h → 0 ≤ l4 → l4 ≤ 1 → 0 ≤ l5 → l5 ≤ 6 → 2 ≤ a1 → a1 ≤ 2 → (l4 = 1 ↔ ((jS (wrM (h0 110)) (h0 110 0) (h0 110 0).toNat).2 = 0 ∧ al (shM (h0 110)) (h0 110 1) ∧ al (cuM (h0 110)) l5)) → 2 * (6 - l5) + (1) ≤ ((n + 1 : Nat) : Int) → m_Z oF M_X12_judge 195 [some (mR 108), none, none, none, some (mI l4), some (mI l5)] [] h (m_QI (P_X12_judge3 h0 a1)) := by
  intro l4 l5 h G R v0 v1 v2 v3 v4 v5 i0 hr
  have e_ : h 110 = h0 110 := rowz R (fun _ => rfl)
  have g0_ := gw_0 G0
  have g1_ := gw_1 G0
  have q0_ : h0 110 (0 : Int).toNat = h0 110 0 := rfl
  have q1_ : h0 110 (1 : Int).toNat = h0 110 1 := rfl
  refine z_iload (M := M_X12_judge) 195 dX12_judge_195 rfl ?_
  refine z_bipush (M := M_X12_judge) 197 dX12_judge_197 ?_
  refine z_icmp_ge (M := M_X12_judge) 199 dX12_judge_199 257 rfl (fun c1 => ?_) (fun c1 => ?_)
  · refine z_iload (M := M_X12_judge) 257 dX12_judge_257 rfl ?_
    refine z_if_eq (M := M_X12_judge) 259 dX12_judge_259 266 rfl (fun c2 => ?_) (fun c2 => ?_)
    · refine z_iconst (M := M_X12_judge) 266 dX12_judge_266 ?_
      exact z_retI (M := M_X12_judge) 267 dX12_judge_267 rfl ⟨G, R, Or.inr (Or.inr (Or.inr ⟨by omega, Or.inl rfl, fun z => absurd z (by decide), fun z => by have y := i0.mpr ⟨z.1, z.2.1, fun k u v => z.2.2 k u (by omega)⟩; omega⟩))⟩
    · refine z_iconst (M := M_X12_judge) 262 dX12_judge_262 ?_
      refine z_goto (M := M_X12_judge) 263 dX12_judge_263 267 rfl ?_
      exact z_retI (M := M_X12_judge) 267 dX12_judge_267 rfl ⟨G, R, Or.inr (Or.inr (Or.inr ⟨by omega, Or.inr rfl, fun _ => ⟨(i0.mp (by omega)).1, (i0.mp (by omega)).2.1, fun k u v => (i0.mp (by omega)).2.2 k u (by omega)⟩, fun _ => rfl⟩))⟩
  · refine z_iload (M := M_X12_judge) 202 dX12_judge_202 rfl ?_
    refine z_if_eq (M := M_X12_judge) 204 dX12_judge_204 248 rfl (fun c3 => ?_) (fun c3 => ?_)
    · refine z_iconst (M := M_X12_judge) 248 dX12_judge_248 ?_
      refine z_istore (M := M_X12_judge) 249 dX12_judge_249 (ls' := [some (mR 108), none, none, none, some (mI 0), some (mI l5)]) (by decide) rfl ?_
      refine z_iincN (M := M_X12_judge) 251 dX12_judge_251 (ls' := [some (mR 108), none, none, none, some (mI 0), some (mI (l5 + 1))]) (by decide) rfl (by (unfold m_32; decide)) (by omega) (by omega) rfl ?_
      refine z_goto (M := M_X12_judge) 254 dX12_judge_254 195 rfl ?_
      exact z_mask [true, false, false, false, true, true] rfl (ih.2.2 0 (l5 + 1) h G R (by omega) (by omega) (by omega) (by omega) (by omega) (by omega) ⟨fun z => absurd z (by decide), fun z => by have y := i0.mpr ⟨z.1, z.2.1, fun k u v => z.2.2 k u (by omega)⟩; omega⟩ (by omega))
    · refine z_aload_n (M := M_X12_judge) 207 dX12_judge_207 rfl ?_
      refine z_getR (M := M_X12_judge) 208 dX12_judge_208 f_X12_13 o_108 rfl (g_108_3 G) ?_
      refine z_bipush (M := M_X12_judge) 211 dX12_judge_211 ?_
      refine z_iload (M := M_X12_judge) 213 dX12_judge_213 rfl ?_
      refine z_iaddN (M := M_X12_judge) 215 dX12_judge_215 (by omega) (by omega) ?_
      refine z_ialdG (M := M_X12_judge) 216 dX12_judge_216 o_110 (by omega) (by omega) (gw_c G (by omega) (by omega)) (fun x4 ex4 ax4 bx4 => ?_)
      refine z_iconst (M := M_X12_judge) 217 dX12_judge_217 ?_
      refine z_icmp_eq (M := M_X12_judge) 218 dX12_judge_218 244 rfl (fun c5 => ?_) (fun c5 => ?_)
      · refine z_iconst (M := M_X12_judge) 244 dX12_judge_244 ?_
        refine z_goto (M := M_X12_judge) 245 dX12_judge_245 249 rfl ?_
        refine z_istore (M := M_X12_judge) 249 dX12_judge_249 (ls' := [some (mR 108), none, none, none, some (mI 1), some (mI l5)]) (by decide) rfl ?_
        refine z_iincN (M := M_X12_judge) 251 dX12_judge_251 (ls' := [some (mR 108), none, none, none, some (mI 1), some (mI (l5 + 1))]) (by decide) rfl (by (unfold m_32; decide)) (by omega) (by omega) rfl ?_
        refine z_goto (M := M_X12_judge) 254 dX12_judge_254 195 rfl ?_
        exact z_mask [true, false, false, false, true, true] rfl (ih.2.2 1 (l5 + 1) h G R (by omega) (by omega) (by omega) (by omega) (by omega) (by omega) ⟨fun _ => ⟨(i0.mp (by omega)).1, (i0.mp (by omega)).2.1, al_s (i0.mp (by omega)).2.2 (Or.inl (by rw [← e_, ex4]; omega))⟩, fun _ => rfl⟩ (by omega))
      · refine z_aload_n (M := M_X12_judge) 221 dX12_judge_221 rfl ?_
        refine z_getR (M := M_X12_judge) 222 dX12_judge_222 f_X12_13 o_108 rfl (g_108_3 G) ?_
        refine z_bipush (M := M_X12_judge) 225 dX12_judge_225 ?_
        refine z_iload (M := M_X12_judge) 227 dX12_judge_227 rfl ?_
        refine z_iaddN (M := M_X12_judge) 229 dX12_judge_229 (by omega) (by omega) ?_
        refine z_ialdG (M := M_X12_judge) 230 dX12_judge_230 o_110 (by omega) (by omega) (gw_l G (by omega) (by omega)) (fun x6 ex6 ax6 bx6 => ?_)
        refine z_aload_n (M := M_X12_judge) 231 dX12_judge_231 rfl ?_
        refine z_getR (M := M_X12_judge) 232 dX12_judge_232 f_X12_13 o_108 rfl (g_108_3 G) ?_
        refine z_bipush (M := M_X12_judge) 235 dX12_judge_235 ?_
        refine z_iload (M := M_X12_judge) 237 dX12_judge_237 rfl ?_
        refine z_iaddN (M := M_X12_judge) 239 dX12_judge_239 (by omega) (by omega) ?_
        refine z_ialdG (M := M_X12_judge) 240 dX12_judge_240 o_110 (by omega) (by omega) (gw_l G (by omega) (by omega)) (fun x7 ex7 ax7 bx7 => ?_)
        refine z_icmp_gt (M := M_X12_judge) 241 dX12_judge_241 248 rfl (fun c8 => ?_) (fun c8 => ?_)
        · refine z_iconst (M := M_X12_judge) 248 dX12_judge_248 ?_
          refine z_istore (M := M_X12_judge) 249 dX12_judge_249 (ls' := [some (mR 108), none, none, none, some (mI 0), some (mI l5)]) (by decide) rfl ?_
          refine z_iincN (M := M_X12_judge) 251 dX12_judge_251 (ls' := [some (mR 108), none, none, none, some (mI 0), some (mI (l5 + 1))]) (by decide) rfl (by (unfold m_32; decide)) (by omega) (by omega) rfl ?_
          refine z_goto (M := M_X12_judge) 254 dX12_judge_254 195 rfl ?_
          exact z_mask [true, false, false, false, true, true] rfl (ih.2.2 0 (l5 + 1) h G R (by omega) (by omega) (by omega) (by omega) (by omega) (by omega) ⟨fun z => absurd z (by decide), fun z => by have y := z.2.2 l5 (by omega) (by omega); unfold cuM at y; rw [← e_, ex4, ex6, ex7] at y; omega⟩ (by omega))
        · refine z_iconst (M := M_X12_judge) 244 dX12_judge_244 ?_
          refine z_goto (M := M_X12_judge) 245 dX12_judge_245 249 rfl ?_
          refine z_istore (M := M_X12_judge) 249 dX12_judge_249 (ls' := [some (mR 108), none, none, none, some (mI 1), some (mI l5)]) (by decide) rfl ?_
          refine z_iincN (M := M_X12_judge) 251 dX12_judge_251 (ls' := [some (mR 108), none, none, none, some (mI 1), some (mI (l5 + 1))]) (by decide) rfl (by (unfold m_32; decide)) (by omega) (by omega) rfl ?_
          refine z_goto (M := M_X12_judge) 254 dX12_judge_254 195 rfl ?_
          exact z_mask [true, false, false, false, true, true] rfl (ih.2.2 1 (l5 + 1) h G R (by omega) (by omega) (by omega) (by omega) (by omega) (by omega) ⟨fun _ => ⟨(i0.mp (by omega)).1, (i0.mp (by omega)).2.1, al_s (i0.mp (by omega)).2.2 (Or.inr (by rw [← e_, ex6, ex7]; omega))⟩, fun _ => rfl⟩ (by omega))
theorem a_X12_judge3 (h0 : m_H) (a1 : Int) (G0 : GI h0) : ∀ n, q_X12_judge3 h0 a1 n := by
  intro n
  induction n with
  | zero => unfold q_X12_judge3; refine ⟨?_, ?_, ?_⟩ <;> (intros; omega)
  | succ n ih => exact ⟨s_X12_judge3_33 h0 a1 G0 n ih, s_X12_judge3_118 h0 a1 G0 n ih, s_X12_judge3_195 h0 a1 G0 n ih⟩
set_option maxHeartbeats 4000000 in
set_option maxRecDepth 100000 in
theorem c_X12_judge3 (h0 : m_H) (a1 : Int) (G0 : GI h0) : m_CI M_X12_judge [mR 108, mI a1] h0 (P_X12_judge3 h0 a1) := by
  refine m_CI_of ⟨by decide, rfl, by simp [m_arg, m_isL, M_X12_judge], ⟨rfl, rfl⟩, rfl, rfl⟩ (ls := [some (mR 108), some (mI a1), none, none, none, none]) rfl ?_
  have ih := a_X12_judge3 h0 a1 G0 86
  refine z_ok (fun _ _ ok => ?_)
  have oa1 : m_32 a1 := ok 1 _ rfl
  unfold m_32 at oa1
  refine z_aload_n (M := M_X12_judge) 0 dX12_judge_0 rfl ?_
  refine z_iconst (M := M_X12_judge) 1 dX12_judge_1 ?_
  refine z_putIH (M := M_X12_judge) 2 dX12_judge_2 p_X12_133 o_108 rfl (u_108_0 G0) ((FR.rf (cs := []) (ss := [(108, 0)]) (h := h0)).up rfl) (fun h1 E1 G1 R1 => ?_)
  refine z_iload_n (M := M_X12_judge) 5 dX12_judge_5 rfl ?_
  refine z_i2l (M := M_X12_judge) 6 dX12_judge_6 ?_
  refine z_lconst (M := M_X12_judge) 7 dX12_judge_7 (v := 0) ?_
  refine z_ldc2 (M := M_X12_judge) 8 dX12_judge_8 k_X12_182 ?_
  refine z_sI (M := M_X12_judge) 11 dX12_judge_11 t_X12_in l_X12_143 (m_rr_of rfl) (rest := []) (c_X12_in h1 a1 0 2 G1) rfl rfl (Nat.le_of_ble_eq_true rfl) ⟨rfl, rfl⟩ (fun x1 h2 qx1 => ?_)
  obtain ⟨rfl, ⟨rfl, cx1⟩ | ⟨rfl, cx1⟩⟩ := qx1
  · refine z_if_ne_T (M := M_X12_judge) 14 dX12_judge_14 19 rfl (by omega) ?_
    refine z_iconst (M := M_X12_judge) 19 dX12_judge_19 ?_
    refine z_istore_n (M := M_X12_judge) 20 dX12_judge_20 (ls' := [some (mR 108), some (mI a1), some (mI 0), none, none, none]) (by decide) rfl ?_
    refine z_iconst (M := M_X12_judge) 21 dX12_judge_21 ?_
    refine z_istore_n (M := M_X12_judge) 22 dX12_judge_22 (ls' := [some (mR 108), some (mI a1), some (mI 0), some (mI (-1)), none, none]) (by decide) rfl ?_
    refine z_aload_n (M := M_X12_judge) 23 dX12_judge_23 rfl ?_
    refine z_getR (M := M_X12_judge) 24 dX12_judge_24 f_X12_13 o_108 rfl (g_108_3 G1) ?_
    refine z_iconst (M := M_X12_judge) 27 dX12_judge_27 ?_
    refine z_ialdG (M := M_X12_judge) 28 dX12_judge_28 o_110 (by omega) (by omega) (gw_0 G1) (fun x2 ex2 ax2 bx2 => ?_)
    have k2_ : h0 110 0 = x2 := (congrFun (rowz R1 (fun _ => rfl)) 0).symm.trans ex2
    refine z_iconst (M := M_X12_judge) 29 dX12_judge_29 ?_
    refine z_isubN (M := M_X12_judge) 30 dX12_judge_30 (by omega) (by omega) ?_
    refine z_istore (M := M_X12_judge) 31 dX12_judge_31 (ls' := [some (mR 108), some (mI a1), some (mI 0), some (mI (-1)), some (mI (x2 - 1)), none]) (by decide) rfl ?_
    exact z_mask [true, true, true, true, true, false] rfl (ih.1 0 (-1) (x2 - 1) h1 G1 R1 (by omega) (by omega) (by omega) (by omega) (by omega) (by omega) (jI_0 (by omega)) (by omega) (by omega))
  · refine z_if_ne_F (M := M_X12_judge) 14 dX12_judge_14 19 rfl (by omega) ?_
    refine z_iconst (M := M_X12_judge) 17 dX12_judge_17 ?_
    exact z_retI (M := M_X12_judge) 18 dX12_judge_18 rfl ⟨G1, R1, Or.inl ⟨by omega, rfl⟩⟩
theorem wr_eq {h : m_H} {e : Int} (R : LR 1 h (h 110)) (G : GI h) (h0 : 0 ≤ e) (h1 : e < h 110 0) : wrC h e ↔ wrM (h 110) e := by
  have b := R.1
  unfold RB at b
  have cb := R.2.2.2.2.2.2.1 e.toNat (by omega)
  have he : e = ((e.toNat : Nat) : Int) := by omega
  have y : m_and (m_shr (h 1 8) e) 1 = 1 ↔ h 110 (5 * e.toNat + 84) = 1 := by
    rw [he, hasBit_iff (by omega), Int.toNat_natCast, cb]
    exact ⟨fun u => u.2, fun u => ⟨by omega, u⟩⟩
  unfold wrC wrM
  rw [y, so_eq R G h0 h1]
theorem sh_eq {h : m_H} (R : LR 1 h (h 110)) (G : GI h) : al (shC h 1) 16 ↔ al (shM (h 110)) (h 110 1) := by
  obtain ⟨b, k, c, wd, n, q, cb, sb⟩ := R
  obtain ⟨b1, b2, b3, b4⟩ := b
  obtain ⟨s1, s2, s3, s4⟩ := sb
  constructor
  · intro z i u v
    have ga := gw_s G (i := 48 + 2 * i) (by omega) (by omega)
    have gb := gw_s G (i := 48 + 2 * i + 1) (by omega) (by omega)
    have ia : (48 + 2 * i).toNat = 2 * i.toNat + 48 := by omega
    have ib : (48 + 2 * i + 1).toNat = 2 * i.toNat + 49 := by omega
    rw [ia] at ga
    rw [ib] at gb
    have hs : iS (h 110) (h 110 (2 * i.toNat + 48)) (h 110 (2 * i.toNat + 49)) := ⟨i.toNat, by omega, rfl, rfl⟩
    unfold shM
    rw [ia, ib]
    generalize h 110 (2 * i.toNat + 48) = a at ga hs ⊢
    generalize h 110 (2 * i.toNat + 49) = d at gb hs ⊢
    obtain ⟨p, hp⟩ : ∃ p : Nat, a * 4 + d = (p : Int) := ⟨(a * 4 + d).toNat, by omega⟩
    have d1 : ((p / 4 : Nat) : Int) = a := by omega
    have d2 : ((p % 4 : Nat) : Int) = d := by omega
    have t := s4 p (by omega)
    rw [d1, d2] at t
    have y := z (p : Int) (by omega) (by omega)
    unfold shC at y
    rw [hasBit_iff (by omega)] at y
    have y2 := y (t.mpr hs)
    have w1 := wd (12 + (p : Int) / 4).toNat (by omega)
    have w2 := wd (12 + (p : Int) % 4).toNat (by omega)
    rw [w1, w2] at y2
    rw [show (72 + a).toNat = 60 + (12 + (p : Int) / 4).toNat by omega, show (72 + d).toNat = 60 + (12 + (p : Int) % 4).toNat by omega]
    exact y2
  · intro z p u v w
    obtain ⟨p', hp⟩ : ∃ p' : Nat, p = (p' : Int) := ⟨p.toNat, by omega⟩
    subst hp
    rw [hasBit_iff (by omega)] at w
    obtain ⟨i, i1, i2, i3⟩ := (s4 p' (by omega)).mp w
    have y := z (i : Int) (by omega) i1
    unfold shM at y
    rw [show (48 + 2 * (i : Int)).toNat = 2 * i + 48 by omega, show (48 + 2 * (i : Int) + 1).toNat = 2 * i + 49 by omega, i2, i3] at y
    have w1 := wd (12 + (p' : Int) / 4).toNat (by omega)
    have w2 := wd (12 + (p' : Int) % 4).toNat (by omega)
    rw [w1, w2]
    rw [show (72 + ((p' / 4 : Nat) : Int)).toNat = 60 + (12 + (p' : Int) / 4).toNat by omega, show (72 + ((p' % 4 : Nat) : Int)).toNat = 60 + (12 + (p' : Int) % 4).toNat by omega] at y
    exact y
theorem cu_eq {h : m_H} (R : LR 1 h (h 110)) : al (cuC h 1) 6 ↔ al (cuM (h 110)) 6 := by
  obtain ⟨b, k, c, wd, n, q, cb, sb⟩ := R
  have e : ∀ t : Int, 0 ≤ t → t < 6 → (cuC h 1 t ↔ cuM (h 110) t) := fun t u v => by
    have c1 := c t.toNat (by omega)
    have w1 := wd (t + 6).toNat (by omega)
    have w2 := wd t.toNat (by omega)
    unfold cuC cuM
    rw [c1, w1, w2, show (42 + t).toNat = 42 + t.toNat by omega, show (66 + t).toNat = 60 + (t + 6).toNat by omega, show (60 + t).toNat = 60 + t.toNat by omega]
  exact ⟨fun z t u v => (e t u v).mp (z t u v), fun z t u v => (e t u v).mpr (z t u v)⟩
theorem LX.judge {h h1 : m_H} {a x y : Int} {cs : List Nat} {ss : List (Nat × Nat)} (R : LX h) (G : GI h) (S1 : FR cs ss h h1) (A : jdQ (wrC h) (h 1 7) (al (shC h 1) 16) (al (cuC h 1) 6) a x) (B : jdQ (wrM (h1 110)) (h1 110 0) (al (shM (h1 110)) (h1 110 1)) (al (cuM (h1 110)) 6) a y) (o : out 110 110 cs ss = true) : x = y := by
  have l := R.2.1
  have n : h 1 7 = h 110 0 := l.2.2.2.2.1
  have bb := l.1
  unfold RB at bb
  rw [rowz S1 (fr_out o (by decide) (by decide))] at B
  have e := jS_c (W := wrC h) (V := wrM (h 110)) (n := h 110 0) (fun k u v => wr_eq l G u v) (h 110 0).toNat (by omega)
  unfold jdQ at A B
  rw [n, e] at A
  rw [← sh_eq l G, ← cu_eq l] at B
  rcases A with ⟨a1, a2⟩ | ⟨a1, a2⟩ | ⟨a1, a2⟩ | ⟨a1, a2, a3⟩
  · rcases B with ⟨b1, b2⟩ | ⟨b1, b2⟩ | ⟨b1, b2⟩ | ⟨b1, b2, b3⟩
    · rw [a2, b2]
    · omega
    · omega
    · omega
  · rcases B with ⟨b1, b2⟩ | ⟨b1, b2⟩ | ⟨b1, b2⟩ | ⟨b1, b2, b3⟩
    · omega
    · rw [a2, b2]
    · omega
    · omega
  · rcases B with ⟨b1, b2⟩ | ⟨b1, b2⟩ | ⟨b1, b2⟩ | ⟨b1, b2, b3⟩
    · omega
    · omega
    · rw [a2, b2]
    · omega
  · rcases B with ⟨b1, b2⟩ | ⟨b1, b2⟩ | ⟨b1, b2⟩ | ⟨b1, b2, b3⟩
    · omega
    · omega
    · omega
    · have t := a3.trans b3.symm
      rcases a2 with rfl | rfl
      · rcases b2 with rfl | rfl
        · rfl
        · exact absurd (t.mpr rfl) (by decide)
      · rcases b2 with rfl | rfl
        · exact absurd (t.mp rfl) (by decide)
        · rfl
