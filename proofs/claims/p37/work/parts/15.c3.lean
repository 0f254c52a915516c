abbrev P_X11_joined (h0 : m_H) (a1 a2 : Int) : Int → m_H → Prop := fun x h' => GI h' ∧ FR [100] [] h0 h' ∧ (-2) ≤ x ∧ x ≤ 1
set_option maxHeartbeats 4000000 in
set_option maxRecDepth 100000 in
theorem c_X11_joined (h0 : m_H) (a1 a2 : Int) (G0 : GI h0) : m_CI M_X11_joined [mR 0, mI a1, mI a2] h0 (P_X11_joined h0 a1 a2) := by
  refine m_CI_of ⟨by decide, rfl, by simp [m_arg, m_isL, M_X11_joined], ⟨rfl, rfl⟩, rfl, rfl⟩ (ls := [some (mR 0), some (mI a1), some (mI a2)]) rfl ?_
  refine z_ok (fun _ _ ok => ?_)
  have oa1 : m_32 a1 := ok 1 _ rfl
  unfold m_32 at oa1
  have oa2 : m_32 a2 := ok 2 _ rfl
  unfold m_32 at oa2
  refine z_aload_n (M := M_X11_joined) 0 dX11_joined_0 rfl ?_
  refine z_getR (M := M_X11_joined) 1 dX11_joined_1 f_X11_12 o_0 rfl (g_0_0 G0) ?_
  refine z_iload_n (M := M_X11_joined) 4 dX11_joined_4 rfl ?_
  refine z_vI (M := M_X11_joined) 5 dX11_joined_5 t_X4_isThere l_X11_329 (m_rr_of rfl) (rest := []) (c_X4_isThere h0 1 a1 (Or.inl rfl) G0) o_1 rfl rfl rfl (Nat.le_of_ble_eq_true rfl) ⟨rfl, rfl⟩ (fun x1 h1 qx1 => ?_)
  obtain ⟨rfl, ⟨rfl, cx1⟩ | ⟨rfl, cx1⟩⟩ := qx1
  · refine z_if_eq_F (M := M_X11_joined) 8 dX11_joined_8 22 rfl (by omega) ?_
    refine z_aload_n (M := M_X11_joined) 11 dX11_joined_11 rfl ?_
    refine z_getR (M := M_X11_joined) 12 dX11_joined_12 f_X11_12 o_0 rfl (g_0_0 G0) ?_
    refine z_iload_n (M := M_X11_joined) 15 dX11_joined_15 rfl ?_
    refine z_vI (M := M_X11_joined) 16 dX11_joined_16 t_X4_isThere l_X11_329 (m_rr_of rfl) (rest := []) (c_X4_isThere h0 1 a2 (Or.inl rfl) G0) o_1 rfl rfl rfl (Nat.le_of_ble_eq_true rfl) ⟨rfl, rfl⟩ (fun x2 h2 qx2 => ?_)
    obtain ⟨rfl, ⟨rfl, cx2⟩ | ⟨rfl, cx2⟩⟩ := qx2
    · refine z_if_ne_T (M := M_X11_joined) 19 dX11_joined_19 25 rfl (by omega) ?_
      refine z_aload_n (M := M_X11_joined) 25 dX11_joined_25 rfl ?_
      refine z_getR (M := M_X11_joined) 26 dX11_joined_26 f_X11_67 o_0 rfl (g_0_9 G0) ?_
      refine z_aload_n (M := M_X11_joined) 29 dX11_joined_29 rfl ?_
      refine z_getR (M := M_X11_joined) 30 dX11_joined_30 f_X11_12 o_0 rfl (g_0_0 G0) ?_
      refine z_vV (M := M_X11_joined) 33 dX11_joined_33 t_X0_bind l_X11_332 (m_rr_of rfl) (rest := []) (c_X0_bind h0 1 (Or.inl rfl) G0) o_99 rfl rfl rfl (Nat.le_of_ble_eq_true rfl) ⟨rfl, rfl⟩ (fun h3 qx3 => ?_)
      obtain ⟨G3, S3⟩ := qx3
      have R3 := (FR.rf (cs := [100]) (ss := []) (h := h0)).call S3 (by decide +kernel)
      refine z_aload_n (M := M_X11_joined) 36 dX11_joined_36 rfl ?_
      refine z_getR (M := M_X11_joined) 37 dX11_joined_37 f_X11_67 o_0 rfl (g_0_9 G3) ?_
      refine z_iload_n (M := M_X11_joined) 40 dX11_joined_40 rfl ?_
      refine z_iload_n (M := M_X11_joined) 41 dX11_joined_41 rfl ?_
      refine z_vI (M := M_X11_joined) 42 dX11_joined_42 t_X0_areTogether l_X11_335 (m_rr_of rfl) (rest := []) (c_X0_areTogether h3 a1 a2 G3 ⟨by omega, by omega⟩ ⟨by omega, by omega⟩) o_99 rfl rfl rfl (Nat.le_of_ble_eq_true rfl) ⟨rfl, rfl⟩ (fun x4 h4 qx4 => ?_)
      obtain ⟨G4, S4, ax4, bx4⟩ := qx4
      have R4 := R3.call S4 (by decide +kernel)
      refine z_if_eq (M := M_X11_joined) 45 dX11_joined_45 52 rfl (fun c5 => ?_) (fun c5 => ?_)
      · refine z_iconst (M := M_X11_joined) 52 dX11_joined_52 ?_
        exact z_retI (M := M_X11_joined) 53 dX11_joined_53 rfl ⟨G4, R4, by omega, by omega⟩
      · refine z_iconst (M := M_X11_joined) 48 dX11_joined_48 ?_
        refine z_goto (M := M_X11_joined) 49 dX11_joined_49 53 rfl ?_
        exact z_retI (M := M_X11_joined) 53 dX11_joined_53 rfl ⟨G4, R4, by omega, by omega⟩
    · refine z_if_ne_F (M := M_X11_joined) 19 dX11_joined_19 25 rfl (by omega) ?_
      refine z_bipush (M := M_X11_joined) 22 dX11_joined_22 ?_
      exact z_retI (M := M_X11_joined) 24 dX11_joined_24 rfl ⟨G0, (FR.rf (cs := [100]) (ss := []) (h := h0)), by omega, by omega⟩
  · refine z_if_eq_T (M := M_X11_joined) 8 dX11_joined_8 22 rfl (by omega) ?_
    refine z_bipush (M := M_X11_joined) 22 dX11_joined_22 ?_
    exact z_retI (M := M_X11_joined) 24 dX11_joined_24 rfl ⟨G0, (FR.rf (cs := [100]) (ss := []) (h := h0)), by omega, by omega⟩
abbrev P_X11_groups (h0 : m_H) (a1 : Int) : Int → m_H → Prop := fun x h' => GI h' ∧ FR [100] [] h0 h'
set_option maxHeartbeats 4000000 in
set_option maxRecDepth 100000 in
theorem c_X11_groups (h0 : m_H) (a1 : Int) (G0 : GI h0) : m_CI M_X11_groups [mR 0, mI a1] h0 (P_X11_groups h0 a1) := by
  refine m_CI_of ⟨by decide, rfl, by simp [m_arg, m_isL, M_X11_groups], ⟨rfl, rfl⟩, rfl, rfl⟩ (ls := [some (mR 0), some (mI a1)]) rfl ?_
  refine z_ok (fun _ _ ok => ?_)
  have oa1 : m_32 a1 := ok 1 _ rfl
  unfold m_32 at oa1
  refine z_iload_n (M := M_X11_groups) 0 dX11_groups_0 rfl ?_
  refine z_iconst (M := M_X11_groups) 1 dX11_groups_1 ?_
  refine z_iconst (M := M_X11_groups) 2 dX11_groups_2 ?_
  refine z_sI (M := M_X11_groups) 3 dX11_groups_3 t_X11_within l_X11_112 (m_rr_of rfl) (rest := []) (c_X11_within h0 a1 0 2 G0) rfl rfl (Nat.le_of_ble_eq_true rfl) ⟨rfl, rfl⟩ (fun x1 h1 qx1 => ?_)
  obtain ⟨rfl, ⟨rfl, cx1⟩ | ⟨rfl, cx1⟩⟩ := qx1
  · refine z_if_ne_T (M := M_X11_groups) 6 dX11_groups_6 11 rfl (by omega) ?_
    refine z_aload_n (M := M_X11_groups) 11 dX11_groups_11 rfl ?_
    refine z_getR (M := M_X11_groups) 12 dX11_groups_12 f_X11_67 o_0 rfl (g_0_9 G0) ?_
    refine z_aload_n (M := M_X11_groups) 15 dX11_groups_15 rfl ?_
    refine z_getR (M := M_X11_groups) 16 dX11_groups_16 f_X11_12 o_0 rfl (g_0_0 G0) ?_
    refine z_vV (M := M_X11_groups) 19 dX11_groups_19 t_X0_bind l_X11_332 (m_rr_of rfl) (rest := []) (c_X0_bind h0 1 (Or.inl rfl) G0) o_99 rfl rfl rfl (Nat.le_of_ble_eq_true rfl) ⟨rfl, rfl⟩ (fun h2 qx2 => ?_)
    obtain ⟨G2, S2⟩ := qx2
    have R2 := (FR.rf (cs := [100]) (ss := []) (h := h0)).call S2 (by decide +kernel)
    refine z_iload_n (M := M_X11_groups) 22 dX11_groups_22 rfl ?_
    refine z_iconst (M := M_X11_groups) 23 dX11_groups_23 ?_
    refine z_icmp_ne (M := M_X11_groups) 24 dX11_groups_24 39 rfl (fun c3 => ?_) (fun c3 => ?_)
    · refine z_aload_n (M := M_X11_groups) 39 dX11_groups_39 rfl ?_
      refine z_getR (M := M_X11_groups) 40 dX11_groups_40 f_X11_67 o_0 rfl (g_0_9 G2) ?_
      refine z_aload_n (M := M_X11_groups) 43 dX11_groups_43 rfl ?_
      refine z_getR (M := M_X11_groups) 44 dX11_groups_44 f_X11_12 o_0 rfl (g_0_0 G2) ?_
      refine z_vI (M := M_X11_groups) 47 dX11_groups_47 t_X0_many l_X11_340 (m_rr_of rfl) (rest := []) (c_X0_many h2 1 (Or.inl rfl) G2) o_99 rfl rfl rfl (Nat.le_of_ble_eq_true rfl) ⟨rfl, rfl⟩ (fun x4 h3 qx4 => ?_)
      obtain ⟨G3, S3⟩ := qx4
      have R3 := R2.call S3 (by decide +kernel)
      refine z_ok (fun ox4 _ _ => ?_)
      have ox4 := ox4.1; unfold m_ok m_32 at ox4
      refine z_iload_n (M := M_X11_groups) 50 dX11_groups_50 rfl ?_
      refine z_isub (M := M_X11_groups) 51 dX11_groups_51 ?_
      refine z_topm (fun x5 ex5 ox5 => ?_)
      unfold m_32 at ox5
      exact z_retI (M := M_X11_groups) 52 dX11_groups_52 rfl ⟨G3, R3⟩
    · refine z_aload_n (M := M_X11_groups) 27 dX11_groups_27 rfl ?_
      refine z_getR (M := M_X11_groups) 28 dX11_groups_28 f_X11_67 o_0 rfl (g_0_9 G2) ?_
      refine z_aload_n (M := M_X11_groups) 31 dX11_groups_31 rfl ?_
      refine z_getR (M := M_X11_groups) 32 dX11_groups_32 f_X11_12 o_0 rfl (g_0_0 G2) ?_
      refine z_vI (M := M_X11_groups) 35 dX11_groups_35 t_X0_greatest l_X11_338 (m_rr_of rfl) (rest := []) (c_X0_greatest h2 1 (Or.inl rfl) G2) o_99 rfl rfl rfl (Nat.le_of_ble_eq_true rfl) ⟨rfl, rfl⟩ (fun x6 h4 qx6 => ?_)
      obtain ⟨G4, S4, ax6, bx6⟩ := qx6
      have R4 := R2.call S4 (by decide +kernel)
      exact z_retI (M := M_X11_groups) 38 dX11_groups_38 rfl ⟨G4, R4⟩
  · refine z_if_ne_F (M := M_X11_groups) 6 dX11_groups_6 11 rfl (by omega) ?_
    refine z_iconst (M := M_X11_groups) 9 dX11_groups_9 ?_
    exact z_retI (M := M_X11_groups) 10 dX11_groups_10 rfl ⟨G0, (FR.rf (cs := [100]) (ss := []) (h := h0))⟩
abbrev P_X9_lower (h0 : m_H) (a1 a2 a3 : Int) : m_H → Prop := fun h' => GI h' ∧ FR [39, 40] [] h0 h'
set_option maxHeartbeats 4000000 in
set_option maxRecDepth 100000 in
theorem c_X9_lower (h0 : m_H) (a1 a2 a3 : Int) (G0 : GI h0) (pa1 : 0 ≤ a1 ∧ a1 ≤ 47) (pa3 : 0 ≤ a3 ∧ a3 ≤ 1) : m_CV M_X9_lower [mR 38, mI a1, mI a2, mI a3] h0 (P_X9_lower h0 a1 a2 a3) := by
  refine m_CV_of ⟨by decide, rfl, by simp [m_arg, m_isL, M_X9_lower], ⟨rfl, rfl⟩, rfl, rfl⟩ (ls := [some (mR 38), some (mI a1), some (mI a2), some (mI a3)]) rfl ?_
  refine z_ok (fun _ _ ok => ?_)
  have oa2 : m_32 a2 := ok 2 _ rfl
  unfold m_32 at oa2
  refine z_aload_n (M := M_X9_lower) 0 dX9_lower_0 rfl ?_
  refine z_getR (M := M_X9_lower) 1 dX9_lower_1 f_X9_9 o_38 rfl (g_38_0 G0) ?_
  refine z_iload_n (M := M_X9_lower) 4 dX9_lower_4 rfl ?_
  refine z_ialdV (M := M_X9_lower) 5 dX9_lower_5 o_39 (by omega) (by omega) (fun x1 ex1 => ?_)
  refine z_ok (fun ox1 _ _ => ?_)
  have ox1 := ox1.1; unfold m_ok m_32 at ox1
  refine z_if_eq (M := M_X9_lower) 6 dX9_lower_6 19 rfl (fun c2 => ?_) (fun c2 => ?_)
  · refine z_aload_n (M := M_X9_lower) 19 dX9_lower_19 rfl ?_
    refine z_getR (M := M_X9_lower) 20 dX9_lower_20 f_X9_9 o_38 rfl (g_38_0 G0) ?_
    refine z_iload_n (M := M_X9_lower) 23 dX9_lower_23 rfl ?_
    refine z_iload_n (M := M_X9_lower) 24 dX9_lower_24 rfl ?_
    refine z_iastH (M := M_X9_lower) 25 dX9_lower_25 o_39 (by omega) (by omega) (u_39 G0) ((FR.rf (cs := [39, 40]) (ss := []) (h := h0)).up rfl) (fun h1 E1 G1 R1 => ?_)
    refine z_aload_n (M := M_X9_lower) 26 dX9_lower_26 rfl ?_
    refine z_getR (M := M_X9_lower) 27 dX9_lower_27 f_X9_15 o_38 rfl (g_38_1 G1) ?_
    refine z_iload_n (M := M_X9_lower) 30 dX9_lower_30 rfl ?_
    refine z_iload_n (M := M_X9_lower) 31 dX9_lower_31 rfl ?_
    refine z_zastH (M := M_X9_lower) 32 dX9_lower_32 o_40 (by omega) (by omega) (by omega) (u_40 G1 (by omega) (by omega)) (R1.up rfl) (fun h2 E2 G2 R2 => ?_)
    refine z_goto (M := M_X9_lower) 33 dX9_lower_33 57 rfl ?_
    exact z_retV (M := M_X9_lower) 57 dX9_lower_57 rfl ⟨G2, R2⟩
  · refine z_iload_n (M := M_X9_lower) 9 dX9_lower_9 rfl ?_
    refine z_aload_n (M := M_X9_lower) 10 dX9_lower_10 rfl ?_
    refine z_getR (M := M_X9_lower) 11 dX9_lower_11 f_X9_9 o_38 rfl (g_38_0 G0) ?_
    refine z_iload_n (M := M_X9_lower) 14 dX9_lower_14 rfl ?_
    refine z_ialdE (M := M_X9_lower) 15 dX9_lower_15 o_39 (by omega) (by omega) ex1 ?_
    refine z_icmp_ge (M := M_X9_lower) 16 dX9_lower_16 36 rfl (fun c3 => ?_) (fun c3 => ?_)
    · refine z_iload_n (M := M_X9_lower) 36 dX9_lower_36 rfl ?_
      refine z_aload_n (M := M_X9_lower) 37 dX9_lower_37 rfl ?_
      refine z_getR (M := M_X9_lower) 38 dX9_lower_38 f_X9_9 o_38 rfl (g_38_0 G0) ?_
      refine z_iload_n (M := M_X9_lower) 41 dX9_lower_41 rfl ?_
      refine z_ialdE (M := M_X9_lower) 42 dX9_lower_42 o_39 (by omega) (by omega) ex1 ?_
      refine z_icmp_ne (M := M_X9_lower) 43 dX9_lower_43 57 rfl (fun c4 => ?_) (fun c4 => ?_)
      · exact z_retV (M := M_X9_lower) 57 dX9_lower_57 rfl ⟨G0, (FR.rf (cs := [39, 40]) (ss := []) (h := h0))⟩
      · refine z_iload_n (M := M_X9_lower) 46 dX9_lower_46 rfl ?_
        refine z_if_eq (M := M_X9_lower) 47 dX9_lower_47 57 rfl (fun c5 => ?_) (fun c5 => ?_)
        · exact z_retV (M := M_X9_lower) 57 dX9_lower_57 rfl ⟨G0, (FR.rf (cs := [39, 40]) (ss := []) (h := h0))⟩
        · refine z_aload_n (M := M_X9_lower) 50 dX9_lower_50 rfl ?_
          refine z_getR (M := M_X9_lower) 51 dX9_lower_51 f_X9_15 o_38 rfl (g_38_1 G0) ?_
          refine z_iload_n (M := M_X9_lower) 54 dX9_lower_54 rfl ?_
          refine z_iconst (M := M_X9_lower) 55 dX9_lower_55 ?_
          refine z_zastH (M := M_X9_lower) 56 dX9_lower_56 o_40 (by omega) (by omega) (by omega) (u_40 G0 (by omega) (by omega)) ((FR.rf (cs := [39, 40]) (ss := []) (h := h0)).up rfl) (fun h3 E3 G3 R3 => ?_)
          exact z_retV (M := M_X9_lower) 57 dX9_lower_57 rfl ⟨G3, R3⟩
    · refine z_aload_n (M := M_X9_lower) 19 dX9_lower_19 rfl ?_
      refine z_getR (M := M_X9_lower) 20 dX9_lower_20 f_X9_9 o_38 rfl (g_38_0 G0) ?_
      refine z_iload_n (M := M_X9_lower) 23 dX9_lower_23 rfl ?_
      refine z_iload_n (M := M_X9_lower) 24 dX9_lower_24 rfl ?_
      refine z_iastH (M := M_X9_lower) 25 dX9_lower_25 o_39 (by omega) (by omega) (u_39 G0) ((FR.rf (cs := [39, 40]) (ss := []) (h := h0)).up rfl) (fun h4 E4 G4 R4 => ?_)
      refine z_aload_n (M := M_X9_lower) 26 dX9_lower_26 rfl ?_
      refine z_getR (M := M_X9_lower) 27 dX9_lower_27 f_X9_15 o_38 rfl (g_38_1 G4) ?_
      refine z_iload_n (M := M_X9_lower) 30 dX9_lower_30 rfl ?_
      refine z_iload_n (M := M_X9_lower) 31 dX9_lower_31 rfl ?_
      refine z_zastH (M := M_X9_lower) 32 dX9_lower_32 o_40 (by omega) (by omega) (by omega) (u_40 G4 (by omega) (by omega)) (R4.up rfl) (fun h5 E5 G5 R5 => ?_)
      refine z_goto (M := M_X9_lower) 33 dX9_lower_33 57 rfl ?_
      exact z_retV (M := M_X9_lower) 57 dX9_lower_57 rfl ⟨G5, R5⟩
abbrev P_X9_highOf (h0 : m_H) (a1 a2 : Int) : Int → m_H → Prop := fun x h' => GI h' ∧ FR [] [] h0 h'
set_option maxHeartbeats 4000000 in
set_option maxRecDepth 100000 in
theorem c_X9_highOf (h0 : m_H) (a1 a2 : Int) (G0 : GI h0) (pa1 : 0 ≤ a1 ∧ a1 ≤ 15) (pa2 : 0 ≤ a2 ∧ a2 ≤ 3) : m_CI M_X9_highOf [mR 38, mI a1, mI a2] h0 (P_X9_highOf h0 a1 a2) := by
  refine m_CI_of ⟨by decide, rfl, by simp [m_arg, m_isL, M_X9_highOf], ⟨rfl, rfl⟩, rfl, rfl⟩ (ls := [some (mR 38), some (mI a1), some (mI a2)]) rfl ?_
  refine z_iload_n (M := M_X9_highOf) 0 dX9_highOf_0 rfl ?_
  refine z_bipush (M := M_X9_highOf) 1 dX9_highOf_1 ?_
  refine z_icmp_lt (M := M_X9_highOf) 3 dX9_highOf_3 20 rfl (fun c1 => ?_) (fun c1 => ?_)
  · refine z_aload_n (M := M_X9_highOf) 20 dX9_highOf_20 rfl ?_
    refine z_getR (M := M_X9_highOf) 21 dX9_highOf_21 f_X9_9 o_38 rfl (g_38_0 G0) ?_
    refine z_iload_n (M := M_X9_highOf) 24 dX9_highOf_24 rfl ?_
    refine z_iconst (M := M_X9_highOf) 25 dX9_highOf_25 ?_
    refine z_imulN (M := M_X9_highOf) 26 dX9_highOf_26 (by omega) (by omega) ?_
    refine z_iload_n (M := M_X9_highOf) 27 dX9_highOf_27 rfl ?_
    refine z_iaddN (M := M_X9_highOf) 28 dX9_highOf_28 (by omega) (by omega) ?_
    refine z_ialdV (M := M_X9_highOf) 29 dX9_highOf_29 o_39 (by omega) (by omega) (fun x2 ex2 => ?_)
    refine z_ok (fun ox2 _ _ => ?_)
    have ox2 := ox2.1; unfold m_ok m_32 at ox2
    exact z_retI (M := M_X9_highOf) 30 dX9_highOf_30 rfl ⟨G0, (FR.rf (cs := []) (ss := []) (h := h0))⟩
  · refine z_iload_n (M := M_X9_highOf) 6 dX9_highOf_6 rfl ?_
    refine z_bipush (M := M_X9_highOf) 7 dX9_highOf_7 ?_
    refine z_isubN (M := M_X9_highOf) 9 dX9_highOf_9 (by omega) (by omega) ?_
    refine z_iload_n (M := M_X9_highOf) 10 dX9_highOf_10 rfl ?_
    refine z_icmp_ne (M := M_X9_highOf) 11 dX9_highOf_11 18 rfl (fun c3 => ?_) (fun c3 => ?_)
    · refine z_iconst (M := M_X9_highOf) 18 dX9_highOf_18 ?_
      exact z_retI (M := M_X9_highOf) 19 dX9_highOf_19 rfl ⟨G0, (FR.rf (cs := []) (ss := []) (h := h0))⟩
    · refine z_iconst (M := M_X9_highOf) 14 dX9_highOf_14 ?_
      refine z_goto (M := M_X9_highOf) 15 dX9_highOf_15 19 rfl ?_
      exact z_retI (M := M_X9_highOf) 19 dX9_highOf_19 rfl ⟨G0, (FR.rf (cs := []) (ss := []) (h := h0))⟩
abbrev P_X9_lowOf (h0 : m_H) (a1 a2 : Int) : Int → m_H → Prop := fun x h' => GI h' ∧ FR [] [] h0 h'
set_option maxHeartbeats 4000000 in
set_option maxRecDepth 100000 in
theorem c_X9_lowOf (h0 : m_H) (a1 a2 : Int) (G0 : GI h0) (pa1 : 0 ≤ a1 ∧ a1 ≤ 15) (pa2 : 0 ≤ a2 ∧ a2 ≤ 3) : m_CI M_X9_lowOf [mR 38, mI a1, mI a2] h0 (P_X9_lowOf h0 a1 a2) := by
  refine m_CI_of ⟨by decide, rfl, by simp [m_arg, m_isL, M_X9_lowOf], ⟨rfl, rfl⟩, rfl, rfl⟩ (ls := [some (mR 38), some (mI a1), some (mI a2)]) rfl ?_
  refine z_iload_n (M := M_X9_lowOf) 0 dX9_lowOf_0 rfl ?_
  refine z_bipush (M := M_X9_lowOf) 1 dX9_lowOf_1 ?_
  refine z_icmp_lt (M := M_X9_lowOf) 3 dX9_lowOf_3 20 rfl (fun c1 => ?_) (fun c1 => ?_)
  · refine z_aload_n (M := M_X9_lowOf) 20 dX9_lowOf_20 rfl ?_
    refine z_getR (M := M_X9_lowOf) 21 dX9_lowOf_21 f_X9_19 o_38 rfl (g_38_2 G0) ?_
    refine z_iload_n (M := M_X9_lowOf) 24 dX9_lowOf_24 rfl ?_
    refine z_iconst (M := M_X9_lowOf) 25 dX9_lowOf_25 ?_
    refine z_imulN (M := M_X9_lowOf) 26 dX9_lowOf_26 (by omega) (by omega) ?_
    refine z_iload_n (M := M_X9_lowOf) 27 dX9_lowOf_27 rfl ?_
    refine z_iaddN (M := M_X9_lowOf) 28 dX9_lowOf_28 (by omega) (by omega) ?_
    refine z_ialdV (M := M_X9_lowOf) 29 dX9_lowOf_29 o_41 (by omega) (by omega) (fun x2 ex2 => ?_)
    refine z_ok (fun ox2 _ _ => ?_)
    have ox2 := ox2.1; unfold m_ok m_32 at ox2
    exact z_retI (M := M_X9_lowOf) 30 dX9_lowOf_30 rfl ⟨G0, (FR.rf (cs := []) (ss := []) (h := h0))⟩
  · refine z_iload_n (M := M_X9_lowOf) 6 dX9_lowOf_6 rfl ?_
    refine z_bipush (M := M_X9_lowOf) 7 dX9_lowOf_7 ?_
    refine z_isubN (M := M_X9_lowOf) 9 dX9_lowOf_9 (by omega) (by omega) ?_
    refine z_iload_n (M := M_X9_lowOf) 10 dX9_lowOf_10 rfl ?_
    refine z_icmp_ne (M := M_X9_lowOf) 11 dX9_lowOf_11 18 rfl (fun c3 => ?_) (fun c3 => ?_)
    · refine z_iconst (M := M_X9_lowOf) 18 dX9_lowOf_18 ?_
      exact z_retI (M := M_X9_lowOf) 19 dX9_lowOf_19 rfl ⟨G0, (FR.rf (cs := []) (ss := []) (h := h0))⟩
    · refine z_iconst (M := M_X9_lowOf) 14 dX9_lowOf_14 ?_
      refine z_goto (M := M_X9_lowOf) 15 dX9_lowOf_15 19 rfl ?_
      exact z_retI (M := M_X9_lowOf) 19 dX9_lowOf_19 rfl ⟨G0, (FR.rf (cs := []) (ss := []) (h := h0))⟩
abbrev P_X9_halvesIn (h0 : m_H) (a0 a1 : Int) : Int → m_H → Prop := fun x h' => GI h' ∧ FR [] [] h0 h' ∧ 1 ≤ x ∧ x ≤ 2
set_option maxHeartbeats 4000000 in
set_option maxRecDepth 100000 in
theorem c_X9_halvesIn (h0 : m_H) (a0 a1 : Int) (G0 : GI h0) : m_CI M_X9_halvesIn [mI a0, mI a1] h0 (P_X9_halvesIn h0 a0 a1) := by
  refine m_CI_of ⟨by decide, rfl, by simp [m_arg, m_isL, M_X9_halvesIn], ⟨rfl, rfl⟩, rfl, rfl⟩ (ls := [some (mI a0), some (mI a1)]) rfl ?_
  refine z_ok (fun _ _ ok => ?_)
  have oa0 : m_32 a0 := ok 0 _ rfl
  unfold m_32 at oa0
  have oa1 : m_32 a1 := ok 1 _ rfl
  unfold m_32 at oa1
  refine z_iload_n (M := M_X9_halvesIn) 0 dX9_halvesIn_0 rfl ?_
  refine z_bipush (M := M_X9_halvesIn) 1 dX9_halvesIn_1 ?_
  refine z_icmp_lt (M := M_X9_halvesIn) 3 dX9_halvesIn_3 16 rfl (fun c1 => ?_) (fun c1 => ?_)
  · refine z_iconst (M := M_X9_halvesIn) 16 dX9_halvesIn_16 ?_
    exact z_retI (M := M_X9_halvesIn) 17 dX9_halvesIn_17 rfl ⟨G0, (FR.rf (cs := []) (ss := []) (h := h0)), by omega, by omega⟩
  · refine z_iload_n (M := M_X9_halvesIn) 6 dX9_halvesIn_6 rfl ?_
    refine z_bipush (M := M_X9_halvesIn) 7 dX9_halvesIn_7 ?_
    refine z_icmp_ge (M := M_X9_halvesIn) 9 dX9_halvesIn_9 16 rfl (fun c2 => ?_) (fun c2 => ?_)
    · refine z_iconst (M := M_X9_halvesIn) 16 dX9_halvesIn_16 ?_
      exact z_retI (M := M_X9_halvesIn) 17 dX9_halvesIn_17 rfl ⟨G0, (FR.rf (cs := []) (ss := []) (h := h0)), by omega, by omega⟩
    · refine z_iconst (M := M_X9_halvesIn) 12 dX9_halvesIn_12 ?_
      refine z_goto (M := M_X9_halvesIn) 13 dX9_halvesIn_13 17 rfl ?_
      exact z_retI (M := M_X9_halvesIn) 17 dX9_halvesIn_17 rfl ⟨G0, (FR.rf (cs := []) (ss := []) (h := h0)), by omega, by omega⟩
abbrev P_X9_forget (h0 : m_H) : m_H → Prop := fun h' => GI h' ∧ FR (csB ++ [39, 41]) [] h0 h'
def q_X9_forget (h0 : m_H) (n : Nat) : Prop := (∀ (l1 : Int) (h : m_H), GI h → FR (csB ++ [39, 41]) [] h0 h → 0 ≤ l1 → l1 ≤ 16 → 2 * (16 - l1) + (1) ≤ (n : Int) → m_Z oF M_X9_forget 18 [some (mR 38), some (mI l1)] [] h (m_QV (P_X9_forget h0)))
set_option maxHeartbeats 4000000 in
set_option maxRecDepth 100000 in
theorem s_X9_forget_18 (h0 : m_H) (G0 : GI h0) (n : Nat) (ih : q_X9_forget h0 n) : ∀ (l1 : Int) (h : m_H), GI h → FR (csB ++ [39, 41]) [] h0 h → 0 ≤ l1 → l1 ≤ 16 → 2 * (16 - l1) + (1) ≤ ((n + 1 : Nat) : Int) → m_Z oF M_X9_forget 18 [some (mR 38), some (mI l1)] [] h (m_QV (P_X9_forget h0)) := by
  intro l1 h G R v0 v1 hr
  refine z_iload_n (M := M_X9_forget) 18 dX9_forget_18 rfl ?_
  refine z_bipush (M := M_X9_forget) 19 dX9_forget_19 ?_
  refine z_icmp_ge (M := M_X9_forget) 21 dX9_forget_21 39 rfl (fun c1 => ?_) (fun c1 => ?_)
  · exact z_retV (M := M_X9_forget) 39 dX9_forget_39 rfl ⟨G, R⟩
  · refine z_aload_n (M := M_X9_forget) 24 dX9_forget_24 rfl ?_
    refine z_getR (M := M_X9_forget) 25 dX9_forget_25 f_X9_26 o_38 rfl (g_38_3 G) ?_
    refine z_iload_n (M := M_X9_forget) 28 dX9_forget_28 rfl ?_
    have hb2 := isB_42 (i := l1) (by omega) (by omega)
    refine z_aaldB (M := M_X9_forget) 29 dX9_forget_29 o_42 (by omega) (by omega) (g_42 G (by omega)) ?_
    refine z_vV (M := M_X9_forget) 30 dX9_forget_30 t_X2_clear l_X9_89 (m_rr_of rfl) (rest := []) (c_X2_clear h (43 + (l1).toNat) hb2 G) (oB hb2) rfl rfl rfl (Nat.le_of_ble_eq_true rfl) ⟨rfl, rfl⟩ (fun h1 qx3 => ?_)
    obtain ⟨G1, S1⟩ := qx3
    have R1 := R.call S1 (by decide +kernel)
    refine z_iincN (M := M_X9_forget) 33 dX9_forget_33 (ls' := [some (mR 38), some (mI (l1 + 1))]) (by decide) rfl (by (unfold m_32; decide)) (by omega) (by omega) rfl ?_
    refine z_goto (M := M_X9_forget) 36 dX9_forget_36 18 rfl ?_
    exact z_mask [true, true] rfl (ih (l1 + 1) h1 G1 R1 (by omega) (by omega) (by omega))
theorem a_X9_forget (h0 : m_H) (G0 : GI h0) : ∀ n, q_X9_forget h0 n := by
  intro n
  induction n with
  | zero => unfold q_X9_forget; intros; omega
  | succ n ih => exact s_X9_forget_18 h0 G0 n ih
set_option maxHeartbeats 4000000 in
set_option maxRecDepth 100000 in
theorem c_X9_forget (h0 : m_H) (G0 : GI h0) : m_CV M_X9_forget [mR 38] h0 (P_X9_forget h0) := by
  refine m_CV_of ⟨by decide, rfl, by simp [m_arg, m_isL, M_X9_forget], ⟨rfl, rfl⟩, rfl, rfl⟩ (ls := [some (mR 38), none]) rfl ?_
  have ih := a_X9_forget h0 G0 40
  refine z_aload_n (M := M_X9_forget) 0 dX9_forget_0 rfl ?_
  refine z_getR (M := M_X9_forget) 1 dX9_forget_1 f_X9_9 o_38 rfl (g_38_0 G0) ?_
  refine z_iconst (M := M_X9_forget) 4 dX9_forget_4 ?_
  refine z_sV (M := M_X9_forget) 5 dX9_forget_5 t_J7_fill_53178 l_X9_83 (m_rr_of rfl) (rest := []) (c_J7_fill_39 h0 0 G0) rfl rfl (Nat.le_of_ble_eq_true rfl) ⟨rfl, rfl⟩ (fun h1 qx1 => ?_)
  obtain ⟨G1, S1⟩ := qx1
  have R1 := (FR.rf (cs := (csB ++ [39, 41])) (ss := []) (h := h0)).call S1 (by decide +kernel)
  refine z_aload_n (M := M_X9_forget) 8 dX9_forget_8 rfl ?_
  refine z_getR (M := M_X9_forget) 9 dX9_forget_9 f_X9_19 o_38 rfl (g_38_2 G1) ?_
  refine z_iconst (M := M_X9_forget) 12 dX9_forget_12 ?_
  refine z_sV (M := M_X9_forget) 13 dX9_forget_13 t_J7_fill_53178 l_X9_83 (m_rr_of rfl) (rest := []) (c_J7_fill_41 h1 0 G1) rfl rfl (Nat.le_of_ble_eq_true rfl) ⟨rfl, rfl⟩ (fun h2 qx2 => ?_)
  obtain ⟨G2, S2⟩ := qx2
  have R2 := R1.call S2 (by decide +kernel)
  refine z_iconst (M := M_X9_forget) 16 dX9_forget_16 ?_
  refine z_istore_n (M := M_X9_forget) 17 dX9_forget_17 (ls' := [some (mR 38), some (mI 0)]) (by decide) rfl ?_
  exact z_mask [true, true] rfl (ih 0 h2 G2 R2 (by omega) (by omega) (by omega))
abbrev P_X9_tie (h0 : m_H) (L : Nat) (a2 : Int) : m_H → Prop := fun h' => GI h' ∧ FR [39, 40, 41] [] h0 h'
set_option maxHeartbeats 4000000 in
set_option maxRecDepth 100000 in
theorem c_X9_tie (h0 : m_H) (L : Nat) (a2 : Int) (hL : isL L) (G0 : GI h0) (pa2 : 0 ≤ a2 ∧ a2 ≤ 23) : m_CV M_X9_tie [mR 38, mR L, mI a2] h0 (P_X9_tie h0 L a2) := by
  refine m_CV_of ⟨by decide, rfl, by simp [m_arg, m_isL, M_X9_tie], ⟨rfl, rfl⟩, rfl, rfl⟩ (ls := [some (mR 38), some (mR L), some (mI a2), none, none]) rfl ?_
  refine z_aload_n (M := M_X9_tie) 0 dX9_tie_0 rfl ?_
  refine z_iload_n (M := M_X9_tie) 1 dX9_tie_1 rfl ?_
  refine z_vI (M := M_X9_tie) 2 dX9_tie_2 t_X4_keeperOf l_X9_92 (m_rr_of rfl) (rest := []) (c_X4_keeperOf h0 L a2 hL G0 ⟨by omega, by omega⟩) (oL hL) rfl rfl rfl (Nat.le_of_ble_eq_true rfl) ⟨rfl, rfl⟩ (fun x1 h1 qx1 => ?_)
  obtain ⟨G1, S1, ax1, bx1⟩ := qx1
  have R1 := (FR.rf (cs := [39, 40, 41]) (ss := []) (h := h0)).call S1 (by decide +kernel)
  refine z_istore_n (M := M_X9_tie) 5 dX9_tie_5 (ls' := [some (mR 38), some (mR L), some (mI a2), some (mI x1), none]) (by decide) rfl ?_
  refine z_iload_n (M := M_X9_tie) 6 dX9_tie_6 rfl ?_
  refine z_iconst (M := M_X9_tie) 7 dX9_tie_7 ?_
  refine z_icmp_ne (M := M_X9_tie) 8 dX9_tie_8 12 rfl (fun c2 => ?_) (fun c2 => ?_)
  · refine z_aload_n (M := M_X9_tie) 12 dX9_tie_12 rfl ?_
    refine z_iload_n (M := M_X9_tie) 13 dX9_tie_13 rfl ?_
    refine z_vI (M := M_X9_tie) 14 dX9_tie_14 t_X4_lengthOf l_X9_96 (m_rr_of rfl) (rest := []) (c_X4_lengthOf h1 L a2 hL G1 ⟨by omega, by omega⟩) (oL hL) rfl rfl rfl (Nat.le_of_ble_eq_true rfl) ⟨rfl, rfl⟩ (fun x3 h2 qx3 => ?_)
    obtain ⟨G2, S2, ax3, bx3⟩ := qx3
    have R2 := R1.call S2 (by decide +kernel)
    refine z_iconst (M := M_X9_tie) 17 dX9_tie_17 ?_
    refine z_imulN (M := M_X9_tie) 18 dX9_tie_18 (by omega) (by omega) ?_
    refine z_iload_n (M := M_X9_tie) 19 dX9_tie_19 rfl ?_
    refine z_iaddN (M := M_X9_tie) 20 dX9_tie_20 (by omega) (by omega) ?_
    refine z_istore (M := M_X9_tie) 21 dX9_tie_21 (ls' := [some (mR 38), some (mR L), some (mI a2), some (mI x1), some (mI ((x3 * 4) + x1))]) (by decide) rfl ?_
    refine z_aload_n (M := M_X9_tie) 23 dX9_tie_23 rfl ?_
    refine z_iload (M := M_X9_tie) 24 dX9_tie_24 rfl ?_
    refine z_aload_n (M := M_X9_tie) 26 dX9_tie_26 rfl ?_
    refine z_iload_n (M := M_X9_tie) 27 dX9_tie_27 rfl ?_
    refine z_vI (M := M_X9_tie) 28 dX9_tie_28 t_X4_endHalves l_X9_99 (m_rr_of rfl) (rest := [mI ((x3 * 4) + x1), mR 38]) (c_X4_endHalves h2 L a2 hL G2 ⟨by omega, by omega⟩) (oL hL) rfl rfl rfl (Nat.le_of_ble_eq_true rfl) ⟨rfl, rfl⟩ (fun x4 h3 qx4 => ?_)
    obtain ⟨G3, S3, ax4, bx4⟩ := qx4
    have R3 := R2.call S3 (by decide +kernel)
    refine z_aload_n (M := M_X9_tie) 31 dX9_tie_31 rfl ?_
    refine z_getR (M := M_X9_tie) 32 dX9_tie_32 f_X9_102 (oL hL) rfl (rL_5 hL G3) ?_
    refine z_iload_n (M := M_X9_tie) 35 dX9_tie_35 rfl ?_
    refine z_ialdG (M := M_X9_tie) 36 dX9_tie_36 (oL_6 hL) (by omega) (by omega) (gL_6 hL G3 (by omega)) (fun x5 ex5 ax5 bx5 => ?_)
    refine z_if_eq (M := M_X9_tie) 37 dX9_tie_37 44 rfl (fun c6 => ?_) (fun c6 => ?_)
    · refine z_iconst (M := M_X9_tie) 44 dX9_tie_44 ?_
      refine z_vV (M := M_X9_tie) 45 dX9_tie_45 t_X9_lower l_X9_105 (m_rr_of rfl) (rest := []) (c_X9_lower h3 ((x3 * 4) + x1) x4 0 G3 ⟨by omega, by omega⟩ ⟨by omega, by omega⟩) o_38 rfl rfl rfl (Nat.le_of_ble_eq_true rfl) ⟨rfl, rfl⟩ (fun h4 qx7 => ?_)
      obtain ⟨G4, S4⟩ := qx7
      have R4 := R3.call S4 (by decide +kernel)
      refine z_aload_n (M := M_X9_tie) 48 dX9_tie_48 rfl ?_
      refine z_getR (M := M_X9_tie) 49 dX9_tie_49 f_X9_19 o_38 rfl (g_38_2 G4) ?_
      refine z_iload (M := M_X9_tie) 52 dX9_tie_52 rfl ?_
      refine z_aload_n (M := M_X9_tie) 54 dX9_tie_54 rfl ?_
      refine z_getR (M := M_X9_tie) 55 dX9_tie_55 f_X9_19 o_38 rfl (g_38_2 G4) ?_
      refine z_iload (M := M_X9_tie) 58 dX9_tie_58 rfl ?_
      refine z_ialdV (M := M_X9_tie) 60 dX9_tie_60 o_41 (by omega) (by omega) (fun x8 ex8 => ?_)
      refine z_ok (fun ox8 _ _ => ?_)
      have ox8 := ox8.1; unfold m_ok m_32 at ox8
      refine z_aload_n (M := M_X9_tie) 61 dX9_tie_61 rfl ?_
      refine z_iload_n (M := M_X9_tie) 62 dX9_tie_62 rfl ?_
      refine z_vI (M := M_X9_tie) 63 dX9_tie_63 t_X4_leastHalves l_X9_109 (m_rr_of rfl) (rest := [mI x8, mI ((x3 * 4) + x1), mR 41]) (c_X4_leastHalves h4 L a2 hL G4 ⟨by omega, by omega⟩) (oL hL) rfl rfl rfl (Nat.le_of_ble_eq_true rfl) ⟨rfl, rfl⟩ (fun x9 h5 qx9 => ?_)
      obtain ⟨G5, S5, ax9, bx9⟩ := qx9
      have R5 := R4.call S5 (by decide +kernel)
      refine z_maxI (M := M_X9_tie) 66 dX9_tie_66 ml_X9_112 (rest := [mI ((x3 * 4) + x1), mR 41]) (Nat.le_of_ble_eq_true rfl) (Nat.le_of_ble_eq_true rfl) ?_
      refine z_topBI (lo := (-1)) (hi := 2147483647) ⟨by split <;> omega, by split <;> omega⟩ (fun x10 ex10 ax10 bx10 => ?_)
      refine z_iastH (M := M_X9_tie) 69 dX9_tie_69 o_41 (by omega) (by omega) (u_41 G5) (R5.up rfl) (fun h6 E6 G6 R6 => ?_)
      exact z_retV (M := M_X9_tie) 70 dX9_tie_70 rfl ⟨G6, R6⟩
    · refine z_iconst (M := M_X9_tie) 40 dX9_tie_40 ?_
      refine z_goto (M := M_X9_tie) 41 dX9_tie_41 45 rfl ?_
      refine z_vV (M := M_X9_tie) 45 dX9_tie_45 t_X9_lower l_X9_105 (m_rr_of rfl) (rest := []) (c_X9_lower h3 ((x3 * 4) + x1) x4 1 G3 ⟨by omega, by omega⟩ ⟨by omega, by omega⟩) o_38 rfl rfl rfl (Nat.le_of_ble_eq_true rfl) ⟨rfl, rfl⟩ (fun h7 qx11 => ?_)
      obtain ⟨G7, S7⟩ := qx11
      have R7 := R3.call S7 (by decide +kernel)
      refine z_aload_n (M := M_X9_tie) 48 dX9_tie_48 rfl ?_
      refine z_getR (M := M_X9_tie) 49 dX9_tie_49 f_X9_19 o_38 rfl (g_38_2 G7) ?_
      refine z_iload (M := M_X9_tie) 52 dX9_tie_52 rfl ?_
      refine z_aload_n (M := M_X9_tie) 54 dX9_tie_54 rfl ?_
      refine z_getR (M := M_X9_tie) 55 dX9_tie_55 f_X9_19 o_38 rfl (g_38_2 G7) ?_
      refine z_iload (M := M_X9_tie) 58 dX9_tie_58 rfl ?_
      refine z_ialdV (M := M_X9_tie) 60 dX9_tie_60 o_41 (by omega) (by omega) (fun x12 ex12 => ?_)
      refine z_ok (fun ox12 _ _ => ?_)
      have ox12 := ox12.1; unfold m_ok m_32 at ox12
      refine z_aload_n (M := M_X9_tie) 61 dX9_tie_61 rfl ?_
      refine z_iload_n (M := M_X9_tie) 62 dX9_tie_62 rfl ?_
      refine z_vI (M := M_X9_tie) 63 dX9_tie_63 t_X4_leastHalves l_X9_109 (m_rr_of rfl) (rest := [mI x12, mI ((x3 * 4) + x1), mR 41]) (c_X4_leastHalves h7 L a2 hL G7 ⟨by omega, by omega⟩) (oL hL) rfl rfl rfl (Nat.le_of_ble_eq_true rfl) ⟨rfl, rfl⟩ (fun x13 h8 qx13 => ?_)
      obtain ⟨G8, S8, ax13, bx13⟩ := qx13
      have R8 := R7.call S8 (by decide +kernel)
      refine z_maxI (M := M_X9_tie) 66 dX9_tie_66 ml_X9_112 (rest := [mI ((x3 * 4) + x1), mR 41]) (Nat.le_of_ble_eq_true rfl) (Nat.le_of_ble_eq_true rfl) ?_
      refine z_topBI (lo := (-1)) (hi := 2147483647) ⟨by split <;> omega, by split <;> omega⟩ (fun x14 ex14 ax14 bx14 => ?_)
      refine z_iastH (M := M_X9_tie) 69 dX9_tie_69 o_41 (by omega) (by omega) (u_41 G8) (R8.up rfl) (fun h9 E9 G9 R9 => ?_)
      exact z_retV (M := M_X9_tie) 70 dX9_tie_70 rfl ⟨G9, R9⟩
  · exact z_retV (M := M_X9_tie) 11 dX9_tie_11 rfl ⟨G1, R1⟩
abbrev P_X9_tieCut (h0 : m_H) (a1 : Int) : m_H → Prop := fun h' => GI h' ∧ FR [39, 40, 41] [] h0 h'
def q_X9_tieCut (h0 : m_H) (a1 : Int) (n : Nat) : Prop := (∀ (l2 : Int) (h : m_H), GI h → FR [39, 40, 41] [] h0 h → 0 ≤ l2 → l2 ≤ 4 → 2 * (4 - l2) + (1) ≤ (n : Int) → m_Z oF M_X9_tieCut 2 [some (mR 38), some (mI a1), some (mI l2), none, none] [] h (m_QV (P_X9_tieCut h0 a1)))
set_option maxHeartbeats 4000000 in
set_option maxRecDepth 100000 in
theorem s_X9_tieCut_2 (h0 : m_H) (a1 : Int) (G0 : GI h0) (pa1 : 0 ≤ a1 ∧ a1 ≤ 5) (n : Nat) (ih : q_X9_tieCut h0 a1 n) : ∀ (l2 : Int) (h : m_H), GI h → FR [39, 40, 41] [] h0 h → 0 ≤ l2 → l2 ≤ 4 → 2 * (4 - l2) + (1) ≤ ((n + 1 : Nat) : Int) → m_Z oF M_X9_tieCut 2 [some (mR 38), some (mI a1), some (mI l2), none, none] [] h (m_QV (P_X9_tieCut h0 a1)) := by
  intro l2 h G R v0 v1 hr
  refine z_iload_n (M := M_X9_tieCut) 2 dX9_tieCut_2 rfl ?_
  refine z_iconst (M := M_X9_tieCut) 3 dX9_tieCut_3 ?_
  refine z_icmp_ge (M := M_X9_tieCut) 4 dX9_tieCut_4 78 rfl (fun c1 => ?_) (fun c1 => ?_)
  · exact z_retV (M := M_X9_tieCut) 78 dX9_tieCut_78 rfl ⟨G, R⟩
  · refine z_iload_n (M := M_X9_tieCut) 7 dX9_tieCut_7 rfl ?_
    refine z_iconst (M := M_X9_tieCut) 8 dX9_tieCut_8 ?_
    refine z_imulN (M := M_X9_tieCut) 9 dX9_tieCut_9 (by omega) (by omega) ?_
    refine z_iload_n (M := M_X9_tieCut) 10 dX9_tieCut_10 rfl ?_
    refine z_iaddN (M := M_X9_tieCut) 11 dX9_tieCut_11 (by omega) (by omega) ?_
    refine z_istore_n (M := M_X9_tieCut) 12 dX9_tieCut_12 (ls' := [some (mR 38), some (mI a1), some (mI l2), some (mI ((a1 * 4) + l2)), none]) (by decide) rfl ?_
    refine z_iload_n (M := M_X9_tieCut) 13 dX9_tieCut_13 rfl ?_
    refine z_bipush (M := M_X9_tieCut) 14 dX9_tieCut_14 ?_
    refine z_iaddN (M := M_X9_tieCut) 16 dX9_tieCut_16 (by omega) (by omega) ?_
    refine z_iconst (M := M_X9_tieCut) 17 dX9_tieCut_17 ?_
    refine z_imulN (M := M_X9_tieCut) 18 dX9_tieCut_18 (by omega) (by omega) ?_
    refine z_iload_n (M := M_X9_tieCut) 19 dX9_tieCut_19 rfl ?_
    refine z_iaddN (M := M_X9_tieCut) 20 dX9_tieCut_20 (by omega) (by omega) ?_
    refine z_istore (M := M_X9_tieCut) 21 dX9_tieCut_21 (ls' := [some (mR 38), some (mI a1), some (mI l2), some (mI ((a1 * 4) + l2)), some (mI (((a1 + 6) * 4) + l2))]) (by decide) rfl ?_
    refine z_aload_n (M := M_X9_tieCut) 23 dX9_tieCut_23 rfl ?_
    refine z_getR (M := M_X9_tieCut) 24 dX9_tieCut_24 f_X9_9 o_38 rfl (g_38_0 G) ?_
    refine z_iload_n (M := M_X9_tieCut) 27 dX9_tieCut_27 rfl ?_
    refine z_ialdV (M := M_X9_tieCut) 28 dX9_tieCut_28 o_39 (by omega) (by omega) (fun x2 ex2 => ?_)
    refine z_ok (fun ox2 _ _ => ?_)
    have ox2 := ox2.1; unfold m_ok m_32 at ox2
    refine z_if_eq (M := M_X9_tieCut) 29 dX9_tieCut_29 50 rfl (fun c3 => ?_) (fun c3 => ?_)
    · refine z_aload_n (M := M_X9_tieCut) 50 dX9_tieCut_50 rfl ?_
      refine z_getR (M := M_X9_tieCut) 51 dX9_tieCut_51 f_X9_19 o_38 rfl (g_38_2 G) ?_
      refine z_iload_n (M := M_X9_tieCut) 54 dX9_tieCut_54 rfl ?_
      refine z_aload_n (M := M_X9_tieCut) 55 dX9_tieCut_55 rfl ?_
      refine z_getR (M := M_X9_tieCut) 56 dX9_tieCut_56 f_X9_19 o_38 rfl (g_38_2 G) ?_
      refine z_iload_n (M := M_X9_tieCut) 59 dX9_tieCut_59 rfl ?_
      refine z_ialdV (M := M_X9_tieCut) 60 dX9_tieCut_60 o_41 (by omega) (by omega) (fun x4 ex4 => ?_)
      refine z_ok (fun ox4 _ _ => ?_)
      have ox4 := ox4.1; unfold m_ok m_32 at ox4
      refine z_aload_n (M := M_X9_tieCut) 61 dX9_tieCut_61 rfl ?_
      refine z_getR (M := M_X9_tieCut) 62 dX9_tieCut_62 f_X9_19 o_38 rfl (g_38_2 G) ?_
      refine z_iload (M := M_X9_tieCut) 65 dX9_tieCut_65 rfl ?_
      refine z_ialdV (M := M_X9_tieCut) 67 dX9_tieCut_67 o_41 (by omega) (by omega) (fun x5 ex5 => ?_)
      refine z_ok (fun ox5 _ _ => ?_)
      have ox5 := ox5.1; unfold m_ok m_32 at ox5
      refine z_maxI (M := M_X9_tieCut) 68 dX9_tieCut_68 ml_X9_112 (rest := [mI ((a1 * 4) + l2), mR 41]) (Nat.le_of_ble_eq_true rfl) (Nat.le_of_ble_eq_true rfl) ?_
      refine z_topBI (lo := (-2147483648)) (hi := 2147483647) ⟨by split <;> omega, by split <;> omega⟩ (fun x6 ex6 ax6 bx6 => ?_)
      refine z_iastH (M := M_X9_tieCut) 71 dX9_tieCut_71 o_41 (by omega) (by omega) (u_41 G) (R.up rfl) (fun h1 E1 G1 R1 => ?_)
      refine z_iincN (M := M_X9_tieCut) 72 dX9_tieCut_72 (ls' := [some (mR 38), some (mI a1), some (mI (l2 + 1)), some (mI ((a1 * 4) + l2)), some (mI (((a1 + 6) * 4) + l2))]) (by decide) rfl (by (unfold m_32; decide)) (by omega) (by omega) rfl ?_
      refine z_goto (M := M_X9_tieCut) 75 dX9_tieCut_75 2 rfl ?_
      exact z_mask [true, true, true, false, false] rfl (ih (l2 + 1) h1 G1 R1 (by omega) (by omega) (by omega))
    · refine z_aload_n (M := M_X9_tieCut) 32 dX9_tieCut_32 rfl ?_
      refine z_iload (M := M_X9_tieCut) 33 dX9_tieCut_33 rfl ?_
      refine z_aload_n (M := M_X9_tieCut) 35 dX9_tieCut_35 rfl ?_
      refine z_getR (M := M_X9_tieCut) 36 dX9_tieCut_36 f_X9_9 o_38 rfl (g_38_0 G) ?_
      refine z_iload_n (M := M_X9_tieCut) 39 dX9_tieCut_39 rfl ?_
      refine z_ialdE (M := M_X9_tieCut) 40 dX9_tieCut_40 o_39 (by omega) (by omega) ex2 ?_
      refine z_aload_n (M := M_X9_tieCut) 41 dX9_tieCut_41 rfl ?_
      refine z_getR (M := M_X9_tieCut) 42 dX9_tieCut_42 f_X9_15 o_38 rfl (g_38_1 G) ?_
      refine z_iload_n (M := M_X9_tieCut) 45 dX9_tieCut_45 rfl ?_
      refine z_zaldG (M := M_X9_tieCut) 46 dX9_tieCut_46 o_40 (by omega) (by omega) (g_40 G (by omega)) (fun x7 ex7 ax7 bx7 => ?_)
      refine z_vV (M := M_X9_tieCut) 47 dX9_tieCut_47 t_X9_lower l_X9_105 (m_rr_of rfl) (rest := []) (c_X9_lower h (((a1 + 6) * 4) + l2) x2 x7 G ⟨by omega, by omega⟩ ⟨by omega, by omega⟩) o_38 rfl rfl rfl (Nat.le_of_ble_eq_true rfl) ⟨rfl, rfl⟩ (fun h2 qx8 => ?_)
      obtain ⟨G2, S2⟩ := qx8
      have R2 := R.call S2 (by decide +kernel)
      refine z_aload_n (M := M_X9_tieCut) 50 dX9_tieCut_50 rfl ?_
      refine z_getR (M := M_X9_tieCut) 51 dX9_tieCut_51 f_X9_19 o_38 rfl (g_38_2 G2) ?_
      refine z_iload_n (M := M_X9_tieCut) 54 dX9_tieCut_54 rfl ?_
      refine z_aload_n (M := M_X9_tieCut) 55 dX9_tieCut_55 rfl ?_
      refine z_getR (M := M_X9_tieCut) 56 dX9_tieCut_56 f_X9_19 o_38 rfl (g_38_2 G2) ?_
      refine z_iload_n (M := M_X9_tieCut) 59 dX9_tieCut_59 rfl ?_
      refine z_ialdV (M := M_X9_tieCut) 60 dX9_tieCut_60 o_41 (by omega) (by omega) (fun x9 ex9 => ?_)
      refine z_ok (fun ox9 _ _ => ?_)
      have ox9 := ox9.1; unfold m_ok m_32 at ox9
      refine z_aload_n (M := M_X9_tieCut) 61 dX9_tieCut_61 rfl ?_
      refine z_getR (M := M_X9_tieCut) 62 dX9_tieCut_62 f_X9_19 o_38 rfl (g_38_2 G2) ?_
      refine z_iload (M := M_X9_tieCut) 65 dX9_tieCut_65 rfl ?_
      refine z_ialdV (M := M_X9_tieCut) 67 dX9_tieCut_67 o_41 (by omega) (by omega) (fun x10 ex10 => ?_)
      refine z_ok (fun ox10 _ _ => ?_)
      have ox10 := ox10.1; unfold m_ok m_32 at ox10
      refine z_maxI (M := M_X9_tieCut) 68 dX9_tieCut_68 ml_X9_112 (rest := [mI ((a1 * 4) + l2), mR 41]) (Nat.le_of_ble_eq_true rfl) (Nat.le_of_ble_eq_true rfl) ?_
      refine z_topBI (lo := (-2147483648)) (hi := 2147483647) ⟨by split <;> omega, by split <;> omega⟩ (fun x11 ex11 ax11 bx11 => ?_)
      refine z_iastH (M := M_X9_tieCut) 71 dX9_tieCut_71 o_41 (by omega) (by omega) (u_41 G2) (R2.up rfl) (fun h3 E3 G3 R3 => ?_)
      refine z_iincN (M := M_X9_tieCut) 72 dX9_tieCut_72 (ls' := [some (mR 38), some (mI a1), some (mI (l2 + 1)), some (mI ((a1 * 4) + l2)), some (mI (((a1 + 6) * 4) + l2))]) (by decide) rfl (by (unfold m_32; decide)) (by omega) (by omega) rfl ?_
      refine z_goto (M := M_X9_tieCut) 75 dX9_tieCut_75 2 rfl ?_
      exact z_mask [true, true, true, false, false] rfl (ih (l2 + 1) h3 G3 R3 (by omega) (by omega) (by omega))
theorem a_X9_tieCut (h0 : m_H) (a1 : Int) (G0 : GI h0) (pa1 : 0 ≤ a1 ∧ a1 ≤ 5) : ∀ n, q_X9_tieCut h0 a1 n := by
  intro n
  induction n with
  | zero => unfold q_X9_tieCut; intros; omega
  | succ n ih => exact s_X9_tieCut_2 h0 a1 G0 pa1 n ih
set_option maxHeartbeats 4000000 in
set_option maxRecDepth 100000 in
theorem c_X9_tieCut (h0 : m_H) (a1 : Int) (G0 : GI h0) (pa1 : 0 ≤ a1 ∧ a1 ≤ 5) : m_CV M_X9_tieCut [mR 38, mI a1] h0 (P_X9_tieCut h0 a1) := by
  refine m_CV_of ⟨by decide, rfl, by simp [m_arg, m_isL, M_X9_tieCut], ⟨rfl, rfl⟩, rfl, rfl⟩ (ls := [some (mR 38), some (mI a1), none, none, none]) rfl ?_
  have ih := a_X9_tieCut h0 a1 G0 pa1 16
  refine z_iconst (M := M_X9_tieCut) 0 dX9_tieCut_0 ?_
  refine z_istore_n (M := M_X9_tieCut) 1 dX9_tieCut_1 (ls' := [some (mR 38), some (mI a1), some (mI 0), none, none]) (by decide) rfl ?_
  exact z_mask [true, true, true, false, false] rfl (ih 0 h0 G0 (FR.rf (cs := [39, 40, 41]) (ss := []) (h := h0)) (by omega) (by omega) (by omega))
abbrev P_X9_stepOver (h0 : m_H) (a1 : Int) : m_H → Prop := fun h' => GI h' ∧ FR (csB ++ []) [] h0 h'
def q_X9_stepOver (h0 : m_H) (a1 : Int) (n : Nat) : Prop := (∀ (l3 : Int) (h : m_H), GI h → FR (csB ++ []) [] h0 h → 0 ≤ l3 → l3 ≤ 4 → 13 * (4 - l3) + (12) ≤ (n : Int) → m_Z oF M_X9_stepOver 6 [some (mR 38), none, some (mI (a1 * 4)), some (mI l3), none] [] h (m_QV (P_X9_stepOver h0 a1))) ∧ (∀ (l3 l4 : Int) (h : m_H), GI h → FR (csB ++ []) [] h0 h → 0 ≤ l3 → l3 ≤ 3 → 0 ≤ l4 → l4 ≤ 4 → 13 * (4 - l3) + 2 * (4 - l4) + (1) ≤ (n : Int) → m_Z oF M_X9_stepOver 28 [some (mR 38), none, some (mI (a1 * 4)), some (mI l3), some (mI l4)] [] h (m_QV (P_X9_stepOver h0 a1)))
set_option maxHeartbeats 4000000 in
set_option maxRecDepth 100000 in
theorem s_X9_stepOver_6 (h0 : m_H) (a1 : Int) (G0 : GI h0) (pa1 : 0 ≤ a1 ∧ a1 ≤ 11) (n : Nat) (ih : q_X9_stepOver h0 a1 n) : ∀ (l3 : Int) (h : m_H), GI h → FR (csB ++ []) [] h0 h → 0 ≤ l3 → l3 ≤ 4 → 13 * (4 - l3) + (12) ≤ ((n + 1 : Nat) : Int) → m_Z oF M_X9_stepOver 6 [some (mR 38), none, some (mI (a1 * 4)), some (mI l3), none] [] h (m_QV (P_X9_stepOver h0 a1)) := by
  intro l3 h G R v0 v1 hr
  refine z_iload_n (M := M_X9_stepOver) 6 dX9_stepOver_6 rfl ?_
  refine z_iconst (M := M_X9_stepOver) 7 dX9_stepOver_7 ?_
  refine z_icmp_ge (M := M_X9_stepOver) 8 dX9_stepOver_8 100 rfl (fun c1 => ?_) (fun c1 => ?_)
  · exact z_retV (M := M_X9_stepOver) 100 dX9_stepOver_100 rfl ⟨G, R⟩
  · refine z_aload_n (M := M_X9_stepOver) 11 dX9_stepOver_11 rfl ?_
    refine z_getR (M := M_X9_stepOver) 12 dX9_stepOver_12 f_X9_19 o_38 rfl (g_38_2 G) ?_
    refine z_iload_n (M := M_X9_stepOver) 15 dX9_stepOver_15 rfl ?_
    refine z_iload_n (M := M_X9_stepOver) 16 dX9_stepOver_16 rfl ?_
    refine z_iaddN (M := M_X9_stepOver) 17 dX9_stepOver_17 (by omega) (by omega) ?_
    refine z_ialdV (M := M_X9_stepOver) 18 dX9_stepOver_18 o_41 (by omega) (by omega) (fun x2 ex2 => ?_)
    refine z_ok (fun ox2 _ _ => ?_)
    have ox2 := ox2.1; unfold m_ok m_32 at ox2
    refine z_if_ne (M := M_X9_stepOver) 19 dX9_stepOver_19 25 rfl (fun c3 => ?_) (fun c3 => ?_)
    · refine z_iconst (M := M_X9_stepOver) 25 dX9_stepOver_25 ?_
      refine z_istore (M := M_X9_stepOver) 26 dX9_stepOver_26 (ls' := [some (mR 38), none, some (mI (a1 * 4)), some (mI l3), some (mI 0)]) (by decide) rfl ?_
      exact z_mask [true, false, true, true, true] rfl (ih.2 l3 0 h G R (by omega) (by omega) (by omega) (by omega) (by omega))
    · refine z_goto (M := M_X9_stepOver) 22 dX9_stepOver_22 94 rfl ?_
      refine z_iincN (M := M_X9_stepOver) 94 dX9_stepOver_94 (ls' := [some (mR 38), none, some (mI (a1 * 4)), some (mI (l3 + 1)), none]) (by decide) rfl (by (unfold m_32; decide)) (by omega) (by omega) rfl ?_
      refine z_goto (M := M_X9_stepOver) 97 dX9_stepOver_97 6 rfl ?_
      exact z_mask [true, false, true, true, false] rfl (ih.1 (l3 + 1) h G R (by omega) (by omega) (by omega))
set_option maxHeartbeats 4000000 in
set_option maxRecDepth 100000 in
theorem s_X9_stepOver_28 (h0 : m_H) (a1 : Int) (G0 : GI h0) (pa1 : 0 ≤ a1 ∧ a1 ≤ 11) (n : Nat) (ih : q_X9_stepOver h0 a1 n) : ∀ (l3 l4 : Int) (h : m_H), GI h → FR (csB ++ []) [] h0 h → 0 ≤ l3 → l3 ≤ 3 → 0 ≤ l4 → l4 ≤ 4 → 13 * (4 - l3) + 2 * (4 - l4) + (1) ≤ ((n + 1 : Nat) : Int) → m_Z oF M_X9_stepOver 28 [some (mR 38), none, some (mI (a1 * 4)), some (mI l3), some (mI l4)] [] h (m_QV (P_X9_stepOver h0 a1)) := by
  intro l3 l4 h G R v0 v1 v2 v3 hr
  refine z_iload (M := M_X9_stepOver) 28 dX9_stepOver_28 rfl ?_
  refine z_iconst (M := M_X9_stepOver) 30 dX9_stepOver_30 ?_
  refine z_icmp_ge (M := M_X9_stepOver) 31 dX9_stepOver_31 94 rfl (fun c1 => ?_) (fun c1 => ?_)
  · refine z_iincN (M := M_X9_stepOver) 94 dX9_stepOver_94 (ls' := [some (mR 38), none, some (mI (a1 * 4)), some (mI (l3 + 1)), some (mI l4)]) (by decide) rfl (by (unfold m_32; decide)) (by omega) (by omega) rfl ?_
    refine z_goto (M := M_X9_stepOver) 97 dX9_stepOver_97 6 rfl ?_
    exact z_mask [true, false, true, true, false] rfl (ih.1 (l3 + 1) h G R (by omega) (by omega) (by omega))
  · refine z_aload_n (M := M_X9_stepOver) 34 dX9_stepOver_34 rfl ?_
    refine z_getR (M := M_X9_stepOver) 35 dX9_stepOver_35 f_X9_9 o_38 rfl (g_38_0 G) ?_
    refine z_iload_n (M := M_X9_stepOver) 38 dX9_stepOver_38 rfl ?_
    refine z_iload (M := M_X9_stepOver) 39 dX9_stepOver_39 rfl ?_
    refine z_iaddN (M := M_X9_stepOver) 41 dX9_stepOver_41 (by omega) (by omega) ?_
    refine z_ialdV (M := M_X9_stepOver) 42 dX9_stepOver_42 o_39 (by omega) (by omega) (fun x2 ex2 => ?_)
    refine z_ok (fun ox2 _ _ => ?_)
    have ox2 := ox2.1; unfold m_ok m_32 at ox2
    refine z_if_eq (M := M_X9_stepOver) 43 dX9_stepOver_43 88 rfl (fun c3 => ?_) (fun c3 => ?_)
    · refine z_iincN (M := M_X9_stepOver) 88 dX9_stepOver_88 (ls' := [some (mR 38), none, some (mI (a1 * 4)), some (mI l3), some (mI (l4 + 1))]) (by decide) rfl (by (unfold m_32; decide)) (by omega) (by omega) rfl ?_
      refine z_goto (M := M_X9_stepOver) 91 dX9_stepOver_91 28 rfl ?_
      exact z_mask [true, false, true, true, true] rfl (ih.2 l3 (l4 + 1) h G R (by omega) (by omega) (by omega) (by omega) (by omega))
    · refine z_aload_n (M := M_X9_stepOver) 46 dX9_stepOver_46 rfl ?_
      refine z_getR (M := M_X9_stepOver) 47 dX9_stepOver_47 f_X9_26 o_38 rfl (g_38_3 G) ?_
      refine z_iload_n (M := M_X9_stepOver) 50 dX9_stepOver_50 rfl ?_
      refine z_iconst (M := M_X9_stepOver) 51 dX9_stepOver_51 ?_
      refine z_imulN (M := M_X9_stepOver) 52 dX9_stepOver_52 (by omega) (by omega) ?_
      refine z_iload (M := M_X9_stepOver) 53 dX9_stepOver_53 rfl ?_
      refine z_iaddN (M := M_X9_stepOver) 55 dX9_stepOver_55 (by omega) (by omega) ?_
      have hb4 := isB_42 (i := ((l3 * 4) + l4)) (by omega) (by omega)
      refine z_aaldB (M := M_X9_stepOver) 56 dX9_stepOver_56 o_42 (by omega) (by omega) (g_42 G (by omega)) ?_
      refine z_aload_n (M := M_X9_stepOver) 57 dX9_stepOver_57 rfl ?_
      refine z_getR (M := M_X9_stepOver) 58 dX9_stepOver_58 f_X9_9 o_38 rfl (g_38_0 G) ?_
      refine z_iload_n (M := M_X9_stepOver) 61 dX9_stepOver_61 rfl ?_
      refine z_iload (M := M_X9_stepOver) 62 dX9_stepOver_62 rfl ?_
      refine z_iaddN (M := M_X9_stepOver) 64 dX9_stepOver_64 (by omega) (by omega) ?_
      refine z_ialdE (M := M_X9_stepOver) 65 dX9_stepOver_65 o_39 (by omega) (by omega) ex2 ?_
      refine z_i2l (M := M_X9_stepOver) 66 dX9_stepOver_66 ?_
      refine z_aload_n (M := M_X9_stepOver) 67 dX9_stepOver_67 rfl ?_
      refine z_getR (M := M_X9_stepOver) 68 dX9_stepOver_68 f_X9_19 o_38 rfl (g_38_2 G) ?_
      refine z_iload_n (M := M_X9_stepOver) 71 dX9_stepOver_71 rfl ?_
      refine z_iload_n (M := M_X9_stepOver) 72 dX9_stepOver_72 rfl ?_
      refine z_iaddN (M := M_X9_stepOver) 73 dX9_stepOver_73 (by omega) (by omega) ?_
      refine z_ialdV (M := M_X9_stepOver) 74 dX9_stepOver_74 o_41 (by omega) (by omega) (fun x5 ex5 => ?_)
      refine z_ok (fun ox5 _ _ => ?_)
      have ox5 := ox5.1; unfold m_ok m_32 at ox5
      refine z_i2l (M := M_X9_stepOver) 75 dX9_stepOver_75 ?_
      refine z_aload_n (M := M_X9_stepOver) 76 dX9_stepOver_76 rfl ?_
      refine z_getR (M := M_X9_stepOver) 77 dX9_stepOver_77 f_X9_15 o_38 rfl (g_38_1 G) ?_
      refine z_iload_n (M := M_X9_stepOver) 80 dX9_stepOver_80 rfl ?_
      refine z_iload (M := M_X9_stepOver) 81 dX9_stepOver_81 rfl ?_
      refine z_iaddN (M := M_X9_stepOver) 83 dX9_stepOver_83 (by omega) (by omega) ?_
      refine z_zaldG (M := M_X9_stepOver) 84 dX9_stepOver_84 o_40 (by omega) (by omega) (g_40 G (by omega)) (fun x6 ex6 ax6 bx6 => ?_)
      refine z_vV (M := M_X9_stepOver) 85 dX9_stepOver_85 t_X2_lessen l_X9_66 (m_rr_of rfl) (rest := []) (c_X2_lessen h (43 + (((l3 * 4) + l4)).toNat) x2 x5 x6 hb4 G ⟨by omega, by omega⟩) (oB hb4) rfl rfl rfl (Nat.le_of_ble_eq_true rfl) ⟨rfl, rfl⟩ (fun h1 qx7 => ?_)
      obtain ⟨G1, S1⟩ := qx7
      have R1 := R.call S1 (by decide +kernel)
      refine z_iincN (M := M_X9_stepOver) 88 dX9_stepOver_88 (ls' := [some (mR 38), none, some (mI (a1 * 4)), some (mI l3), some (mI (l4 + 1))]) (by decide) rfl (by (unfold m_32; decide)) (by omega) (by omega) rfl ?_
      refine z_goto (M := M_X9_stepOver) 91 dX9_stepOver_91 28 rfl ?_
      exact z_mask [true, false, true, true, true] rfl (ih.2 l3 (l4 + 1) h1 G1 R1 (by omega) (by omega) (by omega) (by omega) (by omega))
theorem a_X9_stepOver (h0 : m_H) (a1 : Int) (G0 : GI h0) (pa1 : 0 ≤ a1 ∧ a1 ≤ 11) : ∀ n, q_X9_stepOver h0 a1 n := by
  intro n
  induction n with
  | zero => unfold q_X9_stepOver; refine ⟨?_, ?_⟩ <;> (intros; omega)
  | succ n ih => exact ⟨s_X9_stepOver_6 h0 a1 G0 pa1 n ih, s_X9_stepOver_28 h0 a1 G0 pa1 n ih⟩
set_option maxHeartbeats 4000000 in
set_option maxRecDepth 100000 in
theorem c_X9_stepOver (h0 : m_H) (a1 : Int) (G0 : GI h0) (pa1 : 0 ≤ a1 ∧ a1 ≤ 11) : m_CV M_X9_stepOver [mR 38, mI a1] h0 (P_X9_stepOver h0 a1) := by
  refine m_CV_of ⟨by decide, rfl, by simp [m_arg, m_isL, M_X9_stepOver], ⟨rfl, rfl⟩, rfl, rfl⟩ (ls := [some (mR 38), some (mI a1), none, none, none]) rfl ?_
  have ih := a_X9_stepOver h0 a1 G0 pa1 71
  refine z_iload_n (M := M_X9_stepOver) 0 dX9_stepOver_0 rfl ?_
  refine z_iconst (M := M_X9_stepOver) 1 dX9_stepOver_1 ?_
  refine z_imulN (M := M_X9_stepOver) 2 dX9_stepOver_2 (by omega) (by omega) ?_
  refine z_istore_n (M := M_X9_stepOver) 3 dX9_stepOver_3 (ls' := [some (mR 38), some (mI a1), some (mI (a1 * 4)), none, none]) (by decide) rfl ?_
  refine z_iconst (M := M_X9_stepOver) 4 dX9_stepOver_4 ?_
  refine z_istore_n (M := M_X9_stepOver) 5 dX9_stepOver_5 (ls' := [some (mR 38), some (mI a1), some (mI (a1 * 4)), some (mI 0), none]) (by decide) rfl ?_
  exact z_mask [true, false, true, true, false] rfl (ih.1 0 h0 G0 (FR.rf (cs := (csB ++ [])) (ss := []) (h := h0)) (by omega) (by omega) (by omega))
abbrev P_X9_eachFootHolds (h0 : m_H) : Int → m_H → Prop := fun x h' => GI h' ∧ FR [] [] h0 h' ∧ 0 ≤ x ∧ x ≤ 1
def q_X9_eachFootHolds (h0 : m_H) (n : Nat) : Prop := (∀ (l1 : Int) (h : m_H), GI h → FR [] [] h0 h → 0 ≤ l1 → l1 ≤ 4 → 2 * (4 - l1) + (1) ≤ (n : Int) → m_Z oF M_X9_eachFootHolds 2 [some (mR 38), some (mI l1)] [] h (m_QI (P_X9_eachFootHolds h0)))
set_option maxHeartbeats 4000000 in
set_option maxRecDepth 100000 in
theorem s_X9_eachFootHolds_2 (h0 : m_H) (G0 : GI h0) (n : Nat) (ih : q_X9_eachFootHolds h0 n) : ∀ (l1 : Int) (h : m_H), GI h → FR [] [] h0 h → 0 ≤ l1 → l1 ≤ 4 → 2 * (4 - l1) + (1) ≤ ((n + 1 : Nat) : Int) → m_Z oF M_X9_eachFootHolds 2 [some (mR 38), some (mI l1)] [] h (m_QI (P_X9_eachFootHolds h0)) := by
  intro l1 h G R v0 v1 hr
  refine z_iload_n (M := M_X9_eachFootHolds) 2 dX9_eachFootHolds_2 rfl ?_
  refine z_iconst (M := M_X9_eachFootHolds) 3 dX9_eachFootHolds_3 ?_
  refine z_icmp_ge (M := M_X9_eachFootHolds) 4 dX9_eachFootHolds_4 31 rfl (fun c1 => ?_) (fun c1 => ?_)
  · refine z_iconst (M := M_X9_eachFootHolds) 31 dX9_eachFootHolds_31 ?_
    exact z_retZ (M := M_X9_eachFootHolds) 32 dX9_eachFootHolds_32 rfl (by omega) ⟨G, R, by omega, by omega⟩
  · refine z_aload_n (M := M_X9_eachFootHolds) 7 dX9_eachFootHolds_7 rfl ?_
    refine z_getR (M := M_X9_eachFootHolds) 8 dX9_eachFootHolds_8 f_X9_26 o_38 rfl (g_38_3 G) ?_
    refine z_iload_n (M := M_X9_eachFootHolds) 11 dX9_eachFootHolds_11 rfl ?_
    refine z_iconst (M := M_X9_eachFootHolds) 12 dX9_eachFootHolds_12 ?_
    refine z_imulN (M := M_X9_eachFootHolds) 13 dX9_eachFootHolds_13 (by omega) (by omega) ?_
    refine z_iload_n (M := M_X9_eachFootHolds) 14 dX9_eachFootHolds_14 rfl ?_
    refine z_iaddN (M := M_X9_eachFootHolds) 15 dX9_eachFootHolds_15 (by omega) (by omega) ?_
    have hb2 := isB_42 (i := ((l1 * 4) + l1)) (by omega) (by omega)
    refine z_aaldB (M := M_X9_eachFootHolds) 16 dX9_eachFootHolds_16 o_42 (by omega) (by omega) (g_42 G (by omega)) ?_
    refine z_vI (M := M_X9_eachFootHolds) 17 dX9_eachFootHolds_17 t_X2_isBelowOne l_X9_118 (m_rr_of rfl) (rest := []) (c_X2_isBelowOne h (43 + (((l1 * 4) + l1)).toNat) hb2 G) (oB hb2) rfl rfl rfl (Nat.le_of_ble_eq_true rfl) ⟨rfl, rfl⟩ (fun x3 h1 qx3 => ?_)
    obtain ⟨G1, S1, ax3, bx3⟩ := qx3
    have R1 := R.call S1 (by decide +kernel)
    refine z_if_eq (M := M_X9_eachFootHolds) 20 dX9_eachFootHolds_20 25 rfl (fun c4 => ?_) (fun c4 => ?_)
    · refine z_iincN (M := M_X9_eachFootHolds) 25 dX9_eachFootHolds_25 (ls' := [some (mR 38), some (mI (l1 + 1))]) (by decide) rfl (by (unfold m_32; decide)) (by omega) (by omega) rfl ?_
      refine z_goto (M := M_X9_eachFootHolds) 28 dX9_eachFootHolds_28 2 rfl ?_
      exact z_mask [true, true] rfl (ih (l1 + 1) h1 G1 R1 (by omega) (by omega) (by omega))
    · refine z_iconst (M := M_X9_eachFootHolds) 23 dX9_eachFootHolds_23 ?_
      exact z_retZ (M := M_X9_eachFootHolds) 24 dX9_eachFootHolds_24 rfl (by omega) ⟨G1, R1, by omega, by omega⟩
theorem a_X9_eachFootHolds (h0 : m_H) (G0 : GI h0) : ∀ n, q_X9_eachFootHolds h0 n := by
  intro n
  induction n with
  | zero => unfold q_X9_eachFootHolds; intros; omega
  | succ n ih => exact s_X9_eachFootHolds_2 h0 G0 n ih
set_option maxHeartbeats 4000000 in
set_option maxRecDepth 100000 in
theorem c_X9_eachFootHolds (h0 : m_H) (G0 : GI h0) : m_CI M_X9_eachFootHolds [mR 38] h0 (P_X9_eachFootHolds h0) := by
  refine m_CI_of ⟨by decide, rfl, by simp [m_arg, m_isL, M_X9_eachFootHolds], ⟨rfl, rfl⟩, rfl, rfl⟩ (ls := [some (mR 38), none]) rfl ?_
  have ih := a_X9_eachFootHolds h0 G0 16
  refine z_iconst (M := M_X9_eachFootHolds) 0 dX9_eachFootHolds_0 ?_
  refine z_istore_n (M := M_X9_eachFootHolds) 1 dX9_eachFootHolds_1 (ls' := [some (mR 38), some (mI 0)]) (by decide) rfl ?_
  exact z_mask [true, true] rfl (ih 0 h0 G0 (FR.rf (cs := []) (ss := []) (h := h0)) (by omega) (by omega) (by omega))
abbrev P_X9_feetHoldTogether (h0 : m_H) : Int → m_H → Prop := fun x h' => GI h' ∧ FR [] [] h0 h' ∧ 0 ≤ x ∧ x ≤ 1
def q_X9_feetHoldTogether (h0 : m_H) (n : Nat) : Prop := (∀ (l1 : Int) (h : m_H), GI h → FR [] [] h0 h → 0 ≤ l1 → l1 ≤ 4 → 11 * (4 - l1) + (10) ≤ (n : Int) → m_Z oF M_X9_feetHoldTogether 2 [some (mR 38), some (mI l1), none, none] [] h (m_QI (P_X9_feetHoldTogether h0))) ∧ (∀ (l1 l2 : Int) (h : m_H), GI h → FR [] [] h0 h → 0 ≤ l1 → l1 ≤ 3 → 0 ≤ l2 → l2 ≤ 3 → 11 * (4 - l1) + 2 * (3 - l2) + (1) ≤ (n : Int) → m_Z oF M_X9_feetHoldTogether 9 [some (mR 38), some (mI l1), some (mI l2), none] [] h (m_QI (P_X9_feetHoldTogether h0)))
set_option maxHeartbeats 4000000 in
set_option maxRecDepth 100000 in
theorem s_X9_feetHoldTogether_2 (h0 : m_H) (G0 : GI h0) (n : Nat) (ih : q_X9_feetHoldTogether h0 n) : ∀ (l1 : Int) (h : m_H), GI h → FR [] [] h0 h → 0 ≤ l1 → l1 ≤ 4 → 11 * (4 - l1) + (10) ≤ ((n + 1 : Nat) : Int) → m_Z oF M_X9_feetHoldTogether 2 [some (mR 38), some (mI l1), none, none] [] h (m_QI (P_X9_feetHoldTogether h0)) := by
  intro l1 h G R v0 v1 hr
  refine z_iload_n (M := M_X9_feetHoldTogether) 2 dX9_feetHoldTogether_2 rfl ?_
  refine z_iconst (M := M_X9_feetHoldTogether) 3 dX9_feetHoldTogether_3 ?_
  refine z_icmp_ge (M := M_X9_feetHoldTogether) 4 dX9_feetHoldTogether_4 56 rfl (fun c1 => ?_) (fun c1 => ?_)
  · refine z_iconst (M := M_X9_feetHoldTogether) 56 dX9_feetHoldTogether_56 ?_
    exact z_retZ (M := M_X9_feetHoldTogether) 57 dX9_feetHoldTogether_57 rfl (by omega) ⟨G, R, by omega, by omega⟩
  · refine z_iconst (M := M_X9_feetHoldTogether) 7 dX9_feetHoldTogether_7 ?_
    refine z_istore_n (M := M_X9_feetHoldTogether) 8 dX9_feetHoldTogether_8 (ls' := [some (mR 38), some (mI l1), some (mI 0), none]) (by decide) rfl ?_
    exact z_mask [true, true, true, false] rfl (ih.2 l1 0 h G R (by omega) (by omega) (by omega) (by omega) (by omega))
set_option maxHeartbeats 4000000 in
set_option maxRecDepth 100000 in
theorem s_X9_feetHoldTogether_9 (h0 : m_H) (G0 : GI h0) (n : Nat) (ih : q_X9_feetHoldTogether h0 n) : ∀ (l1 l2 : Int) (h : m_H), GI h → FR [] [] h0 h → 0 ≤ l1 → l1 ≤ 3 → 0 ≤ l2 → l2 ≤ 3 → 11 * (4 - l1) + 2 * (3 - l2) + (1) ≤ ((n + 1 : Nat) : Int) → m_Z oF M_X9_feetHoldTogether 9 [some (mR 38), some (mI l1), some (mI l2), none] [] h (m_QI (P_X9_feetHoldTogether h0)) := by
  intro l1 l2 h G R v0 v1 v2 v3 hr
  refine z_iload_n (M := M_X9_feetHoldTogether) 9 dX9_feetHoldTogether_9 rfl ?_
  refine z_iload_n (M := M_X9_feetHoldTogether) 10 dX9_feetHoldTogether_10 rfl ?_
  refine z_icmp_ge (M := M_X9_feetHoldTogether) 11 dX9_feetHoldTogether_11 50 rfl (fun c1 => ?_) (fun c1 => ?_)
  · refine z_iincN (M := M_X9_feetHoldTogether) 50 dX9_feetHoldTogether_50 (ls' := [some (mR 38), some (mI (l1 + 1)), some (mI l2), none]) (by decide) rfl (by (unfold m_32; decide)) (by omega) (by omega) rfl ?_
    refine z_goto (M := M_X9_feetHoldTogether) 53 dX9_feetHoldTogether_53 2 rfl ?_
    exact z_mask [true, true, false, false] rfl (ih.1 (l1 + 1) h G R (by omega) (by omega) (by omega))
  · refine z_aload_n (M := M_X9_feetHoldTogether) 14 dX9_feetHoldTogether_14 rfl ?_
    refine z_getR (M := M_X9_feetHoldTogether) 15 dX9_feetHoldTogether_15 f_X9_33 o_38 rfl (g_38_5 G) ?_
    refine z_iload_n (M := M_X9_feetHoldTogether) 18 dX9_feetHoldTogether_18 rfl ?_
    refine z_iconst (M := M_X9_feetHoldTogether) 19 dX9_feetHoldTogether_19 ?_
    refine z_imulN (M := M_X9_feetHoldTogether) 20 dX9_feetHoldTogether_20 (by omega) (by omega) ?_
    refine z_iload_n (M := M_X9_feetHoldTogether) 21 dX9_feetHoldTogether_21 rfl ?_
    refine z_iaddN (M := M_X9_feetHoldTogether) 22 dX9_feetHoldTogether_22 (by omega) (by omega) ?_
    have hb2 := isB_76 (i := ((l1 * 4) + l2)) (by omega) (by omega)
    refine z_aaldB (M := M_X9_feetHoldTogether) 23 dX9_feetHoldTogether_23 o_76 (by omega) (by omega) (g_76 G (by omega)) ?_
    refine z_astore_n (M := M_X9_feetHoldTogether) 24 dX9_feetHoldTogether_24 (ls' := [some (mR 38), some (mI l1), some (mI l2), some (mR (77 + (((l1 * 4) + l2)).toNat))]) (by decide) rfl ?_
    refine z_aload_n (M := M_X9_feetHoldTogether) 25 dX9_feetHoldTogether_25 rfl ?_
    refine z_aload_n (M := M_X9_feetHoldTogether) 26 dX9_feetHoldTogether_26 rfl ?_
    refine z_getR (M := M_X9_feetHoldTogether) 27 dX9_feetHoldTogether_27 f_X9_33 o_38 rfl (g_38_5 G) ?_
    refine z_iload_n (M := M_X9_feetHoldTogether) 30 dX9_feetHoldTogether_30 rfl ?_
    refine z_iconst (M := M_X9_feetHoldTogether) 31 dX9_feetHoldTogether_31 ?_
    refine z_imulN (M := M_X9_feetHoldTogether) 32 dX9_feetHoldTogether_32 (by omega) (by omega) ?_
    refine z_iload_n (M := M_X9_feetHoldTogether) 33 dX9_feetHoldTogether_33 rfl ?_
    refine z_iaddN (M := M_X9_feetHoldTogether) 34 dX9_feetHoldTogether_34 (by omega) (by omega) ?_
    have hb3 := isB_76 (i := ((l2 * 4) + l1)) (by omega) (by omega)
    refine z_aaldB (M := M_X9_feetHoldTogether) 35 dX9_feetHoldTogether_35 o_76 (by omega) (by omega) (g_76 G (by omega)) ?_
    refine z_vI (M := M_X9_feetHoldTogether) 36 dX9_feetHoldTogether_36 t_X2_contradicts l_X9_121 (m_rr_of rfl) (rest := []) (c_X2_contradicts h (77 + (((l1 * 4) + l2)).toNat) (77 + (((l2 * 4) + l1)).toNat) hb2 hb3 G) (oB hb2) rfl rfl rfl (Nat.le_of_ble_eq_true rfl) ⟨rfl, rfl⟩ (fun x4 h1 qx4 => ?_)
    obtain ⟨G1, S1, ax4, bx4⟩ := qx4
    have R1 := R.call S1 (by decide +kernel)
    refine z_if_eq (M := M_X9_feetHoldTogether) 39 dX9_feetHoldTogether_39 44 rfl (fun c5 => ?_) (fun c5 => ?_)
    · refine z_iincN (M := M_X9_feetHoldTogether) 44 dX9_feetHoldTogether_44 (ls' := [some (mR 38), some (mI l1), some (mI (l2 + 1)), some (mR (77 + (((l1 * 4) + l2)).toNat))]) (by decide) rfl (by (unfold m_32; decide)) (by omega) (by omega) rfl ?_
      refine z_goto (M := M_X9_feetHoldTogether) 47 dX9_feetHoldTogether_47 9 rfl ?_
      exact z_mask [true, true, true, false] rfl (ih.2 l1 (l2 + 1) h1 G1 R1 (by omega) (by omega) (by omega) (by omega) (by omega))
    · refine z_iconst (M := M_X9_feetHoldTogether) 42 dX9_feetHoldTogether_42 ?_
      exact z_retZ (M := M_X9_feetHoldTogether) 43 dX9_feetHoldTogether_43 rfl (by omega) ⟨G1, R1, by omega, by omega⟩
theorem a_X9_feetHoldTogether (h0 : m_H) (G0 : GI h0) : ∀ n, q_X9_feetHoldTogether h0 n := by
  intro n
  induction n with
  | zero => unfold q_X9_feetHoldTogether; refine ⟨?_, ?_⟩ <;> (intros; omega)
  | succ n ih => exact ⟨s_X9_feetHoldTogether_2 h0 G0 n ih, s_X9_feetHoldTogether_9 h0 G0 n ih⟩
set_option maxHeartbeats 4000000 in
set_option maxRecDepth 100000 in
theorem c_X9_feetHoldTogether (h0 : m_H) (G0 : GI h0) : m_CI M_X9_feetHoldTogether [mR 38] h0 (P_X9_feetHoldTogether h0) := by
  refine m_CI_of ⟨by decide, rfl, by simp [m_arg, m_isL, M_X9_feetHoldTogether], ⟨rfl, rfl⟩, rfl, rfl⟩ (ls := [some (mR 38), none, none, none]) rfl ?_
  have ih := a_X9_feetHoldTogether h0 G0 61
  refine z_iconst (M := M_X9_feetHoldTogether) 0 dX9_feetHoldTogether_0 ?_
  refine z_istore_n (M := M_X9_feetHoldTogether) 1 dX9_feetHoldTogether_1 (ls' := [some (mR 38), some (mI 0), none, none]) (by decide) rfl ?_
  exact z_mask [true, true, false, false] rfl (ih.1 0 h0 G0 (FR.rf (cs := []) (ss := []) (h := h0)) (by omega) (by omega) (by omega))
abbrev P_X9_goOn_42 (h0 : m_H) : m_H → Prop := fun h' => GI h' ∧ FR (csB ++ []) [] h0 h'
def q_X9_goOn_42 (h0 : m_H) (n : Nat) : Prop := (∀ (l3 : Int) (h : m_H), GI h → FR (csB ++ []) [] h0 h → 0 ≤ l3 → l3 ≤ 16 → 13 * (16 - l3) + (12) ≤ (n : Int) → m_Z oF M_X9_goOn 2 [some (mR 38), some (mR 42), some (mR 59), some (mI l3), none, none, none, none, none] [] h (m_QV (P_X9_goOn_42 h0))) ∧ (∀ (l3 l4 l5 l6 : Int) (h : m_H), GI h → FR (csB ++ []) [] h0 h → 0 ≤ l3 → l3 ≤ 15 → 0 ≤ l4 → l4 ≤ 3 → 0 ≤ l5 → l5 ≤ 3 → 0 ≤ l6 → l6 ≤ 4 → 13 * (16 - l3) + 2 * (4 - l6) + (1) ≤ (n : Int) → m_Z oF M_X9_goOn 64 [some (mR 38), some (mR 42), some (mR 59), some (mI l3), some (mI l4), some (mI l5), some (mI l6), none, none] [] h (m_QV (P_X9_goOn_42 h0)))
set_option maxHeartbeats 4000000 in
set_option maxRecDepth 100000 in
theorem s_X9_goOn_42_2 (h0 : m_H) (G0 : GI h0) (n : Nat) (ih : q_X9_goOn_42 h0 n) : ∀ (l3 : Int) (h : m_H), GI h → FR (csB ++ []) [] h0 h → 0 ≤ l3 → l3 ≤ 16 → 13 * (16 - l3) + (12) ≤ ((n + 1 : Nat) : Int) → m_Z oF M_X9_goOn 2 [some (mR 38), some (mR 42), some (mR 59), some (mI l3), none, none, none, none, none] [] h (m_QV (P_X9_goOn_42 h0)) := by
  intro l3 h G R v0 v1 hr
  refine z_iload_n (M := M_X9_goOn) 2 dX9_goOn_2 rfl ?_
  refine z_bipush (M := M_X9_goOn) 3 dX9_goOn_3 ?_
  refine z_icmp_ge (M := M_X9_goOn) 5 dX9_goOn_5 190 rfl (fun c1 => ?_) (fun c1 => ?_)
  · exact z_retV (M := M_X9_goOn) 190 dX9_goOn_190 rfl ⟨G, R⟩
  · refine z_iload_n (M := M_X9_goOn) 8 dX9_goOn_8 rfl ?_
    refine z_iconst (M := M_X9_goOn) 9 dX9_goOn_9 ?_
    refine z_idivN (M := M_X9_goOn) 10 dX9_goOn_10 (by omega) (by omega) ?_
    refine z_topBI (lo := 0) (hi := 3) ⟨by omega, by omega⟩ (fun x2 ex2 ax2 bx2 => ?_)
    refine z_istore (M := M_X9_goOn) 11 dX9_goOn_11 (ls' := [some (mR 38), some (mR 42), some (mR 59), some (mI l3), some (mI x2), none, none, none, none]) (by decide) rfl ?_
    refine z_iload_n (M := M_X9_goOn) 13 dX9_goOn_13 rfl ?_
    refine z_iconst (M := M_X9_goOn) 14 dX9_goOn_14 ?_
    refine z_iremN (M := M_X9_goOn) 15 dX9_goOn_15 (by omega) (by omega) ?_
    refine z_topBI (lo := 0) (hi := 3) ⟨by omega, by omega⟩ (fun x3 ex3 ax3 bx3 => ?_)
    refine z_istore (M := M_X9_goOn) 16 dX9_goOn_16 (ls' := [some (mR 38), some (mR 42), some (mR 59), some (mI l3), some (mI x2), some (mI x3), none, none, none]) (by decide) rfl ?_
    refine z_iload (M := M_X9_goOn) 18 dX9_goOn_18 rfl ?_
    refine z_iload (M := M_X9_goOn) 20 dX9_goOn_20 rfl ?_
    refine z_icmp_ne (M := M_X9_goOn) 22 dX9_goOn_22 37 rfl (fun c4 => ?_) (fun c4 => ?_)
    · refine z_aload_n (M := M_X9_goOn) 37 dX9_goOn_37 rfl ?_
      refine z_iload_n (M := M_X9_goOn) 38 dX9_goOn_38 rfl ?_
      have hb5 := isB_59 (i := l3) (by omega) (by omega)
      refine z_aaldB (M := M_X9_goOn) 39 dX9_goOn_39 o_59 (by omega) (by omega) (g_59 G (by omega)) ?_
      refine z_aload_n (M := M_X9_goOn) 40 dX9_goOn_40 rfl ?_
      refine z_iload_n (M := M_X9_goOn) 41 dX9_goOn_41 rfl ?_
      have hb6 := isB_42 (i := l3) (by omega) (by omega)
      refine z_aaldB (M := M_X9_goOn) 42 dX9_goOn_42 o_42 (by omega) (by omega) (g_42 G (by omega)) ?_
      refine z_getJV (M := M_X9_goOn) 43 dX9_goOn_43 f_X9_128 (oB hb6) rfl (fun x7 ex7 => ?_)
      refine z_aload_n (M := M_X9_goOn) 46 dX9_goOn_46 rfl ?_
      refine z_iload_n (M := M_X9_goOn) 47 dX9_goOn_47 rfl ?_
      have hb8 := isB_42 (i := l3) (by omega) (by omega)
      refine z_aaldB (M := M_X9_goOn) 48 dX9_goOn_48 o_42 (by omega) (by omega) (g_42 G (by omega)) ?_
      refine z_getJV (M := M_X9_goOn) 49 dX9_goOn_49 f_X9_132 (oB hb8) rfl (fun x9 ex9 => ?_)
      refine z_aload_n (M := M_X9_goOn) 52 dX9_goOn_52 rfl ?_
      refine z_iload_n (M := M_X9_goOn) 53 dX9_goOn_53 rfl ?_
      have hb10 := isB_42 (i := l3) (by omega) (by omega)
      refine z_aaldB (M := M_X9_goOn) 54 dX9_goOn_54 o_42 (by omega) (by omega) (g_42 G (by omega)) ?_
      refine z_getIG (M := M_X9_goOn) 55 dX9_goOn_55 f_X9_134 (oB hb10) (by decide) (gB hb10 G) (fun x11 ex11 ax11 bx11 => ?_)
      refine z_vV (M := M_X9_goOn) 58 dX9_goOn_58 t_X2_put l_X9_125 (m_rr_of rfl) (rest := []) (c_X2_put h (60 + (l3).toNat) x7 x9 x11 hb5 G ⟨by omega, by omega⟩) (oB hb5) rfl rfl rfl (Nat.le_of_ble_eq_true rfl) ⟨rfl, rfl⟩ (fun h1 qx12 => ?_)
      obtain ⟨G1, S1⟩ := qx12
      have R1 := R.call S1 (by decide +kernel)
      refine z_iconst (M := M_X9_goOn) 61 dX9_goOn_61 ?_
      refine z_istore (M := M_X9_goOn) 62 dX9_goOn_62 (ls' := [some (mR 38), some (mR 42), some (mR 59), some (mI l3), some (mI x2), some (mI x3), some (mI 0), none, none]) (by decide) rfl ?_
      exact z_mask [true, true, true, true, true, true, true, false, false] rfl (ih.2 l3 x2 x3 0 h1 G1 R1 (by omega) (by omega) (by omega) (by omega) (by omega) (by omega) (by omega) (by omega) (by omega))
    · refine z_aload_n (M := M_X9_goOn) 25 dX9_goOn_25 rfl ?_
      refine z_iload_n (M := M_X9_goOn) 26 dX9_goOn_26 rfl ?_
      have hb13 := isB_59 (i := l3) (by omega) (by omega)
      refine z_aaldB (M := M_X9_goOn) 27 dX9_goOn_27 o_59 (by omega) (by omega) (g_59 G (by omega)) ?_
      refine z_lconst (M := M_X9_goOn) 28 dX9_goOn_28 (v := 1) ?_
      refine z_lconst (M := M_X9_goOn) 29 dX9_goOn_29 (v := 1) ?_
      refine z_iconst (M := M_X9_goOn) 30 dX9_goOn_30 ?_
      refine z_vV (M := M_X9_goOn) 31 dX9_goOn_31 t_X2_put l_X9_125 (m_rr_of rfl) (rest := []) (c_X2_put h (60 + (l3).toNat) 1 1 0 hb13 G ⟨by omega, by omega⟩) (oB hb13) rfl rfl rfl (Nat.le_of_ble_eq_true rfl) ⟨rfl, rfl⟩ (fun h2 qx14 => ?_)
      obtain ⟨G2, S2⟩ := qx14
      have R2 := R.call S2 (by decide +kernel)
      refine z_goto (M := M_X9_goOn) 34 dX9_goOn_34 184 rfl ?_
      refine z_iincN (M := M_X9_goOn) 184 dX9_goOn_184 (ls' := [some (mR 38), some (mR 42), some (mR 59), some (mI (l3 + 1)), some (mI x2), some (mI x3), none, none, none]) (by decide) rfl (by (unfold m_32; decide)) (by omega) (by omega) rfl ?_
      refine z_goto (M := M_X9_goOn) 187 dX9_goOn_187 2 rfl ?_
      exact z_mask [true, true, true, true, false, false, false, false, false] rfl (ih.1 (l3 + 1) h2 G2 R2 (by omega) (by omega) (by omega))
set_option maxHeartbeats 4000000 in
set_option maxRecDepth 100000 in
theorem s_X9_goOn_42_64 (h0 : m_H) (G0 : GI h0) (n : Nat) (ih : q_X9_goOn_42 h0 n) : ∀ (l3 l4 l5 l6 : Int) (h : m_H), GI h → FR (csB ++ []) [] h0 h → 0 ≤ l3 → l3 ≤ 15 → 0 ≤ l4 → l4 ≤ 3 → 0 ≤ l5 → l5 ≤ 3 → 0 ≤ l6 → l6 ≤ 4 → 13 * (16 - l3) + 2 * (4 - l6) + (1) ≤ ((n + 1 : Nat) : Int) → m_Z oF M_X9_goOn 64 [some (mR 38), some (mR 42), some (mR 59), some (mI l3), some (mI l4), some (mI l5), some (mI l6), none, none] [] h (m_QV (P_X9_goOn_42 h0)) := by
  intro l3 l4 l5 l6 h G R v0 v1 v2 v3 v4 v5 v6 v7 hr
  refine z_iload (M := M_X9_goOn) 64 dX9_goOn_64 rfl ?_
  refine z_iconst (M := M_X9_goOn) 66 dX9_goOn_66 ?_
  refine z_icmp_ge (M := M_X9_goOn) 67 dX9_goOn_67 184 rfl (fun c1 => ?_) (fun c1 => ?_)
  · refine z_iincN (M := M_X9_goOn) 184 dX9_goOn_184 (ls' := [some (mR 38), some (mR 42), some (mR 59), some (mI (l3 + 1)), some (mI l4), some (mI l5), some (mI l6), none, none]) (by decide) rfl (by (unfold m_32; decide)) (by omega) (by omega) rfl ?_
    refine z_goto (M := M_X9_goOn) 187 dX9_goOn_187 2 rfl ?_
    exact z_mask [true, true, true, true, false, false, false, false, false] rfl (ih.1 (l3 + 1) h G R (by omega) (by omega) (by omega))
  · refine z_aload_n (M := M_X9_goOn) 70 dX9_goOn_70 rfl ?_
    refine z_iload (M := M_X9_goOn) 71 dX9_goOn_71 rfl ?_
    refine z_iconst (M := M_X9_goOn) 73 dX9_goOn_73 ?_
    refine z_imulN (M := M_X9_goOn) 74 dX9_goOn_74 (by omega) (by omega) ?_
    refine z_iload (M := M_X9_goOn) 75 dX9_goOn_75 rfl ?_
    refine z_iaddN (M := M_X9_goOn) 77 dX9_goOn_77 (by omega) (by omega) ?_
    have hb2 := isB_42 (i := ((l4 * 4) + l6)) (by omega) (by omega)
    refine z_aaldB (M := M_X9_goOn) 78 dX9_goOn_78 o_42 (by omega) (by omega) (g_42 G (by omega)) ?_
    refine z_astore (M := M_X9_goOn) 79 dX9_goOn_79 (ls' := [some (mR 38), some (mR 42), some (mR 59), some (mI l3), some (mI l4), some (mI l5), some (mI l6), some (mR (43 + (((l4 * 4) + l6)).toNat)), none]) (by decide) rfl ?_
    refine z_aload_n (M := M_X9_goOn) 81 dX9_goOn_81 rfl ?_
    refine z_getR (M := M_X9_goOn) 82 dX9_goOn_82 f_X9_26 o_38 rfl (g_38_3 G) ?_
    refine z_iload (M := M_X9_goOn) 85 dX9_goOn_85 rfl ?_
    refine z_iconst (M := M_X9_goOn) 87 dX9_goOn_87 ?_
    refine z_imulN (M := M_X9_goOn) 88 dX9_goOn_88 (by omega) (by omega) ?_
    refine z_iload (M := M_X9_goOn) 89 dX9_goOn_89 rfl ?_
    refine z_iaddN (M := M_X9_goOn) 91 dX9_goOn_91 (by omega) (by omega) ?_
    have hb3 := isB_42 (i := ((l6 * 4) + l5)) (by omega) (by omega)
    refine z_aaldB (M := M_X9_goOn) 92 dX9_goOn_92 o_42 (by omega) (by omega) (g_42 G (by omega)) ?_
    refine z_astore (M := M_X9_goOn) 93 dX9_goOn_93 (ls' := [some (mR 38), some (mR 42), some (mR 59), some (mI l3), some (mI l4), some (mI l5), some (mI l6), some (mR (43 + (((l4 * 4) + l6)).toNat)), some (mR (43 + (((l6 * 4) + l5)).toNat))]) (by decide) rfl ?_
    refine z_iload (M := M_X9_goOn) 95 dX9_goOn_95 rfl ?_
    refine z_iload (M := M_X9_goOn) 97 dX9_goOn_97 rfl ?_
    refine z_icmp_eq (M := M_X9_goOn) 99 dX9_goOn_99 178 rfl (fun c4 => ?_) (fun c4 => ?_)
    · refine z_iincN (M := M_X9_goOn) 178 dX9_goOn_178 (ls' := [some (mR 38), some (mR 42), some (mR 59), some (mI l3), some (mI l4), some (mI l5), some (mI (l6 + 1)), some (mR (43 + (((l4 * 4) + l6)).toNat)), some (mR (43 + (((l6 * 4) + l5)).toNat))]) (by decide) rfl (by (unfold m_32; decide)) (by omega) (by omega) rfl ?_
      refine z_goto (M := M_X9_goOn) 181 dX9_goOn_181 64 rfl ?_
      exact z_mask [true, true, true, true, true, true, true, false, false] rfl (ih.2 l3 l4 l5 (l6 + 1) h G R (by omega) (by omega) (by omega) (by omega) (by omega) (by omega) (by omega) (by omega) (by omega))
    · refine z_iload (M := M_X9_goOn) 102 dX9_goOn_102 rfl ?_
      refine z_iload (M := M_X9_goOn) 104 dX9_goOn_104 rfl ?_
      refine z_icmp_eq (M := M_X9_goOn) 106 dX9_goOn_106 178 rfl (fun c5 => ?_) (fun c5 => ?_)
      · refine z_iincN (M := M_X9_goOn) 178 dX9_goOn_178 (ls' := [some (mR 38), some (mR 42), some (mR 59), some (mI l3), some (mI l4), some (mI l5), some (mI (l6 + 1)), some (mR (43 + (((l4 * 4) + l6)).toNat)), some (mR (43 + (((l6 * 4) + l5)).toNat))]) (by decide) rfl (by (unfold m_32; decide)) (by omega) (by omega) rfl ?_
        refine z_goto (M := M_X9_goOn) 181 dX9_goOn_181 64 rfl ?_
        exact z_mask [true, true, true, true, true, true, true, false, false] rfl (ih.2 l3 l4 l5 (l6 + 1) h G R (by omega) (by omega) (by omega) (by omega) (by omega) (by omega) (by omega) (by omega) (by omega))
      · refine z_aload (M := M_X9_goOn) 109 dX9_goOn_109 rfl ?_
        refine z_getJV (M := M_X9_goOn) 111 dX9_goOn_111 f_X9_132 (oB hb2) rfl (fun x6 ex6 => ?_)
        refine z_lconst (M := M_X9_goOn) 114 dX9_goOn_114 (v := 0) ?_
        refine z_lcmp (M := M_X9_goOn) 115 dX9_goOn_115 ?_
        refine z_if_eq (M := M_X9_goOn) 116 dX9_goOn_116 178 rfl (fun c7 => ?_) (fun c7 => ?_)
        · rw [m_cmp_eq] at c7
          refine z_iincN (M := M_X9_goOn) 178 dX9_goOn_178 (ls' := [some (mR 38), some (mR 42), some (mR 59), some (mI l3), some (mI l4), some (mI l5), some (mI (l6 + 1)), some (mR (43 + (((l4 * 4) + l6)).toNat)), some (mR (43 + (((l6 * 4) + l5)).toNat))]) (by decide) rfl (by (unfold m_32; decide)) (by omega) (by omega) rfl ?_
          refine z_goto (M := M_X9_goOn) 181 dX9_goOn_181 64 rfl ?_
          exact z_mask [true, true, true, true, true, true, true, false, false] rfl (ih.2 l3 l4 l5 (l6 + 1) h G R (by omega) (by omega) (by omega) (by omega) (by omega) (by omega) (by omega) (by omega) (by omega))
        · rw [m_cmp_eq] at c7
          refine z_aload (M := M_X9_goOn) 119 dX9_goOn_119 rfl ?_
          refine z_getJV (M := M_X9_goOn) 121 dX9_goOn_121 f_X9_132 (oB hb3) rfl (fun x8 ex8 => ?_)
          refine z_lconst (M := M_X9_goOn) 124 dX9_goOn_124 (v := 0) ?_
          refine z_lcmp (M := M_X9_goOn) 125 dX9_goOn_125 ?_
          refine z_if_eq (M := M_X9_goOn) 126 dX9_goOn_126 178 rfl (fun c9 => ?_) (fun c9 => ?_)
          · rw [m_cmp_eq] at c9
            refine z_iincN (M := M_X9_goOn) 178 dX9_goOn_178 (ls' := [some (mR 38), some (mR 42), some (mR 59), some (mI l3), some (mI l4), some (mI l5), some (mI (l6 + 1)), some (mR (43 + (((l4 * 4) + l6)).toNat)), some (mR (43 + (((l6 * 4) + l5)).toNat))]) (by decide) rfl (by (unfold m_32; decide)) (by omega) (by omega) rfl ?_
            refine z_goto (M := M_X9_goOn) 181 dX9_goOn_181 64 rfl ?_
            exact z_mask [true, true, true, true, true, true, true, false, false] rfl (ih.2 l3 l4 l5 (l6 + 1) h G R (by omega) (by omega) (by omega) (by omega) (by omega) (by omega) (by omega) (by omega) (by omega))
          · rw [m_cmp_eq] at c9
            refine z_aload_n (M := M_X9_goOn) 129 dX9_goOn_129 rfl ?_
            refine z_iload_n (M := M_X9_goOn) 130 dX9_goOn_130 rfl ?_
            have hb10 := isB_59 (i := l3) (by omega) (by omega)
            refine z_aaldB (M := M_X9_goOn) 131 dX9_goOn_131 o_59 (by omega) (by omega) (g_59 G (by omega)) ?_
            refine z_aload (M := M_X9_goOn) 132 dX9_goOn_132 rfl ?_
            refine z_getJV (M := M_X9_goOn) 134 dX9_goOn_134 f_X9_128 (oB hb2) rfl (fun x11 ex11 => ?_)
            refine z_aload (M := M_X9_goOn) 137 dX9_goOn_137 rfl ?_
            refine z_getJV (M := M_X9_goOn) 139 dX9_goOn_139 f_X9_128 (oB hb3) rfl (fun x12 ex12 => ?_)
            refine z_lmul (M := M_X9_goOn) 142 dX9_goOn_142 ?_
            refine z_topJ (fun x13 ex13 => ?_)
            refine z_aload (M := M_X9_goOn) 143 dX9_goOn_143 rfl ?_
            refine z_getJE (M := M_X9_goOn) 145 dX9_goOn_145 f_X9_132 (oB hb2) rfl ex6 ?_
            refine z_aload (M := M_X9_goOn) 148 dX9_goOn_148 rfl ?_
            refine z_getJE (M := M_X9_goOn) 150 dX9_goOn_150 f_X9_132 (oB hb3) rfl ex8 ?_
            refine z_lmul (M := M_X9_goOn) 153 dX9_goOn_153 ?_
            refine z_topJ (fun x14 ex14 => ?_)
            refine z_aload (M := M_X9_goOn) 154 dX9_goOn_154 rfl ?_
            refine z_getIG (M := M_X9_goOn) 156 dX9_goOn_156 f_X9_134 (oB hb2) (by decide) (gB hb2 G) (fun x15 ex15 ax15 bx15 => ?_)
            refine z_if_ne (M := M_X9_goOn) 159 dX9_goOn_159 170 rfl (fun c16 => ?_) (fun c16 => ?_)
            · refine z_iconst (M := M_X9_goOn) 170 dX9_goOn_170 ?_
              refine z_goto (M := M_X9_goOn) 171 dX9_goOn_171 175 rfl ?_
              refine z_vV (M := M_X9_goOn) 175 dX9_goOn_175 t_X2_lessen l_X9_66 (m_rr_of rfl) (rest := []) (c_X2_lessen h (60 + (l3).toNat) x13 x14 1 hb10 G ⟨by omega, by omega⟩) (oB hb10) rfl rfl rfl (Nat.le_of_ble_eq_true rfl) ⟨rfl, rfl⟩ (fun h1 qx17 => ?_)
              obtain ⟨G1, S1⟩ := qx17
              have R1 := R.call S1 (by decide +kernel)
              refine z_iincN (M := M_X9_goOn) 178 dX9_goOn_178 (ls' := [some (mR 38), some (mR 42), some (mR 59), some (mI l3), some (mI l4), some (mI l5), some (mI (l6 + 1)), some (mR (43 + (((l4 * 4) + l6)).toNat)), some (mR (43 + (((l6 * 4) + l5)).toNat))]) (by decide) rfl (by (unfold m_32; decide)) (by omega) (by omega) rfl ?_
              refine z_goto (M := M_X9_goOn) 181 dX9_goOn_181 64 rfl ?_
              exact z_mask [true, true, true, true, true, true, true, false, false] rfl (ih.2 l3 l4 l5 (l6 + 1) h1 G1 R1 (by omega) (by omega) (by omega) (by omega) (by omega) (by omega) (by omega) (by omega) (by omega))
            · refine z_aload (M := M_X9_goOn) 162 dX9_goOn_162 rfl ?_
              refine z_getIG (M := M_X9_goOn) 164 dX9_goOn_164 f_X9_134 (oB hb3) (by decide) (gB hb3 G) (fun x18 ex18 ax18 bx18 => ?_)
              refine z_if_eq (M := M_X9_goOn) 167 dX9_goOn_167 174 rfl (fun c19 => ?_) (fun c19 => ?_)
              · refine z_iconst (M := M_X9_goOn) 174 dX9_goOn_174 ?_
                refine z_vV (M := M_X9_goOn) 175 dX9_goOn_175 t_X2_lessen l_X9_66 (m_rr_of rfl) (rest := []) (c_X2_lessen h (60 + (l3).toNat) x13 x14 0 hb10 G ⟨by omega, by omega⟩) (oB hb10) rfl rfl rfl (Nat.le_of_ble_eq_true rfl) ⟨rfl, rfl⟩ (fun h2 qx20 => ?_)
                obtain ⟨G2, S2⟩ := qx20
                have R2 := R.call S2 (by decide +kernel)
                refine z_iincN (M := M_X9_goOn) 178 dX9_goOn_178 (ls' := [some (mR 38), some (mR 42), some (mR 59), some (mI l3), some (mI l4), some (mI l5), some (mI (l6 + 1)), some (mR (43 + (((l4 * 4) + l6)).toNat)), some (mR (43 + (((l6 * 4) + l5)).toNat))]) (by decide) rfl (by (unfold m_32; decide)) (by omega) (by omega) rfl ?_
                refine z_goto (M := M_X9_goOn) 181 dX9_goOn_181 64 rfl ?_
                exact z_mask [true, true, true, true, true, true, true, false, false] rfl (ih.2 l3 l4 l5 (l6 + 1) h2 G2 R2 (by omega) (by omega) (by omega) (by omega) (by omega) (by omega) (by omega) (by omega) (by omega))
              · refine z_iconst (M := M_X9_goOn) 170 dX9_goOn_170 ?_
                refine z_goto (M := M_X9_goOn) 171 dX9_goOn_171 175 rfl ?_
                refine z_vV (M := M_X9_goOn) 175 dX9_goOn_175 t_X2_lessen l_X9_66 (m_rr_of rfl) (rest := []) (c_X2_lessen h (60 + (l3).toNat) x13 x14 1 hb10 G ⟨by omega, by omega⟩) (oB hb10) rfl rfl rfl (Nat.le_of_ble_eq_true rfl) ⟨rfl, rfl⟩ (fun h3 qx21 => ?_)
                obtain ⟨G3, S3⟩ := qx21
                have R3 := R.call S3 (by decide +kernel)
                refine z_iincN (M := M_X9_goOn) 178 dX9_goOn_178 (ls' := [some (mR 38), some (mR 42), some (mR 59), some (mI l3), some (mI l4), some (mI l5), some (mI (l6 + 1)), some (mR (43 + (((l4 * 4) + l6)).toNat)), some (mR (43 + (((l6 * 4) + l5)).toNat))]) (by decide) rfl (by (unfold m_32; decide)) (by omega) (by omega) rfl ?_
                refine z_goto (M := M_X9_goOn) 181 dX9_goOn_181 64 rfl ?_
                exact z_mask [true, true, true, true, true, true, true, false, false] rfl (ih.2 l3 l4 l5 (l6 + 1) h3 G3 R3 (by omega) (by omega) (by omega) (by omega) (by omega) (by omega) (by omega) (by omega) (by omega))
theorem a_X9_goOn_42 (h0 : m_H) (G0 : GI h0) : ∀ n, q_X9_goOn_42 h0 n := by
  intro n
  induction n with
  | zero => unfold q_X9_goOn_42; refine ⟨?_, ?_⟩ <;> (intros; omega)
  | succ n ih => exact ⟨s_X9_goOn_42_2 h0 G0 n ih, s_X9_goOn_42_64 h0 G0 n ih⟩
set_option maxHeartbeats 4000000 in
set_option maxRecDepth 100000 in
theorem c_X9_goOn_42 (h0 : m_H) (G0 : GI h0) : m_CV M_X9_goOn [mR 38, mR 42, mR 59] h0 (P_X9_goOn_42 h0) := by
  refine m_CV_of ⟨by decide, rfl, by simp [m_arg, m_isL, M_X9_goOn], ⟨rfl, rfl⟩, rfl, rfl⟩ (ls := [some (mR 38), some (mR 42), some (mR 59), none, none, none, none, none, none]) rfl ?_
  have ih := a_X9_goOn_42 h0 G0 227
  refine z_iconst (M := M_X9_goOn) 0 dX9_goOn_0 ?_
  refine z_istore_n (M := M_X9_goOn) 1 dX9_goOn_1 (ls' := [some (mR 38), some (mR 42), some (mR 59), some (mI 0), none, none, none, none, none]) (by decide) rfl ?_
  exact z_mask [true, true, true, true, false, false, false, false, false] rfl (ih.1 0 h0 G0 (FR.rf (cs := (csB ++ [])) (ss := []) (h := h0)) (by omega) (by omega) (by omega))
abbrev P_X9_goOn_59 (h0 : m_H) : m_H → Prop := fun h' => GI h' ∧ FR (csB ++ []) [] h0 h'
def q_X9_goOn_59 (h0 : m_H) (n : Nat) : Prop := (∀ (l3 : Int) (h : m_H), GI h → FR (csB ++ []) [] h0 h → 0 ≤ l3 → l3 ≤ 16 → 13 * (16 - l3) + (12) ≤ (n : Int) → m_Z oF M_X9_goOn 2 [some (mR 38), some (mR 59), some (mR 76), some (mI l3), none, none, none, none, none] [] h (m_QV (P_X9_goOn_59 h0))) ∧ (∀ (l3 l4 l5 l6 : Int) (h : m_H), GI h → FR (csB ++ []) [] h0 h → 0 ≤ l3 → l3 ≤ 15 → 0 ≤ l4 → l4 ≤ 3 → 0 ≤ l5 → l5 ≤ 3 → 0 ≤ l6 → l6 ≤ 4 → 13 * (16 - l3) + 2 * (4 - l6) + (1) ≤ (n : Int) → m_Z oF M_X9_goOn 64 [some (mR 38), some (mR 59), some (mR 76), some (mI l3), some (mI l4), some (mI l5), some (mI l6), none, none] [] h (m_QV (P_X9_goOn_59 h0)))
set_option maxHeartbeats 4000000 in
set_option maxRecDepth 100000 in
theorem s_X9_goOn_59_2 (h0 : m_H) (G0 : GI h0) (n : Nat) (ih : q_X9_goOn_59 h0 n) : ∀ (l3 : Int) (h : m_H), GI h → FR (csB ++ []) [] h0 h → 0 ≤ l3 → l3 ≤ 16 → 13 * (16 - l3) + (12) ≤ ((n + 1 : Nat) : Int) → m_Z oF M_X9_goOn 2 [some (mR 38), some (mR 59), some (mR 76), some (mI l3), none, none, none, none, none] [] h (m_QV (P_X9_goOn_59 h0)) := by
  intro l3 h G R v0 v1 hr
  refine z_iload_n (M := M_X9_goOn) 2 dX9_goOn_2 rfl ?_
  refine z_bipush (M := M_X9_goOn) 3 dX9_goOn_3 ?_
  refine z_icmp_ge (M := M_X9_goOn) 5 dX9_goOn_5 190 rfl (fun c1 => ?_) (fun c1 => ?_)
  · exact z_retV (M := M_X9_goOn) 190 dX9_goOn_190 rfl ⟨G, R⟩
  · refine z_iload_n (M := M_X9_goOn) 8 dX9_goOn_8 rfl ?_
    refine z_iconst (M := M_X9_goOn) 9 dX9_goOn_9 ?_
    refine z_idivN (M := M_X9_goOn) 10 dX9_goOn_10 (by omega) (by omega) ?_
    refine z_topBI (lo := 0) (hi := 3) ⟨by omega, by omega⟩ (fun x2 ex2 ax2 bx2 => ?_)
    refine z_istore (M := M_X9_goOn) 11 dX9_goOn_11 (ls' := [some (mR 38), some (mR 59), some (mR 76), some (mI l3), some (mI x2), none, none, none, none]) (by decide) rfl ?_
    refine z_iload_n (M := M_X9_goOn) 13 dX9_goOn_13 rfl ?_
    refine z_iconst (M := M_X9_goOn) 14 dX9_goOn_14 ?_
    refine z_iremN (M := M_X9_goOn) 15 dX9_goOn_15 (by omega) (by omega) ?_
    refine z_topBI (lo := 0) (hi := 3) ⟨by omega, by omega⟩ (fun x3 ex3 ax3 bx3 => ?_)
    refine z_istore (M := M_X9_goOn) 16 dX9_goOn_16 (ls' := [some (mR 38), some (mR 59), some (mR 76), some (mI l3), some (mI x2), some (mI x3), none, none, none]) (by decide) rfl ?_
    refine z_iload (M := M_X9_goOn) 18 dX9_goOn_18 rfl ?_
    refine z_iload (M := M_X9_goOn) 20 dX9_goOn_20 rfl ?_
    refine z_icmp_ne (M := M_X9_goOn) 22 dX9_goOn_22 37 rfl (fun c4 => ?_) (fun c4 => ?_)
    · refine z_aload_n (M := M_X9_goOn) 37 dX9_goOn_37 rfl ?_
      refine z_iload_n (M := M_X9_goOn) 38 dX9_goOn_38 rfl ?_
      have hb5 := isB_76 (i := l3) (by omega) (by omega)
      refine z_aaldB (M := M_X9_goOn) 39 dX9_goOn_39 o_76 (by omega) (by omega) (g_76 G (by omega)) ?_
      refine z_aload_n (M := M_X9_goOn) 40 dX9_goOn_40 rfl ?_
      refine z_iload_n (M := M_X9_goOn) 41 dX9_goOn_41 rfl ?_
      have hb6 := isB_59 (i := l3) (by omega) (by omega)
      refine z_aaldB (M := M_X9_goOn) 42 dX9_goOn_42 o_59 (by omega) (by omega) (g_59 G (by omega)) ?_
      refine z_getJV (M := M_X9_goOn) 43 dX9_goOn_43 f_X9_128 (oB hb6) rfl (fun x7 ex7 => ?_)
      refine z_aload_n (M := M_X9_goOn) 46 dX9_goOn_46 rfl ?_
      refine z_iload_n (M := M_X9_goOn) 47 dX9_goOn_47 rfl ?_
      have hb8 := isB_59 (i := l3) (by omega) (by omega)
      refine z_aaldB (M := M_X9_goOn) 48 dX9_goOn_48 o_59 (by omega) (by omega) (g_59 G (by omega)) ?_
      refine z_getJV (M := M_X9_goOn) 49 dX9_goOn_49 f_X9_132 (oB hb8) rfl (fun x9 ex9 => ?_)
      refine z_aload_n (M := M_X9_goOn) 52 dX9_goOn_52 rfl ?_
      refine z_iload_n (M := M_X9_goOn) 53 dX9_goOn_53 rfl ?_
      have hb10 := isB_59 (i := l3) (by omega) (by omega)
      refine z_aaldB (M := M_X9_goOn) 54 dX9_goOn_54 o_59 (by omega) (by omega) (g_59 G (by omega)) ?_
      refine z_getIG (M := M_X9_goOn) 55 dX9_goOn_55 f_X9_134 (oB hb10) (by decide) (gB hb10 G) (fun x11 ex11 ax11 bx11 => ?_)
      refine z_vV (M := M_X9_goOn) 58 dX9_goOn_58 t_X2_put l_X9_125 (m_rr_of rfl) (rest := []) (c_X2_put h (77 + (l3).toNat) x7 x9 x11 hb5 G ⟨by omega, by omega⟩) (oB hb5) rfl rfl rfl (Nat.le_of_ble_eq_true rfl) ⟨rfl, rfl⟩ (fun h1 qx12 => ?_)
      obtain ⟨G1, S1⟩ := qx12
      have R1 := R.call S1 (by decide +kernel)
      refine z_iconst (M := M_X9_goOn) 61 dX9_goOn_61 ?_
      refine z_istore (M := M_X9_goOn) 62 dX9_goOn_62 (ls' := [some (mR 38), some (mR 59), some (mR 76), some (mI l3), some (mI x2), some (mI x3), some (mI 0), none, none]) (by decide) rfl ?_
      exact z_mask [true, true, true, true, true, true, true, false, false] rfl (ih.2 l3 x2 x3 0 h1 G1 R1 (by omega) (by omega) (by omega) (by omega) (by omega) (by omega) (by omega) (by omega) (by omega))
    · refine z_aload_n (M := M_X9_goOn) 25 dX9_goOn_25 rfl ?_
      refine z_iload_n (M := M_X9_goOn) 26 dX9_goOn_26 rfl ?_
      have hb13 := isB_76 (i := l3) (by omega) (by omega)
      refine z_aaldB (M := M_X9_goOn) 27 dX9_goOn_27 o_76 (by omega) (by omega) (g_76 G (by omega)) ?_
      refine z_lconst (M := M_X9_goOn) 28 dX9_goOn_28 (v := 1) ?_
      refine z_lconst (M := M_X9_goOn) 29 dX9_goOn_29 (v := 1) ?_
      refine z_iconst (M := M_X9_goOn) 30 dX9_goOn_30 ?_
      refine z_vV (M := M_X9_goOn) 31 dX9_goOn_31 t_X2_put l_X9_125 (m_rr_of rfl) (rest := []) (c_X2_put h (77 + (l3).toNat) 1 1 0 hb13 G ⟨by omega, by omega⟩) (oB hb13) rfl rfl rfl (Nat.le_of_ble_eq_true rfl) ⟨rfl, rfl⟩ (fun h2 qx14 => ?_)
      obtain ⟨G2, S2⟩ := qx14
      have R2 := R.call S2 (by decide +kernel)
      refine z_goto (M := M_X9_goOn) 34 dX9_goOn_34 184 rfl ?_
      refine z_iincN (M := M_X9_goOn) 184 dX9_goOn_184 (ls' := [some (mR 38), some (mR 59), some (mR 76), some (mI (l3 + 1)), some (mI x2), some (mI x3), none, none, none]) (by decide) rfl (by (unfold m_32; decide)) (by omega) (by omega) rfl ?_
      refine z_goto (M := M_X9_goOn) 187 dX9_goOn_187 2 rfl ?_
      exact z_mask [true, true, true, true, false, false, false, false, false] rfl (ih.1 (l3 + 1) h2 G2 R2 (by omega) (by omega) (by omega))
set_option maxHeartbeats 4000000 in
set_option maxRecDepth 100000 in
theorem s_X9_goOn_59_64 (h0 : m_H) (G0 : GI h0) (n : Nat) (ih : q_X9_goOn_59 h0 n) : ∀ (l3 l4 l5 l6 : Int) (h : m_H), GI h → FR (csB ++ []) [] h0 h → 0 ≤ l3 → l3 ≤ 15 → 0 ≤ l4 → l4 ≤ 3 → 0 ≤ l5 → l5 ≤ 3 → 0 ≤ l6 → l6 ≤ 4 → 13 * (16 - l3) + 2 * (4 - l6) + (1) ≤ ((n + 1 : Nat) : Int) → m_Z oF M_X9_goOn 64 [some (mR 38), some (mR 59), some (mR 76), some (mI l3), some (mI l4), some (mI l5), some (mI l6), none, none] [] h (m_QV (P_X9_goOn_59 h0)) := by
  intro l3 l4 l5 l6 h G R v0 v1 v2 v3 v4 v5 v6 v7 hr
  refine z_iload (M := M_X9_goOn) 64 dX9_goOn_64 rfl ?_
  refine z_iconst (M := M_X9_goOn) 66 dX9_goOn_66 ?_
  refine z_icmp_ge (M := M_X9_goOn) 67 dX9_goOn_67 184 rfl (fun c1 => ?_) (fun c1 => ?_)
  · refine z_iincN (M := M_X9_goOn) 184 dX9_goOn_184 (ls' := [some (mR 38), some (mR 59), some (mR 76), some (mI (l3 + 1)), some (mI l4), some (mI l5), some (mI l6), none, none]) (by decide) rfl (by (unfold m_32; decide)) (by omega) (by omega) rfl ?_
    refine z_goto (M := M_X9_goOn) 187 dX9_goOn_187 2 rfl ?_
    exact z_mask [true, true, true, true, false, false, false, false, false] rfl (ih.1 (l3 + 1) h G R (by omega) (by omega) (by omega))
  · refine z_aload_n (M := M_X9_goOn) 70 dX9_goOn_70 rfl ?_
    refine z_iload (M := M_X9_goOn) 71 dX9_goOn_71 rfl ?_
    refine z_iconst (M := M_X9_goOn) 73 dX9_goOn_73 ?_
    refine z_imulN (M := M_X9_goOn) 74 dX9_goOn_74 (by omega) (by omega) ?_
    refine z_iload (M := M_X9_goOn) 75 dX9_goOn_75 rfl ?_
    refine z_iaddN (M := M_X9_goOn) 77 dX9_goOn_77 (by omega) (by omega) ?_
    have hb2 := isB_59 (i := ((l4 * 4) + l6)) (by omega) (by omega)
    refine z_aaldB (M := M_X9_goOn) 78 dX9_goOn_78 o_59 (by omega) (by omega) (g_59 G (by omega)) ?_
    refine z_astore (M := M_X9_goOn) 79 dX9_goOn_79 (ls' := [some (mR 38), some (mR 59), some (mR 76), some (mI l3), some (mI l4), some (mI l5), some (mI l6), some (mR (60 + (((l4 * 4) + l6)).toNat)), none]) (by decide) rfl ?_
    refine z_aload_n (M := M_X9_goOn) 81 dX9_goOn_81 rfl ?_
    refine z_getR (M := M_X9_goOn) 82 dX9_goOn_82 f_X9_26 o_38 rfl (g_38_3 G) ?_
    refine z_iload (M := M_X9_goOn) 85 dX9_goOn_85 rfl ?_
    refine z_iconst (M := M_X9_goOn) 87 dX9_goOn_87 ?_
    refine z_imulN (M := M_X9_goOn) 88 dX9_goOn_88 (by omega) (by omega) ?_
    refine z_iload (M := M_X9_goOn) 89 dX9_goOn_89 rfl ?_
    refine z_iaddN (M := M_X9_goOn) 91 dX9_goOn_91 (by omega) (by omega) ?_
    have hb3 := isB_42 (i := ((l6 * 4) + l5)) (by omega) (by omega)
    refine z_aaldB (M := M_X9_goOn) 92 dX9_goOn_92 o_42 (by omega) (by omega) (g_42 G (by omega)) ?_
    refine z_astore (M := M_X9_goOn) 93 dX9_goOn_93 (ls' := [some (mR 38), some (mR 59), some (mR 76), some (mI l3), some (mI l4), some (mI l5), some (mI l6), some (mR (60 + (((l4 * 4) + l6)).toNat)), some (mR (43 + (((l6 * 4) + l5)).toNat))]) (by decide) rfl ?_
    refine z_iload (M := M_X9_goOn) 95 dX9_goOn_95 rfl ?_
    refine z_iload (M := M_X9_goOn) 97 dX9_goOn_97 rfl ?_
    refine z_icmp_eq (M := M_X9_goOn) 99 dX9_goOn_99 178 rfl (fun c4 => ?_) (fun c4 => ?_)
    · refine z_iincN (M := M_X9_goOn) 178 dX9_goOn_178 (ls' := [some (mR 38), some (mR 59), some (mR 76), some (mI l3), some (mI l4), some (mI l5), some (mI (l6 + 1)), some (mR (60 + (((l4 * 4) + l6)).toNat)), some (mR (43 + (((l6 * 4) + l5)).toNat))]) (by decide) rfl (by (unfold m_32; decide)) (by omega) (by omega) rfl ?_
      refine z_goto (M := M_X9_goOn) 181 dX9_goOn_181 64 rfl ?_
      exact z_mask [true, true, true, true, true, true, true, false, false] rfl (ih.2 l3 l4 l5 (l6 + 1) h G R (by omega) (by omega) (by omega) (by omega) (by omega) (by omega) (by omega) (by omega) (by omega))
    · refine z_iload (M := M_X9_goOn) 102 dX9_goOn_102 rfl ?_
      refine z_iload (M := M_X9_goOn) 104 dX9_goOn_104 rfl ?_
      refine z_icmp_eq (M := M_X9_goOn) 106 dX9_goOn_106 178 rfl (fun c5 => ?_) (fun c5 => ?_)
      · refine z_iincN (M := M_X9_goOn) 178 dX9_goOn_178 (ls' := [some (mR 38), some (mR 59), some (mR 76), some (mI l3), some (mI l4), some (mI l5), some (mI (l6 + 1)), some (mR (60 + (((l4 * 4) + l6)).toNat)), some (mR (43 + (((l6 * 4) + l5)).toNat))]) (by decide) rfl (by (unfold m_32; decide)) (by omega) (by omega) rfl ?_
        refine z_goto (M := M_X9_goOn) 181 dX9_goOn_181 64 rfl ?_
        exact z_mask [true, true, true, true, true, true, true, false, false] rfl (ih.2 l3 l4 l5 (l6 + 1) h G R (by omega) (by omega) (by omega) (by omega) (by omega) (by omega) (by omega) (by omega) (by omega))
      · refine z_aload (M := M_X9_goOn) 109 dX9_goOn_109 rfl ?_
        refine z_getJV (M := M_X9_goOn) 111 dX9_goOn_111 f_X9_132 (oB hb2) rfl (fun x6 ex6 => ?_)
        refine z_lconst (M := M_X9_goOn) 114 dX9_goOn_114 (v := 0) ?_
        refine z_lcmp (M := M_X9_goOn) 115 dX9_goOn_115 ?_
        refine z_if_eq (M := M_X9_goOn) 116 dX9_goOn_116 178 rfl (fun c7 => ?_) (fun c7 => ?_)
        · rw [m_cmp_eq] at c7
          refine z_iincN (M := M_X9_goOn) 178 dX9_goOn_178 (ls' := [some (mR 38), some (mR 59), some (mR 76), some (mI l3), some (mI l4), some (mI l5), some (mI (l6 + 1)), some (mR (60 + (((l4 * 4) + l6)).toNat)), some (mR (43 + (((l6 * 4) + l5)).toNat))]) (by decide) rfl (by (unfold m_32; decide)) (by omega) (by omega) rfl ?_
          refine z_goto (M := M_X9_goOn) 181 dX9_goOn_181 64 rfl ?_
          exact z_mask [true, true, true, true, true, true, true, false, false] rfl (ih.2 l3 l4 l5 (l6 + 1) h G R (by omega) (by omega) (by omega) (by omega) (by omega) (by omega) (by omega) (by omega) (by omega))
        · rw [m_cmp_eq] at c7
          refine z_aload (M := M_X9_goOn) 119 dX9_goOn_119 rfl ?_
          refine z_getJV (M := M_X9_goOn) 121 dX9_goOn_121 f_X9_132 (oB hb3) rfl (fun x8 ex8 => ?_)
          refine z_lconst (M := M_X9_goOn) 124 dX9_goOn_124 (v := 0) ?_
          refine z_lcmp (M := M_X9_goOn) 125 dX9_goOn_125 ?_
          refine z_if_eq (M := M_X9_goOn) 126 dX9_goOn_126 178 rfl (fun c9 => ?_) (fun c9 => ?_)
          · rw [m_cmp_eq] at c9
            refine z_iincN (M := M_X9_goOn) 178 dX9_goOn_178 (ls' := [some (mR 38), some (mR 59), some (mR 76), some (mI l3), some (mI l4), some (mI l5), some (mI (l6 + 1)), some (mR (60 + (((l4 * 4) + l6)).toNat)), some (mR (43 + (((l6 * 4) + l5)).toNat))]) (by decide) rfl (by (unfold m_32; decide)) (by omega) (by omega) rfl ?_
            refine z_goto (M := M_X9_goOn) 181 dX9_goOn_181 64 rfl ?_
            exact z_mask [true, true, true, true, true, true, true, false, false] rfl (ih.2 l3 l4 l5 (l6 + 1) h G R (by omega) (by omega) (by omega) (by omega) (by omega) (by omega) (by omega) (by omega) (by omega))
          · rw [m_cmp_eq] at c9
            refine z_aload_n (M := M_X9_goOn) 129 dX9_goOn_129 rfl ?_
            refine z_iload_n (M := M_X9_goOn) 130 dX9_goOn_130 rfl ?_
            have hb10 := isB_76 (i := l3) (by omega) (by omega)
            refine z_aaldB (M := M_X9_goOn) 131 dX9_goOn_131 o_76 (by omega) (by omega) (g_76 G (by omega)) ?_
            refine z_aload (M := M_X9_goOn) 132 dX9_goOn_132 rfl ?_
            refine z_getJV (M := M_X9_goOn) 134 dX9_goOn_134 f_X9_128 (oB hb2) rfl (fun x11 ex11 => ?_)
            refine z_aload (M := M_X9_goOn) 137 dX9_goOn_137 rfl ?_
            refine z_getJV (M := M_X9_goOn) 139 dX9_goOn_139 f_X9_128 (oB hb3) rfl (fun x12 ex12 => ?_)
            refine z_lmul (M := M_X9_goOn) 142 dX9_goOn_142 ?_
            refine z_topJ (fun x13 ex13 => ?_)
            refine z_aload (M := M_X9_goOn) 143 dX9_goOn_143 rfl ?_
            refine z_getJE (M := M_X9_goOn) 145 dX9_goOn_145 f_X9_132 (oB hb2) rfl ex6 ?_
            refine z_aload (M := M_X9_goOn) 148 dX9_goOn_148 rfl ?_
            refine z_getJE (M := M_X9_goOn) 150 dX9_goOn_150 f_X9_132 (oB hb3) rfl ex8 ?_
            refine z_lmul (M := M_X9_goOn) 153 dX9_goOn_153 ?_
            refine z_topJ (fun x14 ex14 => ?_)
            refine z_aload (M := M_X9_goOn) 154 dX9_goOn_154 rfl ?_
            refine z_getIG (M := M_X9_goOn) 156 dX9_goOn_156 f_X9_134 (oB hb2) (by decide) (gB hb2 G) (fun x15 ex15 ax15 bx15 => ?_)
            refine z_if_ne (M := M_X9_goOn) 159 dX9_goOn_159 170 rfl (fun c16 => ?_) (fun c16 => ?_)
            · refine z_iconst (M := M_X9_goOn) 170 dX9_goOn_170 ?_
              refine z_goto (M := M_X9_goOn) 171 dX9_goOn_171 175 rfl ?_
              refine z_vV (M := M_X9_goOn) 175 dX9_goOn_175 t_X2_lessen l_X9_66 (m_rr_of rfl) (rest := []) (c_X2_lessen h (77 + (l3).toNat) x13 x14 1 hb10 G ⟨by omega, by omega⟩) (oB hb10) rfl rfl rfl (Nat.le_of_ble_eq_true rfl) ⟨rfl, rfl⟩ (fun h1 qx17 => ?_)
              obtain ⟨G1, S1⟩ := qx17
              have R1 := R.call S1 (by decide +kernel)
              refine z_iincN (M := M_X9_goOn) 178 dX9_goOn_178 (ls' := [some (mR 38), some (mR 59), some (mR 76), some (mI l3), some (mI l4), some (mI l5), some (mI (l6 + 1)), some (mR (60 + (((l4 * 4) + l6)).toNat)), some (mR (43 + (((l6 * 4) + l5)).toNat))]) (by decide) rfl (by (unfold m_32; decide)) (by omega) (by omega) rfl ?_
              refine z_goto (M := M_X9_goOn) 181 dX9_goOn_181 64 rfl ?_
              exact z_mask [true, true, true, true, true, true, true, false, false] rfl (ih.2 l3 l4 l5 (l6 + 1) h1 G1 R1 (by omega) (by omega) (by omega) (by omega) (by omega) (by omega) (by omega) (by omega) (by omega))
            · refine z_aload (M := M_X9_goOn) 162 dX9_goOn_162 rfl ?_
              refine z_getIG (M := M_X9_goOn) 164 dX9_goOn_164 f_X9_134 (oB hb3) (by decide) (gB hb3 G) (fun x18 ex18 ax18 bx18 => ?_)
              refine z_if_eq (M := M_X9_goOn) 167 dX9_goOn_167 174 rfl (fun c19 => ?_) (fun c19 => ?_)
              · refine z_iconst (M := M_X9_goOn) 174 dX9_goOn_174 ?_
                refine z_vV (M := M_X9_goOn) 175 dX9_goOn_175 t_X2_lessen l_X9_66 (m_rr_of rfl) (rest := []) (c_X2_lessen h (77 + (l3).toNat) x13 x14 0 hb10 G ⟨by omega, by omega⟩) (oB hb10) rfl rfl rfl (Nat.le_of_ble_eq_true rfl) ⟨rfl, rfl⟩ (fun h2 qx20 => ?_)
                obtain ⟨G2, S2⟩ := qx20
                have R2 := R.call S2 (by decide +kernel)
                refine z_iincN (M := M_X9_goOn) 178 dX9_goOn_178 (ls' := [some (mR 38), some (mR 59), some (mR 76), some (mI l3), some (mI l4), some (mI l5), some (mI (l6 + 1)), some (mR (60 + (((l4 * 4) + l6)).toNat)), some (mR (43 + (((l6 * 4) + l5)).toNat))]) (by decide) rfl (by (unfold m_32; decide)) (by omega) (by omega) rfl ?_
                refine z_goto (M := M_X9_goOn) 181 dX9_goOn_181 64 rfl ?_
                exact z_mask [true, true, true, true, true, true, true, false, false] rfl (ih.2 l3 l4 l5 (l6 + 1) h2 G2 R2 (by omega) (by omega) (by omega) (by omega) (by omega) (by omega) (by omega) (by omega) (by omega))
              · refine z_iconst (M := M_X9_goOn) 170 dX9_goOn_170 ?_
                refine z_goto (M := M_X9_goOn) 171 dX9_goOn_171 175 rfl ?_
                refine z_vV (M := M_X9_goOn) 175 dX9_goOn_175 t_X2_lessen l_X9_66 (m_rr_of rfl) (rest := []) (c_X2_lessen h (77 + (l3).toNat) x13 x14 1 hb10 G ⟨by omega, by omega⟩) (oB hb10) rfl rfl rfl (Nat.le_of_ble_eq_true rfl) ⟨rfl, rfl⟩ (fun h3 qx21 => ?_)
                obtain ⟨G3, S3⟩ := qx21
                have R3 := R.call S3 (by decide +kernel)
                refine z_iincN (M := M_X9_goOn) 178 dX9_goOn_178 (ls' := [some (mR 38), some (mR 59), some (mR 76), some (mI l3), some (mI l4), some (mI l5), some (mI (l6 + 1)), some (mR (60 + (((l4 * 4) + l6)).toNat)), some (mR (43 + (((l6 * 4) + l5)).toNat))]) (by decide) rfl (by (unfold m_32; decide)) (by omega) (by omega) rfl ?_
                refine z_goto (M := M_X9_goOn) 181 dX9_goOn_181 64 rfl ?_
                exact z_mask [true, true, true, true, true, true, true, false, false] rfl (ih.2 l3 l4 l5 (l6 + 1) h3 G3 R3 (by omega) (by omega) (by omega) (by omega) (by omega) (by omega) (by omega) (by omega) (by omega))
theorem a_X9_goOn_59 (h0 : m_H) (G0 : GI h0) : ∀ n, q_X9_goOn_59 h0 n := by
  intro n
  induction n with
  | zero => unfold q_X9_goOn_59; refine ⟨?_, ?_⟩ <;> (intros; omega)
  | succ n ih => exact ⟨s_X9_goOn_59_2 h0 G0 n ih, s_X9_goOn_59_64 h0 G0 n ih⟩
set_option maxHeartbeats 4000000 in
set_option maxRecDepth 100000 in
theorem c_X9_goOn_59 (h0 : m_H) (G0 : GI h0) : m_CV M_X9_goOn [mR 38, mR 59, mR 76] h0 (P_X9_goOn_59 h0) := by
  refine m_CV_of ⟨by decide, rfl, by simp [m_arg, m_isL, M_X9_goOn], ⟨rfl, rfl⟩, rfl, rfl⟩ (ls := [some (mR 38), some (mR 59), some (mR 76), none, none, none, none, none, none]) rfl ?_
  have ih := a_X9_goOn_59 h0 G0 227
  refine z_iconst (M := M_X9_goOn) 0 dX9_goOn_0 ?_
  refine z_istore_n (M := M_X9_goOn) 1 dX9_goOn_1 (ls' := [some (mR 38), some (mR 59), some (mR 76), some (mI 0), none, none, none, none, none]) (by decide) rfl ?_
  exact z_mask [true, true, true, true, false, false, false, false, false] rfl (ih.1 0 h0 G0 (FR.rf (cs := (csB ++ [])) (ss := []) (h := h0)) (by omega) (by omega) (by omega))
abbrev P_X9_canBe (h0 : m_H) (L : Nat) (a2 : Int) : Int → m_H → Prop := fun x h' => GI h' ∧ FR (csB ++ [39, 40, 41]) [] h0 h' ∧ 0 ≤ x ∧ x ≤ 1
def q_X9_canBe (h0 : m_H) (L : Nat) (a2 : Int) (n : Nat) : Prop := (∀ (l3 : Int) (h : m_H), GI h → FR (csB ++ [39, 40, 41]) [] h0 h → 0 ≤ l3 → l3 ≤ 24 → (-2147483648) ≤ a2 → a2 ≤ 2147483647 → 2 * (24 - l3) + (78) ≤ (n : Int) → m_Z oF M_X9_canBe 6 [some (mR 38), some (mR L), some (mI a2), some (mI l3)] [] h (m_QI (P_X9_canBe h0 L a2))) ∧ (∀ (l3 : Int) (h : m_H), GI h → FR (csB ++ [39, 40, 41]) [] h0 h → 0 ≤ l3 → l3 ≤ 6 → (-2147483648) ≤ a2 → a2 ≤ 2147483647 → 2 * (6 - l3) + (63) ≤ (n : Int) → m_Z oF M_X9_canBe 36 [some (mR 38), some (mR L), none, some (mI l3)] [] h (m_QI (P_X9_canBe h0 L a2))) ∧ (∀ (l3 : Int) (h : m_H), GI h → FR (csB ++ [39, 40, 41]) [] h0 h → 0 ≤ l3 → l3 ≤ 12 → (-2147483648) ≤ a2 → a2 ≤ 2147483647 → 2 * (12 - l3) + (36) ≤ (n : Int) → m_Z oF M_X9_canBe 65 [some (mR 38), some (mR L), none, some (mI l3)] [] h (m_QI (P_X9_canBe h0 L a2))) ∧ (∀ (l3 : Int) (h : m_H), GI h → FR (csB ++ [39, 40, 41]) [] h0 h → 0 ≤ l3 → l3 ≤ 16 → (-2147483648) ≤ a2 → a2 ≤ 2147483647 → 2 * (16 - l3) + (1) ≤ (n : Int) → m_Z oF M_X9_canBe 84 [some (mR 38), some (mR L), none, some (mI l3)] [] h (m_QI (P_X9_canBe h0 L a2)))
set_option maxHeartbeats 4000000 in
set_option maxRecDepth 100000 in
theorem s_X9_canBe_6 (h0 : m_H) (L : Nat) (a2 : Int) (hL : isL L) (G0 : GI h0) (n : Nat) (ih : q_X9_canBe h0 L a2 n) : ∀ (l3 : Int) (h : m_H), GI h → FR (csB ++ [39, 40, 41]) [] h0 h → 0 ≤ l3 → l3 ≤ 24 → (-2147483648) ≤ a2 → a2 ≤ 2147483647 → 2 * (24 - l3) + (78) ≤ ((n + 1 : Nat) : Int) → m_Z oF M_X9_canBe 6 [some (mR 38), some (mR L), some (mI a2), some (mI l3)] [] h (m_QI (P_X9_canBe h0 L a2)) := by
  intro l3 h G R v0 v1 v2 v3 hr
  refine z_iload_n (M := M_X9_canBe) 6 dX9_canBe_6 rfl ?_
  refine z_aload_n (M := M_X9_canBe) 7 dX9_canBe_7 rfl ?_
  refine z_getIG (M := M_X9_canBe) 8 dX9_canBe_8 f_X9_39 (oL hL) (by decide) (gL7 hL G) (fun x1 ex1 ax1 bx1 => ?_)
  refine z_icmp_ge (M := M_X9_canBe) 11 dX9_canBe_11 34 rfl (fun c2 => ?_) (fun c2 => ?_)
  · refine z_iconst (M := M_X9_canBe) 34 dX9_canBe_34 ?_
    refine z_istore_n (M := M_X9_canBe) 35 dX9_canBe_35 (ls' := [some (mR 38), some (mR L), some (mI a2), some (mI 0)]) (by decide) rfl ?_
    exact z_mask [true, true, false, true] rfl (ih.2.1 0 h G R (by omega) (by omega) (by omega) (by omega) (by omega))
  · refine z_iload_n (M := M_X9_canBe) 14 dX9_canBe_14 rfl ?_
    refine z_iload_n (M := M_X9_canBe) 15 dX9_canBe_15 rfl ?_
    refine z_nI (M := M_X9_canBe) 16 dX9_canBe_16 t_X11_hasBit l_X9_45 (m_rr_of rfl) (rest := []) (c_X11_hasBit h a2 l3 G) rfl rfl (Nat.le_of_ble_eq_true rfl) ⟨rfl, rfl⟩ (fun x3 h1 qx3 => ?_)
    obtain ⟨rfl, ⟨rfl, cx3⟩ | ⟨rfl, cx3⟩⟩ := qx3
    · refine z_if_eq_F (M := M_X9_canBe) 19 dX9_canBe_19 28 rfl (by omega) ?_
      refine z_aload_n (M := M_X9_canBe) 22 dX9_canBe_22 rfl ?_
      refine z_aload_n (M := M_X9_canBe) 23 dX9_canBe_23 rfl ?_
      refine z_iload_n (M := M_X9_canBe) 24 dX9_canBe_24 rfl ?_
      refine z_vV (M := M_X9_canBe) 25 dX9_canBe_25 t_X9_tie l_X9_49 (m_rr_of rfl) (rest := []) (c_X9_tie h L l3 hL G ⟨by omega, by omega⟩) o_38 rfl rfl rfl (Nat.le_of_ble_eq_true rfl) ⟨rfl, rfl⟩ (fun h2 qx4 => ?_)
      obtain ⟨G2, S2⟩ := qx4
      have R2 := R.call S2 (by decide +kernel)
      refine z_iincN (M := M_X9_canBe) 28 dX9_canBe_28 (ls' := [some (mR 38), some (mR L), some (mI a2), some (mI (l3 + 1))]) (by decide) rfl (by (unfold m_32; decide)) (by omega) (by omega) rfl ?_
      refine z_goto (M := M_X9_canBe) 31 dX9_canBe_31 6 rfl ?_
      exact z_mask [true, true, true, true] rfl (ih.1 (l3 + 1) h2 G2 R2 (by omega) (by omega) (by omega) (by omega) (by omega))
    · refine z_if_eq_T (M := M_X9_canBe) 19 dX9_canBe_19 28 rfl (by omega) ?_
      refine z_iincN (M := M_X9_canBe) 28 dX9_canBe_28 (ls' := [some (mR 38), some (mR L), some (mI a2), some (mI (l3 + 1))]) (by decide) rfl (by (unfold m_32; decide)) (by omega) (by omega) rfl ?_
      refine z_goto (M := M_X9_canBe) 31 dX9_canBe_31 6 rfl ?_
      exact z_mask [true, true, true, true] rfl (ih.1 (l3 + 1) h G R (by omega) (by omega) (by omega) (by omega) (by omega))
set_option maxHeartbeats 4000000 in
set_option maxRecDepth 100000 in
theorem s_X9_canBe_36 (h0 : m_H) (L : Nat) (a2 : Int) (hL : isL L) (G0 : GI h0) (n : Nat) (ih : q_X9_canBe h0 L a2 n) : ∀ (l3 : Int) (h : m_H), GI h → FR (csB ++ [39, 40, 41]) [] h0 h → 0 ≤ l3 → l3 ≤ 6 → (-2147483648) ≤ a2 → a2 ≤ 2147483647 → 2 * (6 - l3) + (63) ≤ ((n + 1 : Nat) : Int) → m_Z oF M_X9_canBe 36 [some (mR 38), some (mR L), none, some (mI l3)] [] h (m_QI (P_X9_canBe h0 L a2)) := by
  intro l3 h G R v0 v1 v2 v3 hr
  refine z_iload_n (M := M_X9_canBe) 36 dX9_canBe_36 rfl ?_
  refine z_bipush (M := M_X9_canBe) 37 dX9_canBe_37 ?_
  refine z_icmp_ge (M := M_X9_canBe) 39 dX9_canBe_39 63 rfl (fun c1 => ?_) (fun c1 => ?_)
  · refine z_iconst (M := M_X9_canBe) 63 dX9_canBe_63 ?_
    refine z_istore_n (M := M_X9_canBe) 64 dX9_canBe_64 (ls' := [some (mR 38), some (mR L), none, some (mI 0)]) (by decide) rfl ?_
    exact z_mask [true, true, false, true] rfl (ih.2.2.1 0 h G R (by omega) (by omega) (by omega) (by omega) (by omega))
  · refine z_aload_n (M := M_X9_canBe) 42 dX9_canBe_42 rfl ?_
    refine z_getR (M := M_X9_canBe) 43 dX9_canBe_43 f_X9_53 (oL hL) rfl (rL_1 hL G) ?_
    refine z_iload_n (M := M_X9_canBe) 46 dX9_canBe_46 rfl ?_
    refine z_ialdG (M := M_X9_canBe) 47 dX9_canBe_47 (oL_2 hL) (by omega) (by omega) (gL_2 hL G (by omega)) (fun x2 ex2 ax2 bx2 => ?_)
    refine z_iconst (M := M_X9_canBe) 48 dX9_canBe_48 ?_
    refine z_icmp_eq (M := M_X9_canBe) 49 dX9_canBe_49 57 rfl (fun c3 => ?_) (fun c3 => ?_)
    · refine z_iincN (M := M_X9_canBe) 57 dX9_canBe_57 (ls' := [some (mR 38), some (mR L), none, some (mI (l3 + 1))]) (by decide) rfl (by (unfold m_32; decide)) (by omega) (by omega) rfl ?_
      refine z_goto (M := M_X9_canBe) 60 dX9_canBe_60 36 rfl ?_
      exact z_mask [true, true, false, true] rfl (ih.2.1 (l3 + 1) h G R (by omega) (by omega) (by omega) (by omega) (by omega))
    · refine z_aload_n (M := M_X9_canBe) 52 dX9_canBe_52 rfl ?_
      refine z_iload_n (M := M_X9_canBe) 53 dX9_canBe_53 rfl ?_
      refine z_vV (M := M_X9_canBe) 54 dX9_canBe_54 t_X9_tieCut l_X9_56 (m_rr_of rfl) (rest := []) (c_X9_tieCut h l3 G ⟨by omega, by omega⟩) o_38 rfl rfl rfl (Nat.le_of_ble_eq_true rfl) ⟨rfl, rfl⟩ (fun h1 qx4 => ?_)
      obtain ⟨G1, S1⟩ := qx4
      have R1 := R.call S1 (by decide +kernel)
      refine z_iincN (M := M_X9_canBe) 57 dX9_canBe_57 (ls' := [some (mR 38), some (mR L), none, some (mI (l3 + 1))]) (by decide) rfl (by (unfold m_32; decide)) (by omega) (by omega) rfl ?_
      refine z_goto (M := M_X9_canBe) 60 dX9_canBe_60 36 rfl ?_
      exact z_mask [true, true, false, true] rfl (ih.2.1 (l3 + 1) h1 G1 R1 (by omega) (by omega) (by omega) (by omega) (by omega))
set_option maxHeartbeats 4000000 in
set_option maxRecDepth 100000 in
theorem s_X9_canBe_65 (h0 : m_H) (L : Nat) (a2 : Int) (hL : isL L) (G0 : GI h0) (n : Nat) (ih : q_X9_canBe h0 L a2 n) : ∀ (l3 : Int) (h : m_H), GI h → FR (csB ++ [39, 40, 41]) [] h0 h → 0 ≤ l3 → l3 ≤ 12 → (-2147483648) ≤ a2 → a2 ≤ 2147483647 → 2 * (12 - l3) + (36) ≤ ((n + 1 : Nat) : Int) → m_Z oF M_X9_canBe 65 [some (mR 38), some (mR L), none, some (mI l3)] [] h (m_QI (P_X9_canBe h0 L a2)) := by
  intro l3 h G R v0 v1 v2 v3 hr
  refine z_iload_n (M := M_X9_canBe) 65 dX9_canBe_65 rfl ?_
  refine z_bipush (M := M_X9_canBe) 66 dX9_canBe_66 ?_
  refine z_icmp_ge (M := M_X9_canBe) 68 dX9_canBe_68 82 rfl (fun c1 => ?_) (fun c1 => ?_)
  · refine z_iconst (M := M_X9_canBe) 82 dX9_canBe_82 ?_
    refine z_istore_n (M := M_X9_canBe) 83 dX9_canBe_83 (ls' := [some (mR 38), some (mR L), none, some (mI 0)]) (by decide) rfl ?_
    exact z_mask [true, true, false, true] rfl (ih.2.2.2 0 h G R (by omega) (by omega) (by omega) (by omega) (by omega))
  · refine z_aload_n (M := M_X9_canBe) 71 dX9_canBe_71 rfl ?_
    refine z_iload_n (M := M_X9_canBe) 72 dX9_canBe_72 rfl ?_
    refine z_vV (M := M_X9_canBe) 73 dX9_canBe_73 t_X9_stepOver l_X9_60 (m_rr_of rfl) (rest := []) (c_X9_stepOver h l3 G ⟨by omega, by omega⟩) o_38 rfl rfl rfl (Nat.le_of_ble_eq_true rfl) ⟨rfl, rfl⟩ (fun h1 qx2 => ?_)
    obtain ⟨G1, S1⟩ := qx2
    have R1 := R.call S1 (by decide +kernel)
    refine z_iincN (M := M_X9_canBe) 76 dX9_canBe_76 (ls' := [some (mR 38), some (mR L), none, some (mI (l3 + 1))]) (by decide) rfl (by (unfold m_32; decide)) (by omega) (by omega) rfl ?_
    refine z_goto (M := M_X9_canBe) 79 dX9_canBe_79 65 rfl ?_
    exact z_mask [true, true, false, true] rfl (ih.2.2.1 (l3 + 1) h1 G1 R1 (by omega) (by omega) (by omega) (by omega) (by omega))
set_option maxHeartbeats 4000000 in
set_option maxRecDepth 100000 in
theorem s_X9_canBe_84 (h0 : m_H) (L : Nat) (a2 : Int) (hL : isL L) (G0 : GI h0) (n : Nat) (ih : q_X9_canBe h0 L a2 n) : ∀ (l3 : Int) (h : m_H), GI h → FR (csB ++ [39, 40, 41]) [] h0 h → 0 ≤ l3 → l3 ≤ 16 → (-2147483648) ≤ a2 → a2 ≤ 2147483647 → 2 * (16 - l3) + (1) ≤ ((n + 1 : Nat) : Int) → m_Z oF M_X9_canBe 84 [some (mR 38), some (mR L), none, some (mI l3)] [] h (m_QI (P_X9_canBe h0 L a2)) := by
  intro l3 h G R v0 v1 v2 v3 hr
  refine z_iload_n (M := M_X9_canBe) 84 dX9_canBe_84 rfl ?_
  refine z_bipush (M := M_X9_canBe) 85 dX9_canBe_85 ?_
  refine z_icmp_ge (M := M_X9_canBe) 87 dX9_canBe_87 119 rfl (fun c1 => ?_) (fun c1 => ?_)
  · refine z_aload_n (M := M_X9_canBe) 119 dX9_canBe_119 rfl ?_
    refine z_vI (M := M_X9_canBe) 120 dX9_canBe_120 t_X9_eachFootHolds l_X9_72 (m_rr_of rfl) (rest := []) (c_X9_eachFootHolds h G) o_38 rfl rfl rfl (Nat.le_of_ble_eq_true rfl) ⟨rfl, rfl⟩ (fun x2 h1 qx2 => ?_)
    obtain ⟨G1, S1, ax2, bx2⟩ := qx2
    have R1 := R.call S1 (by decide +kernel)
    refine z_if_ne (M := M_X9_canBe) 123 dX9_canBe_123 128 rfl (fun c3 => ?_) (fun c3 => ?_)
    · refine z_aload_n (M := M_X9_canBe) 128 dX9_canBe_128 rfl ?_
      refine z_aload_n (M := M_X9_canBe) 129 dX9_canBe_129 rfl ?_
      refine z_getR (M := M_X9_canBe) 130 dX9_canBe_130 f_X9_26 o_38 rfl (g_38_3 G1) ?_
      refine z_aload_n (M := M_X9_canBe) 133 dX9_canBe_133 rfl ?_
      refine z_getR (M := M_X9_canBe) 134 dX9_canBe_134 f_X9_30 o_38 rfl (g_38_4 G1) ?_
      refine z_vV (M := M_X9_canBe) 137 dX9_canBe_137 t_X9_goOn l_X9_76 (m_rr_of rfl) (rest := []) (c_X9_goOn_42 h1 G1) o_38 rfl rfl rfl (Nat.le_of_ble_eq_true rfl) ⟨rfl, rfl⟩ (fun h2 qx4 => ?_)
      obtain ⟨G2, S2⟩ := qx4
      have R2 := R1.call S2 (by decide +kernel)
      refine z_aload_n (M := M_X9_canBe) 140 dX9_canBe_140 rfl ?_
      refine z_aload_n (M := M_X9_canBe) 141 dX9_canBe_141 rfl ?_
      refine z_getR (M := M_X9_canBe) 142 dX9_canBe_142 f_X9_30 o_38 rfl (g_38_4 G2) ?_
      refine z_aload_n (M := M_X9_canBe) 145 dX9_canBe_145 rfl ?_
      refine z_getR (M := M_X9_canBe) 146 dX9_canBe_146 f_X9_33 o_38 rfl (g_38_5 G2) ?_
      refine z_vV (M := M_X9_canBe) 149 dX9_canBe_149 t_X9_goOn l_X9_76 (m_rr_of rfl) (rest := []) (c_X9_goOn_59 h2 G2) o_38 rfl rfl rfl (Nat.le_of_ble_eq_true rfl) ⟨rfl, rfl⟩ (fun h3 qx5 => ?_)
      obtain ⟨G3, S3⟩ := qx5
      have R3 := R2.call S3 (by decide +kernel)
      refine z_aload_n (M := M_X9_canBe) 152 dX9_canBe_152 rfl ?_
      refine z_vI (M := M_X9_canBe) 153 dX9_canBe_153 t_X9_feetHoldTogether l_X9_80 (m_rr_of rfl) (rest := []) (c_X9_feetHoldTogether h3 G3) o_38 rfl rfl rfl (Nat.le_of_ble_eq_true rfl) ⟨rfl, rfl⟩ (fun x6 h4 qx6 => ?_)
      obtain ⟨G4, S4, ax6, bx6⟩ := qx6
      have R4 := R3.call S4 (by decide +kernel)
      exact z_retZ (M := M_X9_canBe) 156 dX9_canBe_156 rfl (by omega) ⟨G4, R4, by omega, by omega⟩
    · refine z_iconst (M := M_X9_canBe) 126 dX9_canBe_126 ?_
      exact z_retZ (M := M_X9_canBe) 127 dX9_canBe_127 rfl (by omega) ⟨G1, R1, by omega, by omega⟩
  · refine z_aload_n (M := M_X9_canBe) 90 dX9_canBe_90 rfl ?_
    refine z_getIV (M := M_X9_canBe) 91 dX9_canBe_91 f_X9_63 (oL hL) (by decide) (fun x7 ex7 => ?_)
    refine z_ok (fun ox7 _ _ => ?_)
    have ox7 := ox7.1; unfold m_ok m_32 at ox7
    refine z_iload_n (M := M_X9_canBe) 94 dX9_canBe_94 rfl ?_
    refine z_nI (M := M_X9_canBe) 95 dX9_canBe_95 t_X11_hasBit l_X9_45 (m_rr_of rfl) (rest := []) (c_X11_hasBit h x7 l3 G) rfl rfl (Nat.le_of_ble_eq_true rfl) ⟨rfl, rfl⟩ (fun x8 h5 qx8 => ?_)
    obtain ⟨rfl, ⟨rfl, cx8⟩ | ⟨rfl, cx8⟩⟩ := qx8
    · refine z_if_eq_F (M := M_X9_canBe) 98 dX9_canBe_98 113 rfl (by omega) ?_
      refine z_aload_n (M := M_X9_canBe) 101 dX9_canBe_101 rfl ?_
      refine z_getR (M := M_X9_canBe) 102 dX9_canBe_102 f_X9_26 o_38 rfl (g_38_3 G) ?_
      refine z_iload_n (M := M_X9_canBe) 105 dX9_canBe_105 rfl ?_
      have hb9 := isB_42 (i := l3) (by omega) (by omega)
      refine z_aaldB (M := M_X9_canBe) 106 dX9_canBe_106 o_42 (by omega) (by omega) (g_42 G (by omega)) ?_
      refine z_lconst (M := M_X9_canBe) 107 dX9_canBe_107 (v := 1) ?_
      refine z_lconst (M := M_X9_canBe) 108 dX9_canBe_108 (v := 1) ?_
      refine z_iconst (M := M_X9_canBe) 109 dX9_canBe_109 ?_
      refine z_vV (M := M_X9_canBe) 110 dX9_canBe_110 t_X2_lessen l_X9_66 (m_rr_of rfl) (rest := []) (c_X2_lessen h (43 + (l3).toNat) 1 1 1 hb9 G ⟨by omega, by omega⟩) (oB hb9) rfl rfl rfl (Nat.le_of_ble_eq_true rfl) ⟨rfl, rfl⟩ (fun h6 qx10 => ?_)
      obtain ⟨G6, S6⟩ := qx10
      have R6 := R.call S6 (by decide +kernel)
      refine z_iincN (M := M_X9_canBe) 113 dX9_canBe_113 (ls' := [some (mR 38), some (mR L), none, some (mI (l3 + 1))]) (by decide) rfl (by (unfold m_32; decide)) (by omega) (by omega) rfl ?_
      refine z_goto (M := M_X9_canBe) 116 dX9_canBe_116 84 rfl ?_
      exact z_mask [true, true, false, true] rfl (ih.2.2.2 (l3 + 1) h6 G6 R6 (by omega) (by omega) (by omega) (by omega) (by omega))
    · refine z_if_eq_T (M := M_X9_canBe) 98 dX9_canBe_98 113 rfl (by omega) ?_
      refine z_iincN (M := M_X9_canBe) 113 dX9_canBe_113 (ls' := [some (mR 38), some (mR L), none, some (mI (l3 + 1))]) (by decide) rfl (by (unfold m_32; decide)) (by omega) (by omega) rfl ?_
      refine z_goto (M := M_X9_canBe) 116 dX9_canBe_116 84 rfl ?_
      exact z_mask [true, true, false, true] rfl (ih.2.2.2 (l3 + 1) h G R (by omega) (by omega) (by omega) (by omega) (by omega))
theorem a_X9_canBe (h0 : m_H) (L : Nat) (a2 : Int) (hL : isL L) (G0 : GI h0) : ∀ n, q_X9_canBe h0 L a2 n := by
  intro n
  induction n with
  | zero => unfold q_X9_canBe; refine ⟨?_, ?_, ?_, ?_⟩ <;> (intros; omega)
  | succ n ih => exact ⟨s_X9_canBe_6 h0 L a2 hL G0 n ih, s_X9_canBe_36 h0 L a2 hL G0 n ih, s_X9_canBe_65 h0 L a2 hL G0 n ih, s_X9_canBe_84 h0 L a2 hL G0 n ih⟩
set_option maxHeartbeats 4000000 in
set_option maxRecDepth 100000 in
theorem c_X9_canBe (h0 : m_H) (L : Nat) (a2 : Int) (hL : isL L) (G0 : GI h0) : m_CI M_X9_canBe [mR 38, mR L, mI a2] h0 (P_X9_canBe h0 L a2) := by
  refine m_CI_of ⟨by decide, rfl, by simp [m_arg, m_isL, M_X9_canBe], ⟨rfl, rfl⟩, rfl, rfl⟩ (ls := [some (mR 38), some (mR L), some (mI a2), none]) rfl ?_
  have ih := a_X9_canBe h0 L a2 hL G0 133
  refine z_ok (fun _ _ ok => ?_)
  have oa2 : m_32 a2 := ok 2 _ rfl
  unfold m_32 at oa2
  refine z_aload_n (M := M_X9_canBe) 0 dX9_canBe_0 rfl ?_
  refine z_vV (M := M_X9_canBe) 1 dX9_canBe_1 t_X9_forget l_X9_36 (m_rr_of rfl) (rest := []) (c_X9_forget h0 G0) o_38 rfl rfl rfl (Nat.le_of_ble_eq_true rfl) ⟨rfl, rfl⟩ (fun h1 qx1 => ?_)
  obtain ⟨G1, S1⟩ := qx1
  have R1 := (FR.rf (cs := (csB ++ [39, 40, 41])) (ss := []) (h := h0)).call S1 (by decide +kernel)
  refine z_iconst (M := M_X9_canBe) 4 dX9_canBe_4 ?_
  refine z_istore_n (M := M_X9_canBe) 5 dX9_canBe_5 (ls' := [some (mR 38), some (mR L), some (mI a2), some (mI 0)]) (by decide) rfl ?_
  exact z_mask [true, true, true, true] rfl (ih.1 0 h1 G1 R1 (by omega) (by omega) (by omega) (by omega) (by omega))
abbrev P_X9_limitBy (h0 : m_H) (b : Nat) (a1 a2 a3 : Int) : m_H → Prop := fun h' => GI h' ∧ FR (csB ++ []) [] h0 h'
set_option maxHeartbeats 4000000 in
set_option maxRecDepth 100000 in
theorem c_X9_limitBy (h0 : m_H) (b : Nat) (a1 a2 a3 : Int) (hb : isB b) (G0 : GI h0) (pa1 : 0 ≤ a1 ∧ a1 ≤ 15) (pa2 : 0 ≤ a2 ∧ a2 ≤ 15) (pa3 : 0 ≤ a3 ∧ a3 ≤ 15) : m_CV M_X9_limitBy [mR 38, mI a1, mI a2, mI a3, mR b] h0 (P_X9_limitBy h0 b a1 a2 a3) := by
  refine m_CV_of ⟨by decide, rfl, by simp [m_arg, m_isL, M_X9_limitBy], ⟨rfl, rfl⟩, rfl, rfl⟩ (ls := [some (mR 38), some (mI a1), some (mI a2), some (mI a3), some (mR b), none, none, none, none, none, none, none, none]) rfl ?_
  refine z_aload_n (M := M_X9_limitBy) 0 dX9_limitBy_0 rfl ?_
  refine z_getR (M := M_X9_limitBy) 1 dX9_limitBy_1 f_X9_33 o_38 rfl (g_38_5 G0) ?_
  refine z_iload_n (M := M_X9_limitBy) 4 dX9_limitBy_4 rfl ?_
  have hb1 := isB_76 (i := a3) (by omega) (by omega)
  refine z_aaldB (M := M_X9_limitBy) 5 dX9_limitBy_5 o_76 (by omega) (by omega) (g_76 G0 (by omega)) ?_
  refine z_astore (M := M_X9_limitBy) 6 dX9_limitBy_6 (ls' := [some (mR 38), some (mI a1), some (mI a2), some (mI a3), some (mR b), some (mR (77 + (a3).toNat)), none, none, none, none, none, none, none]) (by decide) rfl ?_
  refine z_iload_n (M := M_X9_limitBy) 8 dX9_limitBy_8 rfl ?_
  refine z_iconst (M := M_X9_limitBy) 9 dX9_limitBy_9 ?_
  refine z_idivN (M := M_X9_limitBy) 10 dX9_limitBy_10 (by omega) (by omega) ?_
  refine z_topBI (lo := 0) (hi := 3) ⟨by omega, by omega⟩ (fun x2 ex2 ax2 bx2 => ?_)
  refine z_istore (M := M_X9_limitBy) 11 dX9_limitBy_11 (ls' := [some (mR 38), some (mI a1), some (mI a2), some (mI a3), some (mR b), some (mR (77 + (a3).toNat)), some (mI x2), none, none, none, none, none, none]) (by decide) rfl ?_
  refine z_iload_n (M := M_X9_limitBy) 13 dX9_limitBy_13 rfl ?_
  refine z_iconst (M := M_X9_limitBy) 14 dX9_limitBy_14 ?_
  refine z_iremN (M := M_X9_limitBy) 15 dX9_limitBy_15 (by omega) (by omega) ?_
  refine z_topBI (lo := 0) (hi := 3) ⟨by omega, by omega⟩ (fun x3 ex3 ax3 bx3 => ?_)
  refine z_istore (M := M_X9_limitBy) 16 dX9_limitBy_16 (ls' := [some (mR 38), some (mI a1), some (mI a2), some (mI a3), some (mR b), some (mR (77 + (a3).toNat)), some (mI x2), some (mI x3), none, none, none, none, none]) (by decide) rfl ?_
  refine z_aload_n (M := M_X9_limitBy) 18 dX9_limitBy_18 rfl ?_
  refine z_iload_n (M := M_X9_limitBy) 19 dX9_limitBy_19 rfl ?_
  refine z_iload (M := M_X9_limitBy) 20 dX9_limitBy_20 rfl ?_
  refine z_vI (M := M_X9_limitBy) 22 dX9_limitBy_22 t_X9_highOf l_X9_142 (m_rr_of rfl) (rest := []) (c_X9_highOf h0 a1 x2 G0 ⟨by omega, by omega⟩ ⟨by omega, by omega⟩) o_38 rfl rfl rfl (Nat.le_of_ble_eq_true rfl) ⟨rfl, rfl⟩ (fun x4 h1 qx4 => ?_)
  obtain ⟨G1, S1⟩ := qx4
  have R1 := (FR.rf (cs := (csB ++ [])) (ss := []) (h := h0)).call S1 (by decide +kernel)
  refine z_ok (fun ox4 _ _ => ?_)
  have ox4 := ox4.1; unfold m_ok m_32 at ox4
  refine z_i2l (M := M_X9_limitBy) 25 dX9_limitBy_25 ?_
  refine z_lstore (M := M_X9_limitBy) 26 dX9_limitBy_26 (ls' := [some (mR 38), some (mI a1), some (mI a2), some (mI a3), some (mR b), some (mR (77 + (a3).toNat)), some (mI x2), some (mI x3), some (mJ x4), none, none, none, none]) (by decide) rfl ?_
  refine z_aload_n (M := M_X9_limitBy) 28 dX9_limitBy_28 rfl ?_
  refine z_iload_n (M := M_X9_limitBy) 29 dX9_limitBy_29 rfl ?_
  refine z_iload (M := M_X9_limitBy) 30 dX9_limitBy_30 rfl ?_
  refine z_vI (M := M_X9_limitBy) 32 dX9_limitBy_32 t_X9_lowOf l_X9_145 (m_rr_of rfl) (rest := []) (c_X9_lowOf h1 a2 x3 G1 ⟨by omega, by omega⟩ ⟨by omega, by omega⟩) o_38 rfl rfl rfl (Nat.le_of_ble_eq_true rfl) ⟨rfl, rfl⟩ (fun x5 h2 qx5 => ?_)
  obtain ⟨G2, S2⟩ := qx5
  have R2 := R1.call S2 (by decide +kernel)
  refine z_ok (fun ox5 _ _ => ?_)
  have ox5 := ox5.1; unfold m_ok m_32 at ox5
  refine z_i2l (M := M_X9_limitBy) 35 dX9_limitBy_35 ?_
  refine z_lstore (M := M_X9_limitBy) 36 dX9_limitBy_36 (ls' := [some (mR 38), some (mI a1), some (mI a2), some (mI a3), some (mR b), some (mR (77 + (a3).toNat)), some (mI x2), some (mI x3), some (mJ x4), none, some (mJ x5), none, none]) (by decide) rfl ?_
  refine z_lload (M := M_X9_limitBy) 38 dX9_limitBy_38 rfl ?_
  refine z_lconst (M := M_X9_limitBy) 40 dX9_limitBy_40 (v := 0) ?_
  refine z_lcmp (M := M_X9_limitBy) 41 dX9_limitBy_41 ?_
  refine z_if_eq (M := M_X9_limitBy) 42 dX9_limitBy_42 62 rfl (fun c6 => ?_) (fun c6 => ?_)
  · rw [m_cmp_eq] at c6
    exact z_retV (M := M_X9_limitBy) 62 dX9_limitBy_62 rfl ⟨G2, R2⟩
  · rw [m_cmp_eq] at c6
    refine z_lload (M := M_X9_limitBy) 45 dX9_limitBy_45 rfl ?_
    refine z_lconst (M := M_X9_limitBy) 47 dX9_limitBy_47 (v := 0) ?_
    refine z_lcmp (M := M_X9_limitBy) 48 dX9_limitBy_48 ?_
    refine z_if_eq (M := M_X9_limitBy) 49 dX9_limitBy_49 62 rfl (fun c7 => ?_) (fun c7 => ?_)
    · rw [m_cmp_eq] at c7
      exact z_retV (M := M_X9_limitBy) 62 dX9_limitBy_62 rfl ⟨G2, R2⟩
    · rw [m_cmp_eq] at c7
      refine z_aload (M := M_X9_limitBy) 52 dX9_limitBy_52 rfl ?_
      refine z_getJV (M := M_X9_limitBy) 54 dX9_limitBy_54 f_X9_132 (oB hb1) rfl (fun x8 ex8 => ?_)
      refine z_lconst (M := M_X9_limitBy) 57 dX9_limitBy_57 (v := 0) ?_
      refine z_lcmp (M := M_X9_limitBy) 58 dX9_limitBy_58 ?_
      refine z_if_ne (M := M_X9_limitBy) 59 dX9_limitBy_59 63 rfl (fun c9 => ?_) (fun c9 => ?_)
      · rw [m_cmp_eq] at c9
        refine z_aload (M := M_X9_limitBy) 63 dX9_limitBy_63 rfl ?_
        refine z_getIG (M := M_X9_limitBy) 65 dX9_limitBy_65 f_X9_134 (oB hb1) (by decide) (gB hb1 G2) (fun x10 ex10 ax10 bx10 => ?_)
        refine z_if_ne (M := M_X9_limitBy) 68 dX9_limitBy_68 91 rfl (fun c11 => ?_) (fun c11 => ?_)
        · refine z_iconst (M := M_X9_limitBy) 91 dX9_limitBy_91 ?_
          refine z_goto (M := M_X9_limitBy) 92 dX9_limitBy_92 96 rfl ?_
          refine z_istore (M := M_X9_limitBy) 96 dX9_limitBy_96 (ls' := [some (mR 38), some (mI a1), some (mI a2), some (mI a3), some (mR b), some (mR (77 + (a3).toNat)), some (mI x2), some (mI x3), some (mJ x4), none, some (mJ x5), none, some (mI 1)]) (by decide) rfl ?_
          refine z_lload (M := M_X9_limitBy) 98 dX9_limitBy_98 rfl ?_
          refine z_aload (M := M_X9_limitBy) 100 dX9_limitBy_100 rfl ?_
          refine z_getJV (M := M_X9_limitBy) 102 dX9_limitBy_102 f_X9_128 (oB hb1) rfl (fun x12 ex12 => ?_)
          refine z_iload_n (M := M_X9_limitBy) 105 dX9_limitBy_105 rfl ?_
          refine z_iload_n (M := M_X9_limitBy) 106 dX9_limitBy_106 rfl ?_
          refine z_sI (M := M_X9_limitBy) 107 dX9_limitBy_107 t_X9_halvesIn l_X9_148 (m_rr_of rfl) (rest := [mJ x12, mJ x4]) (c_X9_halvesIn h2 a1 a2 G2) rfl rfl (Nat.le_of_ble_eq_true rfl) ⟨rfl, rfl⟩ (fun x13 h3 qx13 => ?_)
          obtain ⟨G3, S3, ax13, bx13⟩ := qx13
          have R3 := R2.call S3 (by decide +kernel)
          refine z_i2l (M := M_X9_limitBy) 110 dX9_limitBy_110 ?_
          refine z_lmul (M := M_X9_limitBy) 111 dX9_limitBy_111 ?_
          refine z_topJ (fun x14 ex14 => ?_)
          refine z_lmul (M := M_X9_limitBy) 112 dX9_limitBy_112 ?_
          refine z_topJ (fun x15 ex15 => ?_)
          refine z_lstore (M := M_X9_limitBy) 113 dX9_limitBy_113 (ls' := [some (mR 38), some (mI a1), some (mI a2), some (mI a3), some (mR b), some (mR (77 + (a3).toNat)), some (mI x2), some (mI x3), some (mJ x15), none, some (mJ x5), none, some (mI 1)]) (by decide) rfl ?_
          refine z_lload (M := M_X9_limitBy) 115 dX9_limitBy_115 rfl ?_
          refine z_aload (M := M_X9_limitBy) 117 dX9_limitBy_117 rfl ?_
          refine z_getJV (M := M_X9_limitBy) 119 dX9_limitBy_119 f_X9_132 (oB hb1) rfl (fun x16 ex16 => ?_)
          refine z_iload_n (M := M_X9_limitBy) 122 dX9_limitBy_122 rfl ?_
          refine z_iload_n (M := M_X9_limitBy) 123 dX9_limitBy_123 rfl ?_
          refine z_sI (M := M_X9_limitBy) 124 dX9_limitBy_124 t_X9_halvesIn l_X9_148 (m_rr_of rfl) (rest := [mJ x16, mJ x5]) (c_X9_halvesIn h3 a2 a1 G3) rfl rfl (Nat.le_of_ble_eq_true rfl) ⟨rfl, rfl⟩ (fun x17 h4 qx17 => ?_)
          obtain ⟨G4, S4, ax17, bx17⟩ := qx17
          have R4 := R3.call S4 (by decide +kernel)
          refine z_i2l (M := M_X9_limitBy) 127 dX9_limitBy_127 ?_
          refine z_lmul (M := M_X9_limitBy) 128 dX9_limitBy_128 ?_
          refine z_topJ (fun x18 ex18 => ?_)
          refine z_lmul (M := M_X9_limitBy) 129 dX9_limitBy_129 ?_
          refine z_topJ (fun x19 ex19 => ?_)
          refine z_lstore (M := M_X9_limitBy) 130 dX9_limitBy_130 (ls' := [some (mR 38), some (mI a1), some (mI a2), some (mI a3), some (mR b), some (mR (77 + (a3).toNat)), some (mI x2), some (mI x3), some (mJ x15), none, some (mJ x19), none, some (mI 1)]) (by decide) rfl ?_
          refine z_aload (M := M_X9_limitBy) 132 dX9_limitBy_132 rfl ?_
          refine z_lload (M := M_X9_limitBy) 134 dX9_limitBy_134 rfl ?_
          refine z_lload (M := M_X9_limitBy) 136 dX9_limitBy_136 rfl ?_
          refine z_iload (M := M_X9_limitBy) 138 dX9_limitBy_138 rfl ?_
          refine z_vV (M := M_X9_limitBy) 140 dX9_limitBy_140 t_X2_lessen l_X9_66 (m_rr_of rfl) (rest := []) (c_X2_lessen h4 b x15 x19 1 hb G4 ⟨by omega, by omega⟩) (oB hb) rfl rfl rfl (Nat.le_of_ble_eq_true rfl) ⟨rfl, rfl⟩ (fun h5 qx20 => ?_)
          obtain ⟨G5, S5⟩ := qx20
          have R5 := R4.call S5 (by decide +kernel)
          exact z_retV (M := M_X9_limitBy) 143 dX9_limitBy_143 rfl ⟨G5, R5⟩
        · refine z_iload_n (M := M_X9_limitBy) 71 dX9_limitBy_71 rfl ?_
          refine z_bipush (M := M_X9_limitBy) 72 dX9_limitBy_72 ?_
          refine z_icmp_ge (M := M_X9_limitBy) 74 dX9_limitBy_74 95 rfl (fun c21 => ?_) (fun c21 => ?_)
          · refine z_iconst (M := M_X9_limitBy) 95 dX9_limitBy_95 ?_
            refine z_istore (M := M_X9_limitBy) 96 dX9_limitBy_96 (ls' := [some (mR 38), some (mI a1), some (mI a2), some (mI a3), some (mR b), some (mR (77 + (a3).toNat)), some (mI x2), some (mI x3), some (mJ x4), none, some (mJ x5), none, some (mI 0)]) (by decide) rfl ?_
            refine z_lload (M := M_X9_limitBy) 98 dX9_limitBy_98 rfl ?_
            refine z_aload (M := M_X9_limitBy) 100 dX9_limitBy_100 rfl ?_
            refine z_getJV (M := M_X9_limitBy) 102 dX9_limitBy_102 f_X9_128 (oB hb1) rfl (fun x22 ex22 => ?_)
            refine z_iload_n (M := M_X9_limitBy) 105 dX9_limitBy_105 rfl ?_
            refine z_iload_n (M := M_X9_limitBy) 106 dX9_limitBy_106 rfl ?_
            refine z_sI (M := M_X9_limitBy) 107 dX9_limitBy_107 t_X9_halvesIn l_X9_148 (m_rr_of rfl) (rest := [mJ x22, mJ x4]) (c_X9_halvesIn h2 a1 a2 G2) rfl rfl (Nat.le_of_ble_eq_true rfl) ⟨rfl, rfl⟩ (fun x23 h6 qx23 => ?_)
            obtain ⟨G6, S6, ax23, bx23⟩ := qx23
            have R6 := R2.call S6 (by decide +kernel)
            refine z_i2l (M := M_X9_limitBy) 110 dX9_limitBy_110 ?_
            refine z_lmul (M := M_X9_limitBy) 111 dX9_limitBy_111 ?_
            refine z_topJ (fun x24 ex24 => ?_)
            refine z_lmul (M := M_X9_limitBy) 112 dX9_limitBy_112 ?_
            refine z_topJ (fun x25 ex25 => ?_)
            refine z_lstore (M := M_X9_limitBy) 113 dX9_limitBy_113 (ls' := [some (mR 38), some (mI a1), some (mI a2), some (mI a3), some (mR b), some (mR (77 + (a3).toNat)), some (mI x2), some (mI x3), some (mJ x25), none, some (mJ x5), none, some (mI 0)]) (by decide) rfl ?_
            refine z_lload (M := M_X9_limitBy) 115 dX9_limitBy_115 rfl ?_
            refine z_aload (M := M_X9_limitBy) 117 dX9_limitBy_117 rfl ?_
            refine z_getJV (M := M_X9_limitBy) 119 dX9_limitBy_119 f_X9_132 (oB hb1) rfl (fun x26 ex26 => ?_)
            refine z_iload_n (M := M_X9_limitBy) 122 dX9_limitBy_122 rfl ?_
            refine z_iload_n (M := M_X9_limitBy) 123 dX9_limitBy_123 rfl ?_
            refine z_sI (M := M_X9_limitBy) 124 dX9_limitBy_124 t_X9_halvesIn l_X9_148 (m_rr_of rfl) (rest := [mJ x26, mJ x5]) (c_X9_halvesIn h6 a2 a1 G6) rfl rfl (Nat.le_of_ble_eq_true rfl) ⟨rfl, rfl⟩ (fun x27 h7 qx27 => ?_)
            obtain ⟨G7, S7, ax27, bx27⟩ := qx27
            have R7 := R6.call S7 (by decide +kernel)
            refine z_i2l (M := M_X9_limitBy) 127 dX9_limitBy_127 ?_
            refine z_lmul (M := M_X9_limitBy) 128 dX9_limitBy_128 ?_
            refine z_topJ (fun x28 ex28 => ?_)
            refine z_lmul (M := M_X9_limitBy) 129 dX9_limitBy_129 ?_
            refine z_topJ (fun x29 ex29 => ?_)
            refine z_lstore (M := M_X9_limitBy) 130 dX9_limitBy_130 (ls' := [some (mR 38), some (mI a1), some (mI a2), some (mI a3), some (mR b), some (mR (77 + (a3).toNat)), some (mI x2), some (mI x3), some (mJ x25), none, some (mJ x29), none, some (mI 0)]) (by decide) rfl ?_
            refine z_aload (M := M_X9_limitBy) 132 dX9_limitBy_132 rfl ?_
            refine z_lload (M := M_X9_limitBy) 134 dX9_limitBy_134 rfl ?_
            refine z_lload (M := M_X9_limitBy) 136 dX9_limitBy_136 rfl ?_
            refine z_iload (M := M_X9_limitBy) 138 dX9_limitBy_138 rfl ?_
            refine z_vV (M := M_X9_limitBy) 140 dX9_limitBy_140 t_X2_lessen l_X9_66 (m_rr_of rfl) (rest := []) (c_X2_lessen h7 b x25 x29 0 hb G7 ⟨by omega, by omega⟩) (oB hb) rfl rfl rfl (Nat.le_of_ble_eq_true rfl) ⟨rfl, rfl⟩ (fun h8 qx30 => ?_)
            obtain ⟨G8, S8⟩ := qx30
            have R8 := R7.call S8 (by decide +kernel)
            exact z_retV (M := M_X9_limitBy) 143 dX9_limitBy_143 rfl ⟨G8, R8⟩
          · refine z_aload_n (M := M_X9_limitBy) 77 dX9_limitBy_77 rfl ?_
            refine z_getR (M := M_X9_limitBy) 78 dX9_limitBy_78 f_X9_15 o_38 rfl (g_38_1 G2) ?_
            refine z_iload_n (M := M_X9_limitBy) 81 dX9_limitBy_81 rfl ?_
            refine z_iconst (M := M_X9_limitBy) 82 dX9_limitBy_82 ?_
            refine z_imulN (M := M_X9_limitBy) 83 dX9_limitBy_83 (by omega) (by omega) ?_
            refine z_iload (M := M_X9_limitBy) 84 dX9_limitBy_84 rfl ?_
            refine z_iaddN (M := M_X9_limitBy) 86 dX9_limitBy_86 (by omega) (by omega) ?_
            refine z_zaldG (M := M_X9_limitBy) 87 dX9_limitBy_87 o_40 (by omega) (by omega) (g_40 G2 (by omega)) (fun x31 ex31 ax31 bx31 => ?_)
            refine z_if_eq (M := M_X9_limitBy) 88 dX9_limitBy_88 95 rfl (fun c32 => ?_) (fun c32 => ?_)
            · refine z_iconst (M := M_X9_limitBy) 95 dX9_limitBy_95 ?_
              refine z_istore (M := M_X9_limitBy) 96 dX9_limitBy_96 (ls' := [some (mR 38), some (mI a1), some (mI a2), some (mI a3), some (mR b), some (mR (77 + (a3).toNat)), some (mI x2), some (mI x3), some (mJ x4), none, some (mJ x5), none, some (mI 0)]) (by decide) rfl ?_
              refine z_lload (M := M_X9_limitBy) 98 dX9_limitBy_98 rfl ?_
              refine z_aload (M := M_X9_limitBy) 100 dX9_limitBy_100 rfl ?_
              refine z_getJV (M := M_X9_limitBy) 102 dX9_limitBy_102 f_X9_128 (oB hb1) rfl (fun x33 ex33 => ?_)
              refine z_iload_n (M := M_X9_limitBy) 105 dX9_limitBy_105 rfl ?_
              refine z_iload_n (M := M_X9_limitBy) 106 dX9_limitBy_106 rfl ?_
              refine z_sI (M := M_X9_limitBy) 107 dX9_limitBy_107 t_X9_halvesIn l_X9_148 (m_rr_of rfl) (rest := [mJ x33, mJ x4]) (c_X9_halvesIn h2 a1 a2 G2) rfl rfl (Nat.le_of_ble_eq_true rfl) ⟨rfl, rfl⟩ (fun x34 h9 qx34 => ?_)
              obtain ⟨G9, S9, ax34, bx34⟩ := qx34
              have R9 := R2.call S9 (by decide +kernel)
              refine z_i2l (M := M_X9_limitBy) 110 dX9_limitBy_110 ?_
              refine z_lmul (M := M_X9_limitBy) 111 dX9_limitBy_111 ?_
              refine z_topJ (fun x35 ex35 => ?_)
              refine z_lmul (M := M_X9_limitBy) 112 dX9_limitBy_112 ?_
              refine z_topJ (fun x36 ex36 => ?_)
              refine z_lstore (M := M_X9_limitBy) 113 dX9_limitBy_113 (ls' := [some (mR 38), some (mI a1), some (mI a2), some (mI a3), some (mR b), some (mR (77 + (a3).toNat)), some (mI x2), some (mI x3), some (mJ x36), none, some (mJ x5), none, some (mI 0)]) (by decide) rfl ?_
              refine z_lload (M := M_X9_limitBy) 115 dX9_limitBy_115 rfl ?_
              refine z_aload (M := M_X9_limitBy) 117 dX9_limitBy_117 rfl ?_
              refine z_getJV (M := M_X9_limitBy) 119 dX9_limitBy_119 f_X9_132 (oB hb1) rfl (fun x37 ex37 => ?_)
              refine z_iload_n (M := M_X9_limitBy) 122 dX9_limitBy_122 rfl ?_
              refine z_iload_n (M := M_X9_limitBy) 123 dX9_limitBy_123 rfl ?_
              refine z_sI (M := M_X9_limitBy) 124 dX9_limitBy_124 t_X9_halvesIn l_X9_148 (m_rr_of rfl) (rest := [mJ x37, mJ x5]) (c_X9_halvesIn h9 a2 a1 G9) rfl rfl (Nat.le_of_ble_eq_true rfl) ⟨rfl, rfl⟩ (fun x38 h10 qx38 => ?_)
              obtain ⟨G10, S10, ax38, bx38⟩ := qx38
              have R10 := R9.call S10 (by decide +kernel)
              refine z_i2l (M := M_X9_limitBy) 127 dX9_limitBy_127 ?_
              refine z_lmul (M := M_X9_limitBy) 128 dX9_limitBy_128 ?_
              refine z_topJ (fun x39 ex39 => ?_)
              refine z_lmul (M := M_X9_limitBy) 129 dX9_limitBy_129 ?_
              refine z_topJ (fun x40 ex40 => ?_)
              refine z_lstore (M := M_X9_limitBy) 130 dX9_limitBy_130 (ls' := [some (mR 38), some (mI a1), some (mI a2), some (mI a3), some (mR b), some (mR (77 + (a3).toNat)), some (mI x2), some (mI x3), some (mJ x36), none, some (mJ x40), none, some (mI 0)]) (by decide) rfl ?_
              refine z_aload (M := M_X9_limitBy) 132 dX9_limitBy_132 rfl ?_
              refine z_lload (M := M_X9_limitBy) 134 dX9_limitBy_134 rfl ?_
              refine z_lload (M := M_X9_limitBy) 136 dX9_limitBy_136 rfl ?_
              refine z_iload (M := M_X9_limitBy) 138 dX9_limitBy_138 rfl ?_
              refine z_vV (M := M_X9_limitBy) 140 dX9_limitBy_140 t_X2_lessen l_X9_66 (m_rr_of rfl) (rest := []) (c_X2_lessen h10 b x36 x40 0 hb G10 ⟨by omega, by omega⟩) (oB hb) rfl rfl rfl (Nat.le_of_ble_eq_true rfl) ⟨rfl, rfl⟩ (fun h11 qx41 => ?_)
              obtain ⟨G11, S11⟩ := qx41
              have R11 := R10.call S11 (by decide +kernel)
              exact z_retV (M := M_X9_limitBy) 143 dX9_limitBy_143 rfl ⟨G11, R11⟩
            · refine z_iconst (M := M_X9_limitBy) 91 dX9_limitBy_91 ?_
              refine z_goto (M := M_X9_limitBy) 92 dX9_limitBy_92 96 rfl ?_
              refine z_istore (M := M_X9_limitBy) 96 dX9_limitBy_96 (ls' := [some (mR 38), some (mI a1), some (mI a2), some (mI a3), some (mR b), some (mR (77 + (a3).toNat)), some (mI x2), some (mI x3), some (mJ x4), none, some (mJ x5), none, some (mI 1)]) (by decide) rfl ?_
              refine z_lload (M := M_X9_limitBy) 98 dX9_limitBy_98 rfl ?_
              refine z_aload (M := M_X9_limitBy) 100 dX9_limitBy_100 rfl ?_
              refine z_getJV (M := M_X9_limitBy) 102 dX9_limitBy_102 f_X9_128 (oB hb1) rfl (fun x42 ex42 => ?_)
              refine z_iload_n (M := M_X9_limitBy) 105 dX9_limitBy_105 rfl ?_
              refine z_iload_n (M := M_X9_limitBy) 106 dX9_limitBy_106 rfl ?_
              refine z_sI (M := M_X9_limitBy) 107 dX9_limitBy_107 t_X9_halvesIn l_X9_148 (m_rr_of rfl) (rest := [mJ x42, mJ x4]) (c_X9_halvesIn h2 a1 a2 G2) rfl rfl (Nat.le_of_ble_eq_true rfl) ⟨rfl, rfl⟩ (fun x43 h12 qx43 => ?_)
              obtain ⟨G12, S12, ax43, bx43⟩ := qx43
              have R12 := R2.call S12 (by decide +kernel)
              refine z_i2l (M := M_X9_limitBy) 110 dX9_limitBy_110 ?_
              refine z_lmul (M := M_X9_limitBy) 111 dX9_limitBy_111 ?_
              refine z_topJ (fun x44 ex44 => ?_)
              refine z_lmul (M := M_X9_limitBy) 112 dX9_limitBy_112 ?_
              refine z_topJ (fun x45 ex45 => ?_)
              refine z_lstore (M := M_X9_limitBy) 113 dX9_limitBy_113 (ls' := [some (mR 38), some (mI a1), some (mI a2), some (mI a3), some (mR b), some (mR (77 + (a3).toNat)), some (mI x2), some (mI x3), some (mJ x45), none, some (mJ x5), none, some (mI 1)]) (by decide) rfl ?_
              refine z_lload (M := M_X9_limitBy) 115 dX9_limitBy_115 rfl ?_
              refine z_aload (M := M_X9_limitBy) 117 dX9_limitBy_117 rfl ?_
              refine z_getJV (M := M_X9_limitBy) 119 dX9_limitBy_119 f_X9_132 (oB hb1) rfl (fun x46 ex46 => ?_)
              refine z_iload_n (M := M_X9_limitBy) 122 dX9_limitBy_122 rfl ?_
              refine z_iload_n (M := M_X9_limitBy) 123 dX9_limitBy_123 rfl ?_
              refine z_sI (M := M_X9_limitBy) 124 dX9_limitBy_124 t_X9_halvesIn l_X9_148 (m_rr_of rfl) (rest := [mJ x46, mJ x5]) (c_X9_halvesIn h12 a2 a1 G12) rfl rfl (Nat.le_of_ble_eq_true rfl) ⟨rfl, rfl⟩ (fun x47 h13 qx47 => ?_)
              obtain ⟨G13, S13, ax47, bx47⟩ := qx47
              have R13 := R12.call S13 (by decide +kernel)
              refine z_i2l (M := M_X9_limitBy) 127 dX9_limitBy_127 ?_
              refine z_lmul (M := M_X9_limitBy) 128 dX9_limitBy_128 ?_
              refine z_topJ (fun x48 ex48 => ?_)
              refine z_lmul (M := M_X9_limitBy) 129 dX9_limitBy_129 ?_
              refine z_topJ (fun x49 ex49 => ?_)
              refine z_lstore (M := M_X9_limitBy) 130 dX9_limitBy_130 (ls' := [some (mR 38), some (mI a1), some (mI a2), some (mI a3), some (mR b), some (mR (77 + (a3).toNat)), some (mI x2), some (mI x3), some (mJ x45), none, some (mJ x49), none, some (mI 1)]) (by decide) rfl ?_
              refine z_aload (M := M_X9_limitBy) 132 dX9_limitBy_132 rfl ?_
              refine z_lload (M := M_X9_limitBy) 134 dX9_limitBy_134 rfl ?_
              refine z_lload (M := M_X9_limitBy) 136 dX9_limitBy_136 rfl ?_
              refine z_iload (M := M_X9_limitBy) 138 dX9_limitBy_138 rfl ?_
              refine z_vV (M := M_X9_limitBy) 140 dX9_limitBy_140 t_X2_lessen l_X9_66 (m_rr_of rfl) (rest := []) (c_X2_lessen h13 b x45 x49 1 hb G13 ⟨by omega, by omega⟩) (oB hb) rfl rfl rfl (Nat.le_of_ble_eq_true rfl) ⟨rfl, rfl⟩ (fun h14 qx50 => ?_)
              obtain ⟨G14, S14⟩ := qx50
              have R14 := R13.call S14 (by decide +kernel)
              exact z_retV (M := M_X9_limitBy) 143 dX9_limitBy_143 rfl ⟨G14, R14⟩
      · rw [m_cmp_eq] at c9
        exact z_retV (M := M_X9_limitBy) 62 dX9_limitBy_62 rfl ⟨G2, R2⟩
abbrev P_X9_limit (h0 : m_H) (b : Nat) (a1 a2 : Int) : m_H → Prop := fun h' => GI h' ∧ FR (csB ++ []) [] h0 h'
def q_X9_limit (h0 : m_H) (b : Nat) (a1 a2 : Int) (n : Nat) : Prop := (∀ (h : m_H), GI h → FR (csB ++ []) [] h0 h → (36) ≤ (n : Int) → m_Z oF M_X9_limit 45 [some (mR 38), some (mI a1), some (mI a2), some (mR b), none, none] [] h (m_QV (P_X9_limit h0 b a1 a2))) ∧ (∀ (l5 : Int) (h : m_H), GI h → FR (csB ++ []) [] h0 h → 0 ≤ l5 → l5 ≤ 16 → 2 * (16 - l5) + (1) ≤ (n : Int) → m_Z oF M_X9_limit 54 [some (mR 38), some (mI a1), some (mI a2), some (mR b), none, some (mI l5)] [] h (m_QV (P_X9_limit h0 b a1 a2)))
set_option maxHeartbeats 4000000 in
set_option maxRecDepth 100000 in
theorem s_X9_limit_45 (h0 : m_H) (b : Nat) (a1 a2 : Int) (hb : isB b) (G0 : GI h0) (pa1 : 0 ≤ a1 ∧ a1 ≤ 15) (pa2 : 0 ≤ a2 ∧ a2 ≤ 15) (n : Nat) (ih : q_X9_limit h0 b a1 a2 n) : ∀ (h : m_H), GI h → FR (csB ++ []) [] h0 h → (36) ≤ ((n + 1 : Nat) : Int) → m_Z oF M_X9_limit 45 [some (mR 38), some (mI a1), some (mI a2), some (mR b), none, none] [] h (m_QV (P_X9_limit h0 b a1 a2)) := by
  intro h G R hr
  refine z_iload_n (M := M_X9_limit) 45 dX9_limit_45 rfl ?_
  refine z_iload_n (M := M_X9_limit) 46 dX9_limit_46 rfl ?_
  refine z_icmp_ne (M := M_X9_limit) 47 dX9_limit_47 51 rfl (fun c1 => ?_) (fun c1 => ?_)
  · refine z_iconst (M := M_X9_limit) 51 dX9_limit_51 ?_
    refine z_istore (M := M_X9_limit) 52 dX9_limit_52 (ls' := [some (mR 38), some (mI a1), some (mI a2), some (mR b), none, some (mI 0)]) (by decide) rfl ?_
    exact z_mask [true, true, true, true, false, true] rfl (ih.2 0 h G R (by omega) (by omega) (by omega))
  · exact z_retV (M := M_X9_limit) 50 dX9_limit_50 rfl ⟨G, R⟩
set_option maxHeartbeats 4000000 in
set_option maxRecDepth 100000 in
theorem s_X9_limit_54 (h0 : m_H) (b : Nat) (a1 a2 : Int) (hb : isB b) (G0 : GI h0) (pa1 : 0 ≤ a1 ∧ a1 ≤ 15) (pa2 : 0 ≤ a2 ∧ a2 ≤ 15) (n : Nat) (ih : q_X9_limit h0 b a1 a2 n) : ∀ (l5 : Int) (h : m_H), GI h → FR (csB ++ []) [] h0 h → 0 ≤ l5 → l5 ≤ 16 → 2 * (16 - l5) + (1) ≤ ((n + 1 : Nat) : Int) → m_Z oF M_X9_limit 54 [some (mR 38), some (mI a1), some (mI a2), some (mR b), none, some (mI l5)] [] h (m_QV (P_X9_limit h0 b a1 a2)) := by
  intro l5 h G R v0 v1 hr
  refine z_iload (M := M_X9_limit) 54 dX9_limit_54 rfl ?_
  refine z_bipush (M := M_X9_limit) 56 dX9_limit_56 ?_
  refine z_icmp_ge (M := M_X9_limit) 58 dX9_limit_58 76 rfl (fun c1 => ?_) (fun c1 => ?_)
  · exact z_retV (M := M_X9_limit) 76 dX9_limit_76 rfl ⟨G, R⟩
  · refine z_aload_n (M := M_X9_limit) 61 dX9_limit_61 rfl ?_
    refine z_iload_n (M := M_X9_limit) 62 dX9_limit_62 rfl ?_
    refine z_iload_n (M := M_X9_limit) 63 dX9_limit_63 rfl ?_
    refine z_iload (M := M_X9_limit) 64 dX9_limit_64 rfl ?_
    refine z_aload_n (M := M_X9_limit) 66 dX9_limit_66 rfl ?_
    refine z_vV (M := M_X9_limit) 67 dX9_limit_67 t_X9_limitBy l_X9_138 (m_rr_of rfl) (rest := []) (c_X9_limitBy h b a1 a2 l5 hb G ⟨by omega, by omega⟩ ⟨by omega, by omega⟩ ⟨by omega, by omega⟩) o_38 rfl rfl rfl (Nat.le_of_ble_eq_true rfl) ⟨rfl, rfl⟩ (fun h1 qx2 => ?_)
    obtain ⟨G1, S1⟩ := qx2
    have R1 := R.call S1 (by decide +kernel)
    refine z_iincN (M := M_X9_limit) 70 dX9_limit_70 (ls' := [some (mR 38), some (mI a1), some (mI a2), some (mR b), none, some (mI (l5 + 1))]) (by decide) rfl (by (unfold m_32; decide)) (by omega) (by omega) rfl ?_
    refine z_goto (M := M_X9_limit) 73 dX9_limit_73 54 rfl ?_
    exact z_mask [true, true, true, true, false, true] rfl (ih.2 (l5 + 1) h1 G1 R1 (by omega) (by omega) (by omega))
theorem a_X9_limit (h0 : m_H) (b : Nat) (a1 a2 : Int) (hb : isB b) (G0 : GI h0) (pa1 : 0 ≤ a1 ∧ a1 ≤ 15) (pa2 : 0 ≤ a2 ∧ a2 ≤ 15) : ∀ n, q_X9_limit h0 b a1 a2 n := by
  intro n
  induction n with
  | zero => unfold q_X9_limit; refine ⟨?_, ?_⟩ <;> (intros; omega)
  | succ n ih => exact ⟨s_X9_limit_45 h0 b a1 a2 hb G0 pa1 pa2 n ih, s_X9_limit_54 h0 b a1 a2 hb G0 pa1 pa2 n ih⟩
set_option maxHeartbeats 4000000 in
set_option maxRecDepth 100000 in
theorem c_X9_limit (h0 : m_H) (b : Nat) (a1 a2 : Int) (hb : isB b) (G0 : GI h0) (pa1 : 0 ≤ a1 ∧ a1 ≤ 15) (pa2 : 0 ≤ a2 ∧ a2 ≤ 15) : m_CV M_X9_limit [mR 38, mI a1, mI a2, mR b] h0 (P_X9_limit h0 b a1 a2) := by
  refine m_CV_of ⟨by decide, rfl, by simp [m_arg, m_isL, M_X9_limit], ⟨rfl, rfl⟩, rfl, rfl⟩ (ls := [some (mR 38), some (mI a1), some (mI a2), some (mR b), none, none]) rfl ?_
  have ih := a_X9_limit h0 b a1 a2 hb G0 pa1 pa2 41
  refine z_iload_n (M := M_X9_limit) 0 dX9_limit_0 rfl ?_
  refine z_bipush (M := M_X9_limit) 1 dX9_limit_1 ?_
  refine z_icmp_ge (M := M_X9_limit) 3 dX9_limit_3 18 rfl (fun c1 => ?_) (fun c1 => ?_)
  · refine z_iconst (M := M_X9_limit) 18 dX9_limit_18 ?_
    refine z_istore (M := M_X9_limit) 19 dX9_limit_19 (ls' := [some (mR 38), some (mI a1), some (mI a2), some (mR b), some (mI 0), none]) (by decide) rfl ?_
    refine z_iload_n (M := M_X9_limit) 21 dX9_limit_21 rfl ?_
    refine z_iload_n (M := M_X9_limit) 22 dX9_limit_22 rfl ?_
    refine z_icmp_eq (M := M_X9_limit) 23 dX9_limit_23 31 rfl (fun c2 => ?_) (fun c2 => ?_)
    · refine z_aload_n (M := M_X9_limit) 31 dX9_limit_31 rfl ?_
      refine z_lconst (M := M_X9_limit) 32 dX9_limit_32 (v := 1) ?_
      refine z_lconst (M := M_X9_limit) 33 dX9_limit_33 (v := 1) ?_
      refine z_iconst (M := M_X9_limit) 34 dX9_limit_34 ?_
      refine z_vV (M := M_X9_limit) 35 dX9_limit_35 t_X2_put l_X9_125 (m_rr_of rfl) (rest := []) (c_X2_put h0 b 1 1 0 hb G0 ⟨by omega, by omega⟩) (oB hb) rfl rfl rfl (Nat.le_of_ble_eq_true rfl) ⟨rfl, rfl⟩ (fun h1 qx3 => ?_)
      obtain ⟨G1, S1⟩ := qx3
      have R1 := (FR.rf (cs := (csB ++ [])) (ss := []) (h := h0)).call S1 (by decide +kernel)
      refine z_goto (M := M_X9_limit) 38 dX9_limit_38 45 rfl ?_
      exact z_mask [true, true, true, true, false, false] rfl (ih.1 h1 G1 R1 (by omega))
    · refine z_iload (M := M_X9_limit) 26 dX9_limit_26 rfl ?_
      refine z_if_eq_T (M := M_X9_limit) 28 dX9_limit_28 41 rfl (by omega) ?_
      refine z_aload_n (M := M_X9_limit) 41 dX9_limit_41 rfl ?_
      refine z_vV (M := M_X9_limit) 42 dX9_limit_42 t_X2_clear l_X9_89 (m_rr_of rfl) (rest := []) (c_X2_clear h0 b hb G0) (oB hb) rfl rfl rfl (Nat.le_of_ble_eq_true rfl) ⟨rfl, rfl⟩ (fun h2 qx4 => ?_)
      obtain ⟨G2, S2⟩ := qx4
      have R2 := (FR.rf (cs := (csB ++ [])) (ss := []) (h := h0)).call S2 (by decide +kernel)
      exact z_mask [true, true, true, true, false, false] rfl (ih.1 h2 G2 R2 (by omega))
  · refine z_iload_n (M := M_X9_limit) 6 dX9_limit_6 rfl ?_
    refine z_iload_n (M := M_X9_limit) 7 dX9_limit_7 rfl ?_
    refine z_bipush (M := M_X9_limit) 8 dX9_limit_8 ?_
    refine z_iaddN (M := M_X9_limit) 10 dX9_limit_10 (by omega) (by omega) ?_
    refine z_icmp_ne (M := M_X9_limit) 11 dX9_limit_11 18 rfl (fun c5 => ?_) (fun c5 => ?_)
    · refine z_iconst (M := M_X9_limit) 18 dX9_limit_18 ?_
      refine z_istore (M := M_X9_limit) 19 dX9_limit_19 (ls' := [some (mR 38), some (mI a1), some (mI a2), some (mR b), some (mI 0), none]) (by decide) rfl ?_
      refine z_iload_n (M := M_X9_limit) 21 dX9_limit_21 rfl ?_
      refine z_iload_n (M := M_X9_limit) 22 dX9_limit_22 rfl ?_
      refine z_icmp_eq (M := M_X9_limit) 23 dX9_limit_23 31 rfl (fun c6 => ?_) (fun c6 => ?_)
      · refine z_aload_n (M := M_X9_limit) 31 dX9_limit_31 rfl ?_
        refine z_lconst (M := M_X9_limit) 32 dX9_limit_32 (v := 1) ?_
        refine z_lconst (M := M_X9_limit) 33 dX9_limit_33 (v := 1) ?_
        refine z_iconst (M := M_X9_limit) 34 dX9_limit_34 ?_
        refine z_vV (M := M_X9_limit) 35 dX9_limit_35 t_X2_put l_X9_125 (m_rr_of rfl) (rest := []) (c_X2_put h0 b 1 1 0 hb G0 ⟨by omega, by omega⟩) (oB hb) rfl rfl rfl (Nat.le_of_ble_eq_true rfl) ⟨rfl, rfl⟩ (fun h3 qx7 => ?_)
        obtain ⟨G3, S3⟩ := qx7
        have R3 := (FR.rf (cs := (csB ++ [])) (ss := []) (h := h0)).call S3 (by decide +kernel)
        refine z_goto (M := M_X9_limit) 38 dX9_limit_38 45 rfl ?_
        exact z_mask [true, true, true, true, false, false] rfl (ih.1 h3 G3 R3 (by omega))
      · refine z_iload (M := M_X9_limit) 26 dX9_limit_26 rfl ?_
        refine z_if_eq_T (M := M_X9_limit) 28 dX9_limit_28 41 rfl (by omega) ?_
        refine z_aload_n (M := M_X9_limit) 41 dX9_limit_41 rfl ?_
        refine z_vV (M := M_X9_limit) 42 dX9_limit_42 t_X2_clear l_X9_89 (m_rr_of rfl) (rest := []) (c_X2_clear h0 b hb G0) (oB hb) rfl rfl rfl (Nat.le_of_ble_eq_true rfl) ⟨rfl, rfl⟩ (fun h4 qx8 => ?_)
        obtain ⟨G4, S4⟩ := qx8
        have R4 := (FR.rf (cs := (csB ++ [])) (ss := []) (h := h0)).call S4 (by decide +kernel)
        exact z_mask [true, true, true, true, false, false] rfl (ih.1 h4 G4 R4 (by omega))
    · refine z_iconst (M := M_X9_limit) 14 dX9_limit_14 ?_
      refine z_goto (M := M_X9_limit) 15 dX9_limit_15 19 rfl ?_
      refine z_istore (M := M_X9_limit) 19 dX9_limit_19 (ls' := [some (mR 38), some (mI a1), some (mI a2), some (mR b), some (mI 1), none]) (by decide) rfl ?_
      refine z_iload_n (M := M_X9_limit) 21 dX9_limit_21 rfl ?_
      refine z_iload_n (M := M_X9_limit) 22 dX9_limit_22 rfl ?_
      refine z_icmp_eq_F (M := M_X9_limit) 23 dX9_limit_23 31 rfl (by omega) ?_
      refine z_iload (M := M_X9_limit) 26 dX9_limit_26 rfl ?_
      refine z_if_eq_F (M := M_X9_limit) 28 dX9_limit_28 41 rfl (by omega) ?_
      refine z_aload_n (M := M_X9_limit) 31 dX9_limit_31 rfl ?_
      refine z_lconst (M := M_X9_limit) 32 dX9_limit_32 (v := 1) ?_
      refine z_lconst (M := M_X9_limit) 33 dX9_limit_33 (v := 1) ?_
      refine z_iconst (M := M_X9_limit) 34 dX9_limit_34 ?_
      refine z_vV (M := M_X9_limit) 35 dX9_limit_35 t_X2_put l_X9_125 (m_rr_of rfl) (rest := []) (c_X2_put h0 b 1 1 0 hb G0 ⟨by omega, by omega⟩) (oB hb) rfl rfl rfl (Nat.le_of_ble_eq_true rfl) ⟨rfl, rfl⟩ (fun h5 qx9 => ?_)
      obtain ⟨G5, S5⟩ := qx9
      have R5 := (FR.rf (cs := (csB ++ [])) (ss := []) (h := h0)).call S5 (by decide +kernel)
      refine z_goto (M := M_X9_limit) 38 dX9_limit_38 45 rfl ?_
      exact z_mask [true, true, true, true, false, false] rfl (ih.1 h5 G5 R5 (by omega))
abbrev P_X7_measure (h0 : m_H) (a2 a3 : Int) : m_H → Prop := fun h' => GI h' ∧ FR (csB ++ []) [] h0 h'
set_option maxHeartbeats 4000000 in
set_option maxRecDepth 100000 in
theorem c_X7_measure (h0 : m_H) (a2 a3 : Int) (G0 : GI h0) (pa2 : 0 ≤ a2 ∧ a2 ≤ 15) (pa3 : 0 ≤ a3 ∧ a3 ≤ 15) : m_CV M_X7_measure [mR 93, mR 38, mI a2, mI a3] h0 (P_X7_measure h0 a2 a3) := by
  refine m_CV_of ⟨by decide, rfl, by simp [m_arg, m_isL, M_X7_measure], ⟨rfl, rfl⟩, rfl, rfl⟩ (ls := [some (mR 93), some (mR 38), some (mI a2), some (mI a3)]) rfl ?_
  refine z_aload_n (M := M_X7_measure) 0 dX7_measure_0 rfl ?_
  refine z_iload_n (M := M_X7_measure) 1 dX7_measure_1 rfl ?_
  refine z_iload_n (M := M_X7_measure) 2 dX7_measure_2 rfl ?_
  refine z_aload_n (M := M_X7_measure) 3 dX7_measure_3 rfl ?_
  refine z_getR (M := M_X7_measure) 4 dX7_measure_4 f_X7_18 o_93 rfl (g_93_1 G0) ?_
  refine z_vV (M := M_X7_measure) 7 dX7_measure_7 t_X9_limit l_X7_21 (m_rr_of rfl) (rest := []) (c_X9_limit h0 95 a2 a3 (rfl : isBb 95 = true) G0 ⟨by omega, by omega⟩ ⟨by omega, by omega⟩) o_38 rfl rfl rfl (Nat.le_of_ble_eq_true rfl) ⟨rfl, rfl⟩ (fun h1 qx1 => ?_)
  obtain ⟨G1, S1⟩ := qx1
  have R1 := (FR.rf (cs := (csB ++ [])) (ss := []) (h := h0)).call S1 (by decide +kernel)
  refine z_aload_n (M := M_X7_measure) 10 dX7_measure_10 rfl ?_
  refine z_iload_n (M := M_X7_measure) 11 dX7_measure_11 rfl ?_
  refine z_iload_n (M := M_X7_measure) 12 dX7_measure_12 rfl ?_
  refine z_aload_n (M := M_X7_measure) 13 dX7_measure_13 rfl ?_
  refine z_getR (M := M_X7_measure) 14 dX7_measure_14 f_X7_12 o_93 rfl (g_93_0 G1) ?_
  refine z_vV (M := M_X7_measure) 17 dX7_measure_17 t_X9_limit l_X7_21 (m_rr_of rfl) (rest := []) (c_X9_limit h1 94 a3 a2 (rfl : isBb 94 = true) G1 ⟨by omega, by omega⟩ ⟨by omega, by omega⟩) o_38 rfl rfl rfl (Nat.le_of_ble_eq_true rfl) ⟨rfl, rfl⟩ (fun h2 qx2 => ?_)
  obtain ⟨G2, S2⟩ := qx2
  have R2 := R1.call S2 (by decide +kernel)
  exact z_retV (M := M_X7_measure) 20 dX7_measure_20 rfl ⟨G2, R2⟩
abbrev P_X7_leastMillionths (h0 : m_H) : Int → m_H → Prop := fun x h' => GI h' ∧ FR [] [] h0 h'
set_option maxHeartbeats 4000000 in
set_option maxRecDepth 100000 in
theorem c_X7_leastMillionths (h0 : m_H) (G0 : GI h0) : m_CJ M_X7_leastMillionths [mR 93] h0 (P_X7_leastMillionths h0) := by
  refine m_CJ_of ⟨by decide, rfl, by simp [m_arg, m_isL, M_X7_leastMillionths], ⟨rfl, rfl⟩, rfl, rfl⟩ (ls := [some (mR 93)]) rfl ?_
  refine z_ldc2 (M := M_X7_leastMillionths) 0 dX7_leastMillionths_0 k_X7_27 ?_
  refine z_aload_n (M := M_X7_leastMillionths) 3 dX7_leastMillionths_3 rfl ?_
  refine z_getR (M := M_X7_leastMillionths) 4 dX7_leastMillionths_4 f_X7_12 o_93 rfl (g_93_0 G0) ?_
  refine z_getJV (M := M_X7_leastMillionths) 7 dX7_leastMillionths_7 f_X7_29 o_94 rfl (fun x1 ex1 => ?_)
  refine z_lmul (M := M_X7_leastMillionths) 10 dX7_leastMillionths_10 ?_
  refine z_topJ (fun x2 ex2 => ?_)
  refine z_aload_n (M := M_X7_leastMillionths) 11 dX7_leastMillionths_11 rfl ?_
  refine z_getR (M := M_X7_leastMillionths) 12 dX7_leastMillionths_12 f_X7_12 o_93 rfl (g_93_0 G0) ?_
  refine z_getJV (M := M_X7_leastMillionths) 15 dX7_leastMillionths_15 f_X7_33 o_94 rfl (fun x3 ex3 => ?_)
  refine z_nJ (M := M_X7_leastMillionths) 18 dX7_leastMillionths_18 t_X11_quotient l_X7_36 (m_rr_of rfl) (rest := []) (c_X11_quotient h0 x2 x3 G0) rfl rfl (Nat.le_of_ble_eq_true rfl) ⟨rfl, rfl⟩ (fun x4 h1 qx4 => ?_)
  obtain ⟨G1, S1⟩ := qx4
  have R1 := (FR.rf (cs := []) (ss := []) (h := h0)).call S1 (by decide +kernel)
  exact z_retJ (M := M_X7_leastMillionths) 21 dX7_leastMillionths_21 rfl ⟨G1, R1⟩
abbrev P_X7_greatestMillionths (h0 : m_H) : Int → m_H → Prop := fun x h' => GI h' ∧ FR [] [] h0 h'
set_option maxHeartbeats 4000000 in
set_option maxRecDepth 100000 in
theorem c_X7_greatestMillionths (h0 : m_H) (G0 : GI h0) : m_CJ M_X7_greatestMillionths [mR 93] h0 (P_X7_greatestMillionths h0) := by
  refine m_CJ_of ⟨by decide, rfl, by simp [m_arg, m_isL, M_X7_greatestMillionths], ⟨rfl, rfl⟩, rfl, rfl⟩ (ls := [some (mR 93)]) rfl ?_
  refine z_aload_n (M := M_X7_greatestMillionths) 0 dX7_greatestMillionths_0 rfl ?_
  refine z_getR (M := M_X7_greatestMillionths) 1 dX7_greatestMillionths_1 f_X7_18 o_93 rfl (g_93_1 G0) ?_
  refine z_getJV (M := M_X7_greatestMillionths) 4 dX7_greatestMillionths_4 f_X7_29 o_95 rfl (fun x1 ex1 => ?_)
  refine z_lconst (M := M_X7_greatestMillionths) 7 dX7_greatestMillionths_7 (v := 0) ?_
  refine z_lcmp (M := M_X7_greatestMillionths) 8 dX7_greatestMillionths_8 ?_
  refine z_if_ne (M := M_X7_greatestMillionths) 9 dX7_greatestMillionths_9 18 rfl (fun c2 => ?_) (fun c2 => ?_)
  · rw [m_cmp_eq] at c2
    refine z_ldc2 (M := M_X7_greatestMillionths) 18 dX7_greatestMillionths_18 k_X7_27 ?_
    refine z_aload_n (M := M_X7_greatestMillionths) 21 dX7_greatestMillionths_21 rfl ?_
    refine z_getR (M := M_X7_greatestMillionths) 22 dX7_greatestMillionths_22 f_X7_18 o_93 rfl (g_93_1 G0) ?_
    refine z_getJV (M := M_X7_greatestMillionths) 25 dX7_greatestMillionths_25 f_X7_33 o_95 rfl (fun x3 ex3 => ?_)
    refine z_lmul (M := M_X7_greatestMillionths) 28 dX7_greatestMillionths_28 ?_
    refine z_topJ (fun x4 ex4 => ?_)
    refine z_aload_n (M := M_X7_greatestMillionths) 29 dX7_greatestMillionths_29 rfl ?_
    refine z_getR (M := M_X7_greatestMillionths) 30 dX7_greatestMillionths_30 f_X7_18 o_93 rfl (g_93_1 G0) ?_
    refine z_getJE (M := M_X7_greatestMillionths) 33 dX7_greatestMillionths_33 f_X7_29 o_95 rfl ex1 ?_
    refine z_nJ (M := M_X7_greatestMillionths) 36 dX7_greatestMillionths_36 t_X11_quotient l_X7_36 (m_rr_of rfl) (rest := []) (c_X11_quotient h0 x4 x1 G0) rfl rfl (Nat.le_of_ble_eq_true rfl) ⟨rfl, rfl⟩ (fun x5 h1 qx5 => ?_)
    obtain ⟨G1, S1⟩ := qx5
    have R1 := (FR.rf (cs := []) (ss := []) (h := h0)).call S1 (by decide +kernel)
    exact z_retJ (M := M_X7_greatestMillionths) 39 dX7_greatestMillionths_39 rfl ⟨G1, R1⟩
  · rw [m_cmp_eq] at c2
    refine z_ldc2 (M := M_X7_greatestMillionths) 12 dX7_greatestMillionths_12 k_X7_40 ?_
    refine z_goto (M := M_X7_greatestMillionths) 15 dX7_greatestMillionths_15 39 rfl ?_
    exact z_retJ (M := M_X7_greatestMillionths) 39 dX7_greatestMillionths_39 rfl ⟨G0, (FR.rf (cs := []) (ss := []) (h := h0))⟩
abbrev P_X7_isTheSame (h0 : m_H) : Int → m_H → Prop := fun x h' => GI h' ∧ FR [] [] h0 h' ∧ 0 ≤ x ∧ x ≤ 1
set_option maxHeartbeats 4000000 in
set_option maxRecDepth 100000 in
theorem c_X7_isTheSame (h0 : m_H) (G0 : GI h0) : m_CI M_X7_isTheSame [mR 93] h0 (P_X7_isTheSame h0) := by
  refine m_CI_of ⟨by decide, rfl, by simp [m_arg, m_isL, M_X7_isTheSame], ⟨rfl, rfl⟩, rfl, rfl⟩ (ls := [some (mR 93)]) rfl ?_
  refine z_aload_n (M := M_X7_isTheSame) 0 dX7_isTheSame_0 rfl ?_
  refine z_getR (M := M_X7_isTheSame) 1 dX7_isTheSame_1 f_X7_18 o_93 rfl (g_93_1 G0) ?_
  refine z_getJV (M := M_X7_isTheSame) 4 dX7_isTheSame_4 f_X7_33 o_95 rfl (fun x1 ex1 => ?_)
  refine z_aload_n (M := M_X7_isTheSame) 7 dX7_isTheSame_7 rfl ?_
  refine z_getR (M := M_X7_isTheSame) 8 dX7_isTheSame_8 f_X7_12 o_93 rfl (g_93_0 G0) ?_
  refine z_getJV (M := M_X7_isTheSame) 11 dX7_isTheSame_11 f_X7_33 o_94 rfl (fun x2 ex2 => ?_)
  refine z_lmul (M := M_X7_isTheSame) 14 dX7_isTheSame_14 ?_
  refine z_topJ (fun x3 ex3 => ?_)
  refine z_aload_n (M := M_X7_isTheSame) 15 dX7_isTheSame_15 rfl ?_
  refine z_getR (M := M_X7_isTheSame) 16 dX7_isTheSame_16 f_X7_18 o_93 rfl (g_93_1 G0) ?_
  refine z_getJV (M := M_X7_isTheSame) 19 dX7_isTheSame_19 f_X7_29 o_95 rfl (fun x4 ex4 => ?_)
  refine z_aload_n (M := M_X7_isTheSame) 22 dX7_isTheSame_22 rfl ?_
  refine z_getR (M := M_X7_isTheSame) 23 dX7_isTheSame_23 f_X7_12 o_93 rfl (g_93_0 G0) ?_
  refine z_getJV (M := M_X7_isTheSame) 26 dX7_isTheSame_26 f_X7_29 o_94 rfl (fun x5 ex5 => ?_)
  refine z_lmul (M := M_X7_isTheSame) 29 dX7_isTheSame_29 ?_
  refine z_topJ (fun x6 ex6 => ?_)
  refine z_lcmp (M := M_X7_isTheSame) 30 dX7_isTheSame_30 ?_
  refine z_if_ne (M := M_X7_isTheSame) 31 dX7_isTheSame_31 38 rfl (fun c7 => ?_) (fun c7 => ?_)
  · rw [m_cmp_eq] at c7
    refine z_iconst (M := M_X7_isTheSame) 38 dX7_isTheSame_38 ?_
    exact z_retZ (M := M_X7_isTheSame) 39 dX7_isTheSame_39 rfl (by omega) ⟨G0, (FR.rf (cs := []) (ss := []) (h := h0)), by omega, by omega⟩
  · rw [m_cmp_eq] at c7
    refine z_iconst (M := M_X7_isTheSame) 34 dX7_isTheSame_34 ?_
    refine z_goto (M := M_X7_isTheSame) 35 dX7_isTheSame_35 39 rfl ?_
    exact z_retZ (M := M_X7_isTheSame) 39 dX7_isTheSame_39 rfl (by omega) ⟨G0, (FR.rf (cs := []) (ss := []) (h := h0)), by omega, by omega⟩
abbrev P_X7_isAlways (h0 : m_H) (a1 : Int) : Int → m_H → Prop := fun x h' => GI h' ∧ FR [] [] h0 h' ∧ 0 ≤ x ∧ x ≤ 1
set_option maxHeartbeats 4000000 in
set_option maxRecDepth 100000 in
theorem c_X7_isAlways (h0 : m_H) (a1 : Int) (G0 : GI h0) : m_CI M_X7_isAlways [mR 93, mJ a1] h0 (P_X7_isAlways h0 a1) := by
  refine m_CI_of ⟨by decide, rfl, by simp [m_arg, m_isL, M_X7_isAlways], ⟨rfl, rfl⟩, rfl, rfl⟩ (ls := [some (mR 93), some (mJ a1), none]) rfl ?_
  refine z_aload_n (M := M_X7_isAlways) 0 dX7_isAlways_0 rfl ?_
  refine z_getR (M := M_X7_isAlways) 1 dX7_isAlways_1 f_X7_18 o_93 rfl (g_93_1 G0) ?_
  refine z_getJV (M := M_X7_isAlways) 4 dX7_isAlways_4 f_X7_33 o_95 rfl (fun x1 ex1 => ?_)
  refine z_lload_n (M := M_X7_isAlways) 7 dX7_isAlways_7 rfl ?_
  refine z_aload_n (M := M_X7_isAlways) 8 dX7_isAlways_8 rfl ?_
  refine z_getR (M := M_X7_isAlways) 9 dX7_isAlways_9 f_X7_18 o_93 rfl (g_93_1 G0) ?_
  refine z_getJV (M := M_X7_isAlways) 12 dX7_isAlways_12 f_X7_29 o_95 rfl (fun x2 ex2 => ?_)
  refine z_lmul (M := M_X7_isAlways) 15 dX7_isAlways_15 ?_
  refine z_topJ (fun x3 ex3 => ?_)
  refine z_lcmp (M := M_X7_isAlways) 16 dX7_isAlways_16 ?_
  refine z_if_ne (M := M_X7_isAlways) 17 dX7_isAlways_17 44 rfl (fun c4 => ?_) (fun c4 => ?_)
  · rw [m_cmp_eq] at c4
    refine z_iconst (M := M_X7_isAlways) 44 dX7_isAlways_44 ?_
    exact z_retZ (M := M_X7_isAlways) 45 dX7_isAlways_45 rfl (by omega) ⟨G0, (FR.rf (cs := []) (ss := []) (h := h0)), by omega, by omega⟩
  · rw [m_cmp_eq] at c4
    refine z_aload_n (M := M_X7_isAlways) 20 dX7_isAlways_20 rfl ?_
    refine z_getR (M := M_X7_isAlways) 21 dX7_isAlways_21 f_X7_12 o_93 rfl (g_93_0 G0) ?_
    refine z_getJV (M := M_X7_isAlways) 24 dX7_isAlways_24 f_X7_29 o_94 rfl (fun x5 ex5 => ?_)
    refine z_lload_n (M := M_X7_isAlways) 27 dX7_isAlways_27 rfl ?_
    refine z_aload_n (M := M_X7_isAlways) 28 dX7_isAlways_28 rfl ?_
    refine z_getR (M := M_X7_isAlways) 29 dX7_isAlways_29 f_X7_12 o_93 rfl (g_93_0 G0) ?_
    refine z_getJV (M := M_X7_isAlways) 32 dX7_isAlways_32 f_X7_33 o_94 rfl (fun x6 ex6 => ?_)
    refine z_lmul (M := M_X7_isAlways) 35 dX7_isAlways_35 ?_
    refine z_topJ (fun x7 ex7 => ?_)
    refine z_lcmp (M := M_X7_isAlways) 36 dX7_isAlways_36 ?_
    refine z_if_ne (M := M_X7_isAlways) 37 dX7_isAlways_37 44 rfl (fun c8 => ?_) (fun c8 => ?_)
    · rw [m_cmp_eq] at c8
      refine z_iconst (M := M_X7_isAlways) 44 dX7_isAlways_44 ?_
      exact z_retZ (M := M_X7_isAlways) 45 dX7_isAlways_45 rfl (by omega) ⟨G0, (FR.rf (cs := []) (ss := []) (h := h0)), by omega, by omega⟩
    · rw [m_cmp_eq] at c8
      refine z_iconst (M := M_X7_isAlways) 40 dX7_isAlways_40 ?_
      refine z_goto (M := M_X7_isAlways) 41 dX7_isAlways_41 45 rfl ?_
      exact z_retZ (M := M_X7_isAlways) 45 dX7_isAlways_45 rfl (by omega) ⟨G0, (FR.rf (cs := []) (ss := []) (h := h0)), by omega, by omega⟩
abbrev P_X7_leastNumber (h0 : m_H) (a1 : Int) : Int → m_H → Prop := fun x h' => GI h' ∧ FR [] [] h0 h'
def q_X7_leastNumber (h0 : m_H) (a1 : Int) (n : Nat) : Prop := (∀ (k0 : Int) (h : m_H), GI h → FR [] [] h0 h → (-2147483648) ≤ a1 → a1 ≤ 2147483647 → (1) ≤ (n : Int) → m_Z oF M_X7_leastNumber 110 [none, none, none, none, none] [mJ k0] h (m_QJ (P_X7_leastNumber h0 a1)))
set_option maxHeartbeats 4000000 in
set_option maxRecDepth 100000 in
theorem s_X7_leastNumber_110 (h0 : m_H) (a1 : Int) (G0 : GI h0) (n : Nat) (ih : q_X7_leastNumber h0 a1 n) : ∀ (k0 : Int) (h : m_H), GI h → FR [] [] h0 h → (-2147483648) ≤ a1 → a1 ≤ 2147483647 → (1) ≤ ((n + 1 : Nat) : Int) → m_Z oF M_X7_leastNumber 110 [none, none, none, none, none] [mJ k0] h (m_QJ (P_X7_leastNumber h0 a1)) := by
  intro k0 h G R v0 v1 hr
  exact z_retJ (M := M_X7_leastNumber) 110 dX7_leastNumber_110 rfl ⟨G, R⟩
theorem a_X7_leastNumber (h0 : m_H) (a1 : Int) (G0 : GI h0) : ∀ n, q_X7_leastNumber h0 a1 n := by
  intro n
  induction n with
  | zero => unfold q_X7_leastNumber; intros; omega
  | succ n ih => exact s_X7_leastNumber_110 h0 a1 G0 n ih
set_option maxHeartbeats 4000000 in
set_option maxRecDepth 100000 in
theorem c_X7_leastNumber (h0 : m_H) (a1 : Int) (G0 : GI h0) : m_CJ M_X7_leastNumber [mR 93, mI a1] h0 (P_X7_leastNumber h0 a1) := by
  refine m_CJ_of ⟨by decide, rfl, by simp [m_arg, m_isL, M_X7_leastNumber], ⟨rfl, rfl⟩, rfl, rfl⟩ (ls := [some (mR 93), some (mI a1), none, none, none]) rfl ?_
  have ih := a_X7_leastNumber h0 a1 G0 6
  refine z_ok (fun _ _ ok => ?_)
  have oa1 : m_32 a1 := ok 1 _ rfl
  unfold m_32 at oa1
  refine z_iload_n (M := M_X7_leastNumber) 0 dX7_leastNumber_0 rfl ?_
  refine z_iconst (M := M_X7_leastNumber) 1 dX7_leastNumber_1 ?_
  refine z_icmp_ne (M := M_X7_leastNumber) 2 dX7_leastNumber_2 39 rfl (fun c1 => ?_) (fun c1 => ?_)
  · refine z_aload_n (M := M_X7_leastNumber) 39 dX7_leastNumber_39 rfl ?_
    refine z_getR (M := M_X7_leastNumber) 40 dX7_leastNumber_40 f_X7_12 o_93 rfl (g_93_0 G0) ?_
    refine z_getJV (M := M_X7_leastNumber) 43 dX7_leastNumber_43 f_X7_29 o_94 rfl (fun x2 ex2 => ?_)
    refine z_aload_n (M := M_X7_leastNumber) 46 dX7_leastNumber_46 rfl ?_
    refine z_getR (M := M_X7_leastNumber) 47 dX7_leastNumber_47 f_X7_12 o_93 rfl (g_93_0 G0) ?_
    refine z_getJV (M := M_X7_leastNumber) 50 dX7_leastNumber_50 f_X7_33 o_94 rfl (fun x3 ex3 => ?_)
    refine z_nJ (M := M_X7_leastNumber) 53 dX7_leastNumber_53 t_X11_quotient l_X7_36 (m_rr_of rfl) (rest := []) (c_X11_quotient h0 x2 x3 G0) rfl rfl (Nat.le_of_ble_eq_true rfl) ⟨rfl, rfl⟩ (fun x4 h1 qx4 => ?_)
    obtain ⟨G1, S1⟩ := qx4
    have R1 := (FR.rf (cs := []) (ss := []) (h := h0)).call S1 (by decide +kernel)
    refine z_lstore_n (M := M_X7_leastNumber) 56 dX7_leastNumber_56 (ls' := [some (mR 93), some (mI a1), some (mJ x4), none, none]) (by decide) rfl ?_
    refine z_aload_n (M := M_X7_leastNumber) 57 dX7_leastNumber_57 rfl ?_
    refine z_getR (M := M_X7_leastNumber) 58 dX7_leastNumber_58 f_X7_12 o_93 rfl (g_93_0 G1) ?_
    refine z_getIG (M := M_X7_leastNumber) 61 dX7_leastNumber_61 f_X7_44 o_94 (by decide) (g_94_2 G1) (fun x5 ex5 ax5 bx5 => ?_)
    refine z_if_ne (M := M_X7_leastNumber) 64 dX7_leastNumber_64 87 rfl (fun c6 => ?_) (fun c6 => ?_)
    · refine z_iconst (M := M_X7_leastNumber) 87 dX7_leastNumber_87 ?_
      refine z_goto (M := M_X7_leastNumber) 88 dX7_leastNumber_88 92 rfl ?_
      refine z_istore (M := M_X7_leastNumber) 92 dX7_leastNumber_92 (ls' := [some (mR 93), some (mI a1), some (mJ x4), none, some (mI 1)]) (by decide) rfl ?_
      refine z_iload_n (M := M_X7_leastNumber) 94 dX7_leastNumber_94 rfl ?_
      refine z_if_ne (M := M_X7_leastNumber) 95 dX7_leastNumber_95 109 rfl (fun c7 => ?_) (fun c7 => ?_)
      · refine z_lload_n (M := M_X7_leastNumber) 109 dX7_leastNumber_109 rfl ?_
        exact z_mask [false, false, false, false, false] rfl (ih x4 h1 G1 R1 (by omega) (by omega) (by omega))
      · refine z_iload (M := M_X7_leastNumber) 98 dX7_leastNumber_98 rfl ?_
        refine z_if_eq_F (M := M_X7_leastNumber) 100 dX7_leastNumber_100 109 rfl (by omega) ?_
        refine z_lload_n (M := M_X7_leastNumber) 103 dX7_leastNumber_103 rfl ?_
        refine z_lconst (M := M_X7_leastNumber) 104 dX7_leastNumber_104 (v := 1) ?_
        refine z_ladd (M := M_X7_leastNumber) 105 dX7_leastNumber_105 ?_
        refine z_topJ (fun x8 ex8 => ?_)
        refine z_goto (M := M_X7_leastNumber) 106 dX7_leastNumber_106 110 rfl ?_
        exact z_mask [false, false, false, false, false] rfl (ih x8 h1 G1 R1 (by omega) (by omega) (by omega))
    · refine z_lload_n (M := M_X7_leastNumber) 67 dX7_leastNumber_67 rfl ?_
      refine z_aload_n (M := M_X7_leastNumber) 68 dX7_leastNumber_68 rfl ?_
      refine z_getR (M := M_X7_leastNumber) 69 dX7_leastNumber_69 f_X7_12 o_93 rfl (g_93_0 G1) ?_
      refine z_getJE (M := M_X7_leastNumber) 72 dX7_leastNumber_72 f_X7_33 o_94 rfl ((S1 94 0 rfl).trans ex3) ?_
      refine z_lmul (M := M_X7_leastNumber) 75 dX7_leastNumber_75 ?_
      refine z_topJ (fun x9 ex9 => ?_)
      refine z_aload_n (M := M_X7_leastNumber) 76 dX7_leastNumber_76 rfl ?_
      refine z_getR (M := M_X7_leastNumber) 77 dX7_leastNumber_77 f_X7_12 o_93 rfl (g_93_0 G1) ?_
      refine z_getJE (M := M_X7_leastNumber) 80 dX7_leastNumber_80 f_X7_29 o_94 rfl ((S1 94 1 rfl).trans ex2) ?_
      refine z_lcmp (M := M_X7_leastNumber) 83 dX7_leastNumber_83 ?_
      refine z_if_eq (M := M_X7_leastNumber) 84 dX7_leastNumber_84 91 rfl (fun c10 => ?_) (fun c10 => ?_)
      · rw [m_cmp_eq] at c10
        refine z_iconst (M := M_X7_leastNumber) 91 dX7_leastNumber_91 ?_
        refine z_istore (M := M_X7_leastNumber) 92 dX7_leastNumber_92 (ls' := [some (mR 93), some (mI a1), some (mJ x4), none, some (mI 0)]) (by decide) rfl ?_
        refine z_iload_n (M := M_X7_leastNumber) 94 dX7_leastNumber_94 rfl ?_
        refine z_if_ne (M := M_X7_leastNumber) 95 dX7_leastNumber_95 109 rfl (fun c11 => ?_) (fun c11 => ?_)
        · refine z_lload_n (M := M_X7_leastNumber) 109 dX7_leastNumber_109 rfl ?_
          exact z_mask [false, false, false, false, false] rfl (ih x4 h1 G1 R1 (by omega) (by omega) (by omega))
        · refine z_iload (M := M_X7_leastNumber) 98 dX7_leastNumber_98 rfl ?_
          refine z_if_eq_T (M := M_X7_leastNumber) 100 dX7_leastNumber_100 109 rfl (by omega) ?_
          refine z_lload_n (M := M_X7_leastNumber) 109 dX7_leastNumber_109 rfl ?_
          exact z_mask [false, false, false, false, false] rfl (ih x4 h1 G1 R1 (by omega) (by omega) (by omega))
      · rw [m_cmp_eq] at c10
        refine z_iconst (M := M_X7_leastNumber) 87 dX7_leastNumber_87 ?_
        refine z_goto (M := M_X7_leastNumber) 88 dX7_leastNumber_88 92 rfl ?_
        refine z_istore (M := M_X7_leastNumber) 92 dX7_leastNumber_92 (ls' := [some (mR 93), some (mI a1), some (mJ x4), none, some (mI 1)]) (by decide) rfl ?_
        refine z_iload_n (M := M_X7_leastNumber) 94 dX7_leastNumber_94 rfl ?_
        refine z_if_ne (M := M_X7_leastNumber) 95 dX7_leastNumber_95 109 rfl (fun c12 => ?_) (fun c12 => ?_)
        · refine z_lload_n (M := M_X7_leastNumber) 109 dX7_leastNumber_109 rfl ?_
          exact z_mask [false, false, false, false, false] rfl (ih x4 h1 G1 R1 (by omega) (by omega) (by omega))
        · refine z_iload (M := M_X7_leastNumber) 98 dX7_leastNumber_98 rfl ?_
          refine z_if_eq_F (M := M_X7_leastNumber) 100 dX7_leastNumber_100 109 rfl (by omega) ?_
          refine z_lload_n (M := M_X7_leastNumber) 103 dX7_leastNumber_103 rfl ?_
          refine z_lconst (M := M_X7_leastNumber) 104 dX7_leastNumber_104 (v := 1) ?_
          refine z_ladd (M := M_X7_leastNumber) 105 dX7_leastNumber_105 ?_
          refine z_topJ (fun x13 ex13 => ?_)
          refine z_goto (M := M_X7_leastNumber) 106 dX7_leastNumber_106 110 rfl ?_
          exact z_mask [false, false, false, false, false] rfl (ih x13 h1 G1 R1 (by omega) (by omega) (by omega))
  · refine z_ldc2 (M := M_X7_leastNumber) 5 dX7_leastNumber_5 k_X7_42 ?_
    refine z_aload_n (M := M_X7_leastNumber) 8 dX7_leastNumber_8 rfl ?_
    refine z_getR (M := M_X7_leastNumber) 9 dX7_leastNumber_9 f_X7_12 o_93 rfl (g_93_0 G0) ?_
    refine z_getJV (M := M_X7_leastNumber) 12 dX7_leastNumber_12 f_X7_29 o_94 rfl (fun x14 ex14 => ?_)
    refine z_lmul (M := M_X7_leastNumber) 15 dX7_leastNumber_15 ?_
    refine z_topJ (fun x15 ex15 => ?_)
    refine z_aload_n (M := M_X7_leastNumber) 16 dX7_leastNumber_16 rfl ?_
    refine z_getR (M := M_X7_leastNumber) 17 dX7_leastNumber_17 f_X7_12 o_93 rfl (g_93_0 G0) ?_
    refine z_getJV (M := M_X7_leastNumber) 20 dX7_leastNumber_20 f_X7_33 o_94 rfl (fun x16 ex16 => ?_)
    refine z_ladd (M := M_X7_leastNumber) 23 dX7_leastNumber_23 ?_
    refine z_topJ (fun x17 ex17 => ?_)
    refine z_ldc2 (M := M_X7_leastNumber) 24 dX7_leastNumber_24 k_X7_42 ?_
    refine z_aload_n (M := M_X7_leastNumber) 27 dX7_leastNumber_27 rfl ?_
    refine z_getR (M := M_X7_leastNumber) 28 dX7_leastNumber_28 f_X7_12 o_93 rfl (g_93_0 G0) ?_
    refine z_getJE (M := M_X7_leastNumber) 31 dX7_leastNumber_31 f_X7_33 o_94 rfl ex16 ?_
    refine z_lmul (M := M_X7_leastNumber) 34 dX7_leastNumber_34 ?_
    refine z_topJ (fun x18 ex18 => ?_)
    refine z_nJ (M := M_X7_leastNumber) 35 dX7_leastNumber_35 t_X11_quotient l_X7_36 (m_rr_of rfl) (rest := []) (c_X11_quotient h0 x17 x18 G0) rfl rfl (Nat.le_of_ble_eq_true rfl) ⟨rfl, rfl⟩ (fun x19 h2 qx19 => ?_)
    obtain ⟨G2, S2⟩ := qx19
    have R2 := (FR.rf (cs := []) (ss := []) (h := h0)).call S2 (by decide +kernel)
    exact z_retJ (M := M_X7_leastNumber) 38 dX7_leastNumber_38 rfl ⟨G2, R2⟩
abbrev P_X7_greatestNumber (h0 : m_H) (a1 : Int) : Int → m_H → Prop := fun x h' => GI h' ∧ FR [] [] h0 h'
def q_X7_greatestNumber (h0 : m_H) (a1 : Int) (n : Nat) : Prop := (∀ (k0 : Int) (h : m_H), GI h → FR [] [] h0 h → (-2147483648) ≤ a1 → a1 ≤ 2147483647 → (1) ≤ (n : Int) → m_Z oF M_X7_greatestNumber 116 [none, none, none, none, none, none, none, none] [mJ k0] h (m_QJ (P_X7_greatestNumber h0 a1)))
set_option maxHeartbeats 4000000 in
set_option maxRecDepth 100000 in
theorem s_X7_greatestNumber_116 (h0 : m_H) (a1 : Int) (G0 : GI h0) (n : Nat) (ih : q_X7_greatestNumber h0 a1 n) : ∀ (k0 : Int) (h : m_H), GI h → FR [] [] h0 h → (-2147483648) ≤ a1 → a1 ≤ 2147483647 → (1) ≤ ((n + 1 : Nat) : Int) → m_Z oF M_X7_greatestNumber 116 [none, none, none, none, none, none, none, none] [mJ k0] h (m_QJ (P_X7_greatestNumber h0 a1)) := by
  intro k0 h G R v0 v1 hr
  exact z_retJ (M := M_X7_greatestNumber) 116 dX7_greatestNumber_116 rfl ⟨G, R⟩
theorem a_X7_greatestNumber (h0 : m_H) (a1 : Int) (G0 : GI h0) : ∀ n, q_X7_greatestNumber h0 a1 n := by
  intro n
  induction n with
  | zero => unfold q_X7_greatestNumber; intros; omega
  | succ n ih => exact s_X7_greatestNumber_116 h0 a1 G0 n ih
set_option maxHeartbeats 4000000 in
set_option maxRecDepth 100000 in
theorem c_X7_greatestNumber (h0 : m_H) (a1 : Int) (G0 : GI h0) : m_CJ M_X7_greatestNumber [mR 93, mI a1] h0 (P_X7_greatestNumber h0 a1) := by
  refine m_CJ_of ⟨by decide, rfl, by simp [m_arg, m_isL, M_X7_greatestNumber], ⟨rfl, rfl⟩, rfl, rfl⟩ (ls := [some (mR 93), some (mI a1), none, none, none, none, none, none]) rfl ?_
  have ih := a_X7_greatestNumber h0 a1 G0 6
  refine z_ok (fun _ _ ok => ?_)
  have oa1 : m_32 a1 := ok 1 _ rfl
  unfold m_32 at oa1
  refine z_aload_n (M := M_X7_greatestNumber) 0 dX7_greatestNumber_0 rfl ?_
  refine z_getR (M := M_X7_greatestNumber) 1 dX7_greatestNumber_1 f_X7_18 o_93 rfl (g_93_1 G0) ?_
  refine z_getJV (M := M_X7_greatestNumber) 4 dX7_greatestNumber_4 f_X7_29 o_95 rfl (fun x1 ex1 => ?_)
  refine z_lconst (M := M_X7_greatestNumber) 7 dX7_greatestNumber_7 (v := 0) ?_
  refine z_lcmp (M := M_X7_greatestNumber) 8 dX7_greatestNumber_8 ?_
  refine z_if_ne (M := M_X7_greatestNumber) 9 dX7_greatestNumber_9 16 rfl (fun c2 => ?_) (fun c2 => ?_)
  · rw [m_cmp_eq] at c2
    refine z_iload_n (M := M_X7_greatestNumber) 16 dX7_greatestNumber_16 rfl ?_
    refine z_iconst (M := M_X7_greatestNumber) 17 dX7_greatestNumber_17 ?_
    refine z_icmp_ne (M := M_X7_greatestNumber) 18 dX7_greatestNumber_18 43 rfl (fun c3 => ?_) (fun c3 => ?_)
    · refine z_aload_n (M := M_X7_greatestNumber) 43 dX7_greatestNumber_43 rfl ?_
      refine z_getR (M := M_X7_greatestNumber) 44 dX7_greatestNumber_44 f_X7_18 o_93 rfl (g_93_1 G0) ?_
      refine z_getJV (M := M_X7_greatestNumber) 47 dX7_greatestNumber_47 f_X7_33 o_95 rfl (fun x4 ex4 => ?_)
      refine z_lstore_n (M := M_X7_greatestNumber) 50 dX7_greatestNumber_50 (ls' := [some (mR 93), some (mI a1), some (mJ x4), none, none, none, none, none]) (by decide) rfl ?_
      refine z_iload_n (M := M_X7_greatestNumber) 51 dX7_greatestNumber_51 rfl ?_
      refine z_iconst (M := M_X7_greatestNumber) 52 dX7_greatestNumber_52 ?_
      refine z_icmp_ne (M := M_X7_greatestNumber) 53 dX7_greatestNumber_53 70 rfl (fun c5 => ?_) (fun c5 => ?_)
      · refine z_aload_n (M := M_X7_greatestNumber) 70 dX7_greatestNumber_70 rfl ?_
        refine z_getR (M := M_X7_greatestNumber) 71 dX7_greatestNumber_71 f_X7_18 o_93 rfl (g_93_1 G0) ?_
        refine z_getJE (M := M_X7_greatestNumber) 74 dX7_greatestNumber_74 f_X7_29 o_95 rfl ex1 ?_
        refine z_lstore (M := M_X7_greatestNumber) 77 dX7_greatestNumber_77 (ls' := [some (mR 93), some (mI a1), some (mJ x4), none, some (mJ x1), none, none, none]) (by decide) rfl ?_
        refine z_lload_n (M := M_X7_greatestNumber) 79 dX7_greatestNumber_79 rfl ?_
        refine z_lload (M := M_X7_greatestNumber) 80 dX7_greatestNumber_80 rfl ?_
        refine z_nJ (M := M_X7_greatestNumber) 82 dX7_greatestNumber_82 t_X11_quotient l_X7_36 (m_rr_of rfl) (rest := []) (c_X11_quotient h0 x4 x1 G0) rfl rfl (Nat.le_of_ble_eq_true rfl) ⟨rfl, rfl⟩ (fun x6 h1 qx6 => ?_)
        obtain ⟨G1, S1⟩ := qx6
        have R1 := (FR.rf (cs := []) (ss := []) (h := h0)).call S1 (by decide +kernel)
        refine z_lstore (M := M_X7_greatestNumber) 85 dX7_greatestNumber_85 (ls' := [some (mR 93), some (mI a1), some (mJ x4), none, some (mJ x1), none, some (mJ x6), none]) (by decide) rfl ?_
        refine z_aload_n (M := M_X7_greatestNumber) 87 dX7_greatestNumber_87 rfl ?_
        refine z_getR (M := M_X7_greatestNumber) 88 dX7_greatestNumber_88 f_X7_18 o_93 rfl (g_93_1 G1) ?_
        refine z_getIG (M := M_X7_greatestNumber) 91 dX7_greatestNumber_91 f_X7_44 o_95 (by decide) (g_95_2 G1) (fun x7 ex7 ax7 bx7 => ?_)
        refine z_if_eq (M := M_X7_greatestNumber) 94 dX7_greatestNumber_94 114 rfl (fun c8 => ?_) (fun c8 => ?_)
        · refine z_lload (M := M_X7_greatestNumber) 114 dX7_greatestNumber_114 rfl ?_
          exact z_mask [false, false, false, false, false, false, false, false] rfl (ih x6 h1 G1 R1 (by omega) (by omega) (by omega))
        · refine z_lload (M := M_X7_greatestNumber) 97 dX7_greatestNumber_97 rfl ?_
          refine z_lload (M := M_X7_greatestNumber) 99 dX7_greatestNumber_99 rfl ?_
          refine z_lmul (M := M_X7_greatestNumber) 101 dX7_greatestNumber_101 ?_
          refine z_topJ (fun x9 ex9 => ?_)
          refine z_lload_n (M := M_X7_greatestNumber) 102 dX7_greatestNumber_102 rfl ?_
          refine z_lcmp (M := M_X7_greatestNumber) 103 dX7_greatestNumber_103 ?_
          refine z_if_ne (M := M_X7_greatestNumber) 104 dX7_greatestNumber_104 114 rfl (fun c10 => ?_) (fun c10 => ?_)
          · rw [m_cmp_eq] at c10
            refine z_lload (M := M_X7_greatestNumber) 114 dX7_greatestNumber_114 rfl ?_
            exact z_mask [false, false, false, false, false, false, false, false] rfl (ih x6 h1 G1 R1 (by omega) (by omega) (by omega))
          · rw [m_cmp_eq] at c10
            refine z_lload (M := M_X7_greatestNumber) 107 dX7_greatestNumber_107 rfl ?_
            refine z_lconst (M := M_X7_greatestNumber) 109 dX7_greatestNumber_109 (v := 1) ?_
            refine z_lsub (M := M_X7_greatestNumber) 110 dX7_greatestNumber_110 ?_
            refine z_topJ (fun x11 ex11 => ?_)
            refine z_goto (M := M_X7_greatestNumber) 111 dX7_greatestNumber_111 116 rfl ?_
            exact z_mask [false, false, false, false, false, false, false, false] rfl (ih x11 h1 G1 R1 (by omega) (by omega) (by omega))
      · refine z_ldc2 (M := M_X7_greatestNumber) 56 dX7_greatestNumber_56 k_X7_42 ?_
        refine z_aload_n (M := M_X7_greatestNumber) 59 dX7_greatestNumber_59 rfl ?_
        refine z_getR (M := M_X7_greatestNumber) 60 dX7_greatestNumber_60 f_X7_18 o_93 rfl (g_93_1 G0) ?_
        refine z_getJE (M := M_X7_greatestNumber) 63 dX7_greatestNumber_63 f_X7_29 o_95 rfl ex1 ?_
        refine z_lmul (M := M_X7_greatestNumber) 66 dX7_greatestNumber_66 ?_
        refine z_topJ (fun x12 ex12 => ?_)
        refine z_goto (M := M_X7_greatestNumber) 67 dX7_greatestNumber_67 77 rfl ?_
        refine z_lstore (M := M_X7_greatestNumber) 77 dX7_greatestNumber_77 (ls' := [some (mR 93), some (mI a1), some (mJ x4), none, some (mJ x12), none, none, none]) (by decide) rfl ?_
        refine z_lload_n (M := M_X7_greatestNumber) 79 dX7_greatestNumber_79 rfl ?_
        refine z_lload (M := M_X7_greatestNumber) 80 dX7_greatestNumber_80 rfl ?_
        refine z_nJ (M := M_X7_greatestNumber) 82 dX7_greatestNumber_82 t_X11_quotient l_X7_36 (m_rr_of rfl) (rest := []) (c_X11_quotient h0 x4 x12 G0) rfl rfl (Nat.le_of_ble_eq_true rfl) ⟨rfl, rfl⟩ (fun x13 h2 qx13 => ?_)
        obtain ⟨G2, S2⟩ := qx13
        have R2 := (FR.rf (cs := []) (ss := []) (h := h0)).call S2 (by decide +kernel)
        refine z_lstore (M := M_X7_greatestNumber) 85 dX7_greatestNumber_85 (ls' := [some (mR 93), some (mI a1), some (mJ x4), none, some (mJ x12), none, some (mJ x13), none]) (by decide) rfl ?_
        refine z_aload_n (M := M_X7_greatestNumber) 87 dX7_greatestNumber_87 rfl ?_
        refine z_getR (M := M_X7_greatestNumber) 88 dX7_greatestNumber_88 f_X7_18 o_93 rfl (g_93_1 G2) ?_
        refine z_getIG (M := M_X7_greatestNumber) 91 dX7_greatestNumber_91 f_X7_44 o_95 (by decide) (g_95_2 G2) (fun x14 ex14 ax14 bx14 => ?_)
        refine z_if_eq (M := M_X7_greatestNumber) 94 dX7_greatestNumber_94 114 rfl (fun c15 => ?_) (fun c15 => ?_)
        · refine z_lload (M := M_X7_greatestNumber) 114 dX7_greatestNumber_114 rfl ?_
          exact z_mask [false, false, false, false, false, false, false, false] rfl (ih x13 h2 G2 R2 (by omega) (by omega) (by omega))
        · refine z_lload (M := M_X7_greatestNumber) 97 dX7_greatestNumber_97 rfl ?_
          refine z_lload (M := M_X7_greatestNumber) 99 dX7_greatestNumber_99 rfl ?_
          refine z_lmul (M := M_X7_greatestNumber) 101 dX7_greatestNumber_101 ?_
          refine z_topJ (fun x16 ex16 => ?_)
          refine z_lload_n (M := M_X7_greatestNumber) 102 dX7_greatestNumber_102 rfl ?_
          refine z_lcmp (M := M_X7_greatestNumber) 103 dX7_greatestNumber_103 ?_
          refine z_if_ne (M := M_X7_greatestNumber) 104 dX7_greatestNumber_104 114 rfl (fun c17 => ?_) (fun c17 => ?_)
          · rw [m_cmp_eq] at c17
            refine z_lload (M := M_X7_greatestNumber) 114 dX7_greatestNumber_114 rfl ?_
            exact z_mask [false, false, false, false, false, false, false, false] rfl (ih x13 h2 G2 R2 (by omega) (by omega) (by omega))
          · rw [m_cmp_eq] at c17
            refine z_lload (M := M_X7_greatestNumber) 107 dX7_greatestNumber_107 rfl ?_
            refine z_lconst (M := M_X7_greatestNumber) 109 dX7_greatestNumber_109 (v := 1) ?_
            refine z_lsub (M := M_X7_greatestNumber) 110 dX7_greatestNumber_110 ?_
            refine z_topJ (fun x18 ex18 => ?_)
            refine z_goto (M := M_X7_greatestNumber) 111 dX7_greatestNumber_111 116 rfl ?_
            exact z_mask [false, false, false, false, false, false, false, false] rfl (ih x18 h2 G2 R2 (by omega) (by omega) (by omega))
    · refine z_ldc2 (M := M_X7_greatestNumber) 21 dX7_greatestNumber_21 k_X7_42 ?_
      refine z_aload_n (M := M_X7_greatestNumber) 24 dX7_greatestNumber_24 rfl ?_
      refine z_getR (M := M_X7_greatestNumber) 25 dX7_greatestNumber_25 f_X7_18 o_93 rfl (g_93_1 G0) ?_
      refine z_getJV (M := M_X7_greatestNumber) 28 dX7_greatestNumber_28 f_X7_33 o_95 rfl (fun x19 ex19 => ?_)
      refine z_lmul (M := M_X7_greatestNumber) 31 dX7_greatestNumber_31 ?_
      refine z_topJ (fun x20 ex20 => ?_)
      refine z_aload_n (M := M_X7_greatestNumber) 32 dX7_greatestNumber_32 rfl ?_
      refine z_getR (M := M_X7_greatestNumber) 33 dX7_greatestNumber_33 f_X7_18 o_93 rfl (g_93_1 G0) ?_
      refine z_getJE (M := M_X7_greatestNumber) 36 dX7_greatestNumber_36 f_X7_29 o_95 rfl ex1 ?_
      refine z_ladd (M := M_X7_greatestNumber) 39 dX7_greatestNumber_39 ?_
      refine z_topJ (fun x21 ex21 => ?_)
      refine z_goto (M := M_X7_greatestNumber) 40 dX7_greatestNumber_40 50 rfl ?_
      refine z_lstore_n (M := M_X7_greatestNumber) 50 dX7_greatestNumber_50 (ls' := [some (mR 93), some (mI a1), some (mJ x21), none, none, none, none, none]) (by decide) rfl ?_
      refine z_iload_n (M := M_X7_greatestNumber) 51 dX7_greatestNumber_51 rfl ?_
      refine z_iconst (M := M_X7_greatestNumber) 52 dX7_greatestNumber_52 ?_
      refine z_icmp_ne_F (M := M_X7_greatestNumber) 53 dX7_greatestNumber_53 70 rfl (by omega) ?_
      refine z_ldc2 (M := M_X7_greatestNumber) 56 dX7_greatestNumber_56 k_X7_42 ?_
      refine z_aload_n (M := M_X7_greatestNumber) 59 dX7_greatestNumber_59 rfl ?_
      refine z_getR (M := M_X7_greatestNumber) 60 dX7_greatestNumber_60 f_X7_18 o_93 rfl (g_93_1 G0) ?_
      refine z_getJE (M := M_X7_greatestNumber) 63 dX7_greatestNumber_63 f_X7_29 o_95 rfl ex1 ?_
      refine z_lmul (M := M_X7_greatestNumber) 66 dX7_greatestNumber_66 ?_
      refine z_topJ (fun x22 ex22 => ?_)
      refine z_goto (M := M_X7_greatestNumber) 67 dX7_greatestNumber_67 77 rfl ?_
      refine z_lstore (M := M_X7_greatestNumber) 77 dX7_greatestNumber_77 (ls' := [some (mR 93), some (mI a1), some (mJ x21), none, some (mJ x22), none, none, none]) (by decide) rfl ?_
      refine z_lload_n (M := M_X7_greatestNumber) 79 dX7_greatestNumber_79 rfl ?_
      refine z_lload (M := M_X7_greatestNumber) 80 dX7_greatestNumber_80 rfl ?_
      refine z_nJ (M := M_X7_greatestNumber) 82 dX7_greatestNumber_82 t_X11_quotient l_X7_36 (m_rr_of rfl) (rest := []) (c_X11_quotient h0 x21 x22 G0) rfl rfl (Nat.le_of_ble_eq_true rfl) ⟨rfl, rfl⟩ (fun x23 h3 qx23 => ?_)
      obtain ⟨G3, S3⟩ := qx23
      have R3 := (FR.rf (cs := []) (ss := []) (h := h0)).call S3 (by decide +kernel)
      refine z_lstore (M := M_X7_greatestNumber) 85 dX7_greatestNumber_85 (ls' := [some (mR 93), some (mI a1), some (mJ x21), none, some (mJ x22), none, some (mJ x23), none]) (by decide) rfl ?_
      refine z_aload_n (M := M_X7_greatestNumber) 87 dX7_greatestNumber_87 rfl ?_
      refine z_getR (M := M_X7_greatestNumber) 88 dX7_greatestNumber_88 f_X7_18 o_93 rfl (g_93_1 G3) ?_
      refine z_getIG (M := M_X7_greatestNumber) 91 dX7_greatestNumber_91 f_X7_44 o_95 (by decide) (g_95_2 G3) (fun x24 ex24 ax24 bx24 => ?_)
      refine z_if_eq (M := M_X7_greatestNumber) 94 dX7_greatestNumber_94 114 rfl (fun c25 => ?_) (fun c25 => ?_)
      · refine z_lload (M := M_X7_greatestNumber) 114 dX7_greatestNumber_114 rfl ?_
        exact z_mask [false, false, false, false, false, false, false, false] rfl (ih x23 h3 G3 R3 (by omega) (by omega) (by omega))
      · refine z_lload (M := M_X7_greatestNumber) 97 dX7_greatestNumber_97 rfl ?_
        refine z_lload (M := M_X7_greatestNumber) 99 dX7_greatestNumber_99 rfl ?_
        refine z_lmul (M := M_X7_greatestNumber) 101 dX7_greatestNumber_101 ?_
        refine z_topJ (fun x26 ex26 => ?_)
        refine z_lload_n (M := M_X7_greatestNumber) 102 dX7_greatestNumber_102 rfl ?_
        refine z_lcmp (M := M_X7_greatestNumber) 103 dX7_greatestNumber_103 ?_
        refine z_if_ne (M := M_X7_greatestNumber) 104 dX7_greatestNumber_104 114 rfl (fun c27 => ?_) (fun c27 => ?_)
        · rw [m_cmp_eq] at c27
          refine z_lload (M := M_X7_greatestNumber) 114 dX7_greatestNumber_114 rfl ?_
          exact z_mask [false, false, false, false, false, false, false, false] rfl (ih x23 h3 G3 R3 (by omega) (by omega) (by omega))
        · rw [m_cmp_eq] at c27
          refine z_lload (M := M_X7_greatestNumber) 107 dX7_greatestNumber_107 rfl ?_
          refine z_lconst (M := M_X7_greatestNumber) 109 dX7_greatestNumber_109 (v := 1) ?_
          refine z_lsub (M := M_X7_greatestNumber) 110 dX7_greatestNumber_110 ?_
          refine z_topJ (fun x28 ex28 => ?_)
          refine z_goto (M := M_X7_greatestNumber) 111 dX7_greatestNumber_111 116 rfl ?_
          exact z_mask [false, false, false, false, false, false, false, false] rfl (ih x28 h3 G3 R3 (by omega) (by omega) (by omega))
  · rw [m_cmp_eq] at c2
    refine z_ldc2 (M := M_X7_greatestNumber) 12 dX7_greatestNumber_12 k_X7_40 ?_
    exact z_retJ (M := M_X7_greatestNumber) 15 dX7_greatestNumber_15 rfl ⟨G0, (FR.rf (cs := []) (ss := []) (h := h0))⟩
abbrev P_X7_firstNumber (h0 : m_H) (a1 : Int) : Int → m_H → Prop := fun x h' => GI h' ∧ FR [] [] h0 h'
set_option maxHeartbeats 4000000 in
set_option maxRecDepth 100000 in
theorem c_X7_firstNumber (h0 : m_H) (a1 : Int) (G0 : GI h0) : m_CI M_X7_firstNumber [mR 93, mI a1] h0 (P_X7_firstNumber h0 a1) := by
  refine m_CI_of ⟨by decide, rfl, by simp [m_arg, m_isL, M_X7_firstNumber], ⟨rfl, rfl⟩, rfl, rfl⟩ (ls := [some (mR 93), some (mI a1)]) rfl ?_
  refine z_ok (fun _ _ ok => ?_)
  have oa1 : m_32 a1 := ok 1 _ rfl
  unfold m_32 at oa1
  refine z_ldc2 (M := M_X7_firstNumber) 0 dX7_firstNumber_0 k_X7_48 ?_
  refine z_lconst (M := M_X7_firstNumber) 3 dX7_firstNumber_3 (v := 1) ?_
  refine z_aload_n (M := M_X7_firstNumber) 4 dX7_firstNumber_4 rfl ?_
  refine z_iload_n (M := M_X7_firstNumber) 5 dX7_firstNumber_5 rfl ?_
  refine z_vJ (M := M_X7_firstNumber) 6 dX7_firstNumber_6 t_X7_leastNumber l_X7_50 (m_rr_of rfl) (rest := [mJ 1, mJ 100]) (c_X7_leastNumber h0 a1 G0) o_93 rfl rfl rfl (Nat.le_of_ble_eq_true rfl) ⟨rfl, rfl⟩ (fun x1 h1 qx1 => ?_)
  obtain ⟨G1, S1⟩ := qx1
  have R1 := (FR.rf (cs := []) (ss := []) (h := h0)).call S1 (by decide +kernel)
  refine z_maxJ (M := M_X7_firstNumber) 9 dX7_firstNumber_9 ml_X7_54 (rest := [mJ 100]) (Nat.le_of_ble_eq_true rfl) (Nat.le_of_ble_eq_true rfl) ?_
  refine z_topJ (fun x2 ex2 => ?_)
  refine z_minJ (M := M_X7_firstNumber) 12 dX7_firstNumber_12 ml_X7_59 (rest := []) (Nat.le_of_ble_eq_true rfl) (Nat.le_of_ble_eq_true rfl) ?_
  refine z_topJ (fun x3 ex3 => ?_)
  refine z_l2i (M := M_X7_firstNumber) 15 dX7_firstNumber_15 ?_
  refine z_topm (fun x4 ex4 ox4 => ?_)
  unfold m_32 at ox4
  exact z_retI (M := M_X7_firstNumber) 16 dX7_firstNumber_16 rfl ⟨G1, R1⟩
abbrev P_X7_lastNumber (h0 : m_H) (a1 : Int) : Int → m_H → Prop := fun x h' => GI h' ∧ FR [] [] h0 h'
set_option maxHeartbeats 4000000 in
set_option maxRecDepth 100000 in
theorem c_X7_lastNumber (h0 : m_H) (a1 : Int) (G0 : GI h0) : m_CI M_X7_lastNumber [mR 93, mI a1] h0 (P_X7_lastNumber h0 a1) := by
  refine m_CI_of ⟨by decide, rfl, by simp [m_arg, m_isL, M_X7_lastNumber], ⟨rfl, rfl⟩, rfl, rfl⟩ (ls := [some (mR 93), some (mI a1)]) rfl ?_
  refine z_ok (fun _ _ ok => ?_)
  have oa1 : m_32 a1 := ok 1 _ rfl
  unfold m_32 at oa1
  refine z_aload_n (M := M_X7_lastNumber) 0 dX7_lastNumber_0 rfl ?_
  refine z_getR (M := M_X7_lastNumber) 1 dX7_lastNumber_1 f_X7_18 o_93 rfl (g_93_1 G0) ?_
  refine z_getJV (M := M_X7_lastNumber) 4 dX7_lastNumber_4 f_X7_29 o_95 rfl (fun x1 ex1 => ?_)
  refine z_lconst (M := M_X7_lastNumber) 7 dX7_lastNumber_7 (v := 0) ?_
  refine z_lcmp (M := M_X7_lastNumber) 8 dX7_lastNumber_8 ?_
  refine z_if_ne (M := M_X7_lastNumber) 9 dX7_lastNumber_9 17 rfl (fun c2 => ?_) (fun c2 => ?_)
  · rw [m_cmp_eq] at c2
    refine z_aload_n (M := M_X7_lastNumber) 17 dX7_lastNumber_17 rfl ?_
    refine z_iload_n (M := M_X7_lastNumber) 18 dX7_lastNumber_18 rfl ?_
    refine z_vJ (M := M_X7_lastNumber) 19 dX7_lastNumber_19 t_X7_greatestNumber l_X7_62 (m_rr_of rfl) (rest := []) (c_X7_greatestNumber h0 a1 G0) o_93 rfl rfl rfl (Nat.le_of_ble_eq_true rfl) ⟨rfl, rfl⟩ (fun x3 h1 qx3 => ?_)
    obtain ⟨G1, S1⟩ := qx3
    have R1 := (FR.rf (cs := []) (ss := []) (h := h0)).call S1 (by decide +kernel)
    refine z_ldc2 (M := M_X7_lastNumber) 22 dX7_lastNumber_22 k_X7_65 ?_
    refine z_nI (M := M_X7_lastNumber) 25 dX7_lastNumber_25 t_X11_atMost l_X7_67 (m_rr_of rfl) (rest := []) (c_X11_atMost h1 x3 99 G1) rfl rfl (Nat.le_of_ble_eq_true rfl) ⟨rfl, rfl⟩ (fun x4 h2 qx4 => ?_)
    obtain ⟨G2, S2⟩ := qx4
    have R2 := R1.call S2 (by decide +kernel)
    refine z_ok (fun ox4 _ _ => ?_)
    have ox4 := ox4.1; unfold m_ok m_32 at ox4
    exact z_retI (M := M_X7_lastNumber) 28 dX7_lastNumber_28 rfl ⟨G2, R2⟩
  · rw [m_cmp_eq] at c2
    refine z_bipush (M := M_X7_lastNumber) 12 dX7_lastNumber_12 ?_
    refine z_goto (M := M_X7_lastNumber) 14 dX7_lastNumber_14 28 rfl ?_
    exact z_retI (M := M_X7_lastNumber) 28 dX7_lastNumber_28 rfl ⟨G0, (FR.rf (cs := []) (ss := []) (h := h0))⟩
abbrev P_X7_manyNumbers (h0 : m_H) (a1 : Int) : Int → m_H → Prop := fun x h' => GI h' ∧ FR [] [] h0 h' ∧ 0 ≤ x ∧ x ≤ 2147483647
set_option maxHeartbeats 4000000 in
set_option maxRecDepth 100000 in
theorem c_X7_manyNumbers (h0 : m_H) (a1 : Int) (G0 : GI h0) : m_CI M_X7_manyNumbers [mR 93, mI a1] h0 (P_X7_manyNumbers h0 a1) := by
  refine m_CI_of ⟨by decide, rfl, by simp [m_arg, m_isL, M_X7_manyNumbers], ⟨rfl, rfl⟩, rfl, rfl⟩ (ls := [some (mR 93), some (mI a1)]) rfl ?_
  refine z_ok (fun _ _ ok => ?_)
  have oa1 : m_32 a1 := ok 1 _ rfl
  unfold m_32 at oa1
  refine z_iconst (M := M_X7_manyNumbers) 0 dX7_manyNumbers_0 ?_
  refine z_aload_n (M := M_X7_manyNumbers) 1 dX7_manyNumbers_1 rfl ?_
  refine z_iload_n (M := M_X7_manyNumbers) 2 dX7_manyNumbers_2 rfl ?_
  refine z_vI (M := M_X7_manyNumbers) 3 dX7_manyNumbers_3 t_X7_lastNumber l_X7_71 (m_rr_of rfl) (rest := [mI 0]) (c_X7_lastNumber h0 a1 G0) o_93 rfl rfl rfl (Nat.le_of_ble_eq_true rfl) ⟨rfl, rfl⟩ (fun x1 h1 qx1 => ?_)
  obtain ⟨G1, S1⟩ := qx1
  have R1 := (FR.rf (cs := []) (ss := []) (h := h0)).call S1 (by decide +kernel)
  refine z_ok (fun ox1 _ _ => ?_)
  have ox1 := ox1.1; unfold m_ok m_32 at ox1
  refine z_aload_n (M := M_X7_manyNumbers) 6 dX7_manyNumbers_6 rfl ?_
  refine z_iload_n (M := M_X7_manyNumbers) 7 dX7_manyNumbers_7 rfl ?_
  refine z_vI (M := M_X7_manyNumbers) 8 dX7_manyNumbers_8 t_X7_firstNumber l_X7_75 (m_rr_of rfl) (rest := [mI x1, mI 0]) (c_X7_firstNumber h1 a1 G1) o_93 rfl rfl rfl (Nat.le_of_ble_eq_true rfl) ⟨rfl, rfl⟩ (fun x2 h2 qx2 => ?_)
  obtain ⟨G2, S2⟩ := qx2
  have R2 := R1.call S2 (by decide +kernel)
  refine z_ok (fun ox2 _ _ => ?_)
  have ox2 := ox2.1; unfold m_ok m_32 at ox2
  refine z_isub (M := M_X7_manyNumbers) 11 dX7_manyNumbers_11 ?_
  refine z_topm (fun x3 ex3 ox3 => ?_)
  unfold m_32 at ox3
  refine z_iconst (M := M_X7_manyNumbers) 12 dX7_manyNumbers_12 ?_
  refine z_iadd (M := M_X7_manyNumbers) 13 dX7_manyNumbers_13 ?_
  refine z_topm (fun x4 ex4 ox4 => ?_)
  unfold m_32 at ox4
  refine z_maxI (M := M_X7_manyNumbers) 14 dX7_manyNumbers_14 ml_X7_78 (rest := []) (Nat.le_of_ble_eq_true rfl) (Nat.le_of_ble_eq_true rfl) ?_
  refine z_topBI (lo := 0) (hi := 2147483647) ⟨by split <;> omega, by split <;> omega⟩ (fun x5 ex5 ax5 bx5 => ?_)
  exact z_retI (M := M_X7_manyNumbers) 17 dX7_manyNumbers_17 rfl ⟨G2, R2, by omega, by omega⟩
abbrev P_X7_allows (h0 : m_H) (a1 a2 : Int) : Int → m_H → Prop := fun x h' => GI h' ∧ FR [] [] h0 h' ∧ 0 ≤ x ∧ x ≤ 1
set_option maxHeartbeats 4000000 in
set_option maxRecDepth 100000 in
theorem c_X7_allows (h0 : m_H) (a1 a2 : Int) (G0 : GI h0) : m_CI M_X7_allows [mR 93, mI a1, mI a2] h0 (P_X7_allows h0 a1 a2) := by
  refine m_CI_of ⟨by decide, rfl, by simp [m_arg, m_isL, M_X7_allows], ⟨rfl, rfl⟩, rfl, rfl⟩ (ls := [some (mR 93), some (mI a1), some (mI a2)]) rfl ?_
  refine z_ok (fun _ _ ok => ?_)
  have oa1 : m_32 a1 := ok 1 _ rfl
  unfold m_32 at oa1
  have oa2 : m_32 a2 := ok 2 _ rfl
  unfold m_32 at oa2
  refine z_iload_n (M := M_X7_allows) 0 dX7_allows_0 rfl ?_
  refine z_aload_n (M := M_X7_allows) 1 dX7_allows_1 rfl ?_
  refine z_iload_n (M := M_X7_allows) 2 dX7_allows_2 rfl ?_
  refine z_vI (M := M_X7_allows) 3 dX7_allows_3 t_X7_firstNumber l_X7_75 (m_rr_of rfl) (rest := [mI a1]) (c_X7_firstNumber h0 a2 G0) o_93 rfl rfl rfl (Nat.le_of_ble_eq_true rfl) ⟨rfl, rfl⟩ (fun x1 h1 qx1 => ?_)
  obtain ⟨G1, S1⟩ := qx1
  have R1 := (FR.rf (cs := []) (ss := []) (h := h0)).call S1 (by decide +kernel)
  refine z_ok (fun ox1 _ _ => ?_)
  have ox1 := ox1.1; unfold m_ok m_32 at ox1
  refine z_icmp_lt (M := M_X7_allows) 6 dX7_allows_6 22 rfl (fun c2 => ?_) (fun c2 => ?_)
  · refine z_iconst (M := M_X7_allows) 22 dX7_allows_22 ?_
    exact z_retZ (M := M_X7_allows) 23 dX7_allows_23 rfl (by omega) ⟨G1, R1, by omega, by omega⟩
  · refine z_iload_n (M := M_X7_allows) 9 dX7_allows_9 rfl ?_
    refine z_aload_n (M := M_X7_allows) 10 dX7_allows_10 rfl ?_
    refine z_iload_n (M := M_X7_allows) 11 dX7_allows_11 rfl ?_
    refine z_vI (M := M_X7_allows) 12 dX7_allows_12 t_X7_lastNumber l_X7_71 (m_rr_of rfl) (rest := [mI a1]) (c_X7_lastNumber h1 a2 G1) o_93 rfl rfl rfl (Nat.le_of_ble_eq_true rfl) ⟨rfl, rfl⟩ (fun x3 h2 qx3 => ?_)
    obtain ⟨G2, S2⟩ := qx3
    have R2 := R1.call S2 (by decide +kernel)
    refine z_ok (fun ox3 _ _ => ?_)
    have ox3 := ox3.1; unfold m_ok m_32 at ox3
    refine z_icmp_gt (M := M_X7_allows) 15 dX7_allows_15 22 rfl (fun c4 => ?_) (fun c4 => ?_)
    · refine z_iconst (M := M_X7_allows) 22 dX7_allows_22 ?_
      exact z_retZ (M := M_X7_allows) 23 dX7_allows_23 rfl (by omega) ⟨G2, R2, by omega, by omega⟩
    · refine z_iconst (M := M_X7_allows) 18 dX7_allows_18 ?_
      refine z_goto (M := M_X7_allows) 19 dX7_allows_19 23 rfl ?_
      exact z_retZ (M := M_X7_allows) 23 dX7_allows_23 rfl (by omega) ⟨G2, R2, by omega, by omega⟩
abbrev P_X7_forces (h0 : m_H) (a1 a2 : Int) : Int → m_H → Prop := fun x h' => GI h' ∧ FR [] [] h0 h' ∧ 0 ≤ x ∧ x ≤ 1
set_option maxHeartbeats 4000000 in
set_option maxRecDepth 100000 in
theorem c_X7_forces (h0 : m_H) (a1 a2 : Int) (G0 : GI h0) : m_CI M_X7_forces [mR 93, mI a1, mI a2] h0 (P_X7_forces h0 a1 a2) := by
  refine m_CI_of ⟨by decide, rfl, by simp [m_arg, m_isL, M_X7_forces], ⟨rfl, rfl⟩, rfl, rfl⟩ (ls := [some (mR 93), some (mI a1), some (mI a2)]) rfl ?_
  refine z_ok (fun _ _ ok => ?_)
  have oa1 : m_32 a1 := ok 1 _ rfl
  unfold m_32 at oa1
  have oa2 : m_32 a2 := ok 2 _ rfl
  unfold m_32 at oa2
  refine z_iload_n (M := M_X7_forces) 0 dX7_forces_0 rfl ?_
  refine z_if_ne (M := M_X7_forces) 1 dX7_forces_1 11 rfl (fun c1 => ?_) (fun c1 => ?_)
  · refine z_aload_n (M := M_X7_forces) 11 dX7_forces_11 rfl ?_
    refine z_iload_n (M := M_X7_forces) 12 dX7_forces_12 rfl ?_
    refine z_vJ (M := M_X7_forces) 13 dX7_forces_13 t_X7_leastNumber l_X7_50 (m_rr_of rfl) (rest := []) (c_X7_leastNumber h0 a2 G0) o_93 rfl rfl rfl (Nat.le_of_ble_eq_true rfl) ⟨rfl, rfl⟩ (fun x2 h1 qx2 => ?_)
    obtain ⟨G1, S1⟩ := qx2
    have R1 := (FR.rf (cs := []) (ss := []) (h := h0)).call S1 (by decide +kernel)
    refine z_iload_n (M := M_X7_forces) 16 dX7_forces_16 rfl ?_
    refine z_i2l (M := M_X7_forces) 17 dX7_forces_17 ?_
    refine z_lcmp (M := M_X7_forces) 18 dX7_forces_18 ?_
    refine z_if_ne (M := M_X7_forces) 19 dX7_forces_19 37 rfl (fun c3 => ?_) (fun c3 => ?_)
    · rw [m_cmp_eq] at c3
      refine z_iconst (M := M_X7_forces) 37 dX7_forces_37 ?_
      exact z_retZ (M := M_X7_forces) 38 dX7_forces_38 rfl (by omega) ⟨G1, R1, by omega, by omega⟩
    · rw [m_cmp_eq] at c3
      refine z_aload_n (M := M_X7_forces) 22 dX7_forces_22 rfl ?_
      refine z_iload_n (M := M_X7_forces) 23 dX7_forces_23 rfl ?_
      refine z_vJ (M := M_X7_forces) 24 dX7_forces_24 t_X7_greatestNumber l_X7_62 (m_rr_of rfl) (rest := []) (c_X7_greatestNumber h1 a2 G1) o_93 rfl rfl rfl (Nat.le_of_ble_eq_true rfl) ⟨rfl, rfl⟩ (fun x4 h2 qx4 => ?_)
      obtain ⟨G2, S2⟩ := qx4
      have R2 := R1.call S2 (by decide +kernel)
      refine z_iload_n (M := M_X7_forces) 27 dX7_forces_27 rfl ?_
      refine z_i2l (M := M_X7_forces) 28 dX7_forces_28 ?_
      refine z_lcmp (M := M_X7_forces) 29 dX7_forces_29 ?_
      refine z_if_ne (M := M_X7_forces) 30 dX7_forces_30 37 rfl (fun c5 => ?_) (fun c5 => ?_)
      · rw [m_cmp_eq] at c5
        refine z_iconst (M := M_X7_forces) 37 dX7_forces_37 ?_
        exact z_retZ (M := M_X7_forces) 38 dX7_forces_38 rfl (by omega) ⟨G2, R2, by omega, by omega⟩
      · rw [m_cmp_eq] at c5
        refine z_iconst (M := M_X7_forces) 33 dX7_forces_33 ?_
        refine z_goto (M := M_X7_forces) 34 dX7_forces_34 38 rfl ?_
        exact z_retZ (M := M_X7_forces) 38 dX7_forces_38 rfl (by omega) ⟨G2, R2, by omega, by omega⟩
  · refine z_aload_n (M := M_X7_forces) 4 dX7_forces_4 rfl ?_
    refine z_iload_n (M := M_X7_forces) 5 dX7_forces_5 rfl ?_
    refine z_i2l (M := M_X7_forces) 6 dX7_forces_6 ?_
    refine z_vI (M := M_X7_forces) 7 dX7_forces_7 t_X7_isAlways l_X7_81 (m_rr_of rfl) (rest := []) (c_X7_isAlways h0 a1 G0) o_93 rfl rfl rfl (Nat.le_of_ble_eq_true rfl) ⟨rfl, rfl⟩ (fun x6 h3 qx6 => ?_)
    obtain ⟨G3, S3, ax6, bx6⟩ := qx6
    have R3 := (FR.rf (cs := []) (ss := []) (h := h0)).call S3 (by decide +kernel)
    exact z_retZ (M := M_X7_forces) 10 dX7_forces_10 rfl (by omega) ⟨G3, R3, by omega, by omega⟩
abbrev P_X10_clear (h0 : m_H) : m_H → Prop := fun h' => GI h' ∧ FR [97, 98] [(96, 2), (96, 3), (96, 4)] h0 h'
def q_X10_clear (h0 : m_H) (n : Nat) : Prop := (∀ (l1 : Int) (h : m_H), GI h → FR [97, 98] [(96, 2), (96, 3), (96, 4)] h0 h → 0 ≤ l1 → l1 ≤ 3 → 2 * (3 - l1) + (1) ≤ (n : Int) → m_Z oF M_X10_clear 2 [some (mR 96), some (mI l1)] [] h (m_QV (P_X10_clear h0)))
set_option maxHeartbeats 4000000 in
set_option maxRecDepth 100000 in
theorem s_X10_clear_2 (h0 : m_H) (G0 : GI h0) (n : Nat) (ih : q_X10_clear h0 n) : ∀ (l1 : Int) (h : m_H), GI h → FR [97, 98] [(96, 2), (96, 3), (96, 4)] h0 h → 0 ≤ l1 → l1 ≤ 3 → 2 * (3 - l1) + (1) ≤ ((n + 1 : Nat) : Int) → m_Z oF M_X10_clear 2 [some (mR 96), some (mI l1)] [] h (m_QV (P_X10_clear h0)) := by
  intro l1 h G R v0 v1 hr
  refine z_iload_n (M := M_X10_clear) 2 dX10_clear_2 rfl ?_
  refine z_iconst (M := M_X10_clear) 3 dX10_clear_3 ?_
  refine z_icmp_ge (M := M_X10_clear) 4 dX10_clear_4 27 rfl (fun c1 => ?_) (fun c1 => ?_)
  · refine z_aload_n (M := M_X10_clear) 27 dX10_clear_27 rfl ?_
    refine z_iconst (M := M_X10_clear) 28 dX10_clear_28 ?_
    refine z_putIH (M := M_X10_clear) 29 dX10_clear_29 p_X10_18 o_96 rfl (u_96_2 G (by omega) (by omega)) (R.up rfl) (fun h1 E1 G1 R1 => ?_)
    refine z_aload_n (M := M_X10_clear) 32 dX10_clear_32 rfl ?_
    refine z_iconst (M := M_X10_clear) 33 dX10_clear_33 ?_
    refine z_putZH (M := M_X10_clear) 34 dX10_clear_34 p_X10_22 o_96 rfl (by omega) (u_96_3 G1 (by omega) (by omega)) (R1.up rfl) (fun h2 E2 G2 R2 => ?_)
    refine z_aload_n (M := M_X10_clear) 37 dX10_clear_37 rfl ?_
    refine z_iconst (M := M_X10_clear) 38 dX10_clear_38 ?_
    refine z_putZH (M := M_X10_clear) 39 dX10_clear_39 p_X10_26 o_96 rfl (by omega) (u_96_4 G2 (by omega) (by omega)) (R2.up rfl) (fun h3 E3 G3 R3 => ?_)
    exact z_retV (M := M_X10_clear) 42 dX10_clear_42 rfl ⟨G3, R3⟩
  · refine z_aload_n (M := M_X10_clear) 7 dX10_clear_7 rfl ?_
    refine z_getR (M := M_X10_clear) 8 dX10_clear_8 f_X10_9 o_96 rfl (g_96_0 G) ?_
    refine z_iload_n (M := M_X10_clear) 11 dX10_clear_11 rfl ?_
    refine z_lconst (M := M_X10_clear) 12 dX10_clear_12 (v := 0) ?_
    refine z_lastH (M := M_X10_clear) 13 dX10_clear_13 o_97 (by omega) (by omega) (u_97 G) (R.up rfl) (fun h4 E4 G4 R4 => ?_)
    refine z_aload_n (M := M_X10_clear) 14 dX10_clear_14 rfl ?_
    refine z_getR (M := M_X10_clear) 15 dX10_clear_15 f_X10_15 o_96 rfl (g_96_1 G4) ?_
    refine z_iload_n (M := M_X10_clear) 18 dX10_clear_18 rfl ?_
    refine z_lconst (M := M_X10_clear) 19 dX10_clear_19 (v := 1) ?_
    refine z_lastH (M := M_X10_clear) 20 dX10_clear_20 o_98 (by omega) (by omega) (u_98 G4) (R4.up rfl) (fun h5 E5 G5 R5 => ?_)
    refine z_iincN (M := M_X10_clear) 21 dX10_clear_21 (ls' := [some (mR 96), some (mI (l1 + 1))]) (by decide) rfl (by (unfold m_32; decide)) (by omega) (by omega) rfl ?_
    refine z_goto (M := M_X10_clear) 24 dX10_clear_24 2 rfl ?_
    exact z_mask [true, true] rfl (ih (l1 + 1) h5 G5 R5 (by omega) (by omega) (by omega))
theorem a_X10_clear (h0 : m_H) (G0 : GI h0) : ∀ n, q_X10_clear h0 n := by
  intro n
  induction n with
  | zero => unfold q_X10_clear; intros; omega
  | succ n ih => exact s_X10_clear_2 h0 G0 n ih
set_option maxHeartbeats 4000000 in
set_option maxRecDepth 100000 in
theorem c_X10_clear (h0 : m_H) (G0 : GI h0) : m_CV M_X10_clear [mR 96] h0 (P_X10_clear h0) := by
  refine m_CV_of ⟨by decide, rfl, by simp [m_arg, m_isL, M_X10_clear], ⟨rfl, rfl⟩, rfl, rfl⟩ (ls := [some (mR 96), none]) rfl ?_
  have ih := a_X10_clear h0 G0 14
  refine z_iconst (M := M_X10_clear) 0 dX10_clear_0 ?_
  refine z_istore_n (M := M_X10_clear) 1 dX10_clear_1 (ls' := [some (mR 96), some (mI 0)]) (by decide) rfl ?_
  exact z_mask [true, true] rfl (ih 0 h0 G0 (FR.rf (cs := [97, 98]) (ss := [(96, 2), (96, 3), (96, 4)]) (h := h0)) (by omega) (by omega) (by omega))
abbrev P_X10_add (h0 : m_H) (a1 a2 a3 : Int) : m_H → Prop := fun h' => GI h' ∧ FR [97, 98] [(96, 2), (96, 3), (96, 4)] h0 h'
set_option maxHeartbeats 4000000 in
set_option maxRecDepth 100000 in
theorem c_X10_add (h0 : m_H) (a1 a2 a3 : Int) (G0 : GI h0) (pa3 : 0 ≤ a3 ∧ a3 ≤ 1) : m_CV M_X10_add [mR 96, mJ a1, mJ a2, mI a3] h0 (P_X10_add h0 a1 a2 a3) := by
  refine m_CV_of ⟨by decide, rfl, by simp [m_arg, m_isL, M_X10_add], ⟨rfl, rfl⟩, rfl, rfl⟩ (ls := [some (mR 96), some (mJ a1), none, some (mJ a2), none, some (mI a3)]) rfl ?_
  refine z_lload_n (M := M_X10_add) 0 dX10_add_0 rfl ?_
  refine z_lconst (M := M_X10_add) 1 dX10_add_1 (v := 0) ?_
  refine z_lcmp (M := M_X10_add) 2 dX10_add_2 ?_
  refine z_if_ne (M := M_X10_add) 3 dX10_add_3 14 rfl (fun c1 => ?_) (fun c1 => ?_)
  · rw [m_cmp_eq] at c1
    refine z_aload_n (M := M_X10_add) 14 dX10_add_14 rfl ?_
    refine z_getIG (M := M_X10_add) 15 dX10_add_15 f_X10_18 o_96 (by decide) (g_96_2 G0) (fun x2 ex2 ax2 bx2 => ?_)
    refine z_iconst (M := M_X10_add) 18 dX10_add_18 ?_
    refine z_icmp_ge (M := M_X10_add) 19 dX10_add_19 73 rfl (fun c3 => ?_) (fun c3 => ?_)
    · exact z_retV (M := M_X10_add) 73 dX10_add_73 rfl ⟨G0, (FR.rf (cs := [97, 98]) (ss := [(96, 2), (96, 3), (96, 4)]) (h := h0))⟩
    · refine z_aload_n (M := M_X10_add) 22 dX10_add_22 rfl ?_
      refine z_getR (M := M_X10_add) 23 dX10_add_23 f_X10_9 o_96 rfl (g_96_0 G0) ?_
      refine z_aload_n (M := M_X10_add) 26 dX10_add_26 rfl ?_
      refine z_getIE (M := M_X10_add) 27 dX10_add_27 f_X10_18 o_96 (by decide) ex2 ?_
      refine z_lload_n (M := M_X10_add) 30 dX10_add_30 rfl ?_
      refine z_lastH (M := M_X10_add) 31 dX10_add_31 o_97 (by omega) (by omega) (u_97 G0) ((FR.rf (cs := [97, 98]) (ss := [(96, 2), (96, 3), (96, 4)]) (h := h0)).up rfl) (fun h1 E1 G1 R1 => ?_)
      refine z_aload_n (M := M_X10_add) 32 dX10_add_32 rfl ?_
      refine z_getR (M := M_X10_add) 33 dX10_add_33 f_X10_15 o_96 rfl (g_96_1 G1) ?_
      refine z_aload_n (M := M_X10_add) 36 dX10_add_36 rfl ?_
      refine z_getIE (M := M_X10_add) 37 dX10_add_37 f_X10_18 o_96 (by decide) ((upN E1 (fun q => absurd q.1 (by decide))).trans ex2) ?_
      refine z_lload_n (M := M_X10_add) 40 dX10_add_40 rfl ?_
      refine z_lastH (M := M_X10_add) 41 dX10_add_41 o_98 (by omega) (by omega) (u_98 G1) (R1.up rfl) (fun h2 E2 G2 R2 => ?_)
      refine z_aload_n (M := M_X10_add) 42 dX10_add_42 rfl ?_
      refine z_aload_n (M := M_X10_add) 43 dX10_add_43 rfl ?_
      refine z_getIG (M := M_X10_add) 44 dX10_add_44 f_X10_22 o_96 (by decide) (g_96_3 G2) (fun x4 ex4 ax4 bx4 => ?_)
      refine z_if_ne (M := M_X10_add) 47 dX10_add_47 55 rfl (fun c5 => ?_) (fun c5 => ?_)
      · refine z_iconst (M := M_X10_add) 55 dX10_add_55 ?_
        refine z_goto (M := M_X10_add) 56 dX10_add_56 60 rfl ?_
        refine z_putZH (M := M_X10_add) 60 dX10_add_60 p_X10_22 o_96 rfl (by omega) (u_96_3 G2 (by omega) (by omega)) (R2.up rfl) (fun h3 E3 G3 R3 => ?_)
        refine z_aload_n (M := M_X10_add) 63 dX10_add_63 rfl ?_
        refine z_dup (M := M_X10_add) 64 dX10_add_64 rfl ?_
        refine z_getIE (M := M_X10_add) 65 dX10_add_65 f_X10_18 o_96 (by decide) ((upN E3 (fun q => absurd q.2 (by decide))).trans ((upN E2 (fun q => absurd q.1 (by decide))).trans ((upN E1 (fun q => absurd q.1 (by decide))).trans ex2))) ?_
        refine z_iconst (M := M_X10_add) 68 dX10_add_68 ?_
        refine z_iaddN (M := M_X10_add) 69 dX10_add_69 (by omega) (by omega) ?_
        refine z_putIH (M := M_X10_add) 70 dX10_add_70 p_X10_18 o_96 rfl (u_96_2 G3 (by omega) (by omega)) (R3.up rfl) (fun h4 E4 G4 R4 => ?_)
        exact z_retV (M := M_X10_add) 73 dX10_add_73 rfl ⟨G4, R4⟩
      · refine z_iload (M := M_X10_add) 50 dX10_add_50 rfl ?_
        refine z_if_eq (M := M_X10_add) 52 dX10_add_52 59 rfl (fun c6 => ?_) (fun c6 => ?_)
        · refine z_iconst (M := M_X10_add) 59 dX10_add_59 ?_
          refine z_putZH (M := M_X10_add) 60 dX10_add_60 p_X10_22 o_96 rfl (by omega) (u_96_3 G2 (by omega) (by omega)) (R2.up rfl) (fun h5 E5 G5 R5 => ?_)
          refine z_aload_n (M := M_X10_add) 63 dX10_add_63 rfl ?_
          refine z_dup (M := M_X10_add) 64 dX10_add_64 rfl ?_
          refine z_getIE (M := M_X10_add) 65 dX10_add_65 f_X10_18 o_96 (by decide) ((upN E5 (fun q => absurd q.2 (by decide))).trans ((upN E2 (fun q => absurd q.1 (by decide))).trans ((upN E1 (fun q => absurd q.1 (by decide))).trans ex2))) ?_
          refine z_iconst (M := M_X10_add) 68 dX10_add_68 ?_
          refine z_iaddN (M := M_X10_add) 69 dX10_add_69 (by omega) (by omega) ?_
          refine z_putIH (M := M_X10_add) 70 dX10_add_70 p_X10_18 o_96 rfl (u_96_2 G5 (by omega) (by omega)) (R5.up rfl) (fun h6 E6 G6 R6 => ?_)
          exact z_retV (M := M_X10_add) 73 dX10_add_73 rfl ⟨G6, R6⟩
        · refine z_iconst (M := M_X10_add) 55 dX10_add_55 ?_
          refine z_goto (M := M_X10_add) 56 dX10_add_56 60 rfl ?_
          refine z_putZH (M := M_X10_add) 60 dX10_add_60 p_X10_22 o_96 rfl (by omega) (u_96_3 G2 (by omega) (by omega)) (R2.up rfl) (fun h7 E7 G7 R7 => ?_)
          refine z_aload_n (M := M_X10_add) 63 dX10_add_63 rfl ?_
          refine z_dup (M := M_X10_add) 64 dX10_add_64 rfl ?_
          refine z_getIE (M := M_X10_add) 65 dX10_add_65 f_X10_18 o_96 (by decide) ((upN E7 (fun q => absurd q.2 (by decide))).trans ((upN E2 (fun q => absurd q.1 (by decide))).trans ((upN E1 (fun q => absurd q.1 (by decide))).trans ex2))) ?_
          refine z_iconst (M := M_X10_add) 68 dX10_add_68 ?_
          refine z_iaddN (M := M_X10_add) 69 dX10_add_69 (by omega) (by omega) ?_
          refine z_putIH (M := M_X10_add) 70 dX10_add_70 p_X10_18 o_96 rfl (u_96_2 G7 (by omega) (by omega)) (R7.up rfl) (fun h8 E8 G8 R8 => ?_)
          exact z_retV (M := M_X10_add) 73 dX10_add_73 rfl ⟨G8, R8⟩
  · rw [m_cmp_eq] at c1
    refine z_aload_n (M := M_X10_add) 6 dX10_add_6 rfl ?_
    refine z_iconst (M := M_X10_add) 7 dX10_add_7 ?_
    refine z_putZH (M := M_X10_add) 8 dX10_add_8 p_X10_26 o_96 rfl (by omega) (u_96_4 G0 (by omega) (by omega)) ((FR.rf (cs := [97, 98]) (ss := [(96, 2), (96, 3), (96, 4)]) (h := h0)).up rfl) (fun h9 E9 G9 R9 => ?_)
    refine z_goto (M := M_X10_add) 11 dX10_add_11 73 rfl ?_
    exact z_retV (M := M_X10_add) 73 dX10_add_73 rfl ⟨G9, R9⟩
abbrev P_X10_sum (h0 : m_H) : Int → m_H → Prop := fun x h' => GI h' ∧ FR [] [] h0 h'
def q_X10_sum (h0 : m_H) (n : Nat) : Prop := (∀ (l1 l3 : Int) (h : m_H), GI h → FR [] [] h0 h → 0 ≤ l3 → l3 ≤ 3 → 2 * (3 - l3) + (2) ≤ (n : Int) → m_Z oF M_X10_sum 15 [some (mR 96), some (mJ l1), none, some (mI l3), none, none, none, none, none, none, none, none, none] [] h (m_QJ (P_X10_sum h0))) ∧ (∀ (l1 : Int) (h : m_H), GI h → FR [] [] h0 h → (1) ≤ (n : Int) → m_Z oF M_X10_sum 220 [none, some (mJ l1), none, none, none, none, none, none, none, none, none, none, none] [] h (m_QJ (P_X10_sum h0)))
set_option maxHeartbeats 4000000 in
set_option maxRecDepth 100000 in
theorem s_X10_sum_15 (h0 : m_H) (G0 : GI h0) (n : Nat) (ih : q_X10_sum h0 n) : ∀ (l1 l3 : Int) (h : m_H), GI h → FR [] [] h0 h → 0 ≤ l3 → l3 ≤ 3 → 2 * (3 - l3) + (2) ≤ ((n + 1 : Nat) : Int) → m_Z oF M_X10_sum 15 [some (mR 96), some (mJ l1), none, some (mI l3), none, none, none, none, none, none, none, none, none] [] h (m_QJ (P_X10_sum h0)) := by
  intro l1 l3 h G R v0 v1 hr
  refine z_iload_n (M := M_X10_sum) 15 dX10_sum_15 rfl ?_
  refine z_iconst (M := M_X10_sum) 16 dX10_sum_16 ?_
  refine z_icmp_ge (M := M_X10_sum) 17 dX10_sum_17 44 rfl (fun c1 => ?_) (fun c1 => ?_)
  · refine z_aload_n (M := M_X10_sum) 44 dX10_sum_44 rfl ?_
    refine z_getR (M := M_X10_sum) 45 dX10_sum_45 f_X10_9 o_96 rfl (g_96_0 G) ?_
    refine z_iconst (M := M_X10_sum) 48 dX10_sum_48 ?_
    refine z_laldV (M := M_X10_sum) 49 dX10_sum_49 o_97 (by omega) (by omega) (fun x2 ex2 => ?_)
    refine z_aload_n (M := M_X10_sum) 50 dX10_sum_50 rfl ?_
    refine z_getR (M := M_X10_sum) 51 dX10_sum_51 f_X10_15 o_96 rfl (g_96_1 G) ?_
    refine z_iconst (M := M_X10_sum) 54 dX10_sum_54 ?_
    refine z_laldV (M := M_X10_sum) 55 dX10_sum_55 o_98 (by omega) (by omega) (fun x3 ex3 => ?_)
    refine z_nJ (M := M_X10_sum) 56 dX10_sum_56 t_X11_remainder l_X10_35 (m_rr_of rfl) (rest := []) (c_X11_remainder h x2 x3 G) rfl rfl (Nat.le_of_ble_eq_true rfl) ⟨rfl, rfl⟩ (fun x4 h1 qx4 => ?_)
    obtain ⟨G1, S1⟩ := qx4
    have R1 := R.call S1 (by decide +kernel)
    refine z_aload_n (M := M_X10_sum) 59 dX10_sum_59 rfl ?_
    refine z_getR (M := M_X10_sum) 60 dX10_sum_60 f_X10_15 o_96 rfl (g_96_1 G1) ?_
    refine z_iconst (M := M_X10_sum) 63 dX10_sum_63 ?_
    refine z_laldV (M := M_X10_sum) 64 dX10_sum_64 o_98 (by omega) (by omega) (fun x5 ex5 => ?_)
    refine z_lmul (M := M_X10_sum) 65 dX10_sum_65 ?_
    refine z_topJ (fun x6 ex6 => ?_)
    refine z_aload_n (M := M_X10_sum) 66 dX10_sum_66 rfl ?_
    refine z_getR (M := M_X10_sum) 67 dX10_sum_67 f_X10_9 o_96 rfl (g_96_0 G1) ?_
    refine z_iconst (M := M_X10_sum) 70 dX10_sum_70 ?_
    refine z_laldV (M := M_X10_sum) 71 dX10_sum_71 o_97 (by omega) (by omega) (fun x7 ex7 => ?_)
    refine z_aload_n (M := M_X10_sum) 72 dX10_sum_72 rfl ?_
    refine z_getR (M := M_X10_sum) 73 dX10_sum_73 f_X10_15 o_96 rfl (g_96_1 G1) ?_
    refine z_iconst (M := M_X10_sum) 76 dX10_sum_76 ?_
    refine z_laldE (M := M_X10_sum) 77 dX10_sum_77 o_98 (by omega) (by omega) ex5 ?_
    refine z_nJ (M := M_X10_sum) 78 dX10_sum_78 t_X11_remainder l_X10_35 (m_rr_of rfl) (rest := [mJ x6]) (c_X11_remainder h1 x7 x5 G1) rfl rfl (Nat.le_of_ble_eq_true rfl) ⟨rfl, rfl⟩ (fun x8 h2 qx8 => ?_)
    obtain ⟨G2, S2⟩ := qx8
    have R2 := R1.call S2 (by decide +kernel)
    refine z_aload_n (M := M_X10_sum) 81 dX10_sum_81 rfl ?_
    refine z_getR (M := M_X10_sum) 82 dX10_sum_82 f_X10_15 o_96 rfl (g_96_1 G2) ?_
    refine z_iconst (M := M_X10_sum) 85 dX10_sum_85 ?_
    refine z_laldE (M := M_X10_sum) 86 dX10_sum_86 o_98 (by omega) (by omega) ((S2 98 0 rfl).trans ((S1 98 0 rfl).trans ex3)) ?_
    refine z_lmul (M := M_X10_sum) 87 dX10_sum_87 ?_
    refine z_topJ (fun x9 ex9 => ?_)
    refine z_ladd (M := M_X10_sum) 88 dX10_sum_88 ?_
    refine z_topJ (fun x10 ex10 => ?_)
    refine z_lstore_n (M := M_X10_sum) 89 dX10_sum_89 (ls' := [some (mR 96), some (mJ l1), none, some (mJ x10), none, none, none, none, none, none, none, none, none]) (by decide) rfl ?_
    refine z_aload_n (M := M_X10_sum) 90 dX10_sum_90 rfl ?_
    refine z_getR (M := M_X10_sum) 91 dX10_sum_91 f_X10_15 o_96 rfl (g_96_1 G2) ?_
    refine z_iconst (M := M_X10_sum) 94 dX10_sum_94 ?_
    refine z_laldE (M := M_X10_sum) 95 dX10_sum_95 o_98 (by omega) (by omega) ((S2 98 0 rfl).trans ((S1 98 0 rfl).trans ex3)) ?_
    refine z_aload_n (M := M_X10_sum) 96 dX10_sum_96 rfl ?_
    refine z_getR (M := M_X10_sum) 97 dX10_sum_97 f_X10_15 o_96 rfl (g_96_1 G2) ?_
    refine z_iconst (M := M_X10_sum) 100 dX10_sum_100 ?_
    refine z_laldE (M := M_X10_sum) 101 dX10_sum_101 o_98 (by omega) (by omega) ((S2 98 1 rfl).trans ex5) ?_
    refine z_lmul (M := M_X10_sum) 102 dX10_sum_102 ?_
    refine z_topJ (fun x11 ex11 => ?_)
    refine z_lstore (M := M_X10_sum) 103 dX10_sum_103 (ls' := [some (mR 96), some (mJ l1), none, some (mJ x10), none, some (mJ x11), none, none, none, none, none, none, none]) (by decide) rfl ?_
    refine z_lload_n (M := M_X10_sum) 105 dX10_sum_105 rfl ?_
    refine z_lload_n (M := M_X10_sum) 106 dX10_sum_106 rfl ?_
    refine z_lload (M := M_X10_sum) 107 dX10_sum_107 rfl ?_
    refine z_nJ (M := M_X10_sum) 109 dX10_sum_109 t_X11_quotient l_X10_31 (m_rr_of rfl) (rest := [mJ l1]) (c_X11_quotient h2 x10 x11 G2) rfl rfl (Nat.le_of_ble_eq_true rfl) ⟨rfl, rfl⟩ (fun x12 h3 qx12 => ?_)
    obtain ⟨G3, S3⟩ := qx12
    have R3 := R2.call S3 (by decide +kernel)
    refine z_ladd (M := M_X10_sum) 112 dX10_sum_112 ?_
    refine z_topJ (fun x13 ex13 => ?_)
    refine z_lstore_n (M := M_X10_sum) 113 dX10_sum_113 (ls' := [some (mR 96), some (mJ x13), none, some (mJ x10), none, some (mJ x11), none, none, none, none, none, none, none]) (by decide) rfl ?_
    refine z_lload_n (M := M_X10_sum) 114 dX10_sum_114 rfl ?_
    refine z_lload (M := M_X10_sum) 115 dX10_sum_115 rfl ?_
    refine z_nJ (M := M_X10_sum) 117 dX10_sum_117 t_X11_remainder l_X10_35 (m_rr_of rfl) (rest := []) (c_X11_remainder h3 x10 x11 G3) rfl rfl (Nat.le_of_ble_eq_true rfl) ⟨rfl, rfl⟩ (fun x14 h4 qx14 => ?_)
    obtain ⟨G4, S4⟩ := qx14
    have R4 := R3.call S4 (by decide +kernel)
    refine z_lstore (M := M_X10_sum) 120 dX10_sum_120 (ls' := [some (mR 96), some (mJ x13), none, some (mJ x10), none, some (mJ x11), none, some (mJ x14), none, none, none, none, none]) (by decide) rfl ?_
    refine z_aload_n (M := M_X10_sum) 122 dX10_sum_122 rfl ?_
    refine z_getR (M := M_X10_sum) 123 dX10_sum_123 f_X10_9 o_96 rfl (g_96_0 G4) ?_
    refine z_iconst (M := M_X10_sum) 126 dX10_sum_126 ?_
    refine z_laldV (M := M_X10_sum) 127 dX10_sum_127 o_97 (by omega) (by omega) (fun x15 ex15 => ?_)
    refine z_aload_n (M := M_X10_sum) 128 dX10_sum_128 rfl ?_
    refine z_getR (M := M_X10_sum) 129 dX10_sum_129 f_X10_15 o_96 rfl (g_96_1 G4) ?_
    refine z_iconst (M := M_X10_sum) 132 dX10_sum_132 ?_
    refine z_laldV (M := M_X10_sum) 133 dX10_sum_133 o_98 (by omega) (by omega) (fun x16 ex16 => ?_)
    refine z_nJ (M := M_X10_sum) 134 dX10_sum_134 t_X11_remainder l_X10_35 (m_rr_of rfl) (rest := []) (c_X11_remainder h4 x15 x16 G4) rfl rfl (Nat.le_of_ble_eq_true rfl) ⟨rfl, rfl⟩ (fun x17 h5 qx17 => ?_)
    obtain ⟨G5, S5⟩ := qx17
    have R5 := R4.call S5 (by decide +kernel)
    refine z_lstore (M := M_X10_sum) 137 dX10_sum_137 (ls' := [some (mR 96), some (mJ x13), none, some (mJ x10), none, some (mJ x11), none, some (mJ x14), none, some (mJ x17), none, none, none]) (by decide) rfl ?_
    refine z_lload (M := M_X10_sum) 139 dX10_sum_139 rfl ?_
    refine z_lload (M := M_X10_sum) 141 dX10_sum_141 rfl ?_
    refine z_aload_n (M := M_X10_sum) 143 dX10_sum_143 rfl ?_
    refine z_getR (M := M_X10_sum) 144 dX10_sum_144 f_X10_15 o_96 rfl (g_96_1 G5) ?_
    refine z_iconst (M := M_X10_sum) 147 dX10_sum_147 ?_
    refine z_laldE (M := M_X10_sum) 148 dX10_sum_148 o_98 (by omega) (by omega) ((S5 98 2 rfl).trans ex16) ?_
    refine z_lload (M := M_X10_sum) 149 dX10_sum_149 rfl ?_
    refine z_lsub (M := M_X10_sum) 151 dX10_sum_151 ?_
    refine z_topJ (fun x18 ex18 => ?_)
    refine z_aload_n (M := M_X10_sum) 152 dX10_sum_152 rfl ?_
    refine z_getR (M := M_X10_sum) 153 dX10_sum_153 f_X10_15 o_96 rfl (g_96_1 G5) ?_
    refine z_iconst (M := M_X10_sum) 156 dX10_sum_156 ?_
    refine z_laldE (M := M_X10_sum) 157 dX10_sum_157 o_98 (by omega) (by omega) ((S5 98 2 rfl).trans ex16) ?_
    refine z_nI (M := M_X10_sum) 158 dX10_sum_158 t_X11_compareFractions l_X10_38 (m_rr_of rfl) (rest := []) (c_X11_compareFractions h5 x14 x11 x18 x16 G5) rfl rfl (Nat.le_of_ble_eq_true rfl) ⟨rfl, rfl⟩ (fun x19 h6 qx19 => ?_)
    obtain ⟨G6, S6⟩ := qx19
    have R6 := R5.call S6 (by decide +kernel)
    refine z_ok (fun ox19 _ _ => ?_)
    have ox19 := ox19.1; unfold m_ok m_32 at ox19
    refine z_istore (M := M_X10_sum) 161 dX10_sum_161 (ls' := [some (mR 96), some (mJ x13), none, some (mJ x10), none, some (mJ x11), none, some (mJ x14), none, some (mJ x17), none, some (mI x19), none]) (by decide) rfl ?_
    refine z_iload (M := M_X10_sum) 163 dX10_sum_163 rfl ?_
    refine z_if_eq (M := M_X10_sum) 165 dX10_sum_165 182 rfl (fun c20 => ?_) (fun c20 => ?_)
    · refine z_iconst (M := M_X10_sum) 182 dX10_sum_182 ?_
      refine z_goto (M := M_X10_sum) 183 dX10_sum_183 187 rfl ?_
      refine z_istore (M := M_X10_sum) 187 dX10_sum_187 (ls' := [some (mR 96), some (mJ x13), none, some (mJ x10), none, some (mJ x11), none, some (mJ x14), none, some (mJ x17), none, some (mI x19), some (mI 1)]) (by decide) rfl ?_
      refine z_lload_n (M := M_X10_sum) 189 dX10_sum_189 rfl ?_
      refine z_iload (M := M_X10_sum) 190 dX10_sum_190 rfl ?_
      refine z_if_lt_F (M := M_X10_sum) 192 dX10_sum_192 199 rfl (by omega) ?_
      refine z_lconst (M := M_X10_sum) 195 dX10_sum_195 (v := 1) ?_
      refine z_goto (M := M_X10_sum) 196 dX10_sum_196 200 rfl ?_
      refine z_ladd (M := M_X10_sum) 200 dX10_sum_200 ?_
      refine z_topJ (fun x21 ex21 => ?_)
      refine z_lstore_n (M := M_X10_sum) 201 dX10_sum_201 (ls' := [some (mR 96), some (mJ x21), none, some (mJ x10), none, some (mJ x11), none, some (mJ x14), none, some (mJ x17), none, some (mI x19), some (mI 1)]) (by decide) rfl ?_
      refine z_aload_n (M := M_X10_sum) 202 dX10_sum_202 rfl ?_
      refine z_getIG (M := M_X10_sum) 203 dX10_sum_203 f_X10_22 o_96 (by decide) (g_96_3 G6) (fun x22 ex22 ax22 bx22 => ?_)
      refine z_if_eq (M := M_X10_sum) 206 dX10_sum_206 220 rfl (fun c23 => ?_) (fun c23 => ?_)
      · exact z_mask [false, true, false, false, false, false, false, false, false, false, false, false, false] rfl (ih.2 x21 h6 G6 R6 (by omega))
      · refine z_iload (M := M_X10_sum) 209 dX10_sum_209 rfl ?_
        refine z_if_eq_F (M := M_X10_sum) 211 dX10_sum_211 220 rfl (by omega) ?_
        refine z_lload_n (M := M_X10_sum) 214 dX10_sum_214 rfl ?_
        refine z_lconst (M := M_X10_sum) 215 dX10_sum_215 (v := 1) ?_
        refine z_lsub (M := M_X10_sum) 216 dX10_sum_216 ?_
        refine z_topJ (fun x24 ex24 => ?_)
        refine z_goto (M := M_X10_sum) 217 dX10_sum_217 221 rfl ?_
        exact z_retJ (M := M_X10_sum) 221 dX10_sum_221 rfl ⟨G6, R6⟩
    · refine z_lload (M := M_X10_sum) 168 dX10_sum_168 rfl ?_
      refine z_lconst (M := M_X10_sum) 170 dX10_sum_170 (v := 0) ?_
      refine z_lcmp (M := M_X10_sum) 171 dX10_sum_171 ?_
      refine z_if_ne (M := M_X10_sum) 172 dX10_sum_172 186 rfl (fun c25 => ?_) (fun c25 => ?_)
      · rw [m_cmp_eq] at c25
        refine z_iconst (M := M_X10_sum) 186 dX10_sum_186 ?_
        refine z_istore (M := M_X10_sum) 187 dX10_sum_187 (ls' := [some (mR 96), some (mJ x13), none, some (mJ x10), none, some (mJ x11), none, some (mJ x14), none, some (mJ x17), none, some (mI x19), some (mI 0)]) (by decide) rfl ?_
        refine z_lload_n (M := M_X10_sum) 189 dX10_sum_189 rfl ?_
        refine z_iload (M := M_X10_sum) 190 dX10_sum_190 rfl ?_
        refine z_if_lt (M := M_X10_sum) 192 dX10_sum_192 199 rfl (fun c26 => ?_) (fun c26 => ?_)
        · refine z_lconst (M := M_X10_sum) 199 dX10_sum_199 (v := 0) ?_
          refine z_ladd (M := M_X10_sum) 200 dX10_sum_200 ?_
          refine z_topJ (fun x27 ex27 => ?_)
          refine z_lstore_n (M := M_X10_sum) 201 dX10_sum_201 (ls' := [some (mR 96), some (mJ x27), none, some (mJ x10), none, some (mJ x11), none, some (mJ x14), none, some (mJ x17), none, some (mI x19), some (mI 0)]) (by decide) rfl ?_
          refine z_aload_n (M := M_X10_sum) 202 dX10_sum_202 rfl ?_
          refine z_getIG (M := M_X10_sum) 203 dX10_sum_203 f_X10_22 o_96 (by decide) (g_96_3 G6) (fun x28 ex28 ax28 bx28 => ?_)
          refine z_if_eq (M := M_X10_sum) 206 dX10_sum_206 220 rfl (fun c29 => ?_) (fun c29 => ?_)
          · exact z_mask [false, true, false, false, false, false, false, false, false, false, false, false, false] rfl (ih.2 x27 h6 G6 R6 (by omega))
          · refine z_iload (M := M_X10_sum) 209 dX10_sum_209 rfl ?_
            refine z_if_eq_T (M := M_X10_sum) 211 dX10_sum_211 220 rfl (by omega) ?_
            exact z_mask [false, true, false, false, false, false, false, false, false, false, false, false, false] rfl (ih.2 x27 h6 G6 R6 (by omega))
        · refine z_lconst (M := M_X10_sum) 195 dX10_sum_195 (v := 1) ?_
          refine z_goto (M := M_X10_sum) 196 dX10_sum_196 200 rfl ?_
          refine z_ladd (M := M_X10_sum) 200 dX10_sum_200 ?_
          refine z_topJ (fun x30 ex30 => ?_)
          refine z_lstore_n (M := M_X10_sum) 201 dX10_sum_201 (ls' := [some (mR 96), some (mJ x30), none, some (mJ x10), none, some (mJ x11), none, some (mJ x14), none, some (mJ x17), none, some (mI x19), some (mI 0)]) (by decide) rfl ?_
          refine z_aload_n (M := M_X10_sum) 202 dX10_sum_202 rfl ?_
          refine z_getIG (M := M_X10_sum) 203 dX10_sum_203 f_X10_22 o_96 (by decide) (g_96_3 G6) (fun x31 ex31 ax31 bx31 => ?_)
          refine z_if_eq (M := M_X10_sum) 206 dX10_sum_206 220 rfl (fun c32 => ?_) (fun c32 => ?_)
          · exact z_mask [false, true, false, false, false, false, false, false, false, false, false, false, false] rfl (ih.2 x30 h6 G6 R6 (by omega))
          · refine z_iload (M := M_X10_sum) 209 dX10_sum_209 rfl ?_
            refine z_if_eq_T (M := M_X10_sum) 211 dX10_sum_211 220 rfl (by omega) ?_
            exact z_mask [false, true, false, false, false, false, false, false, false, false, false, false, false] rfl (ih.2 x30 h6 G6 R6 (by omega))
      · rw [m_cmp_eq] at c25
        refine z_lload (M := M_X10_sum) 175 dX10_sum_175 rfl ?_
        refine z_lconst (M := M_X10_sum) 177 dX10_sum_177 (v := 0) ?_
        refine z_lcmp (M := M_X10_sum) 178 dX10_sum_178 ?_
        refine z_if_ne (M := M_X10_sum) 179 dX10_sum_179 186 rfl (fun c33 => ?_) (fun c33 => ?_)
        · rw [m_cmp_eq] at c33
          refine z_iconst (M := M_X10_sum) 186 dX10_sum_186 ?_
          refine z_istore (M := M_X10_sum) 187 dX10_sum_187 (ls' := [some (mR 96), some (mJ x13), none, some (mJ x10), none, some (mJ x11), none, some (mJ x14), none, some (mJ x17), none, some (mI x19), some (mI 0)]) (by decide) rfl ?_
          refine z_lload_n (M := M_X10_sum) 189 dX10_sum_189 rfl ?_
          refine z_iload (M := M_X10_sum) 190 dX10_sum_190 rfl ?_
          refine z_if_lt (M := M_X10_sum) 192 dX10_sum_192 199 rfl (fun c34 => ?_) (fun c34 => ?_)
          · refine z_lconst (M := M_X10_sum) 199 dX10_sum_199 (v := 0) ?_
            refine z_ladd (M := M_X10_sum) 200 dX10_sum_200 ?_
            refine z_topJ (fun x35 ex35 => ?_)
            refine z_lstore_n (M := M_X10_sum) 201 dX10_sum_201 (ls' := [some (mR 96), some (mJ x35), none, some (mJ x10), none, some (mJ x11), none, some (mJ x14), none, some (mJ x17), none, some (mI x19), some (mI 0)]) (by decide) rfl ?_
            refine z_aload_n (M := M_X10_sum) 202 dX10_sum_202 rfl ?_
            refine z_getIG (M := M_X10_sum) 203 dX10_sum_203 f_X10_22 o_96 (by decide) (g_96_3 G6) (fun x36 ex36 ax36 bx36 => ?_)
            refine z_if_eq (M := M_X10_sum) 206 dX10_sum_206 220 rfl (fun c37 => ?_) (fun c37 => ?_)
            · exact z_mask [false, true, false, false, false, false, false, false, false, false, false, false, false] rfl (ih.2 x35 h6 G6 R6 (by omega))
            · refine z_iload (M := M_X10_sum) 209 dX10_sum_209 rfl ?_
              refine z_if_eq_T (M := M_X10_sum) 211 dX10_sum_211 220 rfl (by omega) ?_
              exact z_mask [false, true, false, false, false, false, false, false, false, false, false, false, false] rfl (ih.2 x35 h6 G6 R6 (by omega))
          · refine z_lconst (M := M_X10_sum) 195 dX10_sum_195 (v := 1) ?_
            refine z_goto (M := M_X10_sum) 196 dX10_sum_196 200 rfl ?_
            refine z_ladd (M := M_X10_sum) 200 dX10_sum_200 ?_
            refine z_topJ (fun x38 ex38 => ?_)
            refine z_lstore_n (M := M_X10_sum) 201 dX10_sum_201 (ls' := [some (mR 96), some (mJ x38), none, some (mJ x10), none, some (mJ x11), none, some (mJ x14), none, some (mJ x17), none, some (mI x19), some (mI 0)]) (by decide) rfl ?_
            refine z_aload_n (M := M_X10_sum) 202 dX10_sum_202 rfl ?_
            refine z_getIG (M := M_X10_sum) 203 dX10_sum_203 f_X10_22 o_96 (by decide) (g_96_3 G6) (fun x39 ex39 ax39 bx39 => ?_)
            refine z_if_eq (M := M_X10_sum) 206 dX10_sum_206 220 rfl (fun c40 => ?_) (fun c40 => ?_)
            · exact z_mask [false, true, false, false, false, false, false, false, false, false, false, false, false] rfl (ih.2 x38 h6 G6 R6 (by omega))
            · refine z_iload (M := M_X10_sum) 209 dX10_sum_209 rfl ?_
              refine z_if_eq_T (M := M_X10_sum) 211 dX10_sum_211 220 rfl (by omega) ?_
              exact z_mask [false, true, false, false, false, false, false, false, false, false, false, false, false] rfl (ih.2 x38 h6 G6 R6 (by omega))
        · rw [m_cmp_eq] at c33
          refine z_iconst (M := M_X10_sum) 182 dX10_sum_182 ?_
          refine z_goto (M := M_X10_sum) 183 dX10_sum_183 187 rfl ?_
          refine z_istore (M := M_X10_sum) 187 dX10_sum_187 (ls' := [some (mR 96), some (mJ x13), none, some (mJ x10), none, some (mJ x11), none, some (mJ x14), none, some (mJ x17), none, some (mI x19), some (mI 1)]) (by decide) rfl ?_
          refine z_lload_n (M := M_X10_sum) 189 dX10_sum_189 rfl ?_
          refine z_iload (M := M_X10_sum) 190 dX10_sum_190 rfl ?_
          refine z_if_lt (M := M_X10_sum) 192 dX10_sum_192 199 rfl (fun c41 => ?_) (fun c41 => ?_)
          · refine z_lconst (M := M_X10_sum) 199 dX10_sum_199 (v := 0) ?_
            refine z_ladd (M := M_X10_sum) 200 dX10_sum_200 ?_
            refine z_topJ (fun x42 ex42 => ?_)
            refine z_lstore_n (M := M_X10_sum) 201 dX10_sum_201 (ls' := [some (mR 96), some (mJ x42), none, some (mJ x10), none, some (mJ x11), none, some (mJ x14), none, some (mJ x17), none, some (mI x19), some (mI 1)]) (by decide) rfl ?_
            refine z_aload_n (M := M_X10_sum) 202 dX10_sum_202 rfl ?_
            refine z_getIG (M := M_X10_sum) 203 dX10_sum_203 f_X10_22 o_96 (by decide) (g_96_3 G6) (fun x43 ex43 ax43 bx43 => ?_)
            refine z_if_eq (M := M_X10_sum) 206 dX10_sum_206 220 rfl (fun c44 => ?_) (fun c44 => ?_)
            · exact z_mask [false, true, false, false, false, false, false, false, false, false, false, false, false] rfl (ih.2 x42 h6 G6 R6 (by omega))
            · refine z_iload (M := M_X10_sum) 209 dX10_sum_209 rfl ?_
              refine z_if_eq_F (M := M_X10_sum) 211 dX10_sum_211 220 rfl (by omega) ?_
              refine z_lload_n (M := M_X10_sum) 214 dX10_sum_214 rfl ?_
              refine z_lconst (M := M_X10_sum) 215 dX10_sum_215 (v := 1) ?_
              refine z_lsub (M := M_X10_sum) 216 dX10_sum_216 ?_
              refine z_topJ (fun x45 ex45 => ?_)
              refine z_goto (M := M_X10_sum) 217 dX10_sum_217 221 rfl ?_
              exact z_retJ (M := M_X10_sum) 221 dX10_sum_221 rfl ⟨G6, R6⟩
          · refine z_lconst (M := M_X10_sum) 195 dX10_sum_195 (v := 1) ?_
            refine z_goto (M := M_X10_sum) 196 dX10_sum_196 200 rfl ?_
            refine z_ladd (M := M_X10_sum) 200 dX10_sum_200 ?_
            refine z_topJ (fun x46 ex46 => ?_)
            refine z_lstore_n (M := M_X10_sum) 201 dX10_sum_201 (ls' := [some (mR 96), some (mJ x46), none, some (mJ x10), none, some (mJ x11), none, some (mJ x14), none, some (mJ x17), none, some (mI x19), some (mI 1)]) (by decide) rfl ?_
            refine z_aload_n (M := M_X10_sum) 202 dX10_sum_202 rfl ?_
            refine z_getIG (M := M_X10_sum) 203 dX10_sum_203 f_X10_22 o_96 (by decide) (g_96_3 G6) (fun x47 ex47 ax47 bx47 => ?_)
            refine z_if_eq (M := M_X10_sum) 206 dX10_sum_206 220 rfl (fun c48 => ?_) (fun c48 => ?_)
            · exact z_mask [false, true, false, false, false, false, false, false, false, false, false, false, false] rfl (ih.2 x46 h6 G6 R6 (by omega))
            · refine z_iload (M := M_X10_sum) 209 dX10_sum_209 rfl ?_
              refine z_if_eq_F (M := M_X10_sum) 211 dX10_sum_211 220 rfl (by omega) ?_
              refine z_lload_n (M := M_X10_sum) 214 dX10_sum_214 rfl ?_
              refine z_lconst (M := M_X10_sum) 215 dX10_sum_215 (v := 1) ?_
              refine z_lsub (M := M_X10_sum) 216 dX10_sum_216 ?_
              refine z_topJ (fun x49 ex49 => ?_)
              refine z_goto (M := M_X10_sum) 217 dX10_sum_217 221 rfl ?_
              exact z_retJ (M := M_X10_sum) 221 dX10_sum_221 rfl ⟨G6, R6⟩
  · refine z_lload_n (M := M_X10_sum) 20 dX10_sum_20 rfl ?_
    refine z_aload_n (M := M_X10_sum) 21 dX10_sum_21 rfl ?_
    refine z_getR (M := M_X10_sum) 22 dX10_sum_22 f_X10_9 o_96 rfl (g_96_0 G) ?_
    refine z_iload_n (M := M_X10_sum) 25 dX10_sum_25 rfl ?_
    refine z_laldV (M := M_X10_sum) 26 dX10_sum_26 o_97 (by omega) (by omega) (fun x50 ex50 => ?_)
    refine z_aload_n (M := M_X10_sum) 27 dX10_sum_27 rfl ?_
    refine z_getR (M := M_X10_sum) 28 dX10_sum_28 f_X10_15 o_96 rfl (g_96_1 G) ?_
    refine z_iload_n (M := M_X10_sum) 31 dX10_sum_31 rfl ?_
    refine z_laldV (M := M_X10_sum) 32 dX10_sum_32 o_98 (by omega) (by omega) (fun x51 ex51 => ?_)
    refine z_nJ (M := M_X10_sum) 33 dX10_sum_33 t_X11_quotient l_X10_31 (m_rr_of rfl) (rest := [mJ l1]) (c_X11_quotient h x50 x51 G) rfl rfl (Nat.le_of_ble_eq_true rfl) ⟨rfl, rfl⟩ (fun x52 h7 qx52 => ?_)
    obtain ⟨G7, S7⟩ := qx52
    have R7 := R.call S7 (by decide +kernel)
    refine z_ladd (M := M_X10_sum) 36 dX10_sum_36 ?_
    refine z_topJ (fun x53 ex53 => ?_)
    refine z_lstore_n (M := M_X10_sum) 37 dX10_sum_37 (ls' := [some (mR 96), some (mJ x53), none, some (mI l3), none, none, none, none, none, none, none, none, none]) (by decide) rfl ?_
    refine z_iincN (M := M_X10_sum) 38 dX10_sum_38 (ls' := [some (mR 96), some (mJ x53), none, some (mI (l3 + 1)), none, none, none, none, none, none, none, none, none]) (by decide) rfl (by (unfold m_32; decide)) (by omega) (by omega) rfl ?_
    refine z_goto (M := M_X10_sum) 41 dX10_sum_41 15 rfl ?_
    exact z_mask [true, true, false, true, false, false, false, false, false, false, false, false, false] rfl (ih.1 x53 (l3 + 1) h7 G7 R7 (by omega) (by omega) (by omega))
set_option maxHeartbeats 4000000 in
set_option maxRecDepth 100000 in
theorem s_X10_sum_220 (h0 : m_H) (G0 : GI h0) (n : Nat) (ih : q_X10_sum h0 n) : ∀ (l1 : Int) (h : m_H), GI h → FR [] [] h0 h → (1) ≤ ((n + 1 : Nat) : Int) → m_Z oF M_X10_sum 220 [none, some (mJ l1), none, none, none, none, none, none, none, none, none, none, none] [] h (m_QJ (P_X10_sum h0)) := by
  intro l1 h G R hr
  refine z_lload_n (M := M_X10_sum) 220 dX10_sum_220 rfl ?_
  exact z_retJ (M := M_X10_sum) 221 dX10_sum_221 rfl ⟨G, R⟩
theorem a_X10_sum (h0 : m_H) (G0 : GI h0) : ∀ n, q_X10_sum h0 n := by
  intro n
  induction n with
  | zero => unfold q_X10_sum; refine ⟨?_, ?_⟩ <;> (intros; omega)
  | succ n ih => exact ⟨s_X10_sum_15 h0 G0 n ih, s_X10_sum_220 h0 G0 n ih⟩
set_option maxHeartbeats 4000000 in
set_option maxRecDepth 100000 in
theorem c_X10_sum (h0 : m_H) (G0 : GI h0) : m_CJ M_X10_sum [mR 96] h0 (P_X10_sum h0) := by
  refine m_CJ_of ⟨by decide, rfl, by simp [m_arg, m_isL, M_X10_sum], ⟨rfl, rfl⟩, rfl, rfl⟩ (ls := [some (mR 96), none, none, none, none, none, none, none, none, none, none, none, none]) rfl ?_
  have ih := a_X10_sum h0 G0 15
  refine z_aload_n (M := M_X10_sum) 0 dX10_sum_0 rfl ?_
  refine z_getIG (M := M_X10_sum) 1 dX10_sum_1 f_X10_26 o_96 (by decide) (g_96_4 G0) (fun x1 ex1 ax1 bx1 => ?_)
  refine z_if_eq (M := M_X10_sum) 4 dX10_sum_4 11 rfl (fun c2 => ?_) (fun c2 => ?_)
  · refine z_lconst (M := M_X10_sum) 11 dX10_sum_11 (v := 0) ?_
    refine z_lstore_n (M := M_X10_sum) 12 dX10_sum_12 (ls' := [some (mR 96), some (mJ 0), none, none, none, none, none, none, none, none, none, none, none]) (by decide) rfl ?_
    refine z_iconst (M := M_X10_sum) 13 dX10_sum_13 ?_
    refine z_istore_n (M := M_X10_sum) 14 dX10_sum_14 (ls' := [some (mR 96), some (mJ 0), none, some (mI 0), none, none, none, none, none, none, none, none, none]) (by decide) rfl ?_
    exact z_mask [true, true, false, true, false, false, false, false, false, false, false, false, false] rfl (ih.1 0 0 h0 G0 (FR.rf (cs := []) (ss := []) (h := h0)) (by omega) (by omega) (by omega))
  · refine z_ldc2 (M := M_X10_sum) 7 dX10_sum_7 k_X10_29 ?_
    exact z_retJ (M := M_X10_sum) 10 dX10_sum_10 rfl ⟨G0, (FR.rf (cs := []) (ss := []) (h := h0))⟩
abbrev P_X10_product (h0 : m_H) : Int → m_H → Prop := fun x h' => GI h' ∧ FR [] [] h0 h'
set_option maxHeartbeats 4000000 in
set_option maxRecDepth 100000 in
theorem c_X10_product (h0 : m_H) (G0 : GI h0) : m_CJ M_X10_product [mR 96] h0 (P_X10_product h0) := by
  refine m_CJ_of ⟨by decide, rfl, by simp [m_arg, m_isL, M_X10_product], ⟨rfl, rfl⟩, rfl, rfl⟩ (ls := [some (mR 96), none, none, none, none, none, none]) rfl ?_
  refine z_aload_n (M := M_X10_product) 0 dX10_product_0 rfl ?_
  refine z_getIG (M := M_X10_product) 1 dX10_product_1 f_X10_26 o_96 (by decide) (g_96_4 G0) (fun x1 ex1 ax1 bx1 => ?_)
  refine z_if_eq (M := M_X10_product) 4 dX10_product_4 11 rfl (fun c2 => ?_) (fun c2 => ?_)
  · refine z_aload_n (M := M_X10_product) 11 dX10_product_11 rfl ?_
    refine z_getR (M := M_X10_product) 12 dX10_product_12 f_X10_9 o_96 rfl (g_96_0 G0) ?_
    refine z_iconst (M := M_X10_product) 15 dX10_product_15 ?_
    refine z_laldV (M := M_X10_product) 16 dX10_product_16 o_97 (by omega) (by omega) (fun x3 ex3 => ?_)
    refine z_aload_n (M := M_X10_product) 17 dX10_product_17 rfl ?_
    refine z_getR (M := M_X10_product) 18 dX10_product_18 f_X10_9 o_96 rfl (g_96_0 G0) ?_
    refine z_iconst (M := M_X10_product) 21 dX10_product_21 ?_
    refine z_laldV (M := M_X10_product) 22 dX10_product_22 o_97 (by omega) (by omega) (fun x4 ex4 => ?_)
    refine z_lmul (M := M_X10_product) 23 dX10_product_23 ?_
    refine z_topJ (fun x5 ex5 => ?_)
    refine z_lstore_n (M := M_X10_product) 24 dX10_product_24 (ls' := [some (mR 96), some (mJ x5), none, none, none, none, none]) (by decide) rfl ?_
    refine z_aload_n (M := M_X10_product) 25 dX10_product_25 rfl ?_
    refine z_getR (M := M_X10_product) 26 dX10_product_26 f_X10_15 o_96 rfl (g_96_1 G0) ?_
    refine z_iconst (M := M_X10_product) 29 dX10_product_29 ?_
    refine z_laldV (M := M_X10_product) 30 dX10_product_30 o_98 (by omega) (by omega) (fun x6 ex6 => ?_)
    refine z_aload_n (M := M_X10_product) 31 dX10_product_31 rfl ?_
    refine z_getR (M := M_X10_product) 32 dX10_product_32 f_X10_15 o_96 rfl (g_96_1 G0) ?_
    refine z_iconst (M := M_X10_product) 35 dX10_product_35 ?_
    refine z_laldV (M := M_X10_product) 36 dX10_product_36 o_98 (by omega) (by omega) (fun x7 ex7 => ?_)
    refine z_lmul (M := M_X10_product) 37 dX10_product_37 ?_
    refine z_topJ (fun x8 ex8 => ?_)
    refine z_lstore_n (M := M_X10_product) 38 dX10_product_38 (ls' := [some (mR 96), some (mJ x5), none, some (mJ x8), none, none, none]) (by decide) rfl ?_
    refine z_lload_n (M := M_X10_product) 39 dX10_product_39 rfl ?_
    refine z_lload_n (M := M_X10_product) 40 dX10_product_40 rfl ?_
    refine z_nJ (M := M_X10_product) 41 dX10_product_41 t_X11_quotient l_X10_31 (m_rr_of rfl) (rest := []) (c_X11_quotient h0 x5 x8 G0) rfl rfl (Nat.le_of_ble_eq_true rfl) ⟨rfl, rfl⟩ (fun x9 h1 qx9 => ?_)
    obtain ⟨G1, S1⟩ := qx9
    have R1 := (FR.rf (cs := []) (ss := []) (h := h0)).call S1 (by decide +kernel)
    refine z_lstore (M := M_X10_product) 44 dX10_product_44 (ls' := [some (mR 96), some (mJ x5), none, some (mJ x8), none, some (mJ x9), none]) (by decide) rfl ?_
    refine z_aload_n (M := M_X10_product) 46 dX10_product_46 rfl ?_
    refine z_getIG (M := M_X10_product) 47 dX10_product_47 f_X10_22 o_96 (by decide) (g_96_3 G1) (fun x10 ex10 ax10 bx10 => ?_)
    refine z_if_eq (M := M_X10_product) 50 dX10_product_50 69 rfl (fun c11 => ?_) (fun c11 => ?_)
    · refine z_lload (M := M_X10_product) 69 dX10_product_69 rfl ?_
      exact z_retJ (M := M_X10_product) 71 dX10_product_71 rfl ⟨G1, R1⟩
    · refine z_lload (M := M_X10_product) 53 dX10_product_53 rfl ?_
      refine z_lload_n (M := M_X10_product) 55 dX10_product_55 rfl ?_
      refine z_lmul (M := M_X10_product) 56 dX10_product_56 ?_
      refine z_topJ (fun x12 ex12 => ?_)
      refine z_lload_n (M := M_X10_product) 57 dX10_product_57 rfl ?_
      refine z_lcmp (M := M_X10_product) 58 dX10_product_58 ?_
      refine z_if_ne (M := M_X10_product) 59 dX10_product_59 69 rfl (fun c13 => ?_) (fun c13 => ?_)
      · rw [m_cmp_eq] at c13
        refine z_lload (M := M_X10_product) 69 dX10_product_69 rfl ?_
        exact z_retJ (M := M_X10_product) 71 dX10_product_71 rfl ⟨G1, R1⟩
      · rw [m_cmp_eq] at c13
        refine z_lload (M := M_X10_product) 62 dX10_product_62 rfl ?_
        refine z_lconst (M := M_X10_product) 64 dX10_product_64 (v := 1) ?_
        refine z_lsub (M := M_X10_product) 65 dX10_product_65 ?_
        refine z_topJ (fun x14 ex14 => ?_)
        refine z_goto (M := M_X10_product) 66 dX10_product_66 71 rfl ?_
        exact z_retJ (M := M_X10_product) 71 dX10_product_71 rfl ⟨G1, R1⟩
  · refine z_ldc2 (M := M_X10_product) 7 dX10_product_7 k_X10_29 ?_
    exact z_retJ (M := M_X10_product) 10 dX10_product_10 rfl ⟨G0, (FR.rf (cs := []) (ss := []) (h := h0))⟩
abbrev P_X3_leaveOut (h0 : m_H) (L : Nat) (a2 : Int) : Int → m_H → Prop := fun x h' => GI h' ∧ FR (csB ++ [39, 40, 41]) [] h0 h'
def q_X3_leaveOut (h0 : m_H) (L : Nat) (a2 : Int) (n : Nat) : Prop := (∀ (l3 l4 : Int) (h : m_H), GI h → FR (csB ++ [39, 40, 41]) [] h0 h → 0 ≤ l4 → l4 ≤ 24 → (-2147483648) ≤ a2 → a2 ≤ 2147483647 → 2 * (24 - l4) + (1) ≤ (n : Int) → m_Z oF M_X3_leaveOut 5 [some (mR 101), some (mR L), none, some (mI l3), some (mI l4), none] [] h (m_QI (P_X3_leaveOut h0 L a2)))
set_option maxHeartbeats 4000000 in
set_option maxRecDepth 100000 in
theorem s_X3_leaveOut_5 (h0 : m_H) (L : Nat) (a2 : Int) (hL : isL L) (G0 : GI h0) (n : Nat) (ih : q_X3_leaveOut h0 L a2 n) : ∀ (l3 l4 : Int) (h : m_H), GI h → FR (csB ++ [39, 40, 41]) [] h0 h → 0 ≤ l4 → l4 ≤ 24 → (-2147483648) ≤ a2 → a2 ≤ 2147483647 → 2 * (24 - l4) + (1) ≤ ((n + 1 : Nat) : Int) → m_Z oF M_X3_leaveOut 5 [some (mR 101), some (mR L), none, some (mI l3), some (mI l4), none] [] h (m_QI (P_X3_leaveOut h0 L a2)) := by
  intro l3 l4 h G R v0 v1 v2 v3 hr
  refine z_ok (fun ostk _ olocs => ?_)
  have ol3 : m_32 l3 := olocs 3 _ rfl
  unfold m_32 at ol3
  refine z_iload (M := M_X3_leaveOut) 5 dX3_leaveOut_5 rfl ?_
  refine z_bipush (M := M_X3_leaveOut) 7 dX3_leaveOut_7 ?_
  refine z_icmp_ge (M := M_X3_leaveOut) 9 dX3_leaveOut_9 50 rfl (fun c1 => ?_) (fun c1 => ?_)
  · refine z_iload_n (M := M_X3_leaveOut) 50 dX3_leaveOut_50 rfl ?_
    exact z_retI (M := M_X3_leaveOut) 51 dX3_leaveOut_51 rfl ⟨G, R⟩
  · refine z_iload_n (M := M_X3_leaveOut) 12 dX3_leaveOut_12 rfl ?_
    refine z_iconst (M := M_X3_leaveOut) 13 dX3_leaveOut_13 ?_
    refine z_iload (M := M_X3_leaveOut) 14 dX3_leaveOut_14 rfl ?_
    refine z_ishl (M := M_X3_leaveOut) 16 dX3_leaveOut_16 ?_
    refine z_topm (fun x2 ex2 ox2 => ?_)
    unfold m_32 at ox2
    refine z_iconst (M := M_X3_leaveOut) 17 dX3_leaveOut_17 ?_
    refine z_ixor (M := M_X3_leaveOut) 18 dX3_leaveOut_18 ?_
    refine z_topm (fun x3 ex3 ox3 => ?_)
    unfold m_32 at ox3
    refine z_iand (M := M_X3_leaveOut) 19 dX3_leaveOut_19 ?_
    refine z_topm (fun x4 ex4 ox4 => ?_)
    unfold m_32 at ox4
    refine z_istore (M := M_X3_leaveOut) 20 dX3_leaveOut_20 (ls' := [some (mR 101), some (mR L), none, some (mI l3), some (mI l4), some (mI x4)]) (by decide) rfl ?_
    refine z_iload (M := M_X3_leaveOut) 22 dX3_leaveOut_22 rfl ?_
    refine z_iload_n (M := M_X3_leaveOut) 24 dX3_leaveOut_24 rfl ?_
    refine z_icmp_eq (M := M_X3_leaveOut) 25 dX3_leaveOut_25 44 rfl (fun c5 => ?_) (fun c5 => ?_)
    · refine z_iincN (M := M_X3_leaveOut) 44 dX3_leaveOut_44 (ls' := [some (mR 101), some (mR L), none, some (mI l3), some (mI (l4 + 1)), some (mI x4)]) (by decide) rfl (by (unfold m_32; decide)) (by omega) (by omega) rfl ?_
      refine z_goto (M := M_X3_leaveOut) 47 dX3_leaveOut_47 5 rfl ?_
      exact z_mask [true, true, false, true, true, false] rfl (ih l3 (l4 + 1) h G R (by omega) (by omega) (by omega) (by omega) (by omega))
    · refine z_aload_n (M := M_X3_leaveOut) 28 dX3_leaveOut_28 rfl ?_
      refine z_getR (M := M_X3_leaveOut) 29 dX3_leaveOut_29 f_X3_9 o_101 rfl (g_101_0 G) ?_
      refine z_aload_n (M := M_X3_leaveOut) 32 dX3_leaveOut_32 rfl ?_
      refine z_iload (M := M_X3_leaveOut) 33 dX3_leaveOut_33 rfl ?_
      refine z_vI (M := M_X3_leaveOut) 35 dX3_leaveOut_35 t_X9_canBe l_X3_15 (m_rr_of rfl) (rest := []) (c_X9_canBe h L x4 hL G) o_38 rfl rfl rfl (Nat.le_of_ble_eq_true rfl) ⟨rfl, rfl⟩ (fun x6 h1 qx6 => ?_)
      obtain ⟨G1, S1, ax6, bx6⟩ := qx6
      have R1 := R.call S1 (by decide +kernel)
      refine z_if_ne (M := M_X3_leaveOut) 38 dX3_leaveOut_38 44 rfl (fun c7 => ?_) (fun c7 => ?_)
      · refine z_iincN (M := M_X3_leaveOut) 44 dX3_leaveOut_44 (ls' := [some (mR 101), some (mR L), none, some (mI l3), some (mI (l4 + 1)), some (mI x4)]) (by decide) rfl (by (unfold m_32; decide)) (by omega) (by omega) rfl ?_
        refine z_goto (M := M_X3_leaveOut) 47 dX3_leaveOut_47 5 rfl ?_
        exact z_mask [true, true, false, true, true, false] rfl (ih l3 (l4 + 1) h1 G1 R1 (by omega) (by omega) (by omega) (by omega) (by omega))
      · refine z_iload (M := M_X3_leaveOut) 41 dX3_leaveOut_41 rfl ?_
        refine z_istore_n (M := M_X3_leaveOut) 43 dX3_leaveOut_43 (ls' := [some (mR 101), some (mR L), none, some (mI x4), some (mI l4), some (mI x4)]) (by decide) rfl ?_
        refine z_iincN (M := M_X3_leaveOut) 44 dX3_leaveOut_44 (ls' := [some (mR 101), some (mR L), none, some (mI x4), some (mI (l4 + 1)), some (mI x4)]) (by decide) rfl (by (unfold m_32; decide)) (by omega) (by omega) rfl ?_
        refine z_goto (M := M_X3_leaveOut) 47 dX3_leaveOut_47 5 rfl ?_
        exact z_mask [true, true, false, true, true, false] rfl (ih x4 (l4 + 1) h1 G1 R1 (by omega) (by omega) (by omega) (by omega) (by omega))
theorem a_X3_leaveOut (h0 : m_H) (L : Nat) (a2 : Int) (hL : isL L) (G0 : GI h0) : ∀ n, q_X3_leaveOut h0 L a2 n := by
  intro n
  induction n with
  | zero => unfold q_X3_leaveOut; intros; omega
  | succ n ih => exact s_X3_leaveOut_5 h0 L a2 hL G0 n ih
set_option maxHeartbeats 4000000 in
set_option maxRecDepth 100000 in
theorem c_X3_leaveOut (h0 : m_H) (L : Nat) (a2 : Int) (hL : isL L) (G0 : GI h0) : m_CI M_X3_leaveOut [mR 101, mR L, mI a2] h0 (P_X3_leaveOut h0 L a2) := by
  refine m_CI_of ⟨by decide, rfl, by simp [m_arg, m_isL, M_X3_leaveOut], ⟨rfl, rfl⟩, rfl, rfl⟩ (ls := [some (mR 101), some (mR L), some (mI a2), none, none, none]) rfl ?_
  have ih := a_X3_leaveOut h0 L a2 hL G0 56
  refine z_ok (fun _ _ ok => ?_)
  have oa2 : m_32 a2 := ok 2 _ rfl
  unfold m_32 at oa2
  refine z_iload_n (M := M_X3_leaveOut) 0 dX3_leaveOut_0 rfl ?_
  refine z_istore_n (M := M_X3_leaveOut) 1 dX3_leaveOut_1 (ls' := [some (mR 101), some (mR L), some (mI a2), some (mI a2), none, none]) (by decide) rfl ?_
  refine z_iconst (M := M_X3_leaveOut) 2 dX3_leaveOut_2 ?_
  refine z_istore (M := M_X3_leaveOut) 3 dX3_leaveOut_3 (ls' := [some (mR 101), some (mR L), some (mI a2), some (mI a2), some (mI 0), none]) (by decide) rfl ?_
  exact z_mask [true, true, false, true, true, false] rfl (ih a2 0 h0 G0 (FR.rf (cs := (csB ++ [39, 40, 41])) (ss := []) (h := h0)) (by omega) (by omega) (by omega) (by omega) (by omega))
abbrev P_X3_strike (h0 : m_H) (L : Nat) (a2 : Int) : m_H → Prop := fun h' => GI h' ∧ FR (csB ++ [39, 40, 41]) [(101, 2), (101, 3)] h0 h'
set_option maxHeartbeats 4000000 in
set_option maxRecDepth 100000 in
theorem c_X3_strike (h0 : m_H) (L : Nat) (a2 : Int) (hL : isL L) (G0 : GI h0) : m_CV M_X3_strike [mR 101, mR L, mI a2] h0 (P_X3_strike h0 L a2) := by
  refine m_CV_of ⟨by decide, rfl, by simp [m_arg, m_isL, M_X3_strike], ⟨rfl, rfl⟩, rfl, rfl⟩ (ls := [some (mR 101), some (mR L), some (mI a2)]) rfl ?_
  refine z_ok (fun _ _ ok => ?_)
  have oa2 : m_32 a2 := ok 2 _ rfl
  unfold m_32 at oa2
  refine z_aload_n (M := M_X3_strike) 0 dX3_strike_0 rfl ?_
  refine z_getR (M := M_X3_strike) 1 dX3_strike_1 f_X3_9 o_101 rfl (g_101_0 G0) ?_
  refine z_aload_n (M := M_X3_strike) 4 dX3_strike_4 rfl ?_
  refine z_aload_n (M := M_X3_strike) 5 dX3_strike_5 rfl ?_
  refine z_getIV (M := M_X3_strike) 6 dX3_strike_6 f_X3_31 (oL hL) (by decide) (fun x1 ex1 => ?_)
  refine z_ok (fun ox1 _ _ => ?_)
  have ox1 := ox1.1; unfold m_ok m_32 at ox1
  refine z_iload_n (M := M_X3_strike) 9 dX3_strike_9 rfl ?_
  refine z_iconst (M := M_X3_strike) 10 dX3_strike_10 ?_
  refine z_ixor (M := M_X3_strike) 11 dX3_strike_11 ?_
  refine z_topm (fun x2 ex2 ox2 => ?_)
  unfold m_32 at ox2
  refine z_iand (M := M_X3_strike) 12 dX3_strike_12 ?_
  refine z_topm (fun x3 ex3 ox3 => ?_)
  unfold m_32 at ox3
  refine z_vI (M := M_X3_strike) 13 dX3_strike_13 t_X9_canBe l_X3_15 (m_rr_of rfl) (rest := []) (c_X9_canBe h0 L x3 hL G0) o_38 rfl rfl rfl (Nat.le_of_ble_eq_true rfl) ⟨rfl, rfl⟩ (fun x4 h1 qx4 => ?_)
  obtain ⟨G1, S1, ax4, bx4⟩ := qx4
  have R1 := (FR.rf (cs := (csB ++ [39, 40, 41])) (ss := [(101, 2), (101, 3)]) (h := h0)).call S1 (by decide +kernel)
  refine z_if_eq (M := M_X3_strike) 16 dX3_strike_16 52 rfl (fun c5 => ?_) (fun c5 => ?_)
  · exact z_retV (M := M_X3_strike) 52 dX3_strike_52 rfl ⟨G1, R1⟩
  · refine z_aload_n (M := M_X3_strike) 19 dX3_strike_19 rfl ?_
    refine z_dup (M := M_X3_strike) 20 dX3_strike_20 rfl ?_
    refine z_getIV (M := M_X3_strike) 21 dX3_strike_21 f_X3_25 o_101 (by decide) (fun x6 ex6 => ?_)
    refine z_ok (fun ox6 _ _ => ?_)
    have ox6 := ox6.1; unfold m_ok m_32 at ox6
    refine z_iconst (M := M_X3_strike) 24 dX3_strike_24 ?_
    refine z_iadd (M := M_X3_strike) 25 dX3_strike_25 ?_
    refine z_topm (fun x7 ex7 ox7 => ?_)
    unfold m_32 at ox7
    refine z_putIH (M := M_X3_strike) 26 dX3_strike_26 p_X3_25 o_101 rfl (u_101_2 G1) (R1.up rfl) (fun h2 E2 G2 R2 => ?_)
    refine z_aload_n (M := M_X3_strike) 29 dX3_strike_29 rfl ?_
    refine z_aload_n (M := M_X3_strike) 30 dX3_strike_30 rfl ?_
    refine z_getIV (M := M_X3_strike) 31 dX3_strike_31 f_X3_28 o_101 (by decide) (fun x8 ex8 => ?_)
    refine z_ok (fun ox8 _ _ => ?_)
    have ox8 := ox8.1; unfold m_ok m_32 at ox8
    refine z_if_ne (M := M_X3_strike) 34 dX3_strike_34 41 rfl (fun c9 => ?_) (fun c9 => ?_)
    · refine z_aload_n (M := M_X3_strike) 41 dX3_strike_41 rfl ?_
      refine z_getIE (M := M_X3_strike) 42 dX3_strike_42 f_X3_28 o_101 (by decide) ex8 ?_
      refine z_iload_n (M := M_X3_strike) 45 dX3_strike_45 rfl ?_
      refine z_minI (M := M_X3_strike) 46 dX3_strike_46 ml_X3_52 (rest := [mR 101]) (Nat.le_of_ble_eq_true rfl) (Nat.le_of_ble_eq_true rfl) ?_
      refine z_topBI (lo := (-2147483648)) (hi := 2147483647) ⟨by split <;> omega, by split <;> omega⟩ (fun x10 ex10 ax10 bx10 => ?_)
      refine z_putIH (M := M_X3_strike) 49 dX3_strike_49 p_X3_28 o_101 rfl (u_101_3 G2) (R2.up rfl) (fun h3 E3 G3 R3 => ?_)
      exact z_retV (M := M_X3_strike) 52 dX3_strike_52 rfl ⟨G3, R3⟩
    · refine z_iload_n (M := M_X3_strike) 37 dX3_strike_37 rfl ?_
      refine z_goto (M := M_X3_strike) 38 dX3_strike_38 49 rfl ?_
      refine z_putIH (M := M_X3_strike) 49 dX3_strike_49 p_X3_28 o_101 rfl (u_101_3 G2) (R2.up rfl) (fun h4 E4 G4 R4 => ?_)
      exact z_retV (M := M_X3_strike) 52 dX3_strike_52 rfl ⟨G4, R4⟩
abbrev P_X3_search (h0 : m_H) (L : Nat) : Int → m_H → Prop := fun x h' => GI h' ∧ FR (csB ++ [39, 40, 41]) [(101, 1), (101, 2), (101, 3)] h0 h' ∧ 0 ≤ x ∧ x ≤ 1
def q_X3_search (h0 : m_H) (L : Nat) (n : Nat) : Prop := (∀ (l2 l3 : Int) (h : m_H), GI h → FR (csB ++ [39, 40, 41]) [(101, 1), (101, 2), (101, 3)] h0 h → 0 ≤ l3 → l3 ≤ 24 → 2 * (24 - l3) + (1733) ≤ (n : Int) → m_Z oF M_X3_search 54 [some (mR 101), some (mR L), some (mI l2), some (mI l3), none, none, none] [] h (m_QI (P_X3_search h0 L))) ∧ (∀ (l2 l3 : Int) (h : m_H), GI h → FR (csB ++ [39, 40, 41]) [(101, 1), (101, 2), (101, 3)] h0 h → 0 ≤ l3 → l3 ≤ 576 → 3 * (576 - l3) + (2) ≤ (n : Int) → m_Z oF M_X3_search 98 [some (mR 101), some (mR L), some (mI l2), some (mI l3), none, none, none] [] h (m_QI (P_X3_search h0 L))) ∧ (∀ (l2 l3 : Int) (h : m_H), GI h → FR (csB ++ [39, 40, 41]) [(101, 1), (101, 2), (101, 3)] h0 h → 0 ≤ l3 → l3 ≤ 575 → 3 * (576 - l3) + (1) ≤ (n : Int) → m_Z oF M_X3_search 184 [some (mR 101), some (mR L), some (mI l2), some (mI l3), none, none, none] [] h (m_QI (P_X3_search h0 L)))
set_option maxHeartbeats 4000000 in
set_option maxRecDepth 100000 in
theorem s_X3_search_54 (h0 : m_H) (L : Nat) (hL : isL L) (G0 : GI h0) (n : Nat) (ih : q_X3_search h0 L n) : ∀ (l2 l3 : Int) (h : m_H), GI h → FR (csB ++ [39, 40, 41]) [(101, 1), (101, 2), (101, 3)] h0 h → 0 ≤ l3 → l3 ≤ 24 → 2 * (24 - l3) + (1733) ≤ ((n + 1 : Nat) : Int) → m_Z oF M_X3_search 54 [some (mR 101), some (mR L), some (mI l2), some (mI l3), none, none, none] [] h (m_QI (P_X3_search h0 L)) := by
  intro l2 l3 h G R v0 v1 hr
  refine z_ok (fun ostk _ olocs => ?_)
  have ol2 : m_32 l2 := olocs 2 _ rfl
  unfold m_32 at ol2
  refine z_iload_n (M := M_X3_search) 54 dX3_search_54 rfl ?_
  refine z_bipush (M := M_X3_search) 55 dX3_search_55 ?_
  refine z_icmp_ge (M := M_X3_search) 57 dX3_search_57 82 rfl (fun c1 => ?_) (fun c1 => ?_)
  · refine z_aload_n (M := M_X3_search) 82 dX3_search_82 rfl ?_
    refine z_getIV (M := M_X3_search) 83 dX3_search_83 f_X3_25 o_101 (by decide) (fun x2 ex2 => ?_)
    refine z_ok (fun ox2 _ _ => ?_)
    have ox2 := ox2.1; unfold m_ok m_32 at ox2
    refine z_if_le (M := M_X3_search) 86 dX3_search_86 91 rfl (fun c3 => ?_) (fun c3 => ?_)
    · refine z_aload_n (M := M_X3_search) 91 dX3_search_91 rfl ?_
      refine z_iconst (M := M_X3_search) 92 dX3_search_92 ?_
      refine z_putIH (M := M_X3_search) 93 dX3_search_93 p_X3_21 o_101 rfl (u_101_1 G) (R.up rfl) (fun h1 E1 G1 R1 => ?_)
      refine z_iconst (M := M_X3_search) 96 dX3_search_96 ?_
      refine z_istore_n (M := M_X3_search) 97 dX3_search_97 (ls' := [some (mR 101), some (mR L), some (mI l2), some (mI 0), none, none, none]) (by decide) rfl ?_
      exact z_mask [true, true, true, true, false, false, false] rfl (ih.2.1 l2 0 h1 G1 R1 (by omega) (by omega) (by omega))
    · refine z_iconst (M := M_X3_search) 89 dX3_search_89 ?_
      exact z_retZ (M := M_X3_search) 90 dX3_search_90 rfl (by omega) ⟨G, R, by omega, by omega⟩
  · refine z_iload_n (M := M_X3_search) 60 dX3_search_60 rfl ?_
    refine z_iload_n (M := M_X3_search) 61 dX3_search_61 rfl ?_
    refine z_nI (M := M_X3_search) 62 dX3_search_62 t_X11_hasBit l_X3_40 (m_rr_of rfl) (rest := []) (c_X11_hasBit h l2 l3 G) rfl rfl (Nat.le_of_ble_eq_true rfl) ⟨rfl, rfl⟩ (fun x4 h2 qx4 => ?_)
    obtain ⟨rfl, ⟨rfl, cx4⟩ | ⟨rfl, cx4⟩⟩ := qx4
    · refine z_if_eq_F (M := M_X3_search) 65 dX3_search_65 76 rfl (by omega) ?_
      refine z_aload_n (M := M_X3_search) 68 dX3_search_68 rfl ?_
      refine z_aload_n (M := M_X3_search) 69 dX3_search_69 rfl ?_
      refine z_iconst (M := M_X3_search) 70 dX3_search_70 ?_
      refine z_iload_n (M := M_X3_search) 71 dX3_search_71 rfl ?_
      refine z_ishl (M := M_X3_search) 72 dX3_search_72 ?_
      refine z_topm (fun x5 ex5 ox5 => ?_)
      unfold m_32 at ox5
      refine z_vV (M := M_X3_search) 73 dX3_search_73 t_X3_strike l_X3_44 (m_rr_of rfl) (rest := []) (c_X3_strike h L x5 hL G) o_101 rfl rfl rfl (Nat.le_of_ble_eq_true rfl) ⟨rfl, rfl⟩ (fun h3 qx6 => ?_)
      obtain ⟨G3, S3⟩ := qx6
      have R3 := R.call S3 (by decide +kernel)
      refine z_iincN (M := M_X3_search) 76 dX3_search_76 (ls' := [some (mR 101), some (mR L), some (mI l2), some (mI (l3 + 1)), none, none, none]) (by decide) rfl (by (unfold m_32; decide)) (by omega) (by omega) rfl ?_
      refine z_goto (M := M_X3_search) 79 dX3_search_79 54 rfl ?_
      exact z_mask [true, true, true, true, false, false, false] rfl (ih.1 l2 (l3 + 1) h3 G3 R3 (by omega) (by omega) (by omega))
    · refine z_if_eq_T (M := M_X3_search) 65 dX3_search_65 76 rfl (by omega) ?_
      refine z_iincN (M := M_X3_search) 76 dX3_search_76 (ls' := [some (mR 101), some (mR L), some (mI l2), some (mI (l3 + 1)), none, none, none]) (by decide) rfl (by (unfold m_32; decide)) (by omega) (by omega) rfl ?_
      refine z_goto (M := M_X3_search) 79 dX3_search_79 54 rfl ?_
      exact z_mask [true, true, true, true, false, false, false] rfl (ih.1 l2 (l3 + 1) h G R (by omega) (by omega) (by omega))
set_option maxHeartbeats 4000000 in
set_option maxRecDepth 100000 in
theorem s_X3_search_98 (h0 : m_H) (L : Nat) (hL : isL L) (G0 : GI h0) (n : Nat) (ih : q_X3_search h0 L n) : ∀ (l2 l3 : Int) (h : m_H), GI h → FR (csB ++ [39, 40, 41]) [(101, 1), (101, 2), (101, 3)] h0 h → 0 ≤ l3 → l3 ≤ 576 → 3 * (576 - l3) + (2) ≤ ((n + 1 : Nat) : Int) → m_Z oF M_X3_search 98 [some (mR 101), some (mR L), some (mI l2), some (mI l3), none, none, none] [] h (m_QI (P_X3_search h0 L)) := by
  intro l2 l3 h G R v0 v1 hr
  refine z_ok (fun ostk _ olocs => ?_)
  have ol2 : m_32 l2 := olocs 2 _ rfl
  unfold m_32 at ol2
  refine z_iload_n (M := M_X3_search) 98 dX3_search_98 rfl ?_
  refine z_sipush (M := M_X3_search) 99 dX3_search_99 ?_
  refine z_icmp_ge (M := M_X3_search) 102 dX3_search_102 190 rfl (fun c1 => ?_) (fun c1 => ?_)
  · refine z_aload_n (M := M_X3_search) 190 dX3_search_190 rfl ?_
    refine z_getIV (M := M_X3_search) 191 dX3_search_191 f_X3_25 o_101 (by decide) (fun x2 ex2 => ?_)
    refine z_ok (fun ox2 _ _ => ?_)
    have ox2 := ox2.1; unfold m_ok m_32 at ox2
    refine z_if_le (M := M_X3_search) 194 dX3_search_194 201 rfl (fun c3 => ?_) (fun c3 => ?_)
    · refine z_iconst (M := M_X3_search) 201 dX3_search_201 ?_
      exact z_retZ (M := M_X3_search) 202 dX3_search_202 rfl (by omega) ⟨G, R, by omega, by omega⟩
    · refine z_iconst (M := M_X3_search) 197 dX3_search_197 ?_
      refine z_goto (M := M_X3_search) 198 dX3_search_198 202 rfl ?_
      exact z_retZ (M := M_X3_search) 202 dX3_search_202 rfl (by omega) ⟨G, R, by omega, by omega⟩
  · refine z_iload_n (M := M_X3_search) 105 dX3_search_105 rfl ?_
    refine z_bipush (M := M_X3_search) 106 dX3_search_106 ?_
    refine z_idivN (M := M_X3_search) 108 dX3_search_108 (by omega) (by omega) ?_
    refine z_topBI (lo := 0) (hi := 23) ⟨by omega, by omega⟩ (fun x4 ex4 ax4 bx4 => ?_)
    refine z_istore (M := M_X3_search) 109 dX3_search_109 (ls' := [some (mR 101), some (mR L), some (mI l2), some (mI l3), some (mI x4), none, none]) (by decide) rfl ?_
    refine z_iload_n (M := M_X3_search) 111 dX3_search_111 rfl ?_
    refine z_bipush (M := M_X3_search) 112 dX3_search_112 ?_
    refine z_iremN (M := M_X3_search) 114 dX3_search_114 (by omega) (by omega) ?_
    refine z_topBI (lo := 0) (hi := 23) ⟨by omega, by omega⟩ (fun x5 ex5 ax5 bx5 => ?_)
    refine z_istore (M := M_X3_search) 115 dX3_search_115 (ls' := [some (mR 101), some (mR L), some (mI l2), some (mI l3), some (mI x4), some (mI x5), none]) (by decide) rfl ?_
    refine z_iload (M := M_X3_search) 117 dX3_search_117 rfl ?_
    refine z_iload (M := M_X3_search) 119 dX3_search_119 rfl ?_
    refine z_icmp_eq (M := M_X3_search) 121 dX3_search_121 140 rfl (fun c6 => ?_) (fun c6 => ?_)
    · refine z_iconst (M := M_X3_search) 140 dX3_search_140 ?_
      refine z_goto (M := M_X3_search) 141 dX3_search_141 145 rfl ?_
      refine z_istore (M := M_X3_search) 145 dX3_search_145 (ls' := [some (mR 101), some (mR L), some (mI l2), some (mI l3), some (mI x4), some (mI x5), some (mI 1)]) (by decide) rfl ?_
      refine z_iload_n (M := M_X3_search) 147 dX3_search_147 rfl ?_
      refine z_iload (M := M_X3_search) 148 dX3_search_148 rfl ?_
      refine z_nI (M := M_X3_search) 150 dX3_search_150 t_X11_hasBit l_X3_40 (m_rr_of rfl) (rest := []) (c_X11_hasBit h l2 x4 G) rfl rfl (Nat.le_of_ble_eq_true rfl) ⟨rfl, rfl⟩ (fun x7 h1 qx7 => ?_)
      obtain ⟨rfl, ⟨rfl, cx7⟩ | ⟨rfl, cx7⟩⟩ := qx7
      · refine z_if_eq_F (M := M_X3_search) 153 dX3_search_153 184 rfl (by omega) ?_
        refine z_aload_n (M := M_X3_search) 156 dX3_search_156 rfl ?_
        refine z_iload (M := M_X3_search) 157 dX3_search_157 rfl ?_
        refine z_vI (M := M_X3_search) 159 dX3_search_159 t_X4_isCounting l_X3_48 (m_rr_of rfl) (rest := []) (c_X4_isCounting h L x5 hL G) (oL hL) rfl rfl rfl (Nat.le_of_ble_eq_true rfl) ⟨rfl, rfl⟩ (fun x8 h2 qx8 => ?_)
        obtain ⟨G2, S2, ax8, bx8⟩ := qx8
        have R2 := R.call S2 (by decide +kernel)
        refine z_if_eq (M := M_X3_search) 162 dX3_search_162 184 rfl (fun c9 => ?_) (fun c9 => ?_)
        · exact z_mask [true, true, true, true, false, false, false] rfl (ih.2.2 l2 l3 h2 G2 R2 (by omega) (by omega) (by omega))
        · refine z_iload (M := M_X3_search) 165 dX3_search_165 rfl ?_
          refine z_if_ne_T (M := M_X3_search) 167 dX3_search_167 184 rfl (by omega) ?_
          exact z_mask [true, true, true, true, false, false, false] rfl (ih.2.2 l2 l3 h2 G2 R2 (by omega) (by omega) (by omega))
      · refine z_if_eq_T (M := M_X3_search) 153 dX3_search_153 184 rfl (by omega) ?_
        exact z_mask [true, true, true, true, false, false, false] rfl (ih.2.2 l2 l3 h G R (by omega) (by omega) (by omega))
    · refine z_iload_n (M := M_X3_search) 124 dX3_search_124 rfl ?_
      refine z_iload (M := M_X3_search) 125 dX3_search_125 rfl ?_
      refine z_nI (M := M_X3_search) 127 dX3_search_127 t_X11_hasBit l_X3_40 (m_rr_of rfl) (rest := []) (c_X11_hasBit h l2 x5 G) rfl rfl (Nat.le_of_ble_eq_true rfl) ⟨rfl, rfl⟩ (fun x10 h3 qx10 => ?_)
      obtain ⟨rfl, ⟨rfl, cx10⟩ | ⟨rfl, cx10⟩⟩ := qx10
      · refine z_if_eq_F (M := M_X3_search) 130 dX3_search_130 144 rfl (by omega) ?_
        refine z_iload (M := M_X3_search) 133 dX3_search_133 rfl ?_
        refine z_iload (M := M_X3_search) 135 dX3_search_135 rfl ?_
        refine z_icmp_ge (M := M_X3_search) 137 dX3_search_137 144 rfl (fun c11 => ?_) (fun c11 => ?_)
        · refine z_iconst (M := M_X3_search) 144 dX3_search_144 ?_
          refine z_istore (M := M_X3_search) 145 dX3_search_145 (ls' := [some (mR 101), some (mR L), some (mI l2), some (mI l3), some (mI x4), some (mI x5), some (mI 0)]) (by decide) rfl ?_
          refine z_iload_n (M := M_X3_search) 147 dX3_search_147 rfl ?_
          refine z_iload (M := M_X3_search) 148 dX3_search_148 rfl ?_
          refine z_nI (M := M_X3_search) 150 dX3_search_150 t_X11_hasBit l_X3_40 (m_rr_of rfl) (rest := []) (c_X11_hasBit h l2 x4 G) rfl rfl (Nat.le_of_ble_eq_true rfl) ⟨rfl, rfl⟩ (fun x12 h4 qx12 => ?_)
          obtain ⟨rfl, ⟨rfl, cx12⟩ | ⟨rfl, cx12⟩⟩ := qx12
          · refine z_if_eq_F (M := M_X3_search) 153 dX3_search_153 184 rfl (by omega) ?_
            refine z_aload_n (M := M_X3_search) 156 dX3_search_156 rfl ?_
            refine z_iload (M := M_X3_search) 157 dX3_search_157 rfl ?_
            refine z_vI (M := M_X3_search) 159 dX3_search_159 t_X4_isCounting l_X3_48 (m_rr_of rfl) (rest := []) (c_X4_isCounting h L x5 hL G) (oL hL) rfl rfl rfl (Nat.le_of_ble_eq_true rfl) ⟨rfl, rfl⟩ (fun x13 h5 qx13 => ?_)
            obtain ⟨G5, S5, ax13, bx13⟩ := qx13
            have R5 := R.call S5 (by decide +kernel)
            refine z_if_eq (M := M_X3_search) 162 dX3_search_162 184 rfl (fun c14 => ?_) (fun c14 => ?_)
            · exact z_mask [true, true, true, true, false, false, false] rfl (ih.2.2 l2 l3 h5 G5 R5 (by omega) (by omega) (by omega))
            · refine z_iload (M := M_X3_search) 165 dX3_search_165 rfl ?_
              refine z_if_ne_F (M := M_X3_search) 167 dX3_search_167 184 rfl (by omega) ?_
              refine z_aload_n (M := M_X3_search) 170 dX3_search_170 rfl ?_
              refine z_aload_n (M := M_X3_search) 171 dX3_search_171 rfl ?_
              refine z_iconst (M := M_X3_search) 172 dX3_search_172 ?_
              refine z_iload (M := M_X3_search) 173 dX3_search_173 rfl ?_
              refine z_ishl (M := M_X3_search) 175 dX3_search_175 ?_
              refine z_topm (fun x15 ex15 ox15 => ?_)
              unfold m_32 at ox15
              refine z_iconst (M := M_X3_search) 176 dX3_search_176 ?_
              refine z_iload (M := M_X3_search) 177 dX3_search_177 rfl ?_
              refine z_ishl (M := M_X3_search) 179 dX3_search_179 ?_
              refine z_topm (fun x16 ex16 ox16 => ?_)
              unfold m_32 at ox16
              refine z_ior (M := M_X3_search) 180 dX3_search_180 ?_
              refine z_topm (fun x17 ex17 ox17 => ?_)
              unfold m_32 at ox17
              refine z_vV (M := M_X3_search) 181 dX3_search_181 t_X3_strike l_X3_44 (m_rr_of rfl) (rest := []) (c_X3_strike h5 L x17 hL G5) o_101 rfl rfl rfl (Nat.le_of_ble_eq_true rfl) ⟨rfl, rfl⟩ (fun h6 qx18 => ?_)
              obtain ⟨G6, S6⟩ := qx18
              have R6 := R5.call S6 (by decide +kernel)
              exact z_mask [true, true, true, true, false, false, false] rfl (ih.2.2 l2 l3 h6 G6 R6 (by omega) (by omega) (by omega))
          · refine z_if_eq_T (M := M_X3_search) 153 dX3_search_153 184 rfl (by omega) ?_
            exact z_mask [true, true, true, true, false, false, false] rfl (ih.2.2 l2 l3 h G R (by omega) (by omega) (by omega))
        · refine z_iconst (M := M_X3_search) 140 dX3_search_140 ?_
          refine z_goto (M := M_X3_search) 141 dX3_search_141 145 rfl ?_
          refine z_istore (M := M_X3_search) 145 dX3_search_145 (ls' := [some (mR 101), some (mR L), some (mI l2), some (mI l3), some (mI x4), some (mI x5), some (mI 1)]) (by decide) rfl ?_
          refine z_iload_n (M := M_X3_search) 147 dX3_search_147 rfl ?_
          refine z_iload (M := M_X3_search) 148 dX3_search_148 rfl ?_
          refine z_nI (M := M_X3_search) 150 dX3_search_150 t_X11_hasBit l_X3_40 (m_rr_of rfl) (rest := []) (c_X11_hasBit h l2 x4 G) rfl rfl (Nat.le_of_ble_eq_true rfl) ⟨rfl, rfl⟩ (fun x19 h7 qx19 => ?_)
          obtain ⟨rfl, ⟨rfl, cx19⟩ | ⟨rfl, cx19⟩⟩ := qx19
          · refine z_if_eq_F (M := M_X3_search) 153 dX3_search_153 184 rfl (by omega) ?_
            refine z_aload_n (M := M_X3_search) 156 dX3_search_156 rfl ?_
            refine z_iload (M := M_X3_search) 157 dX3_search_157 rfl ?_
            refine z_vI (M := M_X3_search) 159 dX3_search_159 t_X4_isCounting l_X3_48 (m_rr_of rfl) (rest := []) (c_X4_isCounting h L x5 hL G) (oL hL) rfl rfl rfl (Nat.le_of_ble_eq_true rfl) ⟨rfl, rfl⟩ (fun x20 h8 qx20 => ?_)
            obtain ⟨G8, S8, ax20, bx20⟩ := qx20
            have R8 := R.call S8 (by decide +kernel)
            refine z_if_eq (M := M_X3_search) 162 dX3_search_162 184 rfl (fun c21 => ?_) (fun c21 => ?_)
            · exact z_mask [true, true, true, true, false, false, false] rfl (ih.2.2 l2 l3 h8 G8 R8 (by omega) (by omega) (by omega))
            · refine z_iload (M := M_X3_search) 165 dX3_search_165 rfl ?_
              refine z_if_ne_T (M := M_X3_search) 167 dX3_search_167 184 rfl (by omega) ?_
              exact z_mask [true, true, true, true, false, false, false] rfl (ih.2.2 l2 l3 h8 G8 R8 (by omega) (by omega) (by omega))
          · refine z_if_eq_T (M := M_X3_search) 153 dX3_search_153 184 rfl (by omega) ?_
            exact z_mask [true, true, true, true, false, false, false] rfl (ih.2.2 l2 l3 h G R (by omega) (by omega) (by omega))
      · refine z_if_eq_T (M := M_X3_search) 130 dX3_search_130 144 rfl (by omega) ?_
        refine z_iconst (M := M_X3_search) 144 dX3_search_144 ?_
        refine z_istore (M := M_X3_search) 145 dX3_search_145 (ls' := [some (mR 101), some (mR L), some (mI l2), some (mI l3), some (mI x4), some (mI x5), some (mI 0)]) (by decide) rfl ?_
        refine z_iload_n (M := M_X3_search) 147 dX3_search_147 rfl ?_
        refine z_iload (M := M_X3_search) 148 dX3_search_148 rfl ?_
        refine z_nI (M := M_X3_search) 150 dX3_search_150 t_X11_hasBit l_X3_40 (m_rr_of rfl) (rest := []) (c_X11_hasBit h l2 x4 G) rfl rfl (Nat.le_of_ble_eq_true rfl) ⟨rfl, rfl⟩ (fun x22 h9 qx22 => ?_)
        obtain ⟨rfl, ⟨rfl, cx22⟩ | ⟨rfl, cx22⟩⟩ := qx22
        · refine z_if_eq_F (M := M_X3_search) 153 dX3_search_153 184 rfl (by omega) ?_
          refine z_aload_n (M := M_X3_search) 156 dX3_search_156 rfl ?_
          refine z_iload (M := M_X3_search) 157 dX3_search_157 rfl ?_
          refine z_vI (M := M_X3_search) 159 dX3_search_159 t_X4_isCounting l_X3_48 (m_rr_of rfl) (rest := []) (c_X4_isCounting h L x5 hL G) (oL hL) rfl rfl rfl (Nat.le_of_ble_eq_true rfl) ⟨rfl, rfl⟩ (fun x23 h10 qx23 => ?_)
          obtain ⟨G10, S10, ax23, bx23⟩ := qx23
          have R10 := R.call S10 (by decide +kernel)
          refine z_if_eq (M := M_X3_search) 162 dX3_search_162 184 rfl (fun c24 => ?_) (fun c24 => ?_)
          · exact z_mask [true, true, true, true, false, false, false] rfl (ih.2.2 l2 l3 h10 G10 R10 (by omega) (by omega) (by omega))
          · refine z_iload (M := M_X3_search) 165 dX3_search_165 rfl ?_
            refine z_if_ne_F (M := M_X3_search) 167 dX3_search_167 184 rfl (by omega) ?_
            refine z_aload_n (M := M_X3_search) 170 dX3_search_170 rfl ?_
            refine z_aload_n (M := M_X3_search) 171 dX3_search_171 rfl ?_
            refine z_iconst (M := M_X3_search) 172 dX3_search_172 ?_
            refine z_iload (M := M_X3_search) 173 dX3_search_173 rfl ?_
            refine z_ishl (M := M_X3_search) 175 dX3_search_175 ?_
            refine z_topm (fun x25 ex25 ox25 => ?_)
            unfold m_32 at ox25
            refine z_iconst (M := M_X3_search) 176 dX3_search_176 ?_
            refine z_iload (M := M_X3_search) 177 dX3_search_177 rfl ?_
            refine z_ishl (M := M_X3_search) 179 dX3_search_179 ?_
            refine z_topm (fun x26 ex26 ox26 => ?_)
            unfold m_32 at ox26
            refine z_ior (M := M_X3_search) 180 dX3_search_180 ?_
            refine z_topm (fun x27 ex27 ox27 => ?_)
            unfold m_32 at ox27
            refine z_vV (M := M_X3_search) 181 dX3_search_181 t_X3_strike l_X3_44 (m_rr_of rfl) (rest := []) (c_X3_strike h10 L x27 hL G10) o_101 rfl rfl rfl (Nat.le_of_ble_eq_true rfl) ⟨rfl, rfl⟩ (fun h11 qx28 => ?_)
            obtain ⟨G11, S11⟩ := qx28
            have R11 := R10.call S11 (by decide +kernel)
            exact z_mask [true, true, true, true, false, false, false] rfl (ih.2.2 l2 l3 h11 G11 R11 (by omega) (by omega) (by omega))
        · refine z_if_eq_T (M := M_X3_search) 153 dX3_search_153 184 rfl (by omega) ?_
          exact z_mask [true, true, true, true, false, false, false] rfl (ih.2.2 l2 l3 h G R (by omega) (by omega) (by omega))
set_option maxHeartbeats 4000000 in
set_option maxRecDepth 100000 in
theorem s_X3_search_184 (h0 : m_H) (L : Nat) (hL : isL L) (G0 : GI h0) (n : Nat) (ih : q_X3_search h0 L n) : ∀ (l2 l3 : Int) (h : m_H), GI h → FR (csB ++ [39, 40, 41]) [(101, 1), (101, 2), (101, 3)] h0 h → 0 ≤ l3 → l3 ≤ 575 → 3 * (576 - l3) + (1) ≤ ((n + 1 : Nat) : Int) → m_Z oF M_X3_search 184 [some (mR 101), some (mR L), some (mI l2), some (mI l3), none, none, none] [] h (m_QI (P_X3_search h0 L)) := by
  intro l2 l3 h G R v0 v1 hr
  refine z_ok (fun ostk _ olocs => ?_)
  have ol2 : m_32 l2 := olocs 2 _ rfl
  unfold m_32 at ol2
  refine z_iincN (M := M_X3_search) 184 dX3_search_184 (ls' := [some (mR 101), some (mR L), some (mI l2), some (mI (l3 + 1)), none, none, none]) (by decide) rfl (by (unfold m_32; decide)) (by omega) (by omega) rfl ?_
  refine z_goto (M := M_X3_search) 187 dX3_search_187 98 rfl ?_
  exact z_mask [true, true, true, true, false, false, false] rfl (ih.2.1 l2 (l3 + 1) h G R (by omega) (by omega) (by omega))
theorem a_X3_search (h0 : m_H) (L : Nat) (hL : isL L) (G0 : GI h0) : ∀ n, q_X3_search h0 L n := by
  intro n
  induction n with
  | zero => unfold q_X3_search; refine ⟨?_, ?_, ?_⟩ <;> (intros; omega)
  | succ n ih => exact ⟨s_X3_search_54 h0 L hL G0 n ih, s_X3_search_98 h0 L hL G0 n ih, s_X3_search_184 h0 L hL G0 n ih⟩
set_option maxHeartbeats 4000000 in
set_option maxRecDepth 100000 in
theorem c_X3_search (h0 : m_H) (L : Nat) (hL : isL L) (G0 : GI h0) : m_CI M_X3_search [mR 101, mR L] h0 (P_X3_search h0 L) := by
  refine m_CI_of ⟨by decide, rfl, by simp [m_arg, m_isL, M_X3_search], ⟨rfl, rfl⟩, rfl, rfl⟩ (ls := [some (mR 101), some (mR L), none, none, none, none, none]) rfl ?_
  have ih := a_X3_search h0 L hL G0 1788
  refine z_aload_n (M := M_X3_search) 0 dX3_search_0 rfl ?_
  refine z_iconst (M := M_X3_search) 1 dX3_search_1 ?_
  refine z_putIH (M := M_X3_search) 2 dX3_search_2 p_X3_21 o_101 rfl (u_101_1 G0) ((FR.rf (cs := (csB ++ [39, 40, 41])) (ss := [(101, 1), (101, 2), (101, 3)]) (h := h0)).up rfl) (fun h1 E1 G1 R1 => ?_)
  refine z_aload_n (M := M_X3_search) 5 dX3_search_5 rfl ?_
  refine z_iconst (M := M_X3_search) 6 dX3_search_6 ?_
  refine z_putIH (M := M_X3_search) 7 dX3_search_7 p_X3_25 o_101 rfl (u_101_2 G1) (R1.up rfl) (fun h2 E2 G2 R2 => ?_)
  refine z_aload_n (M := M_X3_search) 10 dX3_search_10 rfl ?_
  refine z_iconst (M := M_X3_search) 11 dX3_search_11 ?_
  refine z_putIH (M := M_X3_search) 12 dX3_search_12 p_X3_28 o_101 rfl (u_101_3 G2) (R2.up rfl) (fun h3 E3 G3 R3 => ?_)
  refine z_aload_n (M := M_X3_search) 15 dX3_search_15 rfl ?_
  refine z_getR (M := M_X3_search) 16 dX3_search_16 f_X3_9 o_101 rfl (g_101_0 G3) ?_
  refine z_aload_n (M := M_X3_search) 19 dX3_search_19 rfl ?_
  refine z_aload_n (M := M_X3_search) 20 dX3_search_20 rfl ?_
  refine z_getIV (M := M_X3_search) 21 dX3_search_21 f_X3_31 (oL hL) (by decide) (fun x1 ex1 => ?_)
  refine z_ok (fun ox1 _ _ => ?_)
  have ox1 := ox1.1; unfold m_ok m_32 at ox1
  refine z_vI (M := M_X3_search) 24 dX3_search_24 t_X9_canBe l_X3_15 (m_rr_of rfl) (rest := []) (c_X9_canBe h3 L x1 hL G3) o_38 rfl rfl rfl (Nat.le_of_ble_eq_true rfl) ⟨rfl, rfl⟩ (fun x2 h4 qx2 => ?_)
  obtain ⟨G4, S4, ax2, bx2⟩ := qx2
  have R4 := R3.call S4 (by decide +kernel)
  refine z_if_eq (M := M_X3_search) 27 dX3_search_27 32 rfl (fun c3 => ?_) (fun c3 => ?_)
  · refine z_aload_n (M := M_X3_search) 32 dX3_search_32 rfl ?_
    refine z_iconst (M := M_X3_search) 33 dX3_search_33 ?_
    refine z_putIH (M := M_X3_search) 34 dX3_search_34 p_X3_25 o_101 rfl (u_101_2 G4) (R4.up rfl) (fun h5 E5 G5 R5 => ?_)
    refine z_aload_n (M := M_X3_search) 37 dX3_search_37 rfl ?_
    refine z_aload_n (M := M_X3_search) 38 dX3_search_38 rfl ?_
    refine z_aload_n (M := M_X3_search) 39 dX3_search_39 rfl ?_
    refine z_getIV (M := M_X3_search) 40 dX3_search_40 f_X3_31 (oL hL) (by decide) (fun x4 ex4 => ?_)
    refine z_ok (fun ox4 _ _ => ?_)
    have ox4 := ox4.1; unfold m_ok m_32 at ox4
    refine z_vI (M := M_X3_search) 43 dX3_search_43 t_X3_leaveOut l_X3_36 (m_rr_of rfl) (rest := []) (c_X3_leaveOut h5 L x4 hL G5) o_101 rfl rfl rfl (Nat.le_of_ble_eq_true rfl) ⟨rfl, rfl⟩ (fun x5 h6 qx5 => ?_)
    obtain ⟨G6, S6⟩ := qx5
    have R6 := R5.call S6 (by decide +kernel)
    refine z_ok (fun ox5 _ _ => ?_)
    have ox5 := ox5.1; unfold m_ok m_32 at ox5
    refine z_istore_n (M := M_X3_search) 46 dX3_search_46 (ls' := [some (mR 101), some (mR L), some (mI x5), none, none, none, none]) (by decide) rfl ?_
    refine z_aload_n (M := M_X3_search) 47 dX3_search_47 rfl ?_
    refine z_iconst (M := M_X3_search) 48 dX3_search_48 ?_
    refine z_putIH (M := M_X3_search) 49 dX3_search_49 p_X3_21 o_101 rfl (u_101_1 G6) (R6.up rfl) (fun h7 E7 G7 R7 => ?_)
    refine z_iconst (M := M_X3_search) 52 dX3_search_52 ?_
    refine z_istore_n (M := M_X3_search) 53 dX3_search_53 (ls' := [some (mR 101), some (mR L), some (mI x5), some (mI 0), none, none, none]) (by decide) rfl ?_
    exact z_mask [true, true, true, true, false, false, false] rfl (ih.1 x5 0 h7 G7 R7 (by omega) (by omega) (by omega))
  · refine z_iconst (M := M_X3_search) 30 dX3_search_30 ?_
    exact z_retZ (M := M_X3_search) 31 dX3_search_31 rfl (by omega) ⟨G4, R4, by omega, by omega⟩
abbrev P_X6_keeperBy (h0 : m_H) (a0 a1 : Int) : Int → m_H → Prop := fun x h' => GI h' ∧ FR [] [] h0 h' ∧ 0 ≤ x ∧ x ≤ 3
set_option maxHeartbeats 4000000 in
set_option maxRecDepth 100000 in
theorem c_X6_keeperBy (h0 : m_H) (a0 a1 : Int) (G0 : GI h0) : m_CI M_X6_keeperBy [mI a0, mI a1] h0 (P_X6_keeperBy h0 a0 a1) := by
  refine m_CI_of ⟨by decide, rfl, by simp [m_arg, m_isL, M_X6_keeperBy], ⟨rfl, rfl⟩, rfl, rfl⟩ (ls := [some (mI a0), some (mI a1)]) rfl ?_
  refine z_ok (fun _ _ ok => ?_)
  have oa0 : m_32 a0 := ok 0 _ rfl
  unfold m_32 at oa0
  have oa1 : m_32 a1 := ok 1 _ rfl
  unfold m_32 at oa1
  refine z_iload_n (M := M_X6_keeperBy) 0 dX6_keeperBy_0 rfl ?_
  refine z_iconst (M := M_X6_keeperBy) 1 dX6_keeperBy_1 ?_
  refine z_iload_n (M := M_X6_keeperBy) 2 dX6_keeperBy_2 rfl ?_
  refine z_imul (M := M_X6_keeperBy) 3 dX6_keeperBy_3 ?_
  refine z_topm (fun x1 ex1 ox1 => ?_)
  unfold m_32 at ox1
  refine z_ishr (M := M_X6_keeperBy) 4 dX6_keeperBy_4 ?_
  refine z_topm (fun x2 ex2 ox2 => ?_)
  unfold m_32 at ox2
  refine z_iconst (M := M_X6_keeperBy) 5 dX6_keeperBy_5 ?_
  refine z_iand (M := M_X6_keeperBy) 6 dX6_keeperBy_6 ?_
  refine z_topBI (m_and_3 _) (fun x3 ex3 ax3 bx3 => ?_)
  exact z_retI (M := M_X6_keeperBy) 7 dX6_keeperBy_7 rfl ⟨G0, (FR.rf (cs := []) (ss := []) (h := h0)), by omega, by omega⟩
abbrev P_X6_hasEntry (h0 : m_H) (L : Nat) (a1 : Int) : Int → m_H → Prop := fun x h' => GI h' ∧ FR [] [] h0 h' ∧ 0 ≤ x ∧ x ≤ 1
def q_X6_hasEntry (h0 : m_H) (L : Nat) (a1 : Int) (n : Nat) : Prop := (∀ (l2 : Int) (h : m_H), GI h → FR [] [] h0 h → 0 ≤ l2 → l2 ≤ 24 → (-2147483648) ≤ a1 → a1 ≤ 2147483647 → 2 * (24 - l2) + (1) ≤ (n : Int) → m_Z oF M_X6_hasEntry 2 [some (mR L), some (mI a1), some (mI l2)] [] h (m_QI (P_X6_hasEntry h0 L a1)))
set_option maxHeartbeats 4000000 in
set_option maxRecDepth 100000 in
theorem s_X6_hasEntry_2 (h0 : m_H) (L : Nat) (a1 : Int) (hL : isL L) (G0 : GI h0) (n : Nat) (ih : q_X6_hasEntry h0 L a1 n) : ∀ (l2 : Int) (h : m_H), GI h → FR [] [] h0 h → 0 ≤ l2 → l2 ≤ 24 → (-2147483648) ≤ a1 → a1 ≤ 2147483647 → 2 * (24 - l2) + (1) ≤ ((n + 1 : Nat) : Int) → m_Z oF M_X6_hasEntry 2 [some (mR L), some (mI a1), some (mI l2)] [] h (m_QI (P_X6_hasEntry h0 L a1)) := by
  intro l2 h G R v0 v1 v2 v3 hr
  refine z_iload_n (M := M_X6_hasEntry) 2 dX6_hasEntry_2 rfl ?_
  refine z_aload_n (M := M_X6_hasEntry) 3 dX6_hasEntry_3 rfl ?_
  refine z_getIG (M := M_X6_hasEntry) 4 dX6_hasEntry_4 f_X6_64 (oL hL) (by decide) (gL7 hL G) (fun x1 ex1 ax1 bx1 => ?_)
  refine z_icmp_ge (M := M_X6_hasEntry) 7 dX6_hasEntry_7 36 rfl (fun c2 => ?_) (fun c2 => ?_)
  · refine z_iconst (M := M_X6_hasEntry) 36 dX6_hasEntry_36 ?_
    exact z_retZ (M := M_X6_hasEntry) 37 dX6_hasEntry_37 rfl (by omega) ⟨G, R, by omega, by omega⟩
  · refine z_aload_n (M := M_X6_hasEntry) 10 dX6_hasEntry_10 rfl ?_
    refine z_getR (M := M_X6_hasEntry) 11 dX6_hasEntry_11 f_X6_67 (oL hL) rfl (rL_3 hL G) ?_
    refine z_iload_n (M := M_X6_hasEntry) 14 dX6_hasEntry_14 rfl ?_
    refine z_ialdG (M := M_X6_hasEntry) 15 dX6_hasEntry_15 (oL_4 hL) (by omega) (by omega) (gL_4 hL G (by omega)) (fun x3 ex3 ax3 bx3 => ?_)
    refine z_iload_n (M := M_X6_hasEntry) 16 dX6_hasEntry_16 rfl ?_
    refine z_icmp_ne (M := M_X6_hasEntry) 17 dX6_hasEntry_17 30 rfl (fun c4 => ?_) (fun c4 => ?_)
    · refine z_iincN (M := M_X6_hasEntry) 30 dX6_hasEntry_30 (ls' := [some (mR L), some (mI a1), some (mI (l2 + 1))]) (by decide) rfl (by (unfold m_32; decide)) (by omega) (by omega) rfl ?_
      refine z_goto (M := M_X6_hasEntry) 33 dX6_hasEntry_33 2 rfl ?_
      exact z_mask [true, true, true] rfl (ih (l2 + 1) h G R (by omega) (by omega) (by omega) (by omega) (by omega))
    · refine z_aload_n (M := M_X6_hasEntry) 20 dX6_hasEntry_20 rfl ?_
      refine z_iload_n (M := M_X6_hasEntry) 21 dX6_hasEntry_21 rfl ?_
      refine z_vI (M := M_X6_hasEntry) 22 dX6_hasEntry_22 t_X4_isCounting l_X6_70 (m_rr_of rfl) (rest := []) (c_X4_isCounting h L l2 hL G) (oL hL) rfl rfl rfl (Nat.le_of_ble_eq_true rfl) ⟨rfl, rfl⟩ (fun x5 h1 qx5 => ?_)
      obtain ⟨G1, S1, ax5, bx5⟩ := qx5
      have R1 := R.call S1 (by decide +kernel)
      refine z_if_eq (M := M_X6_hasEntry) 25 dX6_hasEntry_25 30 rfl (fun c6 => ?_) (fun c6 => ?_)
      · refine z_iincN (M := M_X6_hasEntry) 30 dX6_hasEntry_30 (ls' := [some (mR L), some (mI a1), some (mI (l2 + 1))]) (by decide) rfl (by (unfold m_32; decide)) (by omega) (by omega) rfl ?_
        refine z_goto (M := M_X6_hasEntry) 33 dX6_hasEntry_33 2 rfl ?_
        exact z_mask [true, true, true] rfl (ih (l2 + 1) h1 G1 R1 (by omega) (by omega) (by omega) (by omega) (by omega))
      · refine z_iconst (M := M_X6_hasEntry) 28 dX6_hasEntry_28 ?_
        exact z_retZ (M := M_X6_hasEntry) 29 dX6_hasEntry_29 rfl (by omega) ⟨G1, R1, by omega, by omega⟩
theorem a_X6_hasEntry (h0 : m_H) (L : Nat) (a1 : Int) (hL : isL L) (G0 : GI h0) : ∀ n, q_X6_hasEntry h0 L a1 n := by
  intro n
  induction n with
  | zero => unfold q_X6_hasEntry; intros; omega
  | succ n ih => exact s_X6_hasEntry_2 h0 L a1 hL G0 n ih
set_option maxHeartbeats 4000000 in
set_option maxRecDepth 100000 in
theorem c_X6_hasEntry (h0 : m_H) (L : Nat) (a1 : Int) (hL : isL L) (G0 : GI h0) : m_CI M_X6_hasEntry [mR L, mI a1] h0 (P_X6_hasEntry h0 L a1) := by
  refine m_CI_of ⟨by decide, rfl, by simp [m_arg, m_isL, M_X6_hasEntry], ⟨rfl, rfl⟩, rfl, rfl⟩ (ls := [some (mR L), some (mI a1), none]) rfl ?_
  have ih := a_X6_hasEntry h0 L a1 hL G0 56
  refine z_ok (fun _ _ ok => ?_)
  have oa1 : m_32 a1 := ok 1 _ rfl
  unfold m_32 at oa1
  refine z_iconst (M := M_X6_hasEntry) 0 dX6_hasEntry_0 ?_
  refine z_istore_n (M := M_X6_hasEntry) 1 dX6_hasEntry_1 (ls' := [some (mR L), some (mI a1), some (mI 0)]) (by decide) rfl ?_
  exact z_mask [true, true, true] rfl (ih 0 h0 G0 (FR.rf (cs := []) (ss := []) (h := h0)) (by omega) (by omega) (by omega) (by omega) (by omega))
abbrev P_X6_gather (h0 : m_H) (L : Nat) : Int → m_H → Prop := fun x h' => GI h' ∧ FR [103] [(102, 3)] h0 h' ∧ 0 ≤ x ∧ x ≤ 1
def q_X6_gather (h0 : m_H) (L : Nat) (n : Nat) : Prop := (∀ (l2 : Int) (h : m_H), GI h → FR [103] [(102, 3)] h0 h → 0 ≤ l2 → l2 ≤ 32 → 2 * (32 - l2) + (1) ≤ (n : Int) → m_Z oF M_X6_gather 7 [some (mR 102), some (mR L), some (mI l2)] [] h (m_QI (P_X6_gather h0 L)))
set_option maxHeartbeats 4000000 in
set_option maxRecDepth 100000 in
theorem s_X6_gather_7 (h0 : m_H) (L : Nat) (hL : isL L) (G0 : GI h0) (n : Nat) (ih : q_X6_gather h0 L n) : ∀ (l2 : Int) (h : m_H), GI h → FR [103] [(102, 3)] h0 h → 0 ≤ l2 → l2 ≤ 32 → 2 * (32 - l2) + (1) ≤ ((n + 1 : Nat) : Int) → m_Z oF M_X6_gather 7 [some (mR 102), some (mR L), some (mI l2)] [] h (m_QI (P_X6_gather h0 L)) := by
  intro l2 h G R v0 v1 hr
  refine z_iload_n (M := M_X6_gather) 7 dX6_gather_7 rfl ?_
  refine z_bipush (M := M_X6_gather) 8 dX6_gather_8 ?_
  refine z_icmp_ge (M := M_X6_gather) 10 dX6_gather_10 70 rfl (fun c1 => ?_) (fun c1 => ?_)
  · refine z_iconst (M := M_X6_gather) 70 dX6_gather_70 ?_
    exact z_retZ (M := M_X6_gather) 71 dX6_gather_71 rfl (by omega) ⟨G, R, by omega, by omega⟩
  · refine z_aload_n (M := M_X6_gather) 13 dX6_gather_13 rfl ?_
    refine z_getR (M := M_X6_gather) 14 dX6_gather_14 f_X6_39 (oL hL) rfl (rL_0 hL G) ?_
    refine z_iload_n (M := M_X6_gather) 17 dX6_gather_17 rfl ?_
    refine z_ialdG (M := M_X6_gather) 18 dX6_gather_18 (oL_1 hL) (by omega) (by omega) (gL_1 hL G (by omega)) (fun x2 ex2 ax2 bx2 => ?_)
    refine z_iconst (M := M_X6_gather) 19 dX6_gather_19 ?_
    refine z_icmp_ne (M := M_X6_gather) 20 dX6_gather_20 64 rfl (fun c3 => ?_) (fun c3 => ?_)
    · refine z_iincN (M := M_X6_gather) 64 dX6_gather_64 (ls' := [some (mR 102), some (mR L), some (mI (l2 + 1))]) (by decide) rfl (by (unfold m_32; decide)) (by omega) (by omega) rfl ?_
      refine z_goto (M := M_X6_gather) 67 dX6_gather_67 7 rfl ?_
      exact z_mask [true, true, true] rfl (ih (l2 + 1) h G R (by omega) (by omega) (by omega))
    · refine z_aload_n (M := M_X6_gather) 23 dX6_gather_23 rfl ?_
      refine z_iload_n (M := M_X6_gather) 24 dX6_gather_24 rfl ?_
      refine z_sI (M := M_X6_gather) 25 dX6_gather_25 t_X6_hasEntry l_X6_61 (m_rr_of rfl) (rest := []) (c_X6_hasEntry h L l2 hL G) rfl rfl (Nat.le_of_ble_eq_true rfl) ⟨rfl, rfl⟩ (fun x4 h1 qx4 => ?_)
      obtain ⟨G1, S1, ax4, bx4⟩ := qx4
      have R1 := R.call S1 (by decide +kernel)
      refine z_if_ne (M := M_X6_gather) 28 dX6_gather_28 34 rfl (fun c5 => ?_) (fun c5 => ?_)
      · refine z_aload_n (M := M_X6_gather) 34 dX6_gather_34 rfl ?_
        refine z_getIG (M := M_X6_gather) 35 dX6_gather_35 f_X6_36 o_102 (by decide) (g_102_3 G1) (fun x6 ex6 ax6 bx6 => ?_)
        refine z_iconst (M := M_X6_gather) 38 dX6_gather_38 ?_
        refine z_icmp_lt (M := M_X6_gather) 39 dX6_gather_39 44 rfl (fun c7 => ?_) (fun c7 => ?_)
        · refine z_aload_n (M := M_X6_gather) 44 dX6_gather_44 rfl ?_
          refine z_getR (M := M_X6_gather) 45 dX6_gather_45 f_X6_9 o_102 rfl (g_102_1 G1) ?_
          refine z_aload_n (M := M_X6_gather) 48 dX6_gather_48 rfl ?_
          refine z_getIE (M := M_X6_gather) 49 dX6_gather_49 f_X6_36 o_102 (by decide) ex6 ?_
          refine z_iload_n (M := M_X6_gather) 52 dX6_gather_52 rfl ?_
          refine z_iastH (M := M_X6_gather) 53 dX6_gather_53 o_103 (by omega) (by omega) (u_103 G1 (by omega) (by omega)) (R1.up rfl) (fun h2 E2 G2 R2 => ?_)
          refine z_aload_n (M := M_X6_gather) 54 dX6_gather_54 rfl ?_
          refine z_dup (M := M_X6_gather) 55 dX6_gather_55 rfl ?_
          refine z_getIE (M := M_X6_gather) 56 dX6_gather_56 f_X6_36 o_102 (by decide) ((upN E2 (fun q => absurd q.1 (by decide))).trans ex6) ?_
          refine z_iconst (M := M_X6_gather) 59 dX6_gather_59 ?_
          refine z_iaddN (M := M_X6_gather) 60 dX6_gather_60 (by omega) (by omega) ?_
          refine z_putIH (M := M_X6_gather) 61 dX6_gather_61 p_X6_36 o_102 rfl (u_102_3 G2 (by omega) (by omega)) (R2.up rfl) (fun h3 E3 G3 R3 => ?_)
          refine z_iincN (M := M_X6_gather) 64 dX6_gather_64 (ls' := [some (mR 102), some (mR L), some (mI (l2 + 1))]) (by decide) rfl (by (unfold m_32; decide)) (by omega) (by omega) rfl ?_
          refine z_goto (M := M_X6_gather) 67 dX6_gather_67 7 rfl ?_
          exact z_mask [true, true, true] rfl (ih (l2 + 1) h3 G3 R3 (by omega) (by omega) (by omega))
        · refine z_iconst (M := M_X6_gather) 42 dX6_gather_42 ?_
          exact z_retZ (M := M_X6_gather) 43 dX6_gather_43 rfl (by omega) ⟨G1, R1, by omega, by omega⟩
      · refine z_goto (M := M_X6_gather) 31 dX6_gather_31 64 rfl ?_
        refine z_iincN (M := M_X6_gather) 64 dX6_gather_64 (ls' := [some (mR 102), some (mR L), some (mI (l2 + 1))]) (by decide) rfl (by (unfold m_32; decide)) (by omega) (by omega) rfl ?_
        refine z_goto (M := M_X6_gather) 67 dX6_gather_67 7 rfl ?_
        exact z_mask [true, true, true] rfl (ih (l2 + 1) h1 G1 R1 (by omega) (by omega) (by omega))
theorem a_X6_gather (h0 : m_H) (L : Nat) (hL : isL L) (G0 : GI h0) : ∀ n, q_X6_gather h0 L n := by
  intro n
  induction n with
  | zero => unfold q_X6_gather; intros; omega
  | succ n ih => exact s_X6_gather_7 h0 L hL G0 n ih
set_option maxHeartbeats 4000000 in
set_option maxRecDepth 100000 in
theorem c_X6_gather (h0 : m_H) (L : Nat) (hL : isL L) (G0 : GI h0) : m_CI M_X6_gather [mR 102, mR L] h0 (P_X6_gather h0 L) := by
  refine m_CI_of ⟨by decide, rfl, by simp [m_arg, m_isL, M_X6_gather], ⟨rfl, rfl⟩, rfl, rfl⟩ (ls := [some (mR 102), some (mR L), none]) rfl ?_
  have ih := a_X6_gather h0 L hL G0 72
  refine z_aload_n (M := M_X6_gather) 0 dX6_gather_0 rfl ?_
  refine z_iconst (M := M_X6_gather) 1 dX6_gather_1 ?_
  refine z_putIH (M := M_X6_gather) 2 dX6_gather_2 p_X6_36 o_102 rfl (u_102_3 G0 (by omega) (by omega)) ((FR.rf (cs := [103]) (ss := [(102, 3)]) (h := h0)).up rfl) (fun h1 E1 G1 R1 => ?_)
  refine z_iconst (M := M_X6_gather) 5 dX6_gather_5 ?_
  refine z_istore_n (M := M_X6_gather) 6 dX6_gather_6 (ls' := [some (mR 102), some (mR L), some (mI 0)]) (by decide) rfl ?_
  exact z_mask [true, true, true] rfl (ih 0 h1 G1 R1 (by omega) (by omega) (by omega))
abbrev P_X6_note (h0 : m_H) (a1 : Int) : m_H → Prop := fun h' => GI h' ∧ FR [104] [(102, 4)] h0 h'
def q_X6_note (h0 : m_H) (a1 : Int) (n : Nat) : Prop := (∀ (l2 : Int) (h : m_H), GI h → FR [104] [(102, 4)] h0 h → 0 ≤ l2 → l2 ≤ 3 → (-2147483648) ≤ a1 → a1 ≤ 2147483647 → 2 * (3 - l2) + (1) ≤ (n : Int) → m_Z oF M_X6_note 12 [some (mR 102), some (mI a1), some (mI l2)] [] h (m_QV (P_X6_note h0 a1)))
set_option maxHeartbeats 4000000 in
set_option maxRecDepth 100000 in
theorem s_X6_note_12 (h0 : m_H) (a1 : Int) (G0 : GI h0) (n : Nat) (ih : q_X6_note h0 a1 n) : ∀ (l2 : Int) (h : m_H), GI h → FR [104] [(102, 4)] h0 h → 0 ≤ l2 → l2 ≤ 3 → (-2147483648) ≤ a1 → a1 ≤ 2147483647 → 2 * (3 - l2) + (1) ≤ ((n + 1 : Nat) : Int) → m_Z oF M_X6_note 12 [some (mR 102), some (mI a1), some (mI l2)] [] h (m_QV (P_X6_note h0 a1)) := by
  intro l2 h G R v0 v1 v2 v3 hr
  refine z_iload_n (M := M_X6_note) 12 dX6_note_12 rfl ?_
  refine z_aload_n (M := M_X6_note) 13 dX6_note_13 rfl ?_
  refine z_getIG (M := M_X6_note) 14 dX6_note_14 f_X6_36 o_102 (by decide) (g_102_3 G) (fun x1 ex1 ax1 bx1 => ?_)
  refine z_icmp_ge (M := M_X6_note) 17 dX6_note_17 44 rfl (fun c2 => ?_) (fun c2 => ?_)
  · exact z_retV (M := M_X6_note) 44 dX6_note_44 rfl ⟨G, R⟩
  · refine z_aload_n (M := M_X6_note) 20 dX6_note_20 rfl ?_
    refine z_getR (M := M_X6_note) 21 dX6_note_21 f_X6_15 o_102 rfl (g_102_2 G) ?_
    refine z_iload_n (M := M_X6_note) 24 dX6_note_24 rfl ?_
    refine z_iconst (M := M_X6_note) 25 dX6_note_25 ?_
    refine z_imulN (M := M_X6_note) 26 dX6_note_26 (by omega) (by omega) ?_
    refine z_iload_n (M := M_X6_note) 27 dX6_note_27 rfl ?_
    refine z_iload_n (M := M_X6_note) 28 dX6_note_28 rfl ?_
    refine z_sI (M := M_X6_note) 29 dX6_note_29 t_X6_keeperBy l_X6_44 (m_rr_of rfl) (rest := [mI (l2 * 4), mR 104]) (c_X6_keeperBy h a1 l2 G) rfl rfl (Nat.le_of_ble_eq_true rfl) ⟨rfl, rfl⟩ (fun x3 h1 qx3 => ?_)
    obtain ⟨G1, S1, ax3, bx3⟩ := qx3
    have R1 := R.call S1 (by decide +kernel)
    refine z_iaddN (M := M_X6_note) 32 dX6_note_32 (by omega) (by omega) ?_
    refine z_dup2 (M := M_X6_note) 33 dX6_note_33 rfl rfl ?_
    refine z_ialdV (M := M_X6_note) 34 dX6_note_34 o_104 (by omega) (by omega) (fun x4 ex4 => ?_)
    refine z_ok (fun ox4 _ _ => ?_)
    have ox4 := ox4.1; unfold m_ok m_32 at ox4
    refine z_iconst (M := M_X6_note) 35 dX6_note_35 ?_
    refine z_iadd (M := M_X6_note) 36 dX6_note_36 ?_
    refine z_topm (fun x5 ex5 ox5 => ?_)
    unfold m_32 at ox5
    refine z_iastH (M := M_X6_note) 37 dX6_note_37 o_104 (by omega) (by omega) (u_104 G1) (R1.up rfl) (fun h2 E2 G2 R2 => ?_)
    refine z_iincN (M := M_X6_note) 38 dX6_note_38 (ls' := [some (mR 102), some (mI a1), some (mI (l2 + 1))]) (by decide) rfl (by (unfold m_32; decide)) (by omega) (by omega) rfl ?_
    refine z_goto (M := M_X6_note) 41 dX6_note_41 12 rfl ?_
    exact z_mask [true, true, true] rfl (ih (l2 + 1) h2 G2 R2 (by omega) (by omega) (by omega) (by omega) (by omega))
theorem a_X6_note (h0 : m_H) (a1 : Int) (G0 : GI h0) : ∀ n, q_X6_note h0 a1 n := by
  intro n
  induction n with
  | zero => unfold q_X6_note; intros; omega
  | succ n ih => exact s_X6_note_12 h0 a1 G0 n ih
set_option maxHeartbeats 4000000 in
set_option maxRecDepth 100000 in
theorem c_X6_note (h0 : m_H) (a1 : Int) (G0 : GI h0) : m_CV M_X6_note [mR 102, mI a1] h0 (P_X6_note h0 a1) := by
  refine m_CV_of ⟨by decide, rfl, by simp [m_arg, m_isL, M_X6_note], ⟨rfl, rfl⟩, rfl, rfl⟩ (ls := [some (mR 102), some (mI a1), none]) rfl ?_
  have ih := a_X6_note h0 a1 G0 14
  refine z_ok (fun _ _ ok => ?_)
  have oa1 : m_32 a1 := ok 1 _ rfl
  unfold m_32 at oa1
  refine z_aload_n (M := M_X6_note) 0 dX6_note_0 rfl ?_
  refine z_dup (M := M_X6_note) 1 dX6_note_1 rfl ?_
  refine z_getIV (M := M_X6_note) 2 dX6_note_2 f_X6_22 o_102 (by decide) (fun x1 ex1 => ?_)
  refine z_ok (fun ox1 _ _ => ?_)
  have ox1 := ox1.1; unfold m_ok m_32 at ox1
  refine z_iconst (M := M_X6_note) 5 dX6_note_5 ?_
  refine z_iadd (M := M_X6_note) 6 dX6_note_6 ?_
  refine z_topm (fun x2 ex2 ox2 => ?_)
  unfold m_32 at ox2
  refine z_putIH (M := M_X6_note) 7 dX6_note_7 p_X6_22 o_102 rfl (u_102_4 G0) ((FR.rf (cs := [104]) (ss := [(102, 4)]) (h := h0)).up rfl) (fun h1 E1 G1 R1 => ?_)
  refine z_iconst (M := M_X6_note) 10 dX6_note_10 ?_
  refine z_istore_n (M := M_X6_note) 11 dX6_note_11 (ls' := [some (mR 102), some (mI a1), some (mI 0)]) (by decide) rfl ?_
  exact z_mask [true, true, true] rfl (ih 0 h1 G1 R1 (by omega) (by omega) (by omega) (by omega) (by omega))
abbrev P_X6_placeOf (h0 : m_H) (a1 : Int) : Int → m_H → Prop := fun x h' => GI h' ∧ FR [] [] h0 h' ∧ (-1) ≤ x ∧ x ≤ 2
def q_X6_placeOf (h0 : m_H) (a1 : Int) (n : Nat) : Prop := (∀ (l2 : Int) (h : m_H), GI h → FR [] [] h0 h → 0 ≤ l2 → l2 ≤ 3 → (-2147483648) ≤ a1 → a1 ≤ 2147483647 → 2 * (3 - l2) + (1) ≤ (n : Int) → m_Z oF M_X6_placeOf 2 [some (mR 102), some (mI a1), some (mI l2)] [] h (m_QI (P_X6_placeOf h0 a1)))
set_option maxHeartbeats 4000000 in
set_option maxRecDepth 100000 in
theorem s_X6_placeOf_2 (h0 : m_H) (a1 : Int) (G0 : GI h0) (n : Nat) (ih : q_X6_placeOf h0 a1 n) : ∀ (l2 : Int) (h : m_H), GI h → FR [] [] h0 h → 0 ≤ l2 → l2 ≤ 3 → (-2147483648) ≤ a1 → a1 ≤ 2147483647 → 2 * (3 - l2) + (1) ≤ ((n + 1 : Nat) : Int) → m_Z oF M_X6_placeOf 2 [some (mR 102), some (mI a1), some (mI l2)] [] h (m_QI (P_X6_placeOf h0 a1)) := by
  intro l2 h G R v0 v1 v2 v3 hr
  refine z_iload_n (M := M_X6_placeOf) 2 dX6_placeOf_2 rfl ?_
  refine z_aload_n (M := M_X6_placeOf) 3 dX6_placeOf_3 rfl ?_
  refine z_getIG (M := M_X6_placeOf) 4 dX6_placeOf_4 f_X6_36 o_102 (by decide) (g_102_3 G) (fun x1 ex1 ax1 bx1 => ?_)
  refine z_icmp_ge (M := M_X6_placeOf) 7 dX6_placeOf_7 28 rfl (fun c2 => ?_) (fun c2 => ?_)
  · refine z_iconst (M := M_X6_placeOf) 28 dX6_placeOf_28 ?_
    exact z_retI (M := M_X6_placeOf) 29 dX6_placeOf_29 rfl ⟨G, R, by omega, by omega⟩
  · refine z_aload_n (M := M_X6_placeOf) 10 dX6_placeOf_10 rfl ?_
    refine z_getR (M := M_X6_placeOf) 11 dX6_placeOf_11 f_X6_9 o_102 rfl (g_102_1 G) ?_
    refine z_iload_n (M := M_X6_placeOf) 14 dX6_placeOf_14 rfl ?_
    refine z_ialdG (M := M_X6_placeOf) 15 dX6_placeOf_15 o_103 (by omega) (by omega) (g_103 G (by omega)) (fun x3 ex3 ax3 bx3 => ?_)
    refine z_iload_n (M := M_X6_placeOf) 16 dX6_placeOf_16 rfl ?_
    refine z_icmp_ne (M := M_X6_placeOf) 17 dX6_placeOf_17 22 rfl (fun c4 => ?_) (fun c4 => ?_)
    · refine z_iincN (M := M_X6_placeOf) 22 dX6_placeOf_22 (ls' := [some (mR 102), some (mI a1), some (mI (l2 + 1))]) (by decide) rfl (by (unfold m_32; decide)) (by omega) (by omega) rfl ?_
      refine z_goto (M := M_X6_placeOf) 25 dX6_placeOf_25 2 rfl ?_
      exact z_mask [true, true, true] rfl (ih (l2 + 1) h G R (by omega) (by omega) (by omega) (by omega) (by omega))
    · refine z_iload_n (M := M_X6_placeOf) 20 dX6_placeOf_20 rfl ?_
      exact z_retI (M := M_X6_placeOf) 21 dX6_placeOf_21 rfl ⟨G, R, by omega, by omega⟩
theorem a_X6_placeOf (h0 : m_H) (a1 : Int) (G0 : GI h0) : ∀ n, q_X6_placeOf h0 a1 n := by
  intro n
  induction n with
  | zero => unfold q_X6_placeOf; intros; omega
  | succ n ih => exact s_X6_placeOf_2 h0 a1 G0 n ih
set_option maxHeartbeats 4000000 in
set_option maxRecDepth 100000 in
theorem c_X6_placeOf (h0 : m_H) (a1 : Int) (G0 : GI h0) : m_CI M_X6_placeOf [mR 102, mI a1] h0 (P_X6_placeOf h0 a1) := by
  refine m_CI_of ⟨by decide, rfl, by simp [m_arg, m_isL, M_X6_placeOf], ⟨rfl, rfl⟩, rfl, rfl⟩ (ls := [some (mR 102), some (mI a1), none]) rfl ?_
  have ih := a_X6_placeOf h0 a1 G0 14
  refine z_ok (fun _ _ ok => ?_)
  have oa1 : m_32 a1 := ok 1 _ rfl
  unfold m_32 at oa1
  refine z_iconst (M := M_X6_placeOf) 0 dX6_placeOf_0 ?_
  refine z_istore_n (M := M_X6_placeOf) 1 dX6_placeOf_1 (ls' := [some (mR 102), some (mI a1), some (mI 0)]) (by decide) rfl ?_
  exact z_mask [true, true, true] rfl (ih 0 h0 G0 (FR.rf (cs := []) (ss := []) (h := h0)) (by omega) (by omega) (by omega) (by omega) (by omega))
abbrev P_X6_waysWith (h0 : m_H) (a1 a2 : Int) : Int → m_H → Prop := fun x h' => GI h' ∧ FR [] [] h0 h'
set_option maxHeartbeats 4000000 in
set_option maxRecDepth 100000 in
theorem c_X6_waysWith (h0 : m_H) (a1 a2 : Int) (G0 : GI h0) (pa2 : 0 ≤ a2 ∧ a2 ≤ 3) : m_CI M_X6_waysWith [mR 102, mI a1, mI a2] h0 (P_X6_waysWith h0 a1 a2) := by
  refine m_CI_of ⟨by decide, rfl, by simp [m_arg, m_isL, M_X6_waysWith], ⟨rfl, rfl⟩, rfl, rfl⟩ (ls := [some (mR 102), some (mI a1), some (mI a2), none]) rfl ?_
  refine z_ok (fun _ _ ok => ?_)
  have oa1 : m_32 a1 := ok 1 _ rfl
  unfold m_32 at oa1
  refine z_aload_n (M := M_X6_waysWith) 0 dX6_waysWith_0 rfl ?_
  refine z_iload_n (M := M_X6_waysWith) 1 dX6_waysWith_1 rfl ?_
  refine z_vI (M := M_X6_waysWith) 2 dX6_waysWith_2 t_X6_placeOf l_X6_74 (m_rr_of rfl) (rest := []) (c_X6_placeOf h0 a1 G0) o_102 rfl rfl rfl (Nat.le_of_ble_eq_true rfl) ⟨rfl, rfl⟩ (fun x1 h1 qx1 => ?_)
  obtain ⟨G1, S1, ax1, bx1⟩ := qx1
  have R1 := (FR.rf (cs := []) (ss := []) (h := h0)).call S1 (by decide +kernel)
  refine z_istore_n (M := M_X6_waysWith) 5 dX6_waysWith_5 (ls' := [some (mR 102), some (mI a1), some (mI a2), some (mI x1)]) (by decide) rfl ?_
  refine z_iload_n (M := M_X6_waysWith) 6 dX6_waysWith_6 rfl ?_
  refine z_iconst (M := M_X6_waysWith) 7 dX6_waysWith_7 ?_
  refine z_icmp_ne (M := M_X6_waysWith) 8 dX6_waysWith_8 15 rfl (fun c2 => ?_) (fun c2 => ?_)
  · refine z_aload_n (M := M_X6_waysWith) 15 dX6_waysWith_15 rfl ?_
    refine z_getR (M := M_X6_waysWith) 16 dX6_waysWith_16 f_X6_15 o_102 rfl (g_102_2 G1) ?_
    refine z_iload_n (M := M_X6_waysWith) 19 dX6_waysWith_19 rfl ?_
    refine z_iconst (M := M_X6_waysWith) 20 dX6_waysWith_20 ?_
    refine z_imulN (M := M_X6_waysWith) 21 dX6_waysWith_21 (by omega) (by omega) ?_
    refine z_iload_n (M := M_X6_waysWith) 22 dX6_waysWith_22 rfl ?_
    refine z_iaddN (M := M_X6_waysWith) 23 dX6_waysWith_23 (by omega) (by omega) ?_
    refine z_ialdV (M := M_X6_waysWith) 24 dX6_waysWith_24 o_104 (by omega) (by omega) (fun x3 ex3 => ?_)
    refine z_ok (fun ox3 _ _ => ?_)
    have ox3 := ox3.1; unfold m_ok m_32 at ox3
    exact z_retI (M := M_X6_waysWith) 25 dX6_waysWith_25 rfl ⟨G1, R1⟩
  · refine z_iconst (M := M_X6_waysWith) 11 dX6_waysWith_11 ?_
    refine z_goto (M := M_X6_waysWith) 12 dX6_waysWith_12 25 rfl ?_
    exact z_retI (M := M_X6_waysWith) 25 dX6_waysWith_25 rfl ⟨G1, R1⟩
abbrev P_X6_onlyKeeper (h0 : m_H) (a1 : Int) : Int → m_H → Prop := fun x h' => GI h' ∧ FR [] [] h0 h' ∧ (-1) ≤ x ∧ x ≤ 5
def q_X6_onlyKeeper (h0 : m_H) (a1 : Int) (n : Nat) : Prop := (∀ (l2 : Int) (h : m_H), GI h → FR [] [] h0 h → 0 ≤ l2 → l2 ≤ 4 → (-2147483648) ≤ a1 → a1 ≤ 2147483647 → 2 * (4 - l2) + (1) ≤ (n : Int) → m_Z oF M_X6_onlyKeeper 20 [some (mR 102), some (mI a1), some (mI l2)] [] h (m_QI (P_X6_onlyKeeper h0 a1)))
set_option maxHeartbeats 4000000 in
set_option maxRecDepth 100000 in
theorem s_X6_onlyKeeper_20 (h0 : m_H) (a1 : Int) (G0 : GI h0) (n : Nat) (ih : q_X6_onlyKeeper h0 a1 n) : ∀ (l2 : Int) (h : m_H), GI h → FR [] [] h0 h → 0 ≤ l2 → l2 ≤ 4 → (-2147483648) ≤ a1 → a1 ≤ 2147483647 → 2 * (4 - l2) + (1) ≤ ((n + 1 : Nat) : Int) → m_Z oF M_X6_onlyKeeper 20 [some (mR 102), some (mI a1), some (mI l2)] [] h (m_QI (P_X6_onlyKeeper h0 a1)) := by
  intro l2 h G R v0 v1 v2 v3 hr
  refine z_iload_n (M := M_X6_onlyKeeper) 20 dX6_onlyKeeper_20 rfl ?_
  refine z_iconst (M := M_X6_onlyKeeper) 21 dX6_onlyKeeper_21 ?_
  refine z_icmp_ge (M := M_X6_onlyKeeper) 22 dX6_onlyKeeper_22 46 rfl (fun c1 => ?_) (fun c1 => ?_)
  · refine z_iconst (M := M_X6_onlyKeeper) 46 dX6_onlyKeeper_46 ?_
    exact z_retI (M := M_X6_onlyKeeper) 47 dX6_onlyKeeper_47 rfl ⟨G, R, by omega, by omega⟩
  · refine z_aload_n (M := M_X6_onlyKeeper) 25 dX6_onlyKeeper_25 rfl ?_
    refine z_iload_n (M := M_X6_onlyKeeper) 26 dX6_onlyKeeper_26 rfl ?_
    refine z_iload_n (M := M_X6_onlyKeeper) 27 dX6_onlyKeeper_27 rfl ?_
    refine z_vI (M := M_X6_onlyKeeper) 28 dX6_onlyKeeper_28 t_X6_waysWith l_X6_78 (m_rr_of rfl) (rest := []) (c_X6_waysWith h a1 l2 G ⟨by omega, by omega⟩) o_102 rfl rfl rfl (Nat.le_of_ble_eq_true rfl) ⟨rfl, rfl⟩ (fun x2 h1 qx2 => ?_)
    obtain ⟨G1, S1⟩ := qx2
    have R1 := R.call S1 (by decide +kernel)
    refine z_ok (fun ox2 _ _ => ?_)
    have ox2 := ox2.1; unfold m_ok m_32 at ox2
    refine z_aload_n (M := M_X6_onlyKeeper) 31 dX6_onlyKeeper_31 rfl ?_
    refine z_getIV (M := M_X6_onlyKeeper) 32 dX6_onlyKeeper_32 f_X6_22 o_102 (by decide) (fun x3 ex3 => ?_)
    refine z_ok (fun ox3 _ _ => ?_)
    have ox3 := ox3.1; unfold m_ok m_32 at ox3
    refine z_icmp_ne (M := M_X6_onlyKeeper) 35 dX6_onlyKeeper_35 40 rfl (fun c4 => ?_) (fun c4 => ?_)
    · refine z_iincN (M := M_X6_onlyKeeper) 40 dX6_onlyKeeper_40 (ls' := [some (mR 102), some (mI a1), some (mI (l2 + 1))]) (by decide) rfl (by (unfold m_32; decide)) (by omega) (by omega) rfl ?_
      refine z_goto (M := M_X6_onlyKeeper) 43 dX6_onlyKeeper_43 20 rfl ?_
      exact z_mask [true, true, true] rfl (ih (l2 + 1) h1 G1 R1 (by omega) (by omega) (by omega) (by omega) (by omega))
    · refine z_iload_n (M := M_X6_onlyKeeper) 38 dX6_onlyKeeper_38 rfl ?_
      exact z_retI (M := M_X6_onlyKeeper) 39 dX6_onlyKeeper_39 rfl ⟨G1, R1, by omega, by omega⟩
theorem a_X6_onlyKeeper (h0 : m_H) (a1 : Int) (G0 : GI h0) : ∀ n, q_X6_onlyKeeper h0 a1 n := by
  intro n
  induction n with
  | zero => unfold q_X6_onlyKeeper; intros; omega
  | succ n ih => exact s_X6_onlyKeeper_20 h0 a1 G0 n ih
set_option maxHeartbeats 4000000 in
set_option maxRecDepth 100000 in
theorem c_X6_onlyKeeper (h0 : m_H) (a1 : Int) (G0 : GI h0) : m_CI M_X6_onlyKeeper [mR 102, mI a1] h0 (P_X6_onlyKeeper h0 a1) := by
  refine m_CI_of ⟨by decide, rfl, by simp [m_arg, m_isL, M_X6_onlyKeeper], ⟨rfl, rfl⟩, rfl, rfl⟩ (ls := [some (mR 102), some (mI a1), none]) rfl ?_
  have ih := a_X6_onlyKeeper h0 a1 G0 16
  refine z_ok (fun _ _ ok => ?_)
  have oa1 : m_32 a1 := ok 1 _ rfl
  unfold m_32 at oa1
  refine z_aload_n (M := M_X6_onlyKeeper) 0 dX6_onlyKeeper_0 rfl ?_
  refine z_iload_n (M := M_X6_onlyKeeper) 1 dX6_onlyKeeper_1 rfl ?_
  refine z_vI (M := M_X6_onlyKeeper) 2 dX6_onlyKeeper_2 t_X6_placeOf l_X6_74 (m_rr_of rfl) (rest := []) (c_X6_placeOf h0 a1 G0) o_102 rfl rfl rfl (Nat.le_of_ble_eq_true rfl) ⟨rfl, rfl⟩ (fun x1 h1 qx1 => ?_)
  obtain ⟨G1, S1, ax1, bx1⟩ := qx1
  have R1 := (FR.rf (cs := []) (ss := []) (h := h0)).call S1 (by decide +kernel)
  refine z_iconst (M := M_X6_onlyKeeper) 5 dX6_onlyKeeper_5 ?_
  refine z_icmp_eq (M := M_X6_onlyKeeper) 6 dX6_onlyKeeper_6 16 rfl (fun c2 => ?_) (fun c2 => ?_)
  · refine z_iconst (M := M_X6_onlyKeeper) 16 dX6_onlyKeeper_16 ?_
    exact z_retI (M := M_X6_onlyKeeper) 17 dX6_onlyKeeper_17 rfl ⟨G1, R1, by omega, by omega⟩
  · refine z_aload_n (M := M_X6_onlyKeeper) 9 dX6_onlyKeeper_9 rfl ?_
    refine z_getIV (M := M_X6_onlyKeeper) 10 dX6_onlyKeeper_10 f_X6_22 o_102 (by decide) (fun x3 ex3 => ?_)
    refine z_ok (fun ox3 _ _ => ?_)
    have ox3 := ox3.1; unfold m_ok m_32 at ox3
    refine z_if_ne (M := M_X6_onlyKeeper) 13 dX6_onlyKeeper_13 18 rfl (fun c4 => ?_) (fun c4 => ?_)
    · refine z_iconst (M := M_X6_onlyKeeper) 18 dX6_onlyKeeper_18 ?_
      refine z_istore_n (M := M_X6_onlyKeeper) 19 dX6_onlyKeeper_19 (ls' := [some (mR 102), some (mI a1), some (mI 0)]) (by decide) rfl ?_
      exact z_mask [true, true, true] rfl (ih 0 h1 G1 R1 (by omega) (by omega) (by omega) (by omega) (by omega))
    · refine z_iconst (M := M_X6_onlyKeeper) 16 dX6_onlyKeeper_16 ?_
      exact z_retI (M := M_X6_onlyKeeper) 17 dX6_onlyKeeper_17 rfl ⟨G1, R1, by omega, by omega⟩
