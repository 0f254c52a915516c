abbrev P_X12_joined (h0 : m_H) (a1 a2 : Int) : Int → m_H → Prop := fun x h' => GI h' ∧ FR [117, 118, 119, 120, 121, 122, 123, 145] [(108, 0), (108, 21)] h0 h' ∧ (-2) ≤ x ∧ x ≤ 1
set_option maxHeartbeats 4000000 in
set_option maxRecDepth 100000 in
theorem c_X12_joined (h0 : m_H) (a1 a2 : Int) (G0 : GI h0) (hN : NP h0) : m_CI M_X12_joined [mR 108, mI a1, mI a2] h0 (P_X12_joined h0 a1 a2) := by
  refine m_CI_of ⟨by decide, rfl, by simp [m_arg, m_isL, M_X12_joined], ⟨rfl, rfl⟩, rfl, rfl⟩ (ls := [some (mR 108), some (mI a1), some (mI a2)]) rfl ?_
  refine z_ok (fun _ _ ok => ?_)
  have oa1 : m_32 a1 := ok 1 _ rfl
  unfold m_32 at oa1
  have oa2 : m_32 a2 := ok 2 _ rfl
  unfold m_32 at oa2
  refine z_aload_n (M := M_X12_joined) 0 dX12_joined_0 rfl ?_
  refine z_iconst (M := M_X12_joined) 1 dX12_joined_1 ?_
  refine z_putIH (M := M_X12_joined) 2 dX12_joined_2 p_X12_133 o_108 rfl (u_108_0 G0) ((FR.rf (cs := [117, 118, 119, 120, 121, 122, 123, 145]) (ss := [(108, 0), (108, 21)]) (h := h0)).up rfl) (fun h1 E1 G1 R1 => ?_)
  refine z_aload_n (M := M_X12_joined) 5 dX12_joined_5 rfl ?_
  refine z_iload_n (M := M_X12_joined) 6 dX12_joined_6 rfl ?_
  refine z_vI (M := M_X12_joined) 7 dX12_joined_7 t_X12_isLength l_X12_391 (m_rr_of rfl) (rest := []) (c_X12_isLengthX h1 a1 G1) o_108 rfl rfl rfl (Nat.le_of_ble_eq_true rfl) ⟨rfl, rfl⟩ (fun x1 h2 qx1 => ?_)
  obtain ⟨G2, S2, ax1, bx1, fx1_0⟩ := qx1
  have R2 := R1.call S2 (by decide +kernel)
  refine z_if_eq (M := M_X12_joined) 10 dX12_joined_10 21 rfl (fun c2 => ?_) (fun c2 => ?_)
  · refine z_bipush (M := M_X12_joined) 21 dX12_joined_21 ?_
    exact z_retI (M := M_X12_joined) 23 dX12_joined_23 rfl ⟨G2, R2, by omega, by omega⟩
  · refine z_aload_n (M := M_X12_joined) 13 dX12_joined_13 rfl ?_
    refine z_iload_n (M := M_X12_joined) 14 dX12_joined_14 rfl ?_
    refine z_vI (M := M_X12_joined) 15 dX12_joined_15 t_X12_isLength l_X12_391 (m_rr_of rfl) (rest := []) (c_X12_isLengthX h2 a2 G2) o_108 rfl rfl rfl (Nat.le_of_ble_eq_true rfl) ⟨rfl, rfl⟩ (fun x3 h3 qx3 => ?_)
    obtain ⟨G3, S3, ax3, bx3, fx3_0⟩ := qx3
    have R3 := R2.call S3 (by decide +kernel)
    refine z_if_ne (M := M_X12_joined) 18 dX12_joined_18 24 rfl (fun c4 => ?_) (fun c4 => ?_)
    · have ln7 := fx1_0 (by omega)
      have ln15 := fx3_0 (by omega)
      refine z_aload_n (M := M_X12_joined) 24 dX12_joined_24 rfl ?_
      refine z_vV (M := M_X12_joined) 25 dX12_joined_25 t_X12_findGroups l_X12_484 (m_rr_of rfl) (rest := []) (c_X12_findGroups h3 G3 (NP.call hN R3 (fun _ => rfl) (fun _ => rfl) (fun _ => rfl))) o_108 rfl rfl rfl (Nat.le_of_ble_eq_true rfl) ⟨rfl, rfl⟩ (fun h4 qx5 => ?_)
      obtain ⟨G4, S4⟩ := qx5
      have R4 := R3.call S4 (by decide +kernel)
      refine z_aload_n (M := M_X12_joined) 28 dX12_joined_28 rfl ?_
      refine z_getR (M := M_X12_joined) 29 dX12_joined_29 f_X12_124 o_108 rfl (g_108_56 G4) ?_
      refine z_iload_n (M := M_X12_joined) 32 dX12_joined_32 rfl ?_
      refine z_ialdG (M := M_X12_joined) 33 dX12_joined_33 o_145 (by omega) (by omega) (g_145 G4 (by omega)) (fun x6 ex6 ax6 bx6 => ?_)
      refine z_aload_n (M := M_X12_joined) 34 dX12_joined_34 rfl ?_
      refine z_getR (M := M_X12_joined) 35 dX12_joined_35 f_X12_124 o_108 rfl (g_108_56 G4) ?_
      refine z_iload_n (M := M_X12_joined) 38 dX12_joined_38 rfl ?_
      refine z_ialdG (M := M_X12_joined) 39 dX12_joined_39 o_145 (by omega) (by omega) (g_145 G4 (by omega)) (fun x7 ex7 ax7 bx7 => ?_)
      refine z_icmp_ne (M := M_X12_joined) 40 dX12_joined_40 47 rfl (fun c8 => ?_) (fun c8 => ?_)
      · refine z_iconst (M := M_X12_joined) 47 dX12_joined_47 ?_
        exact z_retI (M := M_X12_joined) 48 dX12_joined_48 rfl ⟨G4, R4, by omega, by omega⟩
      · refine z_iconst (M := M_X12_joined) 43 dX12_joined_43 ?_
        refine z_goto (M := M_X12_joined) 44 dX12_joined_44 48 rfl ?_
        exact z_retI (M := M_X12_joined) 48 dX12_joined_48 rfl ⟨G4, R4, by omega, by omega⟩
    · refine z_bipush (M := M_X12_joined) 21 dX12_joined_21 ?_
      exact z_retI (M := M_X12_joined) 23 dX12_joined_23 rfl ⟨G3, R3, by omega, by omega⟩
abbrev P_X12_groups (h0 : m_H) (a1 : Int) : Int → m_H → Prop := fun x h' => GI h' ∧ FR [117, 118, 119, 120, 121, 122, 123, 145] [(108, 0), (108, 21)] h0 h'
def q_X12_groups (h0 : m_H) (a1 : Int) (n : Nat) : Prop := (∀ (l2 l3 l4 : Int) (h : m_H), GI h → FR [117, 118, 119, 120, 121, 122, 123, 145] [(108, 0), (108, 21)] h0 h → 0 ≤ l3 → l3 ≤ 2147483647 → 0 ≤ l4 → l4 ≤ 16 → 0 ≤ a1 → a1 ≤ 2 → 37 * (16 - l4) + (36) ≤ (n : Int) → m_Z oF M_X12_groups 30 [some (mR 108), some (mI a1), some (mI l2), some (mI l3), some (mI l4), none, none] [] h (m_QI (P_X12_groups h0 a1))) ∧ (∀ (l2 l3 l4 l5 l6 : Int) (h : m_H), GI h → FR [117, 118, 119, 120, 121, 122, 123, 145] [(108, 0), (108, 21)] h0 h → 0 ≤ l3 → l3 ≤ 2147483647 → 0 ≤ l4 → l4 ≤ 15 → 0 ≤ l6 → l6 ≤ 16 → 0 ≤ a1 → a1 ≤ 2 → 37 * (16 - l4) + 2 * (16 - l6) + (1) ≤ (n : Int) → m_Z oF M_X12_groups 43 [some (mR 108), some (mI a1), some (mI l2), some (mI l3), some (mI l4), some (mI l5), some (mI l6)] [] h (m_QI (P_X12_groups h0 a1)))
set_option maxHeartbeats 4000000 in
set_option maxRecDepth 100000 in
theorem s_X12_groups_30 (h0 : m_H) (a1 : Int) (G0 : GI h0) (hN : NP h0) (n : Nat) (ih : q_X12_groups h0 a1 n) : ∀ (l2 l3 l4 : Int) (h : m_H), GI h → FR [117, 118, 119, 120, 121, 122, 123, 145] [(108, 0), (108, 21)] h0 h → 0 ≤ l3 → l3 ≤ 2147483647 → 0 ≤ l4 → l4 ≤ 16 → 0 ≤ a1 → a1 ≤ 2 → 37 * (16 - l4) + (36) ≤ ((n + 1 : Nat) : Int) → m_Z oF M_X12_groups 30 [some (mR 108), some (mI a1), some (mI l2), some (mI l3), some (mI l4), none, none] [] h (m_QI (P_X12_groups h0 a1)) := by
  intro l2 l3 l4 h G R v0 v1 v2 v3 v4 v5 hr
  refine z_ok (fun ostk _ olocs => ?_)
  have ol2 : m_32 l2 := olocs 2 _ rfl
  unfold m_32 at ol2
  refine z_iload (M := M_X12_groups) 30 dX12_groups_30 rfl ?_
  refine z_bipush (M := M_X12_groups) 32 dX12_groups_32 ?_
  refine z_icmp_ge (M := M_X12_groups) 34 dX12_groups_34 119 rfl (fun c1 => ?_) (fun c1 => ?_)
  · refine z_iload_n (M := M_X12_groups) 119 dX12_groups_119 rfl ?_
    refine z_if_ne (M := M_X12_groups) 120 dX12_groups_120 127 rfl (fun c2 => ?_) (fun c2 => ?_)
    · refine z_iload_n (M := M_X12_groups) 127 dX12_groups_127 rfl ?_
      refine z_iconst (M := M_X12_groups) 128 dX12_groups_128 ?_
      refine z_icmp_ne (M := M_X12_groups) 129 dX12_groups_129 138 rfl (fun c3 => ?_) (fun c3 => ?_)
      · refine z_iload_n (M := M_X12_groups) 138 dX12_groups_138 rfl ?_
        exact z_retI (M := M_X12_groups) 139 dX12_groups_139 rfl ⟨G, R⟩
      · refine z_iload_n (M := M_X12_groups) 132 dX12_groups_132 rfl ?_
        refine z_iconst (M := M_X12_groups) 133 dX12_groups_133 ?_
        refine z_isub (M := M_X12_groups) 134 dX12_groups_134 ?_
        refine z_topm (fun x4 ex4 ox4 => ?_)
        unfold m_32 at ox4
        refine z_goto (M := M_X12_groups) 135 dX12_groups_135 139 rfl ?_
        exact z_retI (M := M_X12_groups) 139 dX12_groups_139 rfl ⟨G, R⟩
    · refine z_iload_n (M := M_X12_groups) 123 dX12_groups_123 rfl ?_
      refine z_goto (M := M_X12_groups) 124 dX12_groups_124 139 rfl ?_
      exact z_retI (M := M_X12_groups) 139 dX12_groups_139 rfl ⟨G, R⟩
  · refine z_iconst (M := M_X12_groups) 37 dX12_groups_37 ?_
    refine z_istore (M := M_X12_groups) 38 dX12_groups_38 (ls' := [some (mR 108), some (mI a1), some (mI l2), some (mI l3), some (mI l4), some (mI 0), none]) (by decide) rfl ?_
    refine z_iconst (M := M_X12_groups) 40 dX12_groups_40 ?_
    refine z_istore (M := M_X12_groups) 41 dX12_groups_41 (ls' := [some (mR 108), some (mI a1), some (mI l2), some (mI l3), some (mI l4), some (mI 0), some (mI 0)]) (by decide) rfl ?_
    exact z_mask [true, true, true, true, true, true, true] rfl (ih.2 l2 l3 l4 0 0 h G R (by omega) (by omega) (by omega) (by omega) (by omega) (by omega) (by omega) (by omega) (by omega))
set_option maxHeartbeats 4000000 in
set_option maxRecDepth 100000 in
theorem s_X12_groups_43 (h0 : m_H) (a1 : Int) (G0 : GI h0) (hN : NP h0) (n : Nat) (ih : q_X12_groups h0 a1 n) : ∀ (l2 l3 l4 l5 l6 : Int) (h : m_H), GI h → FR [117, 118, 119, 120, 121, 122, 123, 145] [(108, 0), (108, 21)] h0 h → 0 ≤ l3 → l3 ≤ 2147483647 → 0 ≤ l4 → l4 ≤ 15 → 0 ≤ l6 → l6 ≤ 16 → 0 ≤ a1 → a1 ≤ 2 → 37 * (16 - l4) + 2 * (16 - l6) + (1) ≤ ((n + 1 : Nat) : Int) → m_Z oF M_X12_groups 43 [some (mR 108), some (mI a1), some (mI l2), some (mI l3), some (mI l4), some (mI l5), some (mI l6)] [] h (m_QI (P_X12_groups h0 a1)) := by
  intro l2 l3 l4 l5 l6 h G R v0 v1 v2 v3 v4 v5 v6 v7 hr
  refine z_ok (fun ostk _ olocs => ?_)
  have ol2 : m_32 l2 := olocs 2 _ rfl
  unfold m_32 at ol2
  have ol5 : m_32 l5 := olocs 5 _ rfl
  unfold m_32 at ol5
  refine z_iload (M := M_X12_groups) 43 dX12_groups_43 rfl ?_
  refine z_bipush (M := M_X12_groups) 45 dX12_groups_45 ?_
  refine z_icmp_ge (M := M_X12_groups) 47 dX12_groups_47 87 rfl (fun c1 => ?_) (fun c1 => ?_)
  · refine z_iload_n (M := M_X12_groups) 87 dX12_groups_87 rfl ?_
    refine z_iload (M := M_X12_groups) 88 dX12_groups_88 rfl ?_
    refine z_if_le (M := M_X12_groups) 90 dX12_groups_90 97 rfl (fun c2 => ?_) (fun c2 => ?_)
    · refine z_iconst (M := M_X12_groups) 97 dX12_groups_97 ?_
      refine z_iaddN (M := M_X12_groups) 98 dX12_groups_98 (by omega) (by omega) ?_
      refine z_istore_n (M := M_X12_groups) 99 dX12_groups_99 (ls' := [some (mR 108), some (mI a1), some (mI (l2 + 0)), some (mI l3), some (mI l4), some (mI l5), some (mI l6)]) (by decide) rfl ?_
      refine z_iload (M := M_X12_groups) 100 dX12_groups_100 rfl ?_
      refine z_iload_n (M := M_X12_groups) 102 dX12_groups_102 rfl ?_
      refine z_icmp_le_T (M := M_X12_groups) 103 dX12_groups_103 111 rfl (by omega) ?_
      refine z_iload_n (M := M_X12_groups) 111 dX12_groups_111 rfl ?_
      refine z_istore_n (M := M_X12_groups) 112 dX12_groups_112 (ls' := [some (mR 108), some (mI a1), some (mI (l2 + 0)), some (mI l3), some (mI l4), some (mI l5), some (mI l6)]) (by decide) rfl ?_
      refine z_iincN (M := M_X12_groups) 113 dX12_groups_113 (ls' := [some (mR 108), some (mI a1), some (mI (l2 + 0)), some (mI l3), some (mI (l4 + 1)), some (mI l5), some (mI l6)]) (by decide) rfl (by (unfold m_32; decide)) (by omega) (by omega) rfl ?_
      refine z_goto (M := M_X12_groups) 116 dX12_groups_116 30 rfl ?_
      exact z_mask [true, true, true, true, true, false, false] rfl (ih.1 (l2 + 0) l3 (l4 + 1) h G R (by omega) (by omega) (by omega) (by omega) (by omega) (by omega) (by omega))
    · refine z_iconst (M := M_X12_groups) 93 dX12_groups_93 ?_
      refine z_goto (M := M_X12_groups) 94 dX12_groups_94 98 rfl ?_
      refine z_iadd (M := M_X12_groups) 98 dX12_groups_98 ?_
      refine z_topm (fun x3 ex3 ox3 => ?_)
      unfold m_32 at ox3
      refine z_istore_n (M := M_X12_groups) 99 dX12_groups_99 (ls' := [some (mR 108), some (mI a1), some (mI x3), some (mI l3), some (mI l4), some (mI l5), some (mI l6)]) (by decide) rfl ?_
      refine z_iload (M := M_X12_groups) 100 dX12_groups_100 rfl ?_
      refine z_iload_n (M := M_X12_groups) 102 dX12_groups_102 rfl ?_
      refine z_icmp_le (M := M_X12_groups) 103 dX12_groups_103 111 rfl (fun c4 => ?_) (fun c4 => ?_)
      · refine z_iload_n (M := M_X12_groups) 111 dX12_groups_111 rfl ?_
        refine z_istore_n (M := M_X12_groups) 112 dX12_groups_112 (ls' := [some (mR 108), some (mI a1), some (mI x3), some (mI l3), some (mI l4), some (mI l5), some (mI l6)]) (by decide) rfl ?_
        refine z_iincN (M := M_X12_groups) 113 dX12_groups_113 (ls' := [some (mR 108), some (mI a1), some (mI x3), some (mI l3), some (mI (l4 + 1)), some (mI l5), some (mI l6)]) (by decide) rfl (by (unfold m_32; decide)) (by omega) (by omega) rfl ?_
        refine z_goto (M := M_X12_groups) 116 dX12_groups_116 30 rfl ?_
        exact z_mask [true, true, true, true, true, false, false] rfl (ih.1 x3 l3 (l4 + 1) h G R (by omega) (by omega) (by omega) (by omega) (by omega) (by omega) (by omega))
      · refine z_iload (M := M_X12_groups) 106 dX12_groups_106 rfl ?_
        refine z_goto (M := M_X12_groups) 108 dX12_groups_108 112 rfl ?_
        refine z_istore_n (M := M_X12_groups) 112 dX12_groups_112 (ls' := [some (mR 108), some (mI a1), some (mI x3), some (mI l5), some (mI l4), some (mI l5), some (mI l6)]) (by decide) rfl ?_
        refine z_iincN (M := M_X12_groups) 113 dX12_groups_113 (ls' := [some (mR 108), some (mI a1), some (mI x3), some (mI l5), some (mI (l4 + 1)), some (mI l5), some (mI l6)]) (by decide) rfl (by (unfold m_32; decide)) (by omega) (by omega) rfl ?_
        refine z_goto (M := M_X12_groups) 116 dX12_groups_116 30 rfl ?_
        exact z_mask [true, true, true, true, true, false, false] rfl (ih.1 x3 l5 (l4 + 1) h G R (by omega) (by omega) (by omega) (by omega) (by omega) (by omega) (by omega))
  · refine z_iload (M := M_X12_groups) 50 dX12_groups_50 rfl ?_
    refine z_aload_n (M := M_X12_groups) 52 dX12_groups_52 rfl ?_
    refine z_iload (M := M_X12_groups) 53 dX12_groups_53 rfl ?_
    refine z_vI (M := M_X12_groups) 55 dX12_groups_55 t_X12_isLength l_X12_391 (m_rr_of rfl) (rest := [mI l5]) (c_X12_isLengthX h l6 G) o_108 rfl rfl rfl (Nat.le_of_ble_eq_true rfl) ⟨rfl, rfl⟩ (fun x5 h1 qx5 => ?_)
    obtain ⟨G1, S1, ax5, bx5, fx5_0⟩ := qx5
    have R1 := R.call S1 (by decide +kernel)
    refine z_if_eq (M := M_X12_groups) 58 dX12_groups_58 77 rfl (fun c6 => ?_) (fun c6 => ?_)
    · refine z_iconst (M := M_X12_groups) 77 dX12_groups_77 ?_
      refine z_iaddN (M := M_X12_groups) 78 dX12_groups_78 (by omega) (by omega) ?_
      refine z_istore (M := M_X12_groups) 79 dX12_groups_79 (ls' := [some (mR 108), some (mI a1), some (mI l2), some (mI l3), some (mI l4), some (mI (l5 + 0)), some (mI l6)]) (by decide) rfl ?_
      refine z_iincN (M := M_X12_groups) 81 dX12_groups_81 (ls' := [some (mR 108), some (mI a1), some (mI l2), some (mI l3), some (mI l4), some (mI (l5 + 0)), some (mI (l6 + 1))]) (by decide) rfl (by (unfold m_32; decide)) (by omega) (by omega) rfl ?_
      refine z_goto (M := M_X12_groups) 84 dX12_groups_84 43 rfl ?_
      exact z_mask [true, true, true, true, true, true, true] rfl (ih.2 l2 l3 l4 (l5 + 0) (l6 + 1) h1 G1 R1 (by omega) (by omega) (by omega) (by omega) (by omega) (by omega) (by omega) (by omega) (by omega))
    · refine z_aload_n (M := M_X12_groups) 61 dX12_groups_61 rfl ?_
      refine z_getR (M := M_X12_groups) 62 dX12_groups_62 f_X12_124 o_108 rfl (g_108_56 G1) ?_
      refine z_iload (M := M_X12_groups) 65 dX12_groups_65 rfl ?_
      refine z_ialdG (M := M_X12_groups) 67 dX12_groups_67 o_145 (by omega) (by omega) (g_145 G1 (by omega)) (fun x7 ex7 ax7 bx7 => ?_)
      refine z_iload (M := M_X12_groups) 68 dX12_groups_68 rfl ?_
      refine z_icmp_ne (M := M_X12_groups) 70 dX12_groups_70 77 rfl (fun c8 => ?_) (fun c8 => ?_)
      · refine z_iconst (M := M_X12_groups) 77 dX12_groups_77 ?_
        refine z_iaddN (M := M_X12_groups) 78 dX12_groups_78 (by omega) (by omega) ?_
        refine z_istore (M := M_X12_groups) 79 dX12_groups_79 (ls' := [some (mR 108), some (mI a1), some (mI l2), some (mI l3), some (mI l4), some (mI (l5 + 0)), some (mI l6)]) (by decide) rfl ?_
        refine z_iincN (M := M_X12_groups) 81 dX12_groups_81 (ls' := [some (mR 108), some (mI a1), some (mI l2), some (mI l3), some (mI l4), some (mI (l5 + 0)), some (mI (l6 + 1))]) (by decide) rfl (by (unfold m_32; decide)) (by omega) (by omega) rfl ?_
        refine z_goto (M := M_X12_groups) 84 dX12_groups_84 43 rfl ?_
        exact z_mask [true, true, true, true, true, true, true] rfl (ih.2 l2 l3 l4 (l5 + 0) (l6 + 1) h1 G1 R1 (by omega) (by omega) (by omega) (by omega) (by omega) (by omega) (by omega) (by omega) (by omega))
      · refine z_iconst (M := M_X12_groups) 73 dX12_groups_73 ?_
        refine z_goto (M := M_X12_groups) 74 dX12_groups_74 78 rfl ?_
        refine z_iadd (M := M_X12_groups) 78 dX12_groups_78 ?_
        refine z_topm (fun x9 ex9 ox9 => ?_)
        unfold m_32 at ox9
        refine z_istore (M := M_X12_groups) 79 dX12_groups_79 (ls' := [some (mR 108), some (mI a1), some (mI l2), some (mI l3), some (mI l4), some (mI x9), some (mI l6)]) (by decide) rfl ?_
        refine z_iincN (M := M_X12_groups) 81 dX12_groups_81 (ls' := [some (mR 108), some (mI a1), some (mI l2), some (mI l3), some (mI l4), some (mI x9), some (mI (l6 + 1))]) (by decide) rfl (by (unfold m_32; decide)) (by omega) (by omega) rfl ?_
        refine z_goto (M := M_X12_groups) 84 dX12_groups_84 43 rfl ?_
        exact z_mask [true, true, true, true, true, true, true] rfl (ih.2 l2 l3 l4 x9 (l6 + 1) h1 G1 R1 (by omega) (by omega) (by omega) (by omega) (by omega) (by omega) (by omega) (by omega) (by omega))
theorem a_X12_groups (h0 : m_H) (a1 : Int) (G0 : GI h0) (hN : NP h0) : ∀ n, q_X12_groups h0 a1 n := by
  intro n
  induction n with
  | zero => unfold q_X12_groups; refine ⟨?_, ?_⟩ <;> (intros; omega)
  | succ n ih => exact ⟨s_X12_groups_30 h0 a1 G0 hN n ih, s_X12_groups_43 h0 a1 G0 hN n ih⟩
set_option maxHeartbeats 4000000 in
set_option maxRecDepth 100000 in
theorem c_X12_groups (h0 : m_H) (a1 : Int) (G0 : GI h0) (hN : NP h0) : m_CI M_X12_groups [mR 108, mI a1] h0 (P_X12_groups h0 a1) := by
  refine m_CI_of ⟨by decide, rfl, by simp [m_arg, m_isL, M_X12_groups], ⟨rfl, rfl⟩, rfl, rfl⟩ (ls := [some (mR 108), some (mI a1), none, none, none, none, none]) rfl ?_
  have ih := a_X12_groups h0 a1 G0 hN 635
  refine z_ok (fun _ _ ok => ?_)
  have oa1 : m_32 a1 := ok 1 _ rfl
  unfold m_32 at oa1
  refine z_aload_n (M := M_X12_groups) 0 dX12_groups_0 rfl ?_
  refine z_iconst (M := M_X12_groups) 1 dX12_groups_1 ?_
  refine z_putIH (M := M_X12_groups) 2 dX12_groups_2 p_X12_133 o_108 rfl (u_108_0 G0) ((FR.rf (cs := [117, 118, 119, 120, 121, 122, 123, 145]) (ss := [(108, 0), (108, 21)]) (h := h0)).up rfl) (fun h1 E1 G1 R1 => ?_)
  refine z_iload_n (M := M_X12_groups) 5 dX12_groups_5 rfl ?_
  refine z_i2l (M := M_X12_groups) 6 dX12_groups_6 ?_
  refine z_lconst (M := M_X12_groups) 7 dX12_groups_7 (v := 0) ?_
  refine z_ldc2 (M := M_X12_groups) 8 dX12_groups_8 k_X12_182 ?_
  refine z_sI (M := M_X12_groups) 11 dX12_groups_11 t_X12_in l_X12_143 (m_rr_of rfl) (rest := []) (c_X12_in h1 a1 0 2 G1) rfl rfl (Nat.le_of_ble_eq_true rfl) ⟨rfl, rfl⟩ (fun x1 h2 qx1 => ?_)
  obtain ⟨rfl, ⟨rfl, cx1⟩ | ⟨rfl, cx1⟩⟩ := qx1
  · refine z_if_ne_T (M := M_X12_groups) 14 dX12_groups_14 19 rfl (by omega) ?_
    refine z_aload_n (M := M_X12_groups) 19 dX12_groups_19 rfl ?_
    refine z_vV (M := M_X12_groups) 20 dX12_groups_20 t_X12_findGroups l_X12_484 (m_rr_of rfl) (rest := []) (c_X12_findGroups h1 G1 (NP.call hN R1 (fun _ => rfl) (fun _ => rfl) (fun _ => rfl))) o_108 rfl rfl rfl (Nat.le_of_ble_eq_true rfl) ⟨rfl, rfl⟩ (fun h3 qx2 => ?_)
    obtain ⟨G3, S3⟩ := qx2
    have R3 := R1.call S3 (by decide +kernel)
    refine z_iconst (M := M_X12_groups) 23 dX12_groups_23 ?_
    refine z_istore_n (M := M_X12_groups) 24 dX12_groups_24 (ls' := [some (mR 108), some (mI a1), some (mI 0), none, none, none, none]) (by decide) rfl ?_
    refine z_iconst (M := M_X12_groups) 25 dX12_groups_25 ?_
    refine z_istore_n (M := M_X12_groups) 26 dX12_groups_26 (ls' := [some (mR 108), some (mI a1), some (mI 0), some (mI 0), none, none, none]) (by decide) rfl ?_
    refine z_iconst (M := M_X12_groups) 27 dX12_groups_27 ?_
    refine z_istore (M := M_X12_groups) 28 dX12_groups_28 (ls' := [some (mR 108), some (mI a1), some (mI 0), some (mI 0), some (mI 0), none, none]) (by decide) rfl ?_
    exact z_mask [true, true, true, true, true, false, false] rfl (ih.1 0 0 0 h3 G3 R3 (by omega) (by omega) (by omega) (by omega) (by omega) (by omega) (by omega))
  · refine z_if_ne_F (M := M_X12_groups) 14 dX12_groups_14 19 rfl (by omega) ?_
    refine z_iconst (M := M_X12_groups) 17 dX12_groups_17 ?_
    exact z_retI (M := M_X12_groups) 18 dX12_groups_18 rfl ⟨G1, R1⟩
abbrev P_X12_core (h0 : m_H) : Int → m_H → Prop := fun x h' => GI h' ∧ FR [115, 116, 117, 118, 119, 120, 121, 122, 123, 124, 125, 126, 127, 128, 129, 130, 131, 132, 133, 134] [(108, 0), (108, 21)] h0 h'
def q_X12_core (h0 : m_H) (n : Nat) : Prop := (∀ (l1 l2 : Int) (h : m_H), GI h → FR [115, 116, 117, 118, 119, 120, 121, 122, 123, 124, 125, 126, 127, 128, 129, 130, 131, 132, 133, 134] [(108, 0), (108, 21)] h0 h → 0 ≤ l2 → l2 ≤ 24 → 2 * (24 - l2) + (1) ≤ (n : Int) → m_Z oF M_X12_core 36 [some (mR 108), some (mI l1), some (mI l2)] [] h (m_QI (P_X12_core h0)))
set_option maxHeartbeats 4000000 in
set_option maxRecDepth 100000 in
theorem s_X12_core_36 (h0 : m_H) (G0 : GI h0) (hN : NP h0) (n : Nat) (ih : q_X12_core h0 n) : ∀ (l1 l2 : Int) (h : m_H), GI h → FR [115, 116, 117, 118, 119, 120, 121, 122, 123, 124, 125, 126, 127, 128, 129, 130, 131, 132, 133, 134] [(108, 0), (108, 21)] h0 h → 0 ≤ l2 → l2 ≤ 24 → 2 * (24 - l2) + (1) ≤ ((n + 1 : Nat) : Int) → m_Z oF M_X12_core 36 [some (mR 108), some (mI l1), some (mI l2)] [] h (m_QI (P_X12_core h0)) := by
  intro l1 l2 h G R v0 v1 hr
  refine z_ok (fun ostk _ olocs => ?_)
  have ol1 : m_32 l1 := olocs 1 _ rfl
  unfold m_32 at ol1
  refine z_iload_n (M := M_X12_core) 36 dX12_core_36 rfl ?_
  refine z_aload_n (M := M_X12_core) 37 dX12_core_37 rfl ?_
  refine z_getR (M := M_X12_core) 38 dX12_core_38 f_X12_13 o_108 rfl (g_108_3 G) ?_
  refine z_iconst (M := M_X12_core) 41 dX12_core_41 ?_
  refine z_ialdG (M := M_X12_core) 42 dX12_core_42 o_110 (by omega) (by omega) (gw_0 G) (fun x1 ex1 ax1 bx1 => ?_)
  refine z_icmp_ge (M := M_X12_core) 43 dX12_core_43 82 rfl (fun c2 => ?_) (fun c2 => ?_)
  · refine z_iload_n (M := M_X12_core) 82 dX12_core_82 rfl ?_
    exact z_retI (M := M_X12_core) 83 dX12_core_83 rfl ⟨G, R⟩
  · refine z_iload_n (M := M_X12_core) 46 dX12_core_46 rfl ?_
    refine z_iload_n (M := M_X12_core) 47 dX12_core_47 rfl ?_
    refine z_sI (M := M_X12_core) 48 dX12_core_48 t_X12_is l_X12_336 (m_rr_of rfl) (rest := []) (c_X12_is h l1 l2 G) rfl rfl (Nat.le_of_ble_eq_true rfl) ⟨rfl, rfl⟩ (fun x3 h1 qx3 => ?_)
    obtain ⟨rfl, ⟨rfl, cx3⟩ | ⟨rfl, cx3⟩⟩ := qx3
    · refine z_if_eq_F (M := M_X12_core) 51 dX12_core_51 76 rfl (by omega) ?_
      refine z_aload_n (M := M_X12_core) 54 dX12_core_54 rfl ?_
      refine z_iload_n (M := M_X12_core) 55 dX12_core_55 rfl ?_
      refine z_iconst (M := M_X12_core) 56 dX12_core_56 ?_
      refine z_iload_n (M := M_X12_core) 57 dX12_core_57 rfl ?_
      refine z_ishl (M := M_X12_core) 58 dX12_core_58 ?_
      refine z_topm (fun x4 ex4 ox4 => ?_)
      unfold m_32 at ox4
      refine z_iconst (M := M_X12_core) 59 dX12_core_59 ?_
      refine z_ixor (M := M_X12_core) 60 dX12_core_60 ?_
      refine z_topm (fun x5 ex5 ox5 => ?_)
      unfold m_32 at ox5
      refine z_iand (M := M_X12_core) 61 dX12_core_61 ?_
      refine z_topm (fun x6 ex6 ox6 => ?_)
      unfold m_32 at ox6
      refine z_vI (M := M_X12_core) 62 dX12_core_62 t_X12_canBe l_X12_374 (m_rr_of rfl) (rest := []) (c_X12_canBe h x6 G (NP.call hN R (fun _ => rfl) (fun _ => rfl) (fun _ => rfl))) o_108 rfl rfl rfl (Nat.le_of_ble_eq_true rfl) ⟨rfl, rfl⟩ (fun x7 h2 qx7 => ?_)
      obtain ⟨G2, S2, ax7, bx7, fx7_0⟩ := qx7
      have R2 := R.call S2 (by decide +kernel)
      refine z_if_ne (M := M_X12_core) 65 dX12_core_65 76 rfl (fun c8 => ?_) (fun c8 => ?_)
      · refine z_iincN (M := M_X12_core) 76 dX12_core_76 (ls' := [some (mR 108), some (mI l1), some (mI (l2 + 1))]) (by decide) rfl (by (unfold m_32; decide)) (by omega) (by omega) rfl ?_
        refine z_goto (M := M_X12_core) 79 dX12_core_79 36 rfl ?_
        exact z_mask [true, true, true] rfl (ih l1 (l2 + 1) h2 G2 R2 (by omega) (by omega) (by omega))
      · refine z_iload_n (M := M_X12_core) 68 dX12_core_68 rfl ?_
        refine z_iconst (M := M_X12_core) 69 dX12_core_69 ?_
        refine z_iload_n (M := M_X12_core) 70 dX12_core_70 rfl ?_
        refine z_ishl (M := M_X12_core) 71 dX12_core_71 ?_
        refine z_topm (fun x9 ex9 ox9 => ?_)
        unfold m_32 at ox9
        refine z_iconst (M := M_X12_core) 72 dX12_core_72 ?_
        refine z_ixor (M := M_X12_core) 73 dX12_core_73 ?_
        refine z_topm (fun x10 ex10 ox10 => ?_)
        unfold m_32 at ox10
        refine z_iand (M := M_X12_core) 74 dX12_core_74 ?_
        refine z_topm (fun x11 ex11 ox11 => ?_)
        unfold m_32 at ox11
        refine z_istore_n (M := M_X12_core) 75 dX12_core_75 (ls' := [some (mR 108), some (mI x11), some (mI l2)]) (by decide) rfl ?_
        refine z_iincN (M := M_X12_core) 76 dX12_core_76 (ls' := [some (mR 108), some (mI x11), some (mI (l2 + 1))]) (by decide) rfl (by (unfold m_32; decide)) (by omega) (by omega) rfl ?_
        refine z_goto (M := M_X12_core) 79 dX12_core_79 36 rfl ?_
        exact z_mask [true, true, true] rfl (ih x11 (l2 + 1) h2 G2 R2 (by omega) (by omega) (by omega))
    · refine z_if_eq_T (M := M_X12_core) 51 dX12_core_51 76 rfl (by omega) ?_
      refine z_iincN (M := M_X12_core) 76 dX12_core_76 (ls' := [some (mR 108), some (mI l1), some (mI (l2 + 1))]) (by decide) rfl (by (unfold m_32; decide)) (by omega) (by omega) rfl ?_
      refine z_goto (M := M_X12_core) 79 dX12_core_79 36 rfl ?_
      exact z_mask [true, true, true] rfl (ih l1 (l2 + 1) h G R (by omega) (by omega) (by omega))
theorem a_X12_core (h0 : m_H) (G0 : GI h0) (hN : NP h0) : ∀ n, q_X12_core h0 n := by
  intro n
  induction n with
  | zero => unfold q_X12_core; intros; omega
  | succ n ih => exact s_X12_core_36 h0 G0 hN n ih
set_option maxHeartbeats 4000000 in
set_option maxRecDepth 100000 in
theorem c_X12_core (h0 : m_H) (G0 : GI h0) (hN : NP h0) : m_CI M_X12_core [mR 108] h0 (P_X12_core h0) := by
  refine m_CI_of ⟨by decide, rfl, by simp [m_arg, m_isL, M_X12_core], ⟨rfl, rfl⟩, rfl, rfl⟩ (ls := [some (mR 108), none, none]) rfl ?_
  have ih := a_X12_core h0 G0 hN 56
  refine z_aload_n (M := M_X12_core) 0 dX12_core_0 rfl ?_
  refine z_iconst (M := M_X12_core) 1 dX12_core_1 ?_
  refine z_putIH (M := M_X12_core) 2 dX12_core_2 p_X12_133 o_108 rfl (u_108_0 G0) ((FR.rf (cs := [115, 116, 117, 118, 119, 120, 121, 122, 123, 124, 125, 126, 127, 128, 129, 130, 131, 132, 133, 134]) (ss := [(108, 0), (108, 21)]) (h := h0)).up rfl) (fun h1 E1 G1 R1 => ?_)
  refine z_aload_n (M := M_X12_core) 5 dX12_core_5 rfl ?_
  refine z_vV (M := M_X12_core) 6 dX12_core_6 t_X12_asIs l_X12_367 (m_rr_of rfl) (rest := []) (c_X12_asIsX h1 G1) o_108 rfl rfl rfl (Nat.le_of_ble_eq_true rfl) ⟨rfl, rfl⟩ (fun h2 qx1 => ?_)
  obtain ⟨G2, S2, fx1_0⟩ := qx1
  have R2 := R1.call S2 (by decide +kernel)
  refine z_aload_n (M := M_X12_core) 9 dX12_core_9 rfl ?_
  refine z_vI (M := M_X12_core) 10 dX12_core_10 t_X12_counting l_X12_370 (m_rr_of rfl) (rest := []) (c_X12_countingX h2 G2) o_108 rfl rfl rfl (Nat.le_of_ble_eq_true rfl) ⟨rfl, rfl⟩ (fun x2 h3 qx2 => ?_)
  obtain ⟨G3, S3, fx2_0⟩ := qx2
  have R3 := R2.call S3 (by decide +kernel)
  refine z_ok (fun ox2 _ _ => ?_)
  have ox2 := ox2.1; unfold m_ok m_32 at ox2
  refine z_istore_n (M := M_X12_core) 13 dX12_core_13 (ls' := [some (mR 108), some (mI x2), none]) (by decide) rfl ?_
  refine z_aload_n (M := M_X12_core) 14 dX12_core_14 rfl ?_
  refine z_iload_n (M := M_X12_core) 15 dX12_core_15 rfl ?_
  refine z_vI (M := M_X12_core) 16 dX12_core_16 t_X12_canBe l_X12_374 (m_rr_of rfl) (rest := []) (c_X12_canBe h3 x2 G3 (NP.call hN R3 (fun _ => rfl) (fun _ => rfl) (fun _ => rfl))) o_108 rfl rfl rfl (Nat.le_of_ble_eq_true rfl) ⟨rfl, rfl⟩ (fun x3 h4 qx3 => ?_)
  obtain ⟨G4, S4, ax3, bx3, fx3_0⟩ := qx3
  have R4 := R3.call S4 (by decide +kernel)
  refine z_if_eq (M := M_X12_core) 19 dX12_core_19 24 rfl (fun c4 => ?_) (fun c4 => ?_)
  · refine z_aload_n (M := M_X12_core) 24 dX12_core_24 rfl ?_
    refine z_iconst (M := M_X12_core) 25 dX12_core_25 ?_
    refine z_vI (M := M_X12_core) 26 dX12_core_26 t_X12_canBe l_X12_374 (m_rr_of rfl) (rest := []) (c_X12_canBe h4 0 G4 (NP.call hN R4 (fun _ => rfl) (fun _ => rfl) (fun _ => rfl))) o_108 rfl rfl rfl (Nat.le_of_ble_eq_true rfl) ⟨rfl, rfl⟩ (fun x5 h5 qx5 => ?_)
    obtain ⟨G5, S5, ax5, bx5, fx5_0⟩ := qx5
    have R5 := R4.call S5 (by decide +kernel)
    refine z_if_ne (M := M_X12_core) 29 dX12_core_29 34 rfl (fun c6 => ?_) (fun c6 => ?_)
    · refine z_iconst (M := M_X12_core) 34 dX12_core_34 ?_
      refine z_istore_n (M := M_X12_core) 35 dX12_core_35 (ls' := [some (mR 108), some (mI x2), some (mI 0)]) (by decide) rfl ?_
      exact z_mask [true, true, true] rfl (ih x2 0 h5 G5 R5 (by omega) (by omega) (by omega))
    · refine z_iconst (M := M_X12_core) 32 dX12_core_32 ?_
      exact z_retI (M := M_X12_core) 33 dX12_core_33 rfl ⟨G5, R5⟩
  · refine z_iconst (M := M_X12_core) 22 dX12_core_22 ?_
    exact z_retI (M := M_X12_core) 23 dX12_core_23 rfl ⟨G4, R4⟩
abbrev P_X12_wrong (h0 : m_H) (a1 : Int) : Int → m_H → Prop := fun x h' => GI h' ∧ FR [115, 116, 117, 118, 119, 120, 121, 122, 123, 124, 125, 126, 127, 128, 129, 130, 131, 132, 133, 134] [(108, 0), (108, 21)] h0 h'
def q_X12_wrong (h0 : m_H) (a1 : Int) (n : Nat) : Prop := (∀ (l2 l3 l4 : Int) (h : m_H), GI h → FR [115, 116, 117, 118, 119, 120, 121, 122, 123, 124, 125, 126, 127, 128, 129, 130, 131, 132, 133, 134] [(108, 0), (108, 21)] h0 h → 0 ≤ l3 → l3 ≤ 24 → 0 ≤ l4 → l4 ≤ 3 → 0 ≤ a1 → a1 ≤ 2 → 2478 * (3 - l4) + (2477) ≤ (n : Int) → m_Z oF M_X12_wrong 38 [some (mR 108), some (mI a1), some (mI l2), some (mI l3), some (mI l4), none, none, none, none, none, none] [] h (m_QI (P_X12_wrong h0 a1))) ∧ (∀ (l2 l3 l4 l5 l6 l7 : Int) (h : m_H), GI h → FR [115, 116, 117, 118, 119, 120, 121, 122, 123, 124, 125, 126, 127, 128, 129, 130, 131, 132, 133, 134] [(108, 0), (108, 21)] h0 h → 0 ≤ l3 → l3 ≤ 24 → 0 ≤ l4 → l4 ≤ 2 → 0 ≤ l7 → l7 ≤ 24 → 0 ≤ a1 → a1 ≤ 2 → 2478 * (3 - l4) + 99 * (24 - l7) + (98) ≤ (n : Int) → m_Z oF M_X12_wrong 53 [some (mR 108), some (mI a1), some (mI l2), some (mI l3), some (mI l4), some (mI l5), some (mI l6), some (mI l7), none, none, none] [] h (m_QI (P_X12_wrong h0 a1))) ∧ (∀ (l2 l3 l4 l5 l6 l7 l8 : Int) (h : m_H), GI h → FR [115, 116, 117, 118, 119, 120, 121, 122, 123, 124, 125, 126, 127, 128, 129, 130, 131, 132, 133, 134] [(108, 0), (108, 21)] h0 h → 0 ≤ l3 → l3 ≤ 24 → 0 ≤ l4 → l4 ≤ 2 → 0 ≤ l7 → l7 ≤ 23 → 0 ≤ l8 → l8 ≤ 23 → 0 ≤ a1 → a1 ≤ 2 → 2478 * (3 - l4) + 99 * (24 - l7) + 4 * (23 - l8) + (3) ≤ (n : Int) → m_Z oF M_X12_wrong 71 [some (mR 108), some (mI a1), some (mI l2), some (mI l3), some (mI l4), some (mI l5), some (mI l6), some (mI l7), some (mI l8), none, none] [] h (m_QI (P_X12_wrong h0 a1))) ∧ (∀ (l2 l3 l4 l5 l6 l7 l8 l10 : Int) (h : m_H), GI h → FR [115, 116, 117, 118, 119, 120, 121, 122, 123, 124, 125, 126, 127, 128, 129, 130, 131, 132, 133, 134] [(108, 0), (108, 21)] h0 h → 0 ≤ l3 → l3 ≤ 24 → 0 ≤ l4 → l4 ≤ 2 → 0 ≤ l7 → l7 ≤ 23 → 0 ≤ l8 → l8 ≤ 22 → 0 ≤ l10 → l10 ≤ 1 → 0 ≤ a1 → a1 ≤ 2 → 2478 * (3 - l4) + 99 * (24 - l7) + 4 * (23 - l8) + (2) ≤ (n : Int) → m_Z oF M_X12_wrong 165 [some (mR 108), some (mI a1), some (mI l2), some (mI l3), some (mI l4), some (mI l5), some (mI l6), some (mI l7), some (mI l8), none, some (mI l10)] [] h (m_QI (P_X12_wrong h0 a1))) ∧ (∀ (l2 l3 l4 l6 l7 l8 k0 k1 : Int) (h : m_H), GI h → FR [115, 116, 117, 118, 119, 120, 121, 122, 123, 124, 125, 126, 127, 128, 129, 130, 131, 132, 133, 134] [(108, 0), (108, 21)] h0 h → 0 ≤ l3 → l3 ≤ 24 → 0 ≤ l4 → l4 ≤ 2 → 0 ≤ l7 → l7 ≤ 23 → 0 ≤ l8 → l8 ≤ 22 → 0 ≤ k1 → k1 ≤ 1 → 0 ≤ a1 → a1 ≤ 2 → 2478 * (3 - l4) + 99 * (24 - l7) + 4 * (23 - l8) + (1) ≤ (n : Int) → m_Z oF M_X12_wrong 181 [some (mR 108), some (mI a1), some (mI l2), some (mI l3), some (mI l4), none, some (mI l6), some (mI l7), some (mI l8), none, none] [mI k1, mI k0] h (m_QI (P_X12_wrong h0 a1)))
set_option maxHeartbeats 4000000 in
set_option maxRecDepth 100000 in
theorem s_X12_wrong_38 (h0 : m_H) (a1 : Int) (G0 : GI h0) (hN : NP h0) (n : Nat) (ih : q_X12_wrong h0 a1 n) : ∀ (l2 l3 l4 : Int) (h : m_H), GI h → FR [115, 116, 117, 118, 119, 120, 121, 122, 123, 124, 125, 126, 127, 128, 129, 130, 131, 132, 133, 134] [(108, 0), (108, 21)] h0 h → 0 ≤ l3 → l3 ≤ 24 → 0 ≤ l4 → l4 ≤ 3 → 0 ≤ a1 → a1 ≤ 2 → 2478 * (3 - l4) + (2477) ≤ ((n + 1 : Nat) : Int) → m_Z oF M_X12_wrong 38 [some (mR 108), some (mI a1), some (mI l2), some (mI l3), some (mI l4), none, none, none, none, none, none] [] h (m_QI (P_X12_wrong h0 a1)) := by
  intro l2 l3 l4 h G R v0 v1 v2 v3 v4 v5 hr
  refine z_ok (fun ostk _ olocs => ?_)
  have ol2 : m_32 l2 := olocs 2 _ rfl
  unfold m_32 at ol2
  refine z_iload (M := M_X12_wrong) 38 dX12_wrong_38 rfl ?_
  refine z_iconst (M := M_X12_wrong) 40 dX12_wrong_40 ?_
  refine z_icmp_gt (M := M_X12_wrong) 41 dX12_wrong_41 229 rfl (fun c1 => ?_) (fun c1 => ?_)
  · refine z_iconst (M := M_X12_wrong) 229 dX12_wrong_229 ?_
    exact z_retI (M := M_X12_wrong) 230 dX12_wrong_230 rfl ⟨G, R⟩
  · refine z_iconst (M := M_X12_wrong) 44 dX12_wrong_44 ?_
    refine z_istore (M := M_X12_wrong) 45 dX12_wrong_45 (ls' := [some (mR 108), some (mI a1), some (mI l2), some (mI l3), some (mI l4), some (mI 0), none, none, none, none, none]) (by decide) rfl ?_
    refine z_iconst (M := M_X12_wrong) 47 dX12_wrong_47 ?_
    refine z_istore (M := M_X12_wrong) 48 dX12_wrong_48 (ls' := [some (mR 108), some (mI a1), some (mI l2), some (mI l3), some (mI l4), some (mI 0), some (mI 0), none, none, none, none]) (by decide) rfl ?_
    refine z_iconst (M := M_X12_wrong) 50 dX12_wrong_50 ?_
    refine z_istore (M := M_X12_wrong) 51 dX12_wrong_51 (ls' := [some (mR 108), some (mI a1), some (mI l2), some (mI l3), some (mI l4), some (mI 0), some (mI 0), some (mI 0), none, none, none]) (by decide) rfl ?_
    exact z_mask [true, true, true, true, true, true, true, true, false, false, false] rfl (ih.2.1 l2 l3 l4 0 0 0 h G R (by omega) (by omega) (by omega) (by omega) (by omega) (by omega) (by omega) (by omega) (by omega))
set_option maxHeartbeats 4000000 in
set_option maxRecDepth 100000 in
theorem s_X12_wrong_53 (h0 : m_H) (a1 : Int) (G0 : GI h0) (hN : NP h0) (n : Nat) (ih : q_X12_wrong h0 a1 n) : ∀ (l2 l3 l4 l5 l6 l7 : Int) (h : m_H), GI h → FR [115, 116, 117, 118, 119, 120, 121, 122, 123, 124, 125, 126, 127, 128, 129, 130, 131, 132, 133, 134] [(108, 0), (108, 21)] h0 h → 0 ≤ l3 → l3 ≤ 24 → 0 ≤ l4 → l4 ≤ 2 → 0 ≤ l7 → l7 ≤ 24 → 0 ≤ a1 → a1 ≤ 2 → 2478 * (3 - l4) + 99 * (24 - l7) + (98) ≤ ((n + 1 : Nat) : Int) → m_Z oF M_X12_wrong 53 [some (mR 108), some (mI a1), some (mI l2), some (mI l3), some (mI l4), some (mI l5), some (mI l6), some (mI l7), none, none, none] [] h (m_QI (P_X12_wrong h0 a1)) := by
  intro l2 l3 l4 l5 l6 l7 h G R v0 v1 v2 v3 v4 v5 v6 v7 hr
  refine z_ok (fun ostk _ olocs => ?_)
  have ol2 : m_32 l2 := olocs 2 _ rfl
  unfold m_32 at ol2
  have ol5 : m_32 l5 := olocs 5 _ rfl
  unfold m_32 at ol5
  have ol6 : m_32 l6 := olocs 6 _ rfl
  unfold m_32 at ol6
  refine z_iload (M := M_X12_wrong) 53 dX12_wrong_53 rfl ?_
  refine z_iload (M := M_X12_wrong) 55 dX12_wrong_55 rfl ?_
  refine z_if_ne (M := M_X12_wrong) 57 dX12_wrong_57 64 rfl (fun c1 => ?_) (fun c1 => ?_)
  · refine z_iload_n (M := M_X12_wrong) 64 dX12_wrong_64 rfl ?_
    refine z_icmp_ge (M := M_X12_wrong) 65 dX12_wrong_65 196 rfl (fun c2 => ?_) (fun c2 => ?_)
    · refine z_iload (M := M_X12_wrong) 196 dX12_wrong_196 rfl ?_
      refine z_if_le (M := M_X12_wrong) 198 dX12_wrong_198 223 rfl (fun c3 => ?_) (fun c3 => ?_)
      · refine z_iincN (M := M_X12_wrong) 223 dX12_wrong_223 (ls' := [some (mR 108), some (mI a1), some (mI l2), some (mI l3), some (mI (l4 + 1)), some (mI l5), some (mI l6), some (mI l7), none, none, none]) (by decide) rfl (by (unfold m_32; decide)) (by omega) (by omega) rfl ?_
        refine z_goto (M := M_X12_wrong) 226 dX12_wrong_226 38 rfl ?_
        exact z_mask [true, true, true, true, true, false, false, false, false, false, false] rfl (ih.1 l2 l3 (l4 + 1) h G R (by omega) (by omega) (by omega) (by omega) (by omega) (by omega) (by omega))
      · refine z_iload_n (M := M_X12_wrong) 201 dX12_wrong_201 rfl ?_
        refine z_if_ne (M := M_X12_wrong) 202 dX12_wrong_202 210 rfl (fun c4 => ?_) (fun c4 => ?_)
        · refine z_iload_n (M := M_X12_wrong) 210 dX12_wrong_210 rfl ?_
          refine z_iconst (M := M_X12_wrong) 211 dX12_wrong_211 ?_
          refine z_icmp_ne (M := M_X12_wrong) 212 dX12_wrong_212 220 rfl (fun c5 => ?_) (fun c5 => ?_)
          · refine z_iload (M := M_X12_wrong) 220 dX12_wrong_220 rfl ?_
            exact z_retI (M := M_X12_wrong) 222 dX12_wrong_222 rfl ⟨G, R⟩
          · refine z_iload (M := M_X12_wrong) 215 dX12_wrong_215 rfl ?_
            refine z_goto (M := M_X12_wrong) 217 dX12_wrong_217 222 rfl ?_
            exact z_retI (M := M_X12_wrong) 222 dX12_wrong_222 rfl ⟨G, R⟩
        · refine z_iload (M := M_X12_wrong) 205 dX12_wrong_205 rfl ?_
          refine z_goto (M := M_X12_wrong) 207 dX12_wrong_207 222 rfl ?_
          exact z_retI (M := M_X12_wrong) 222 dX12_wrong_222 rfl ⟨G, R⟩
    · refine z_iconst (M := M_X12_wrong) 68 dX12_wrong_68 ?_
      refine z_istore (M := M_X12_wrong) 69 dX12_wrong_69 (ls' := [some (mR 108), some (mI a1), some (mI l2), some (mI l3), some (mI l4), some (mI l5), some (mI l6), some (mI l7), some (mI 0), none, none]) (by decide) rfl ?_
      exact z_mask [true, true, true, true, true, true, true, true, true, false, false] rfl (ih.2.2.1 l2 l3 l4 l5 l6 l7 0 h G R (by omega) (by omega) (by omega) (by omega) (by omega) (by omega) (by omega) (by omega) (by omega) (by omega) (by omega))
  · refine z_iconst (M := M_X12_wrong) 60 dX12_wrong_60 ?_
    refine z_goto (M := M_X12_wrong) 61 dX12_wrong_61 65 rfl ?_
    refine z_icmp_ge (M := M_X12_wrong) 65 dX12_wrong_65 196 rfl (fun c6 => ?_) (fun c6 => ?_)
    · refine z_iload (M := M_X12_wrong) 196 dX12_wrong_196 rfl ?_
      refine z_if_le (M := M_X12_wrong) 198 dX12_wrong_198 223 rfl (fun c7 => ?_) (fun c7 => ?_)
      · refine z_iincN (M := M_X12_wrong) 223 dX12_wrong_223 (ls' := [some (mR 108), some (mI a1), some (mI l2), some (mI l3), some (mI (l4 + 1)), some (mI l5), some (mI l6), some (mI l7), none, none, none]) (by decide) rfl (by (unfold m_32; decide)) (by omega) (by omega) rfl ?_
        refine z_goto (M := M_X12_wrong) 226 dX12_wrong_226 38 rfl ?_
        exact z_mask [true, true, true, true, true, false, false, false, false, false, false] rfl (ih.1 l2 l3 (l4 + 1) h G R (by omega) (by omega) (by omega) (by omega) (by omega) (by omega) (by omega))
      · refine z_iload_n (M := M_X12_wrong) 201 dX12_wrong_201 rfl ?_
        refine z_if_ne (M := M_X12_wrong) 202 dX12_wrong_202 210 rfl (fun c8 => ?_) (fun c8 => ?_)
        · refine z_iload_n (M := M_X12_wrong) 210 dX12_wrong_210 rfl ?_
          refine z_iconst (M := M_X12_wrong) 211 dX12_wrong_211 ?_
          refine z_icmp_ne (M := M_X12_wrong) 212 dX12_wrong_212 220 rfl (fun c9 => ?_) (fun c9 => ?_)
          · refine z_iload (M := M_X12_wrong) 220 dX12_wrong_220 rfl ?_
            exact z_retI (M := M_X12_wrong) 222 dX12_wrong_222 rfl ⟨G, R⟩
          · refine z_iload (M := M_X12_wrong) 215 dX12_wrong_215 rfl ?_
            refine z_goto (M := M_X12_wrong) 217 dX12_wrong_217 222 rfl ?_
            exact z_retI (M := M_X12_wrong) 222 dX12_wrong_222 rfl ⟨G, R⟩
        · refine z_iload (M := M_X12_wrong) 205 dX12_wrong_205 rfl ?_
          refine z_goto (M := M_X12_wrong) 207 dX12_wrong_207 222 rfl ?_
          exact z_retI (M := M_X12_wrong) 222 dX12_wrong_222 rfl ⟨G, R⟩
    · refine z_iconst (M := M_X12_wrong) 68 dX12_wrong_68 ?_
      refine z_istore (M := M_X12_wrong) 69 dX12_wrong_69 (ls' := [some (mR 108), some (mI a1), some (mI l2), some (mI l3), some (mI l4), some (mI l5), some (mI l6), some (mI l7), some (mI 0), none, none]) (by decide) rfl ?_
      exact z_mask [true, true, true, true, true, true, true, true, true, false, false] rfl (ih.2.2.1 l2 l3 l4 l5 l6 l7 0 h G R (by omega) (by omega) (by omega) (by omega) (by omega) (by omega) (by omega) (by omega) (by omega) (by omega) (by omega))
set_option maxHeartbeats 4000000 in
set_option maxRecDepth 100000 in
theorem s_X12_wrong_71 (h0 : m_H) (a1 : Int) (G0 : GI h0) (hN : NP h0) (n : Nat) (ih : q_X12_wrong h0 a1 n) : ∀ (l2 l3 l4 l5 l6 l7 l8 : Int) (h : m_H), GI h → FR [115, 116, 117, 118, 119, 120, 121, 122, 123, 124, 125, 126, 127, 128, 129, 130, 131, 132, 133, 134] [(108, 0), (108, 21)] h0 h → 0 ≤ l3 → l3 ≤ 24 → 0 ≤ l4 → l4 ≤ 2 → 0 ≤ l7 → l7 ≤ 23 → 0 ≤ l8 → l8 ≤ 23 → 0 ≤ a1 → a1 ≤ 2 → 2478 * (3 - l4) + 99 * (24 - l7) + 4 * (23 - l8) + (3) ≤ ((n + 1 : Nat) : Int) → m_Z oF M_X12_wrong 71 [some (mR 108), some (mI a1), some (mI l2), some (mI l3), some (mI l4), some (mI l5), some (mI l6), some (mI l7), some (mI l8), none, none] [] h (m_QI (P_X12_wrong h0 a1)) := by
  intro l2 l3 l4 l5 l6 l7 l8 h G R v0 v1 v2 v3 v4 v5 v6 v7 v8 v9 hr
  refine z_ok (fun ostk _ olocs => ?_)
  have ol2 : m_32 l2 := olocs 2 _ rfl
  unfold m_32 at ol2
  have ol5 : m_32 l5 := olocs 5 _ rfl
  unfold m_32 at ol5
  have ol6 : m_32 l6 := olocs 6 _ rfl
  unfold m_32 at ol6
  refine z_iload (M := M_X12_wrong) 71 dX12_wrong_71 rfl ?_
  refine z_iload (M := M_X12_wrong) 73 dX12_wrong_73 rfl ?_
  refine z_iconst (M := M_X12_wrong) 75 dX12_wrong_75 ?_
  refine z_icmp_ge (M := M_X12_wrong) 76 dX12_wrong_76 83 rfl (fun c1 => ?_) (fun c1 => ?_)
  · refine z_iload (M := M_X12_wrong) 83 dX12_wrong_83 rfl ?_
    refine z_icmp_ge (M := M_X12_wrong) 85 dX12_wrong_85 190 rfl (fun c2 => ?_) (fun c2 => ?_)
    · refine z_iincN (M := M_X12_wrong) 190 dX12_wrong_190 (ls' := [some (mR 108), some (mI a1), some (mI l2), some (mI l3), some (mI l4), some (mI l5), some (mI l6), some (mI (l7 + 1)), some (mI l8), none, none]) (by decide) rfl (by (unfold m_32; decide)) (by omega) (by omega) rfl ?_
      refine z_goto (M := M_X12_wrong) 193 dX12_wrong_193 53 rfl ?_
      exact z_mask [true, true, true, true, true, true, true, true, false, false, false] rfl (ih.2.1 l2 l3 l4 l5 l6 (l7 + 1) h G R (by omega) (by omega) (by omega) (by omega) (by omega) (by omega) (by omega) (by omega) (by omega))
    · refine z_iload (M := M_X12_wrong) 88 dX12_wrong_88 rfl ?_
      refine z_if_ne_T (M := M_X12_wrong) 90 dX12_wrong_90 97 rfl (by omega) ?_
      refine z_iload (M := M_X12_wrong) 97 dX12_wrong_97 rfl ?_
      refine z_iconst (M := M_X12_wrong) 99 dX12_wrong_99 ?_
      refine z_icmp_ne_T (M := M_X12_wrong) 100 dX12_wrong_100 110 rfl (by omega) ?_
      refine z_iconst (M := M_X12_wrong) 110 dX12_wrong_110 ?_
      refine z_iload (M := M_X12_wrong) 111 dX12_wrong_111 rfl ?_
      refine z_ishl (M := M_X12_wrong) 113 dX12_wrong_113 ?_
      refine z_topm (fun x3 ex3 ox3 => ?_)
      unfold m_32 at ox3
      refine z_iconst (M := M_X12_wrong) 114 dX12_wrong_114 ?_
      refine z_iload (M := M_X12_wrong) 115 dX12_wrong_115 rfl ?_
      refine z_ishl (M := M_X12_wrong) 117 dX12_wrong_117 ?_
      refine z_topm (fun x4 ex4 ox4 => ?_)
      unfold m_32 at ox4
      refine z_ior (M := M_X12_wrong) 118 dX12_wrong_118 ?_
      refine z_topm (fun x5 ex5 ox5 => ?_)
      unfold m_32 at ox5
      refine z_istore (M := M_X12_wrong) 119 dX12_wrong_119 (ls' := [some (mR 108), some (mI a1), some (mI l2), some (mI l3), some (mI l4), some (mI l5), some (mI l6), some (mI l7), some (mI l8), some (mI x5), none]) (by decide) rfl ?_
      refine z_iload (M := M_X12_wrong) 121 dX12_wrong_121 rfl ?_
      refine z_iload_n (M := M_X12_wrong) 123 dX12_wrong_123 rfl ?_
      refine z_iconst (M := M_X12_wrong) 124 dX12_wrong_124 ?_
      refine z_ixor (M := M_X12_wrong) 125 dX12_wrong_125 ?_
      refine z_topm (fun x6 ex6 ox6 => ?_)
      unfold m_32 at ox6
      refine z_iand (M := M_X12_wrong) 126 dX12_wrong_126 ?_
      refine z_topm (fun x7 ex7 ox7 => ?_)
      unfold m_32 at ox7
      refine z_if_ne (M := M_X12_wrong) 127 dX12_wrong_127 147 rfl (fun c8 => ?_) (fun c8 => ?_)
      · refine z_iconst (M := M_X12_wrong) 147 dX12_wrong_147 ?_
        refine z_istore (M := M_X12_wrong) 148 dX12_wrong_148 (ls' := [some (mR 108), some (mI a1), some (mI l2), some (mI l3), some (mI l4), some (mI l5), some (mI l6), some (mI l7), some (mI l8), some (mI x5), some (mI 0)]) (by decide) rfl ?_
        refine z_iload (M := M_X12_wrong) 150 dX12_wrong_150 rfl ?_
        refine z_if_eq_T (M := M_X12_wrong) 152 dX12_wrong_152 165 rfl (by omega) ?_
        exact z_mask [true, true, true, true, true, true, true, true, true, false, true] rfl (ih.2.2.2.1 l2 l3 l4 l5 l6 l7 l8 0 h G R (by omega) (by omega) (by omega) (by omega) (by omega) (by omega) (by omega) (by omega) (by omega) (by omega) (by omega) (by omega) (by omega))
      · refine z_aload_n (M := M_X12_wrong) 130 dX12_wrong_130 rfl ?_
        refine z_iload_n (M := M_X12_wrong) 131 dX12_wrong_131 rfl ?_
        refine z_iload (M := M_X12_wrong) 132 dX12_wrong_132 rfl ?_
        refine z_iconst (M := M_X12_wrong) 134 dX12_wrong_134 ?_
        refine z_ixor (M := M_X12_wrong) 135 dX12_wrong_135 ?_
        refine z_topm (fun x9 ex9 ox9 => ?_)
        unfold m_32 at ox9
        refine z_iand (M := M_X12_wrong) 136 dX12_wrong_136 ?_
        refine z_topm (fun x10 ex10 ox10 => ?_)
        unfold m_32 at ox10
        refine z_vI (M := M_X12_wrong) 137 dX12_wrong_137 t_X12_canBe l_X12_374 (m_rr_of rfl) (rest := []) (c_X12_canBe h x10 G (NP.call hN R (fun _ => rfl) (fun _ => rfl) (fun _ => rfl))) o_108 rfl rfl rfl (Nat.le_of_ble_eq_true rfl) ⟨rfl, rfl⟩ (fun x11 h1 qx11 => ?_)
        obtain ⟨G1, S1, ax11, bx11, fx11_0⟩ := qx11
        have R1 := R.call S1 (by decide +kernel)
        refine z_if_eq (M := M_X12_wrong) 140 dX12_wrong_140 147 rfl (fun c12 => ?_) (fun c12 => ?_)
        · refine z_iconst (M := M_X12_wrong) 147 dX12_wrong_147 ?_
          refine z_istore (M := M_X12_wrong) 148 dX12_wrong_148 (ls' := [some (mR 108), some (mI a1), some (mI l2), some (mI l3), some (mI l4), some (mI l5), some (mI l6), some (mI l7), some (mI l8), some (mI x5), some (mI 0)]) (by decide) rfl ?_
          refine z_iload (M := M_X12_wrong) 150 dX12_wrong_150 rfl ?_
          refine z_if_eq_T (M := M_X12_wrong) 152 dX12_wrong_152 165 rfl (by omega) ?_
          exact z_mask [true, true, true, true, true, true, true, true, true, false, true] rfl (ih.2.2.2.1 l2 l3 l4 l5 l6 l7 l8 0 h1 G1 R1 (by omega) (by omega) (by omega) (by omega) (by omega) (by omega) (by omega) (by omega) (by omega) (by omega) (by omega) (by omega) (by omega))
        · refine z_iconst (M := M_X12_wrong) 143 dX12_wrong_143 ?_
          refine z_goto (M := M_X12_wrong) 144 dX12_wrong_144 148 rfl ?_
          refine z_istore (M := M_X12_wrong) 148 dX12_wrong_148 (ls' := [some (mR 108), some (mI a1), some (mI l2), some (mI l3), some (mI l4), some (mI l5), some (mI l6), some (mI l7), some (mI l8), some (mI x5), some (mI 1)]) (by decide) rfl ?_
          refine z_iload (M := M_X12_wrong) 150 dX12_wrong_150 rfl ?_
          refine z_if_eq_F (M := M_X12_wrong) 152 dX12_wrong_152 165 rfl (by omega) ?_
          refine z_iload (M := M_X12_wrong) 155 dX12_wrong_155 rfl ?_
          refine z_if_ne (M := M_X12_wrong) 157 dX12_wrong_157 165 rfl (fun c13 => ?_) (fun c13 => ?_)
          · exact z_mask [true, true, true, true, true, true, true, true, true, false, true] rfl (ih.2.2.2.1 l2 l3 l4 l5 l6 l7 l8 1 h1 G1 R1 (by omega) (by omega) (by omega) (by omega) (by omega) (by omega) (by omega) (by omega) (by omega) (by omega) (by omega) (by omega) (by omega))
          · refine z_iload (M := M_X12_wrong) 160 dX12_wrong_160 rfl ?_
            refine z_goto (M := M_X12_wrong) 162 dX12_wrong_162 167 rfl ?_
            refine z_istore (M := M_X12_wrong) 167 dX12_wrong_167 (ls' := [some (mR 108), some (mI a1), some (mI l2), some (mI l3), some (mI l4), some (mI l5), some (mI x5), some (mI l7), some (mI l8), some (mI x5), some (mI 1)]) (by decide) rfl ?_
            refine z_iload (M := M_X12_wrong) 169 dX12_wrong_169 rfl ?_
            refine z_iload (M := M_X12_wrong) 171 dX12_wrong_171 rfl ?_
            refine z_if_eq_F (M := M_X12_wrong) 173 dX12_wrong_173 180 rfl (by omega) ?_
            refine z_iconst (M := M_X12_wrong) 176 dX12_wrong_176 ?_
            refine z_goto (M := M_X12_wrong) 177 dX12_wrong_177 181 rfl ?_
            exact z_mask [true, true, true, true, true, false, true, true, true, false, false] rfl (ih.2.2.2.2 l2 l3 l4 x5 l7 l8 l5 1 h1 G1 R1 (by omega) (by omega) (by omega) (by omega) (by omega) (by omega) (by omega) (by omega) (by omega) (by omega) (by omega) (by omega) (by omega))
  · refine z_iconst (M := M_X12_wrong) 79 dX12_wrong_79 ?_
    refine z_goto (M := M_X12_wrong) 80 dX12_wrong_80 85 rfl ?_
    refine z_icmp_ge (M := M_X12_wrong) 85 dX12_wrong_85 190 rfl (fun c14 => ?_) (fun c14 => ?_)
    · refine z_iincN (M := M_X12_wrong) 190 dX12_wrong_190 (ls' := [some (mR 108), some (mI a1), some (mI l2), some (mI l3), some (mI l4), some (mI l5), some (mI l6), some (mI (l7 + 1)), some (mI l8), none, none]) (by decide) rfl (by (unfold m_32; decide)) (by omega) (by omega) rfl ?_
      refine z_goto (M := M_X12_wrong) 193 dX12_wrong_193 53 rfl ?_
      exact z_mask [true, true, true, true, true, true, true, true, false, false, false] rfl (ih.2.1 l2 l3 l4 l5 l6 (l7 + 1) h G R (by omega) (by omega) (by omega) (by omega) (by omega) (by omega) (by omega) (by omega) (by omega))
    · refine z_iload (M := M_X12_wrong) 88 dX12_wrong_88 rfl ?_
      refine z_if_ne (M := M_X12_wrong) 90 dX12_wrong_90 97 rfl (fun c15 => ?_) (fun c15 => ?_)
      · refine z_iload (M := M_X12_wrong) 97 dX12_wrong_97 rfl ?_
        refine z_iconst (M := M_X12_wrong) 99 dX12_wrong_99 ?_
        refine z_icmp_ne_F (M := M_X12_wrong) 100 dX12_wrong_100 110 rfl (by omega) ?_
        refine z_iconst (M := M_X12_wrong) 103 dX12_wrong_103 ?_
        refine z_iload (M := M_X12_wrong) 104 dX12_wrong_104 rfl ?_
        refine z_ishl (M := M_X12_wrong) 106 dX12_wrong_106 ?_
        refine z_topm (fun x16 ex16 ox16 => ?_)
        unfold m_32 at ox16
        refine z_goto (M := M_X12_wrong) 107 dX12_wrong_107 119 rfl ?_
        refine z_istore (M := M_X12_wrong) 119 dX12_wrong_119 (ls' := [some (mR 108), some (mI a1), some (mI l2), some (mI l3), some (mI l4), some (mI l5), some (mI l6), some (mI l7), some (mI l8), some (mI x16), none]) (by decide) rfl ?_
        refine z_iload (M := M_X12_wrong) 121 dX12_wrong_121 rfl ?_
        refine z_iload_n (M := M_X12_wrong) 123 dX12_wrong_123 rfl ?_
        refine z_iconst (M := M_X12_wrong) 124 dX12_wrong_124 ?_
        refine z_ixor (M := M_X12_wrong) 125 dX12_wrong_125 ?_
        refine z_topm (fun x17 ex17 ox17 => ?_)
        unfold m_32 at ox17
        refine z_iand (M := M_X12_wrong) 126 dX12_wrong_126 ?_
        refine z_topm (fun x18 ex18 ox18 => ?_)
        unfold m_32 at ox18
        refine z_if_ne (M := M_X12_wrong) 127 dX12_wrong_127 147 rfl (fun c19 => ?_) (fun c19 => ?_)
        · refine z_iconst (M := M_X12_wrong) 147 dX12_wrong_147 ?_
          refine z_istore (M := M_X12_wrong) 148 dX12_wrong_148 (ls' := [some (mR 108), some (mI a1), some (mI l2), some (mI l3), some (mI l4), some (mI l5), some (mI l6), some (mI l7), some (mI l8), some (mI x16), some (mI 0)]) (by decide) rfl ?_
          refine z_iload (M := M_X12_wrong) 150 dX12_wrong_150 rfl ?_
          refine z_if_eq_T (M := M_X12_wrong) 152 dX12_wrong_152 165 rfl (by omega) ?_
          exact z_mask [true, true, true, true, true, true, true, true, true, false, true] rfl (ih.2.2.2.1 l2 l3 l4 l5 l6 l7 l8 0 h G R (by omega) (by omega) (by omega) (by omega) (by omega) (by omega) (by omega) (by omega) (by omega) (by omega) (by omega) (by omega) (by omega))
        · refine z_aload_n (M := M_X12_wrong) 130 dX12_wrong_130 rfl ?_
          refine z_iload_n (M := M_X12_wrong) 131 dX12_wrong_131 rfl ?_
          refine z_iload (M := M_X12_wrong) 132 dX12_wrong_132 rfl ?_
          refine z_iconst (M := M_X12_wrong) 134 dX12_wrong_134 ?_
          refine z_ixor (M := M_X12_wrong) 135 dX12_wrong_135 ?_
          refine z_topm (fun x20 ex20 ox20 => ?_)
          unfold m_32 at ox20
          refine z_iand (M := M_X12_wrong) 136 dX12_wrong_136 ?_
          refine z_topm (fun x21 ex21 ox21 => ?_)
          unfold m_32 at ox21
          refine z_vI (M := M_X12_wrong) 137 dX12_wrong_137 t_X12_canBe l_X12_374 (m_rr_of rfl) (rest := []) (c_X12_canBe h x21 G (NP.call hN R (fun _ => rfl) (fun _ => rfl) (fun _ => rfl))) o_108 rfl rfl rfl (Nat.le_of_ble_eq_true rfl) ⟨rfl, rfl⟩ (fun x22 h2 qx22 => ?_)
          obtain ⟨G2, S2, ax22, bx22, fx22_0⟩ := qx22
          have R2 := R.call S2 (by decide +kernel)
          refine z_if_eq (M := M_X12_wrong) 140 dX12_wrong_140 147 rfl (fun c23 => ?_) (fun c23 => ?_)
          · refine z_iconst (M := M_X12_wrong) 147 dX12_wrong_147 ?_
            refine z_istore (M := M_X12_wrong) 148 dX12_wrong_148 (ls' := [some (mR 108), some (mI a1), some (mI l2), some (mI l3), some (mI l4), some (mI l5), some (mI l6), some (mI l7), some (mI l8), some (mI x16), some (mI 0)]) (by decide) rfl ?_
            refine z_iload (M := M_X12_wrong) 150 dX12_wrong_150 rfl ?_
            refine z_if_eq_T (M := M_X12_wrong) 152 dX12_wrong_152 165 rfl (by omega) ?_
            exact z_mask [true, true, true, true, true, true, true, true, true, false, true] rfl (ih.2.2.2.1 l2 l3 l4 l5 l6 l7 l8 0 h2 G2 R2 (by omega) (by omega) (by omega) (by omega) (by omega) (by omega) (by omega) (by omega) (by omega) (by omega) (by omega) (by omega) (by omega))
          · refine z_iconst (M := M_X12_wrong) 143 dX12_wrong_143 ?_
            refine z_goto (M := M_X12_wrong) 144 dX12_wrong_144 148 rfl ?_
            refine z_istore (M := M_X12_wrong) 148 dX12_wrong_148 (ls' := [some (mR 108), some (mI a1), some (mI l2), some (mI l3), some (mI l4), some (mI l5), some (mI l6), some (mI l7), some (mI l8), some (mI x16), some (mI 1)]) (by decide) rfl ?_
            refine z_iload (M := M_X12_wrong) 150 dX12_wrong_150 rfl ?_
            refine z_if_eq_F (M := M_X12_wrong) 152 dX12_wrong_152 165 rfl (by omega) ?_
            refine z_iload (M := M_X12_wrong) 155 dX12_wrong_155 rfl ?_
            refine z_if_ne (M := M_X12_wrong) 157 dX12_wrong_157 165 rfl (fun c24 => ?_) (fun c24 => ?_)
            · exact z_mask [true, true, true, true, true, true, true, true, true, false, true] rfl (ih.2.2.2.1 l2 l3 l4 l5 l6 l7 l8 1 h2 G2 R2 (by omega) (by omega) (by omega) (by omega) (by omega) (by omega) (by omega) (by omega) (by omega) (by omega) (by omega) (by omega) (by omega))
            · refine z_iload (M := M_X12_wrong) 160 dX12_wrong_160 rfl ?_
              refine z_goto (M := M_X12_wrong) 162 dX12_wrong_162 167 rfl ?_
              refine z_istore (M := M_X12_wrong) 167 dX12_wrong_167 (ls' := [some (mR 108), some (mI a1), some (mI l2), some (mI l3), some (mI l4), some (mI l5), some (mI x16), some (mI l7), some (mI l8), some (mI x16), some (mI 1)]) (by decide) rfl ?_
              refine z_iload (M := M_X12_wrong) 169 dX12_wrong_169 rfl ?_
              refine z_iload (M := M_X12_wrong) 171 dX12_wrong_171 rfl ?_
              refine z_if_eq_F (M := M_X12_wrong) 173 dX12_wrong_173 180 rfl (by omega) ?_
              refine z_iconst (M := M_X12_wrong) 176 dX12_wrong_176 ?_
              refine z_goto (M := M_X12_wrong) 177 dX12_wrong_177 181 rfl ?_
              exact z_mask [true, true, true, true, true, false, true, true, true, false, false] rfl (ih.2.2.2.2 l2 l3 l4 x16 l7 l8 l5 1 h2 G2 R2 (by omega) (by omega) (by omega) (by omega) (by omega) (by omega) (by omega) (by omega) (by omega) (by omega) (by omega) (by omega) (by omega))
      · refine z_iconst (M := M_X12_wrong) 93 dX12_wrong_93 ?_
        refine z_goto (M := M_X12_wrong) 94 dX12_wrong_94 119 rfl ?_
        refine z_istore (M := M_X12_wrong) 119 dX12_wrong_119 (ls' := [some (mR 108), some (mI a1), some (mI l2), some (mI l3), some (mI l4), some (mI l5), some (mI l6), some (mI l7), some (mI l8), some (mI 0), none]) (by decide) rfl ?_
        refine z_iload (M := M_X12_wrong) 121 dX12_wrong_121 rfl ?_
        refine z_iload_n (M := M_X12_wrong) 123 dX12_wrong_123 rfl ?_
        refine z_iconst (M := M_X12_wrong) 124 dX12_wrong_124 ?_
        refine z_ixor (M := M_X12_wrong) 125 dX12_wrong_125 ?_
        refine z_topm (fun x25 ex25 ox25 => ?_)
        unfold m_32 at ox25
        refine z_iand (M := M_X12_wrong) 126 dX12_wrong_126 ?_
        refine z_topm (fun x26 ex26 ox26 => ?_)
        unfold m_32 at ox26
        refine z_if_ne (M := M_X12_wrong) 127 dX12_wrong_127 147 rfl (fun c27 => ?_) (fun c27 => ?_)
        · refine z_iconst (M := M_X12_wrong) 147 dX12_wrong_147 ?_
          refine z_istore (M := M_X12_wrong) 148 dX12_wrong_148 (ls' := [some (mR 108), some (mI a1), some (mI l2), some (mI l3), some (mI l4), some (mI l5), some (mI l6), some (mI l7), some (mI l8), some (mI 0), some (mI 0)]) (by decide) rfl ?_
          refine z_iload (M := M_X12_wrong) 150 dX12_wrong_150 rfl ?_
          refine z_if_eq_T (M := M_X12_wrong) 152 dX12_wrong_152 165 rfl (by omega) ?_
          exact z_mask [true, true, true, true, true, true, true, true, true, false, true] rfl (ih.2.2.2.1 l2 l3 l4 l5 l6 l7 l8 0 h G R (by omega) (by omega) (by omega) (by omega) (by omega) (by omega) (by omega) (by omega) (by omega) (by omega) (by omega) (by omega) (by omega))
        · refine z_aload_n (M := M_X12_wrong) 130 dX12_wrong_130 rfl ?_
          refine z_iload_n (M := M_X12_wrong) 131 dX12_wrong_131 rfl ?_
          refine z_iload (M := M_X12_wrong) 132 dX12_wrong_132 rfl ?_
          refine z_iconst (M := M_X12_wrong) 134 dX12_wrong_134 ?_
          refine z_ixor (M := M_X12_wrong) 135 dX12_wrong_135 ?_
          refine z_topm (fun x28 ex28 ox28 => ?_)
          unfold m_32 at ox28
          refine z_iand (M := M_X12_wrong) 136 dX12_wrong_136 ?_
          refine z_topm (fun x29 ex29 ox29 => ?_)
          unfold m_32 at ox29
          refine z_vI (M := M_X12_wrong) 137 dX12_wrong_137 t_X12_canBe l_X12_374 (m_rr_of rfl) (rest := []) (c_X12_canBe h x29 G (NP.call hN R (fun _ => rfl) (fun _ => rfl) (fun _ => rfl))) o_108 rfl rfl rfl (Nat.le_of_ble_eq_true rfl) ⟨rfl, rfl⟩ (fun x30 h3 qx30 => ?_)
          obtain ⟨G3, S3, ax30, bx30, fx30_0⟩ := qx30
          have R3 := R.call S3 (by decide +kernel)
          refine z_if_eq (M := M_X12_wrong) 140 dX12_wrong_140 147 rfl (fun c31 => ?_) (fun c31 => ?_)
          · refine z_iconst (M := M_X12_wrong) 147 dX12_wrong_147 ?_
            refine z_istore (M := M_X12_wrong) 148 dX12_wrong_148 (ls' := [some (mR 108), some (mI a1), some (mI l2), some (mI l3), some (mI l4), some (mI l5), some (mI l6), some (mI l7), some (mI l8), some (mI 0), some (mI 0)]) (by decide) rfl ?_
            refine z_iload (M := M_X12_wrong) 150 dX12_wrong_150 rfl ?_
            refine z_if_eq_T (M := M_X12_wrong) 152 dX12_wrong_152 165 rfl (by omega) ?_
            exact z_mask [true, true, true, true, true, true, true, true, true, false, true] rfl (ih.2.2.2.1 l2 l3 l4 l5 l6 l7 l8 0 h3 G3 R3 (by omega) (by omega) (by omega) (by omega) (by omega) (by omega) (by omega) (by omega) (by omega) (by omega) (by omega) (by omega) (by omega))
          · refine z_iconst (M := M_X12_wrong) 143 dX12_wrong_143 ?_
            refine z_goto (M := M_X12_wrong) 144 dX12_wrong_144 148 rfl ?_
            refine z_istore (M := M_X12_wrong) 148 dX12_wrong_148 (ls' := [some (mR 108), some (mI a1), some (mI l2), some (mI l3), some (mI l4), some (mI l5), some (mI l6), some (mI l7), some (mI l8), some (mI 0), some (mI 1)]) (by decide) rfl ?_
            refine z_iload (M := M_X12_wrong) 150 dX12_wrong_150 rfl ?_
            refine z_if_eq_F (M := M_X12_wrong) 152 dX12_wrong_152 165 rfl (by omega) ?_
            refine z_iload (M := M_X12_wrong) 155 dX12_wrong_155 rfl ?_
            refine z_if_ne (M := M_X12_wrong) 157 dX12_wrong_157 165 rfl (fun c32 => ?_) (fun c32 => ?_)
            · exact z_mask [true, true, true, true, true, true, true, true, true, false, true] rfl (ih.2.2.2.1 l2 l3 l4 l5 l6 l7 l8 1 h3 G3 R3 (by omega) (by omega) (by omega) (by omega) (by omega) (by omega) (by omega) (by omega) (by omega) (by omega) (by omega) (by omega) (by omega))
            · refine z_iload (M := M_X12_wrong) 160 dX12_wrong_160 rfl ?_
              refine z_goto (M := M_X12_wrong) 162 dX12_wrong_162 167 rfl ?_
              refine z_istore (M := M_X12_wrong) 167 dX12_wrong_167 (ls' := [some (mR 108), some (mI a1), some (mI l2), some (mI l3), some (mI l4), some (mI l5), some (mI 0), some (mI l7), some (mI l8), some (mI 0), some (mI 1)]) (by decide) rfl ?_
              refine z_iload (M := M_X12_wrong) 169 dX12_wrong_169 rfl ?_
              refine z_iload (M := M_X12_wrong) 171 dX12_wrong_171 rfl ?_
              refine z_if_eq_F (M := M_X12_wrong) 173 dX12_wrong_173 180 rfl (by omega) ?_
              refine z_iconst (M := M_X12_wrong) 176 dX12_wrong_176 ?_
              refine z_goto (M := M_X12_wrong) 177 dX12_wrong_177 181 rfl ?_
              exact z_mask [true, true, true, true, true, false, true, true, true, false, false] rfl (ih.2.2.2.2 l2 l3 l4 0 l7 l8 l5 1 h3 G3 R3 (by omega) (by omega) (by omega) (by omega) (by omega) (by omega) (by omega) (by omega) (by omega) (by omega) (by omega) (by omega) (by omega))
set_option maxHeartbeats 4000000 in
set_option maxRecDepth 100000 in
theorem s_X12_wrong_165 (h0 : m_H) (a1 : Int) (G0 : GI h0) (hN : NP h0) (n : Nat) (ih : q_X12_wrong h0 a1 n) : ∀ (l2 l3 l4 l5 l6 l7 l8 l10 : Int) (h : m_H), GI h → FR [115, 116, 117, 118, 119, 120, 121, 122, 123, 124, 125, 126, 127, 128, 129, 130, 131, 132, 133, 134] [(108, 0), (108, 21)] h0 h → 0 ≤ l3 → l3 ≤ 24 → 0 ≤ l4 → l4 ≤ 2 → 0 ≤ l7 → l7 ≤ 23 → 0 ≤ l8 → l8 ≤ 22 → 0 ≤ l10 → l10 ≤ 1 → 0 ≤ a1 → a1 ≤ 2 → 2478 * (3 - l4) + 99 * (24 - l7) + 4 * (23 - l8) + (2) ≤ ((n + 1 : Nat) : Int) → m_Z oF M_X12_wrong 165 [some (mR 108), some (mI a1), some (mI l2), some (mI l3), some (mI l4), some (mI l5), some (mI l6), some (mI l7), some (mI l8), none, some (mI l10)] [] h (m_QI (P_X12_wrong h0 a1)) := by
  intro l2 l3 l4 l5 l6 l7 l8 l10 h G R v0 v1 v2 v3 v4 v5 v6 v7 v8 v9 v10 v11 hr
  refine z_ok (fun ostk _ olocs => ?_)
  have ol2 : m_32 l2 := olocs 2 _ rfl
  unfold m_32 at ol2
  have ol5 : m_32 l5 := olocs 5 _ rfl
  unfold m_32 at ol5
  have ol6 : m_32 l6 := olocs 6 _ rfl
  unfold m_32 at ol6
  refine z_iload (M := M_X12_wrong) 165 dX12_wrong_165 rfl ?_
  refine z_istore (M := M_X12_wrong) 167 dX12_wrong_167 (ls' := [some (mR 108), some (mI a1), some (mI l2), some (mI l3), some (mI l4), some (mI l5), some (mI l6), some (mI l7), some (mI l8), none, some (mI l10)]) (by decide) rfl ?_
  refine z_iload (M := M_X12_wrong) 169 dX12_wrong_169 rfl ?_
  refine z_iload (M := M_X12_wrong) 171 dX12_wrong_171 rfl ?_
  refine z_if_eq (M := M_X12_wrong) 173 dX12_wrong_173 180 rfl (fun c1 => ?_) (fun c1 => ?_)
  · refine z_iconst (M := M_X12_wrong) 180 dX12_wrong_180 ?_
    exact z_mask [true, true, true, true, true, false, true, true, true, false, false] rfl (ih.2.2.2.2 l2 l3 l4 l6 l7 l8 l5 0 h G R (by omega) (by omega) (by omega) (by omega) (by omega) (by omega) (by omega) (by omega) (by omega) (by omega) (by omega) (by omega) (by omega))
  · refine z_iconst (M := M_X12_wrong) 176 dX12_wrong_176 ?_
    refine z_goto (M := M_X12_wrong) 177 dX12_wrong_177 181 rfl ?_
    exact z_mask [true, true, true, true, true, false, true, true, true, false, false] rfl (ih.2.2.2.2 l2 l3 l4 l6 l7 l8 l5 1 h G R (by omega) (by omega) (by omega) (by omega) (by omega) (by omega) (by omega) (by omega) (by omega) (by omega) (by omega) (by omega) (by omega))
set_option maxHeartbeats 4000000 in
set_option maxRecDepth 100000 in
theorem s_X12_wrong_181 (h0 : m_H) (a1 : Int) (G0 : GI h0) (hN : NP h0) (n : Nat) (ih : q_X12_wrong h0 a1 n) : ∀ (l2 l3 l4 l6 l7 l8 k0 k1 : Int) (h : m_H), GI h → FR [115, 116, 117, 118, 119, 120, 121, 122, 123, 124, 125, 126, 127, 128, 129, 130, 131, 132, 133, 134] [(108, 0), (108, 21)] h0 h → 0 ≤ l3 → l3 ≤ 24 → 0 ≤ l4 → l4 ≤ 2 → 0 ≤ l7 → l7 ≤ 23 → 0 ≤ l8 → l8 ≤ 22 → 0 ≤ k1 → k1 ≤ 1 → 0 ≤ a1 → a1 ≤ 2 → 2478 * (3 - l4) + 99 * (24 - l7) + 4 * (23 - l8) + (1) ≤ ((n + 1 : Nat) : Int) → m_Z oF M_X12_wrong 181 [some (mR 108), some (mI a1), some (mI l2), some (mI l3), some (mI l4), none, some (mI l6), some (mI l7), some (mI l8), none, none] [mI k1, mI k0] h (m_QI (P_X12_wrong h0 a1)) := by
  intro l2 l3 l4 l6 l7 l8 k0 k1 h G R v0 v1 v2 v3 v4 v5 v6 v7 v8 v9 v10 v11 hr
  refine z_ok (fun ostk _ olocs => ?_)
  have ol2 : m_32 l2 := olocs 2 _ rfl
  unfold m_32 at ol2
  have ol6 : m_32 l6 := olocs 6 _ rfl
  unfold m_32 at ol6
  have ok0 : m_32 k0 := ostk.2.1
  unfold m_32 at ok0
  refine z_iadd (M := M_X12_wrong) 181 dX12_wrong_181 ?_
  refine z_topm (fun x1 ex1 ox1 => ?_)
  unfold m_32 at ox1
  refine z_istore (M := M_X12_wrong) 182 dX12_wrong_182 (ls' := [some (mR 108), some (mI a1), some (mI l2), some (mI l3), some (mI l4), some (mI x1), some (mI l6), some (mI l7), some (mI l8), none, none]) (by decide) rfl ?_
  refine z_iincN (M := M_X12_wrong) 184 dX12_wrong_184 (ls' := [some (mR 108), some (mI a1), some (mI l2), some (mI l3), some (mI l4), some (mI x1), some (mI l6), some (mI l7), some (mI (l8 + 1)), none, none]) (by decide) rfl (by (unfold m_32; decide)) (by omega) (by omega) rfl ?_
  refine z_goto (M := M_X12_wrong) 187 dX12_wrong_187 71 rfl ?_
  exact z_mask [true, true, true, true, true, true, true, true, true, false, false] rfl (ih.2.2.1 l2 l3 l4 x1 l6 l7 (l8 + 1) h G R (by omega) (by omega) (by omega) (by omega) (by omega) (by omega) (by omega) (by omega) (by omega) (by omega) (by omega))
theorem a_X12_wrong (h0 : m_H) (a1 : Int) (G0 : GI h0) (hN : NP h0) : ∀ n, q_X12_wrong h0 a1 n := by
  intro n
  induction n with
  | zero => unfold q_X12_wrong; refine ⟨?_, ?_, ?_, ?_, ?_⟩ <;> (intros; omega)
  | succ n ih => exact ⟨s_X12_wrong_38 h0 a1 G0 hN n ih, s_X12_wrong_53 h0 a1 G0 hN n ih, s_X12_wrong_71 h0 a1 G0 hN n ih, s_X12_wrong_165 h0 a1 G0 hN n ih, s_X12_wrong_181 h0 a1 G0 hN n ih⟩
set_option maxHeartbeats 4000000 in
set_option maxRecDepth 100000 in
theorem c_X12_wrong (h0 : m_H) (a1 : Int) (G0 : GI h0) (hN : NP h0) : m_CI M_X12_wrong [mR 108, mI a1] h0 (P_X12_wrong h0 a1) := by
  refine m_CI_of ⟨by decide, rfl, by simp [m_arg, m_isL, M_X12_wrong], ⟨rfl, rfl⟩, rfl, rfl⟩ (ls := [some (mR 108), some (mI a1), none, none, none, none, none, none, none, none, none]) rfl ?_
  have ih := a_X12_wrong h0 a1 G0 hN 9918
  refine z_ok (fun _ _ ok => ?_)
  have oa1 : m_32 a1 := ok 1 _ rfl
  unfold m_32 at oa1
  refine z_aload_n (M := M_X12_wrong) 0 dX12_wrong_0 rfl ?_
  refine z_iconst (M := M_X12_wrong) 1 dX12_wrong_1 ?_
  refine z_putIH (M := M_X12_wrong) 2 dX12_wrong_2 p_X12_133 o_108 rfl (u_108_0 G0) ((FR.rf (cs := [115, 116, 117, 118, 119, 120, 121, 122, 123, 124, 125, 126, 127, 128, 129, 130, 131, 132, 133, 134]) (ss := [(108, 0), (108, 21)]) (h := h0)).up rfl) (fun h1 E1 G1 R1 => ?_)
  refine z_iload_n (M := M_X12_wrong) 5 dX12_wrong_5 rfl ?_
  refine z_i2l (M := M_X12_wrong) 6 dX12_wrong_6 ?_
  refine z_lconst (M := M_X12_wrong) 7 dX12_wrong_7 (v := 0) ?_
  refine z_ldc2 (M := M_X12_wrong) 8 dX12_wrong_8 k_X12_182 ?_
  refine z_sI (M := M_X12_wrong) 11 dX12_wrong_11 t_X12_in l_X12_143 (m_rr_of rfl) (rest := []) (c_X12_in h1 a1 0 2 G1) rfl rfl (Nat.le_of_ble_eq_true rfl) ⟨rfl, rfl⟩ (fun x1 h2 qx1 => ?_)
  obtain ⟨rfl, ⟨rfl, cx1⟩ | ⟨rfl, cx1⟩⟩ := qx1
  · refine z_if_ne_T (M := M_X12_wrong) 14 dX12_wrong_14 19 rfl (by omega) ?_
    refine z_aload_n (M := M_X12_wrong) 19 dX12_wrong_19 rfl ?_
    refine z_vV (M := M_X12_wrong) 20 dX12_wrong_20 t_X12_asIs l_X12_367 (m_rr_of rfl) (rest := []) (c_X12_asIsX h1 G1) o_108 rfl rfl rfl (Nat.le_of_ble_eq_true rfl) ⟨rfl, rfl⟩ (fun h3 qx2 => ?_)
    obtain ⟨G3, S3, fx2_0⟩ := qx2
    have R3 := R1.call S3 (by decide +kernel)
    refine z_aload_n (M := M_X12_wrong) 23 dX12_wrong_23 rfl ?_
    refine z_vI (M := M_X12_wrong) 24 dX12_wrong_24 t_X12_counting l_X12_370 (m_rr_of rfl) (rest := []) (c_X12_countingX h3 G3) o_108 rfl rfl rfl (Nat.le_of_ble_eq_true rfl) ⟨rfl, rfl⟩ (fun x3 h4 qx3 => ?_)
    obtain ⟨G4, S4, fx3_0⟩ := qx3
    have R4 := R3.call S4 (by decide +kernel)
    refine z_ok (fun ox3 _ _ => ?_)
    have ox3 := ox3.1; unfold m_ok m_32 at ox3
    refine z_istore_n (M := M_X12_wrong) 27 dX12_wrong_27 (ls' := [some (mR 108), some (mI a1), some (mI x3), none, none, none, none, none, none, none, none]) (by decide) rfl ?_
    refine z_aload_n (M := M_X12_wrong) 28 dX12_wrong_28 rfl ?_
    refine z_getR (M := M_X12_wrong) 29 dX12_wrong_29 f_X12_13 o_108 rfl (g_108_3 G4) ?_
    refine z_iconst (M := M_X12_wrong) 32 dX12_wrong_32 ?_
    refine z_ialdG (M := M_X12_wrong) 33 dX12_wrong_33 o_110 (by omega) (by omega) (gw_0 G4) (fun x4 ex4 ax4 bx4 => ?_)
    refine z_istore_n (M := M_X12_wrong) 34 dX12_wrong_34 (ls' := [some (mR 108), some (mI a1), some (mI x3), some (mI x4), none, none, none, none, none, none, none]) (by decide) rfl ?_
    refine z_iconst (M := M_X12_wrong) 35 dX12_wrong_35 ?_
    refine z_istore (M := M_X12_wrong) 36 dX12_wrong_36 (ls' := [some (mR 108), some (mI a1), some (mI x3), some (mI x4), some (mI 0), none, none, none, none, none, none]) (by decide) rfl ?_
    exact z_mask [true, true, true, true, true, false, false, false, false, false, false] rfl (ih.1 x3 x4 0 h4 G4 R4 (by omega) (by omega) (by omega) (by omega) (by omega) (by omega) (by omega))
  · refine z_if_ne_F (M := M_X12_wrong) 14 dX12_wrong_14 19 rfl (by omega) ?_
    refine z_iconst (M := M_X12_wrong) 17 dX12_wrong_17 ?_
    exact z_retI (M := M_X12_wrong) 18 dX12_wrong_18 rfl ⟨G1, R1⟩
abbrev P_X12_waysWith (h0 : m_H) (a1 a2 : Int) : Int → m_H → Prop := fun x h' => GI h' ∧ FR [115, 116, 117, 118, 119, 120, 121, 122, 124, 125, 126, 127, 128, 129, 130, 131, 132, 133, 134] [(108, 21)] h0 h'
def q_X12_waysWith (h0 : m_H) (a1 a2 : Int) (n : Nat) : Prop := (∀ (l3 l4 : Int) (h : m_H), GI h → FR [115, 116, 117, 118, 119, 120, 121, 122, 124, 125, 126, 127, 128, 129, 130, 131, 132, 133, 134] [(108, 21)] h0 h → 0 ≤ l4 → l4 ≤ 81 → 11 * (81 - l4) + (10) ≤ (n : Int) → m_Z oF M_X12_waysWith 5 [some (mR 108), some (mI a1), some (mI a2), some (mI l3), some (mI l4), none] [] h (m_QI (P_X12_waysWith h0 a1 a2))) ∧ (∀ (l3 l4 l5 : Int) (h : m_H), GI h → FR [115, 116, 117, 118, 119, 120, 121, 122, 124, 125, 126, 127, 128, 129, 130, 131, 132, 133, 134] [(108, 21)] h0 h → 0 ≤ l4 → l4 ≤ 80 → 0 ≤ l5 → l5 ≤ 3 → 11 * (81 - l4) + 2 * (3 - l5) + (1) ≤ (n : Int) → m_Z oF M_X12_waysWith 38 [some (mR 108), some (mI a1), some (mI a2), some (mI l3), some (mI l4), some (mI l5)] [] h (m_QI (P_X12_waysWith h0 a1 a2)))
set_option maxHeartbeats 4000000 in
set_option maxRecDepth 100000 in
theorem s_X12_waysWith_5 (h0 : m_H) (a1 a2 : Int) (G0 : GI h0) (pa1 : 0 ≤ a1 ∧ a1 ≤ 2) (pa2 : (-1) ≤ a2 ∧ a2 ≤ 3) (hN : NP h0) (n : Nat) (ih : q_X12_waysWith h0 a1 a2 n) : ∀ (l3 l4 : Int) (h : m_H), GI h → FR [115, 116, 117, 118, 119, 120, 121, 122, 124, 125, 126, 127, 128, 129, 130, 131, 132, 133, 134] [(108, 21)] h0 h → 0 ≤ l4 → l4 ≤ 81 → 11 * (81 - l4) + (10) ≤ ((n + 1 : Nat) : Int) → m_Z oF M_X12_waysWith 5 [some (mR 108), some (mI a1), some (mI a2), some (mI l3), some (mI l4), none] [] h (m_QI (P_X12_waysWith h0 a1 a2)) := by
  intro l3 l4 h G R v0 v1 hr
  refine z_ok (fun ostk _ olocs => ?_)
  have ol3 : m_32 l3 := olocs 3 _ rfl
  unfold m_32 at ol3
  refine z_iload (M := M_X12_waysWith) 5 dX12_waysWith_5 rfl ?_
  refine z_iconst (M := M_X12_waysWith) 7 dX12_waysWith_7 ?_
  refine z_iconst (M := M_X12_waysWith) 8 dX12_waysWith_8 ?_
  refine z_aload_n (M := M_X12_waysWith) 9 dX12_waysWith_9 rfl ?_
  refine z_getIG (M := M_X12_waysWith) 10 dX12_waysWith_10 f_X12_487 o_108 (by decide) (g_108_58 G) (fun x1 ex1 ax1 bx1 => ?_)
  refine z_imulN (M := M_X12_waysWith) 13 dX12_waysWith_13 (by omega) (by omega) ?_
  refine z_ishl (M := M_X12_waysWith) 14 dX12_waysWith_14 ?_
  refine z_topBI (lo := 1) (hi := 64) (shl_b (by omega) (by omega)) (fun x2 ex2 ax2 bx2 => ?_)
  refine z_icmp_ge (M := M_X12_waysWith) 15 dX12_waysWith_15 99 rfl (fun c3 => ?_) (fun c3 => ?_)
  · refine z_iload_n (M := M_X12_waysWith) 99 dX12_waysWith_99 rfl ?_
    exact z_retI (M := M_X12_waysWith) 100 dX12_waysWith_100 rfl ⟨G, R⟩
  · refine z_iload_n (M := M_X12_waysWith) 18 dX12_waysWith_18 rfl ?_
    refine z_iconst (M := M_X12_waysWith) 19 dX12_waysWith_19 ?_
    refine z_icmp_eq (M := M_X12_waysWith) 20 dX12_waysWith_20 35 rfl (fun c4 => ?_) (fun c4 => ?_)
    · refine z_iconst (M := M_X12_waysWith) 35 dX12_waysWith_35 ?_
      refine z_istore (M := M_X12_waysWith) 36 dX12_waysWith_36 (ls' := [some (mR 108), some (mI a1), some (mI a2), some (mI l3), some (mI l4), some (mI 0)]) (by decide) rfl ?_
      exact z_mask [true, true, true, true, true, true] rfl (ih.2 l3 l4 0 h G R (by omega) (by omega) (by omega) (by omega) (by omega))
    · refine z_iload (M := M_X12_waysWith) 23 dX12_waysWith_23 rfl ?_
      refine z_iconst (M := M_X12_waysWith) 25 dX12_waysWith_25 ?_
      refine z_iload_n (M := M_X12_waysWith) 26 dX12_waysWith_26 rfl ?_
      refine z_imulN (M := M_X12_waysWith) 27 dX12_waysWith_27 (by omega) (by omega) ?_
      refine z_ishr (M := M_X12_waysWith) 28 dX12_waysWith_28 ?_
      refine z_topm (fun x5 ex5 ox5 => ?_)
      unfold m_32 at ox5
      refine z_iconst (M := M_X12_waysWith) 29 dX12_waysWith_29 ?_
      refine z_iand (M := M_X12_waysWith) 30 dX12_waysWith_30 ?_
      refine z_topBI (m_and_3 _) (fun x6 ex6 ax6 bx6 => ?_)
      refine z_iload_n (M := M_X12_waysWith) 31 dX12_waysWith_31 rfl ?_
      refine z_icmp_ne (M := M_X12_waysWith) 32 dX12_waysWith_32 93 rfl (fun c7 => ?_) (fun c7 => ?_)
      · refine z_iincN (M := M_X12_waysWith) 93 dX12_waysWith_93 (ls' := [some (mR 108), some (mI a1), some (mI a2), some (mI l3), some (mI (l4 + 1)), none]) (by decide) rfl (by (unfold m_32; decide)) (by omega) (by omega) rfl ?_
        refine z_goto (M := M_X12_waysWith) 96 dX12_waysWith_96 5 rfl ?_
        exact z_mask [true, true, true, true, true, false] rfl (ih.1 l3 (l4 + 1) h G R (by omega) (by omega) (by omega))
      · refine z_iconst (M := M_X12_waysWith) 35 dX12_waysWith_35 ?_
        refine z_istore (M := M_X12_waysWith) 36 dX12_waysWith_36 (ls' := [some (mR 108), some (mI a1), some (mI a2), some (mI l3), some (mI l4), some (mI 0)]) (by decide) rfl ?_
        exact z_mask [true, true, true, true, true, true] rfl (ih.2 l3 l4 0 h G R (by omega) (by omega) (by omega) (by omega) (by omega))
set_option maxHeartbeats 4000000 in
set_option maxRecDepth 100000 in
theorem s_X12_waysWith_38 (h0 : m_H) (a1 a2 : Int) (G0 : GI h0) (pa1 : 0 ≤ a1 ∧ a1 ≤ 2) (pa2 : (-1) ≤ a2 ∧ a2 ≤ 3) (hN : NP h0) (n : Nat) (ih : q_X12_waysWith h0 a1 a2 n) : ∀ (l3 l4 l5 : Int) (h : m_H), GI h → FR [115, 116, 117, 118, 119, 120, 121, 122, 124, 125, 126, 127, 128, 129, 130, 131, 132, 133, 134] [(108, 21)] h0 h → 0 ≤ l4 → l4 ≤ 80 → 0 ≤ l5 → l5 ≤ 3 → 11 * (81 - l4) + 2 * (3 - l5) + (1) ≤ ((n + 1 : Nat) : Int) → m_Z oF M_X12_waysWith 38 [some (mR 108), some (mI a1), some (mI a2), some (mI l3), some (mI l4), some (mI l5)] [] h (m_QI (P_X12_waysWith h0 a1 a2)) := by
  intro l3 l4 l5 h G R v0 v1 v2 v3 hr
  refine z_ok (fun ostk _ olocs => ?_)
  have ol3 : m_32 l3 := olocs 3 _ rfl
  unfold m_32 at ol3
  refine z_iload (M := M_X12_waysWith) 38 dX12_waysWith_38 rfl ?_
  refine z_aload_n (M := M_X12_waysWith) 40 dX12_waysWith_40 rfl ?_
  refine z_getIG (M := M_X12_waysWith) 41 dX12_waysWith_41 f_X12_487 o_108 (by decide) (g_108_58 G) (fun x1 ex1 ax1 bx1 => ?_)
  refine z_icmp_ge (M := M_X12_waysWith) 44 dX12_waysWith_44 74 rfl (fun c2 => ?_) (fun c2 => ?_)
  · refine z_iload_n (M := M_X12_waysWith) 74 dX12_waysWith_74 rfl ?_
    refine z_aload_n (M := M_X12_waysWith) 75 dX12_waysWith_75 rfl ?_
    refine z_aload_n (M := M_X12_waysWith) 76 dX12_waysWith_76 rfl ?_
    refine z_vI (M := M_X12_waysWith) 77 dX12_waysWith_77 t_X12_counting l_X12_370 (m_rr_of rfl) (rest := [mR 108, mI l3]) (c_X12_countingX h G) o_108 rfl rfl rfl (Nat.le_of_ble_eq_true rfl) ⟨rfl, rfl⟩ (fun x3 h1 qx3 => ?_)
    obtain ⟨G1, S1, fx3_0⟩ := qx3
    have R1 := R.call S1 (by decide +kernel)
    refine z_ok (fun ox3 _ _ => ?_)
    have ox3 := ox3.1; unfold m_ok m_32 at ox3
    refine z_vI (M := M_X12_waysWith) 80 dX12_waysWith_80 t_X12_canBe l_X12_374 (m_rr_of rfl) (rest := [mI l3]) (c_X12_canBe h1 x3 G1 (NP.call hN R1 (fun _ => rfl) (fun _ => rfl) (fun _ => rfl))) o_108 rfl rfl rfl (Nat.le_of_ble_eq_true rfl) ⟨rfl, rfl⟩ (fun x4 h2 qx4 => ?_)
    obtain ⟨G2, S2, ax4, bx4, fx4_0⟩ := qx4
    have R2 := R1.call S2 (by decide +kernel)
    refine z_if_eq (M := M_X12_waysWith) 83 dX12_waysWith_83 90 rfl (fun c5 => ?_) (fun c5 => ?_)
    · refine z_iconst (M := M_X12_waysWith) 90 dX12_waysWith_90 ?_
      refine z_iaddN (M := M_X12_waysWith) 91 dX12_waysWith_91 (by omega) (by omega) ?_
      refine z_istore_n (M := M_X12_waysWith) 92 dX12_waysWith_92 (ls' := [some (mR 108), some (mI a1), some (mI a2), some (mI (l3 + 0)), some (mI l4), some (mI l5)]) (by decide) rfl ?_
      refine z_iincN (M := M_X12_waysWith) 93 dX12_waysWith_93 (ls' := [some (mR 108), some (mI a1), some (mI a2), some (mI (l3 + 0)), some (mI (l4 + 1)), some (mI l5)]) (by decide) rfl (by (unfold m_32; decide)) (by omega) (by omega) rfl ?_
      refine z_goto (M := M_X12_waysWith) 96 dX12_waysWith_96 5 rfl ?_
      exact z_mask [true, true, true, true, true, false] rfl (ih.1 (l3 + 0) (l4 + 1) h2 G2 R2 (by omega) (by omega) (by omega))
    · refine z_iconst (M := M_X12_waysWith) 86 dX12_waysWith_86 ?_
      refine z_goto (M := M_X12_waysWith) 87 dX12_waysWith_87 91 rfl ?_
      refine z_iadd (M := M_X12_waysWith) 91 dX12_waysWith_91 ?_
      refine z_topm (fun x6 ex6 ox6 => ?_)
      unfold m_32 at ox6
      refine z_istore_n (M := M_X12_waysWith) 92 dX12_waysWith_92 (ls' := [some (mR 108), some (mI a1), some (mI a2), some (mI x6), some (mI l4), some (mI l5)]) (by decide) rfl ?_
      refine z_iincN (M := M_X12_waysWith) 93 dX12_waysWith_93 (ls' := [some (mR 108), some (mI a1), some (mI a2), some (mI x6), some (mI (l4 + 1)), some (mI l5)]) (by decide) rfl (by (unfold m_32; decide)) (by omega) (by omega) rfl ?_
      refine z_goto (M := M_X12_waysWith) 96 dX12_waysWith_96 5 rfl ?_
      exact z_mask [true, true, true, true, true, false] rfl (ih.1 x6 (l4 + 1) h2 G2 R2 (by omega) (by omega) (by omega))
  · refine z_aload_n (M := M_X12_waysWith) 47 dX12_waysWith_47 rfl ?_
    refine z_getR (M := M_X12_waysWith) 48 dX12_waysWith_48 f_X12_55 o_108 rfl (g_108_27 G) ?_
    refine z_aload_n (M := M_X12_waysWith) 51 dX12_waysWith_51 rfl ?_
    refine z_getR (M := M_X12_waysWith) 52 dX12_waysWith_52 f_X12_127 o_108 rfl (g_108_57 G) ?_
    refine z_iload (M := M_X12_waysWith) 55 dX12_waysWith_55 rfl ?_
    refine z_ialdG (M := M_X12_waysWith) 57 dX12_waysWith_57 o_146 (by omega) (by omega) (g_146 G (by omega)) (fun x7 ex7 ax7 bx7 => ?_)
    refine z_iload (M := M_X12_waysWith) 58 dX12_waysWith_58 rfl ?_
    refine z_iconst (M := M_X12_waysWith) 60 dX12_waysWith_60 ?_
    refine z_iload (M := M_X12_waysWith) 61 dX12_waysWith_61 rfl ?_
    refine z_imulN (M := M_X12_waysWith) 63 dX12_waysWith_63 (by omega) (by omega) ?_
    refine z_ishr (M := M_X12_waysWith) 64 dX12_waysWith_64 ?_
    refine z_topm (fun x8 ex8 ox8 => ?_)
    unfold m_32 at ox8
    refine z_iconst (M := M_X12_waysWith) 65 dX12_waysWith_65 ?_
    refine z_iand (M := M_X12_waysWith) 66 dX12_waysWith_66 ?_
    refine z_topBI (m_and_3 _) (fun x9 ex9 ax9 bx9 => ?_)
    refine z_iastH (M := M_X12_waysWith) 67 dX12_waysWith_67 o_122 (by omega) (by omega) (u_122 G (by omega) (by omega)) (R.up rfl) (fun h3 E3 G3 R3 => ?_)
    refine z_iincN (M := M_X12_waysWith) 68 dX12_waysWith_68 (ls' := [some (mR 108), some (mI a1), some (mI a2), some (mI l3), some (mI l4), some (mI (l5 + 1))]) (by decide) rfl (by (unfold m_32; decide)) (by omega) (by omega) rfl ?_
    refine z_goto (M := M_X12_waysWith) 71 dX12_waysWith_71 38 rfl ?_
    exact z_mask [true, true, true, true, true, true] rfl (ih.2 l3 l4 (l5 + 1) h3 G3 R3 (by omega) (by omega) (by omega) (by omega) (by omega))
theorem a_X12_waysWith (h0 : m_H) (a1 a2 : Int) (G0 : GI h0) (pa1 : 0 ≤ a1 ∧ a1 ≤ 2) (pa2 : (-1) ≤ a2 ∧ a2 ≤ 3) (hN : NP h0) : ∀ n, q_X12_waysWith h0 a1 a2 n := by
  intro n
  induction n with
  | zero => unfold q_X12_waysWith; refine ⟨?_, ?_⟩ <;> (intros; omega)
  | succ n ih => exact ⟨s_X12_waysWith_5 h0 a1 a2 G0 pa1 pa2 hN n ih, s_X12_waysWith_38 h0 a1 a2 G0 pa1 pa2 hN n ih⟩
set_option maxHeartbeats 4000000 in
set_option maxRecDepth 100000 in
theorem c_X12_waysWith (h0 : m_H) (a1 a2 : Int) (G0 : GI h0) (pa1 : 0 ≤ a1 ∧ a1 ≤ 2) (pa2 : (-1) ≤ a2 ∧ a2 ≤ 3) (hN : NP h0) : m_CI M_X12_waysWith [mR 108, mI a1, mI a2] h0 (P_X12_waysWith h0 a1 a2) := by
  refine m_CI_of ⟨by decide, rfl, by simp [m_arg, m_isL, M_X12_waysWith], ⟨rfl, rfl⟩, rfl, rfl⟩ (ls := [some (mR 108), some (mI a1), some (mI a2), none, none, none]) rfl ?_
  have ih := a_X12_waysWith h0 a1 a2 G0 pa1 pa2 hN 908
  refine z_iconst (M := M_X12_waysWith) 0 dX12_waysWith_0 ?_
  refine z_istore_n (M := M_X12_waysWith) 1 dX12_waysWith_1 (ls' := [some (mR 108), some (mI a1), some (mI a2), some (mI 0), none, none]) (by decide) rfl ?_
  refine z_iconst (M := M_X12_waysWith) 2 dX12_waysWith_2 ?_
  refine z_istore (M := M_X12_waysWith) 3 dX12_waysWith_3 (ls' := [some (mR 108), some (mI a1), some (mI a2), some (mI 0), some (mI 0), none]) (by decide) rfl ?_
  exact z_mask [true, true, true, true, true, false] rfl (ih.1 0 0 h0 G0 (FR.rf (cs := [115, 116, 117, 118, 119, 120, 121, 122, 124, 125, 126, 127, 128, 129, 130, 131, 132, 133, 134]) (ss := [(108, 21)]) (h := h0)) (by omega) (by omega) (by omega))
abbrev P_X12_whose (h0 : m_H) (a1 : Int) : Int → m_H → Prop := fun x h' => GI h' ∧ FR [115, 116, 117, 118, 119, 120, 121, 122, 123, 124, 125, 126, 127, 128, 129, 130, 131, 132, 133, 134, 146] [(108, 0), (108, 21), (108, 58)] h0 h'
def q_X12_whose (h0 : m_H) (a1 : Int) (n : Nat) : Prop := (∀ (l2 l3 l4 : Int) (h : m_H), GI h → FR [115, 116, 117, 118, 119, 120, 121, 122, 123, 124, 125, 126, 127, 128, 129, 130, 131, 132, 133, 134, 146] [(108, 0), (108, 21), (108, 58)] h0 h → 0 ≤ l2 → l2 ≤ 2 → (-1) ≤ l3 → l3 ≤ 5 → 0 ≤ l4 → l4 ≤ 4 → (-2147483648) ≤ a1 → a1 ≤ 2147483647 → 2 * (4 - l4) + (1) ≤ (n : Int) → m_Z oF M_X12_whose 44 [some (mR 108), none, some (mI l2), some (mI l3), some (mI l4)] [] h (m_QI (P_X12_whose h0 a1)))
set_option maxHeartbeats 4000000 in
set_option maxRecDepth 100000 in
theorem s_X12_whose_44 (h0 : m_H) (a1 : Int) (G0 : GI h0) (hN : NP h0) (n : Nat) (ih : q_X12_whose h0 a1 n) : ∀ (l2 l3 l4 : Int) (h : m_H), GI h → FR [115, 116, 117, 118, 119, 120, 121, 122, 123, 124, 125, 126, 127, 128, 129, 130, 131, 132, 133, 134, 146] [(108, 0), (108, 21), (108, 58)] h0 h → 0 ≤ l2 → l2 ≤ 2 → (-1) ≤ l3 → l3 ≤ 5 → 0 ≤ l4 → l4 ≤ 4 → (-2147483648) ≤ a1 → a1 ≤ 2147483647 → 2 * (4 - l4) + (1) ≤ ((n + 1 : Nat) : Int) → m_Z oF M_X12_whose 44 [some (mR 108), none, some (mI l2), some (mI l3), some (mI l4)] [] h (m_QI (P_X12_whose h0 a1)) := by
  intro l2 l3 l4 h G R v0 v1 v2 v3 v4 v5 v6 v7 hr
  refine z_iload (M := M_X12_whose) 44 dX12_whose_44 rfl ?_
  refine z_iconst (M := M_X12_whose) 46 dX12_whose_46 ?_
  refine z_icmp_ge (M := M_X12_whose) 47 dX12_whose_47 78 rfl (fun c1 => ?_) (fun c1 => ?_)
  · refine z_iload_n (M := M_X12_whose) 78 dX12_whose_78 rfl ?_
    exact z_retI (M := M_X12_whose) 79 dX12_whose_79 rfl ⟨G, R⟩
  · refine z_aload_n (M := M_X12_whose) 50 dX12_whose_50 rfl ?_
    refine z_iload_n (M := M_X12_whose) 51 dX12_whose_51 rfl ?_
    refine z_iload (M := M_X12_whose) 52 dX12_whose_52 rfl ?_
    refine z_vI (M := M_X12_whose) 54 dX12_whose_54 t_X12_waysWith l_X12_493 (m_rr_of rfl) (rest := []) (c_X12_waysWith h l2 l4 G ⟨by omega, by omega⟩ ⟨by omega, by omega⟩ (NP.call hN R (fun _ => rfl) (fun _ => rfl) (fun _ => rfl))) o_108 rfl rfl rfl (Nat.le_of_ble_eq_true rfl) ⟨rfl, rfl⟩ (fun x2 h1 qx2 => ?_)
    obtain ⟨G1, S1⟩ := qx2
    have R1 := R.call S1 (by decide +kernel)
    refine z_ok (fun ox2 _ _ => ?_)
    have ox2 := ox2.1; unfold m_ok m_32 at ox2
    refine z_if_le (M := M_X12_whose) 57 dX12_whose_57 72 rfl (fun c3 => ?_) (fun c3 => ?_)
    · refine z_iincN (M := M_X12_whose) 72 dX12_whose_72 (ls' := [some (mR 108), none, some (mI l2), some (mI l3), some (mI (l4 + 1))]) (by decide) rfl (by (unfold m_32; decide)) (by omega) (by omega) rfl ?_
      refine z_goto (M := M_X12_whose) 75 dX12_whose_75 44 rfl ?_
      exact z_mask [true, false, true, true, true] rfl (ih l2 l3 (l4 + 1) h1 G1 R1 (by omega) (by omega) (by omega) (by omega) (by omega) (by omega) (by omega) (by omega) (by omega))
    · refine z_iload_n (M := M_X12_whose) 60 dX12_whose_60 rfl ?_
      refine z_iconst (M := M_X12_whose) 61 dX12_whose_61 ?_
      refine z_icmp_ne (M := M_X12_whose) 62 dX12_whose_62 70 rfl (fun c4 => ?_) (fun c4 => ?_)
      · refine z_iconst (M := M_X12_whose) 70 dX12_whose_70 ?_
        refine z_istore_n (M := M_X12_whose) 71 dX12_whose_71 (ls' := [some (mR 108), none, some (mI l2), some (mI 5), some (mI l4)]) (by decide) rfl ?_
        refine z_iincN (M := M_X12_whose) 72 dX12_whose_72 (ls' := [some (mR 108), none, some (mI l2), some (mI 5), some (mI (l4 + 1))]) (by decide) rfl (by (unfold m_32; decide)) (by omega) (by omega) rfl ?_
        refine z_goto (M := M_X12_whose) 75 dX12_whose_75 44 rfl ?_
        exact z_mask [true, false, true, true, true] rfl (ih l2 5 (l4 + 1) h1 G1 R1 (by omega) (by omega) (by omega) (by omega) (by omega) (by omega) (by omega) (by omega) (by omega))
      · refine z_iload (M := M_X12_whose) 65 dX12_whose_65 rfl ?_
        refine z_goto (M := M_X12_whose) 67 dX12_whose_67 71 rfl ?_
        refine z_istore_n (M := M_X12_whose) 71 dX12_whose_71 (ls' := [some (mR 108), none, some (mI l2), some (mI l4), some (mI l4)]) (by decide) rfl ?_
        refine z_iincN (M := M_X12_whose) 72 dX12_whose_72 (ls' := [some (mR 108), none, some (mI l2), some (mI l4), some (mI (l4 + 1))]) (by decide) rfl (by (unfold m_32; decide)) (by omega) (by omega) rfl ?_
        refine z_goto (M := M_X12_whose) 75 dX12_whose_75 44 rfl ?_
        exact z_mask [true, false, true, true, true] rfl (ih l2 l4 (l4 + 1) h1 G1 R1 (by omega) (by omega) (by omega) (by omega) (by omega) (by omega) (by omega) (by omega) (by omega))
theorem a_X12_whose (h0 : m_H) (a1 : Int) (G0 : GI h0) (hN : NP h0) : ∀ n, q_X12_whose h0 a1 n := by
  intro n
  induction n with
  | zero => unfold q_X12_whose; intros; omega
  | succ n ih => exact s_X12_whose_44 h0 a1 G0 hN n ih
set_option maxHeartbeats 4000000 in
set_option maxRecDepth 100000 in
theorem c_X12_whose (h0 : m_H) (a1 : Int) (G0 : GI h0) (hN : NP h0) : m_CI M_X12_whose [mR 108, mI a1] h0 (P_X12_whose h0 a1) := by
  refine m_CI_of ⟨by decide, rfl, by simp [m_arg, m_isL, M_X12_whose], ⟨rfl, rfl⟩, rfl, rfl⟩ (ls := [some (mR 108), some (mI a1), none, none, none]) rfl ?_
  have ih := a_X12_whose h0 a1 G0 hN 16
  refine z_ok (fun _ _ ok => ?_)
  have oa1 : m_32 a1 := ok 1 _ rfl
  unfold m_32 at oa1
  refine z_aload_n (M := M_X12_whose) 0 dX12_whose_0 rfl ?_
  refine z_iconst (M := M_X12_whose) 1 dX12_whose_1 ?_
  refine z_putIH (M := M_X12_whose) 2 dX12_whose_2 p_X12_133 o_108 rfl (u_108_0 G0) ((FR.rf (cs := [115, 116, 117, 118, 119, 120, 121, 122, 123, 124, 125, 126, 127, 128, 129, 130, 131, 132, 133, 134, 146]) (ss := [(108, 0), (108, 21), (108, 58)]) (h := h0)).up rfl) (fun h1 E1 G1 R1 => ?_)
  refine z_aload_n (M := M_X12_whose) 5 dX12_whose_5 rfl ?_
  refine z_vI (M := M_X12_whose) 6 dX12_whose_6 t_X12_findAsked l_X12_490 (m_rr_of rfl) (rest := []) (c_X12_findAsked h1 G1) o_108 rfl rfl rfl (Nat.le_of_ble_eq_true rfl) ⟨rfl, rfl⟩ (fun x1 h2 qx1 => ?_)
  obtain ⟨G2, S2, ax1, bx1⟩ := qx1
  have R2 := R1.call S2 (by decide +kernel)
  refine z_if_ne (M := M_X12_whose) 9 dX12_whose_9 14 rfl (fun c2 => ?_) (fun c2 => ?_)
  · refine z_iload_n (M := M_X12_whose) 14 dX12_whose_14 rfl ?_
    refine z_iconst (M := M_X12_whose) 15 dX12_whose_15 ?_
    refine z_icmp_ne (M := M_X12_whose) 16 dX12_whose_16 26 rfl (fun c3 => ?_) (fun c3 => ?_)
    · refine z_aload_n (M := M_X12_whose) 26 dX12_whose_26 rfl ?_
      refine z_iload_n (M := M_X12_whose) 27 dX12_whose_27 rfl ?_
      refine z_vI (M := M_X12_whose) 28 dX12_whose_28 t_X12_whichOf l_X12_496 (m_rr_of rfl) (rest := []) (c_X12_whichOf h2 a1 G2) o_108 rfl rfl rfl (Nat.le_of_ble_eq_true rfl) ⟨rfl, rfl⟩ (fun x4 h3 qx4 => ?_)
      obtain ⟨G3, S3, ax4, bx4⟩ := qx4
      have R3 := R2.call S3 (by decide +kernel)
      refine z_istore_n (M := M_X12_whose) 31 dX12_whose_31 (ls' := [some (mR 108), some (mI a1), some (mI x4), none, none]) (by decide) rfl ?_
      refine z_iload_n (M := M_X12_whose) 32 dX12_whose_32 rfl ?_
      refine z_iconst (M := M_X12_whose) 33 dX12_whose_33 ?_
      refine z_icmp_ne (M := M_X12_whose) 34 dX12_whose_34 39 rfl (fun c5 => ?_) (fun c5 => ?_)
      · refine z_iconst (M := M_X12_whose) 39 dX12_whose_39 ?_
        refine z_istore_n (M := M_X12_whose) 40 dX12_whose_40 (ls' := [some (mR 108), some (mI a1), some (mI x4), some (mI (-1)), none]) (by decide) rfl ?_
        refine z_iconst (M := M_X12_whose) 41 dX12_whose_41 ?_
        refine z_istore (M := M_X12_whose) 42 dX12_whose_42 (ls' := [some (mR 108), some (mI a1), some (mI x4), some (mI (-1)), some (mI 0)]) (by decide) rfl ?_
        exact z_mask [true, false, true, true, true] rfl (ih x4 (-1) 0 h3 G3 R3 (by omega) (by omega) (by omega) (by omega) (by omega) (by omega) (by omega) (by omega) (by omega))
      · refine z_iconst (M := M_X12_whose) 37 dX12_whose_37 ?_
        exact z_retI (M := M_X12_whose) 38 dX12_whose_38 rfl ⟨G3, R3⟩
    · refine z_aload_n (M := M_X12_whose) 19 dX12_whose_19 rfl ?_
      refine z_iconst (M := M_X12_whose) 20 dX12_whose_20 ?_
      refine z_iconst (M := M_X12_whose) 21 dX12_whose_21 ?_
      refine z_vI (M := M_X12_whose) 22 dX12_whose_22 t_X12_waysWith l_X12_493 (m_rr_of rfl) (rest := []) (c_X12_waysWith h2 0 (-1) G2 ⟨by omega, by omega⟩ ⟨by omega, by omega⟩ (NP.call hN R2 (fun _ => rfl) (fun _ => rfl) (fun _ => rfl))) o_108 rfl rfl rfl (Nat.le_of_ble_eq_true rfl) ⟨rfl, rfl⟩ (fun x6 h4 qx6 => ?_)
      obtain ⟨G4, S4⟩ := qx6
      have R4 := R2.call S4 (by decide +kernel)
      refine z_ok (fun ox6 _ _ => ?_)
      have ox6 := ox6.1; unfold m_ok m_32 at ox6
      exact z_retI (M := M_X12_whose) 25 dX12_whose_25 rfl ⟨G4, R4⟩
  · refine z_iconst (M := M_X12_whose) 12 dX12_whose_12 ?_
    exact z_retI (M := M_X12_whose) 13 dX12_whose_13 rfl ⟨G2, R2⟩
abbrev P_X12_could (h0 : m_H) (a1 a2 : Int) : Int → m_H → Prop := fun x h' => GI h' ∧ FR [115, 116, 117, 118, 119, 120, 121, 122, 123, 124, 125, 126, 127, 128, 129, 130, 131, 132, 133, 134, 146] [(108, 0), (108, 21), (108, 58)] h0 h'
set_option maxHeartbeats 4000000 in
set_option maxRecDepth 100000 in
theorem c_X12_could (h0 : m_H) (a1 a2 : Int) (G0 : GI h0) (hN : NP h0) : m_CI M_X12_could [mR 108, mI a1, mI a2] h0 (P_X12_could h0 a1 a2) := by
  refine m_CI_of ⟨by decide, rfl, by simp [m_arg, m_isL, M_X12_could], ⟨rfl, rfl⟩, rfl, rfl⟩ (ls := [some (mR 108), some (mI a1), some (mI a2), none]) rfl ?_
  refine z_ok (fun _ _ ok => ?_)
  have oa1 : m_32 a1 := ok 1 _ rfl
  unfold m_32 at oa1
  have oa2 : m_32 a2 := ok 2 _ rfl
  unfold m_32 at oa2
  refine z_aload_n (M := M_X12_could) 0 dX12_could_0 rfl ?_
  refine z_iconst (M := M_X12_could) 1 dX12_could_1 ?_
  refine z_putIH (M := M_X12_could) 2 dX12_could_2 p_X12_133 o_108 rfl (u_108_0 G0) ((FR.rf (cs := [115, 116, 117, 118, 119, 120, 121, 122, 123, 124, 125, 126, 127, 128, 129, 130, 131, 132, 133, 134, 146]) (ss := [(108, 0), (108, 21), (108, 58)]) (h := h0)).up rfl) (fun h1 E1 G1 R1 => ?_)
  refine z_iload_n (M := M_X12_could) 5 dX12_could_5 rfl ?_
  refine z_sI (M := M_X12_could) 6 dX12_could_6 t_X12_isKeeper l_X12_169 (m_rr_of rfl) (rest := []) (c_X12_isKeeper h1 a2 G1) rfl rfl (Nat.le_of_ble_eq_true rfl) ⟨rfl, rfl⟩ (fun x1 h2 qx1 => ?_)
  obtain ⟨rfl, ⟨rfl, cx1⟩ | ⟨rfl, cx1⟩⟩ := qx1
  · refine z_if_eq_F (M := M_X12_could) 9 dX12_could_9 19 rfl (by omega) ?_
    refine z_aload_n (M := M_X12_could) 12 dX12_could_12 rfl ?_
    refine z_vI (M := M_X12_could) 13 dX12_could_13 t_X12_findAsked l_X12_490 (m_rr_of rfl) (rest := []) (c_X12_findAsked h1 G1) o_108 rfl rfl rfl (Nat.le_of_ble_eq_true rfl) ⟨rfl, rfl⟩ (fun x2 h3 qx2 => ?_)
    obtain ⟨G3, S3, ax2, bx2⟩ := qx2
    have R3 := R1.call S3 (by decide +kernel)
    refine z_if_ne (M := M_X12_could) 16 dX12_could_16 21 rfl (fun c3 => ?_) (fun c3 => ?_)
    · refine z_aload_n (M := M_X12_could) 21 dX12_could_21 rfl ?_
      refine z_iload_n (M := M_X12_could) 22 dX12_could_22 rfl ?_
      refine z_vI (M := M_X12_could) 23 dX12_could_23 t_X12_whichOf l_X12_496 (m_rr_of rfl) (rest := []) (c_X12_whichOf h3 a1 G3) o_108 rfl rfl rfl (Nat.le_of_ble_eq_true rfl) ⟨rfl, rfl⟩ (fun x4 h4 qx4 => ?_)
      obtain ⟨G4, S4, ax4, bx4⟩ := qx4
      have R4 := R3.call S4 (by decide +kernel)
      refine z_istore_n (M := M_X12_could) 26 dX12_could_26 (ls' := [some (mR 108), some (mI a1), some (mI a2), some (mI x4)]) (by decide) rfl ?_
      refine z_iload_n (M := M_X12_could) 27 dX12_could_27 rfl ?_
      refine z_iconst (M := M_X12_could) 28 dX12_could_28 ?_
      refine z_icmp_ne (M := M_X12_could) 29 dX12_could_29 36 rfl (fun c5 => ?_) (fun c5 => ?_)
      · refine z_aload_n (M := M_X12_could) 36 dX12_could_36 rfl ?_
        refine z_iload_n (M := M_X12_could) 37 dX12_could_37 rfl ?_
        refine z_iload_n (M := M_X12_could) 38 dX12_could_38 rfl ?_
        refine z_vI (M := M_X12_could) 39 dX12_could_39 t_X12_waysWith l_X12_493 (m_rr_of rfl) (rest := []) (c_X12_waysWith h4 x4 a2 G4 ⟨by omega, by omega⟩ ⟨by omega, by omega⟩ (NP.call hN R4 (fun _ => rfl) (fun _ => rfl) (fun _ => rfl))) o_108 rfl rfl rfl (Nat.le_of_ble_eq_true rfl) ⟨rfl, rfl⟩ (fun x6 h5 qx6 => ?_)
        obtain ⟨G5, S5⟩ := qx6
        have R5 := R4.call S5 (by decide +kernel)
        refine z_ok (fun ox6 _ _ => ?_)
        have ox6 := ox6.1; unfold m_ok m_32 at ox6
        exact z_retI (M := M_X12_could) 42 dX12_could_42 rfl ⟨G5, R5⟩
      · refine z_iconst (M := M_X12_could) 32 dX12_could_32 ?_
        refine z_goto (M := M_X12_could) 33 dX12_could_33 42 rfl ?_
        exact z_retI (M := M_X12_could) 42 dX12_could_42 rfl ⟨G4, R4⟩
    · refine z_iconst (M := M_X12_could) 19 dX12_could_19 ?_
      exact z_retI (M := M_X12_could) 20 dX12_could_20 rfl ⟨G3, R3⟩
  · refine z_if_eq_T (M := M_X12_could) 9 dX12_could_9 19 rfl (by omega) ?_
    refine z_iconst (M := M_X12_could) 19 dX12_could_19 ?_
    exact z_retI (M := M_X12_could) 20 dX12_could_20 rfl ⟨G1, R1⟩
abbrev P_X12_when (h0 : m_H) (a1 a2 : Int) : Int → m_H → Prop := fun x h' => GI h' ∧ FR [115, 116, 117, 118, 119, 120, 121, 122, 123, 124, 125, 126, 127, 128, 129, 130, 131, 132, 133, 134] [(108, 0), (108, 21)] h0 h'
def q_X12_when (h0 : m_H) (a1 a2 : Int) (n : Nat) : Prop := (∀ (l3 l4 l5 l6 : Int) (h : m_H), GI h → FR [115, 116, 117, 118, 119, 120, 121, 122, 123, 124, 125, 126, 127, 128, 129, 130, 131, 132, 133, 134] [(108, 0), (108, 21)] h0 h → (-1) ≤ l4 → l4 ≤ 31 → (-1) ≤ l5 → l5 ≤ 31 → 1 ≤ l6 → l6 ≤ 32 → 0 ≤ a1 → a1 ≤ 5 → 0 ≤ a2 → a2 ≤ 2 → 2 * (32 - l6) + (1) ≤ (n : Int) → m_Z oF M_X12_when 65 [some (mR 108), some (mI a1), some (mI a2), some (mI l3), some (mI l4), some (mI l5), some (mI l6)] [] h (m_QI (P_X12_when h0 a1 a2)))
set_option maxHeartbeats 4000000 in
set_option maxRecDepth 100000 in
theorem s_X12_when_65 (h0 : m_H) (a1 a2 : Int) (G0 : GI h0) (hN : NP h0) (n : Nat) (ih : q_X12_when h0 a1 a2 n) : ∀ (l3 l4 l5 l6 : Int) (h : m_H), GI h → FR [115, 116, 117, 118, 119, 120, 121, 122, 123, 124, 125, 126, 127, 128, 129, 130, 131, 132, 133, 134] [(108, 0), (108, 21)] h0 h → (-1) ≤ l4 → l4 ≤ 31 → (-1) ≤ l5 → l5 ≤ 31 → 1 ≤ l6 → l6 ≤ 32 → 0 ≤ a1 → a1 ≤ 5 → 0 ≤ a2 → a2 ≤ 2 → 2 * (32 - l6) + (1) ≤ ((n + 1 : Nat) : Int) → m_Z oF M_X12_when 65 [some (mR 108), some (mI a1), some (mI a2), some (mI l3), some (mI l4), some (mI l5), some (mI l6)] [] h (m_QI (P_X12_when h0 a1 a2)) := by
  intro l3 l4 l5 l6 h G R v0 v1 v2 v3 v4 v5 v6 v7 v8 v9 hr
  refine z_ok (fun ostk _ olocs => ?_)
  have ol3 : m_32 l3 := olocs 3 _ rfl
  unfold m_32 at ol3
  refine z_iload (M := M_X12_when) 65 dX12_when_65 rfl ?_
  refine z_bipush (M := M_X12_when) 67 dX12_when_67 ?_
  refine z_icmp_ge (M := M_X12_when) 69 dX12_when_69 119 rfl (fun c1 => ?_) (fun c1 => ?_)
  · refine z_iload_n (M := M_X12_when) 119 dX12_when_119 rfl ?_
    refine z_if_ne (M := M_X12_when) 120 dX12_when_120 127 rfl (fun c2 => ?_) (fun c2 => ?_)
    · refine z_iload_n (M := M_X12_when) 127 dX12_when_127 rfl ?_
      refine z_iconst (M := M_X12_when) 128 dX12_when_128 ?_
      refine z_icmp_ne (M := M_X12_when) 129 dX12_when_129 137 rfl (fun c3 => ?_) (fun c3 => ?_)
      · refine z_iload (M := M_X12_when) 137 dX12_when_137 rfl ?_
        exact z_retI (M := M_X12_when) 139 dX12_when_139 rfl ⟨G, R⟩
      · refine z_iload (M := M_X12_when) 132 dX12_when_132 rfl ?_
        refine z_goto (M := M_X12_when) 134 dX12_when_134 139 rfl ?_
        exact z_retI (M := M_X12_when) 139 dX12_when_139 rfl ⟨G, R⟩
    · refine z_iload_n (M := M_X12_when) 123 dX12_when_123 rfl ?_
      refine z_goto (M := M_X12_when) 124 dX12_when_124 139 rfl ?_
      exact z_retI (M := M_X12_when) 139 dX12_when_139 rfl ⟨G, R⟩
  · refine z_aload_n (M := M_X12_when) 72 dX12_when_72 rfl ?_
    refine z_getR (M := M_X12_when) 73 dX12_when_73 f_X12_58 o_108 rfl (g_108_28 G) ?_
    refine z_iload_n (M := M_X12_when) 76 dX12_when_76 rfl ?_
    refine z_iload (M := M_X12_when) 77 dX12_when_77 rfl ?_
    refine z_iastH (M := M_X12_when) 79 dX12_when_79 o_123 (by omega) (by omega) (u_123 G (by omega) (by omega)) (R.up rfl) (fun h1 E1 G1 R1 => ?_)
    refine z_aload_n (M := M_X12_when) 80 dX12_when_80 rfl ?_
    refine z_aload_n (M := M_X12_when) 81 dX12_when_81 rfl ?_
    refine z_vI (M := M_X12_when) 82 dX12_when_82 t_X12_counting l_X12_370 (m_rr_of rfl) (rest := [mR 108]) (c_X12_countingX h1 G1) o_108 rfl rfl rfl (Nat.le_of_ble_eq_true rfl) ⟨rfl, rfl⟩ (fun x4 h2 qx4 => ?_)
    obtain ⟨G2, S2, fx4_0⟩ := qx4
    have R2 := R1.call S2 (by decide +kernel)
    refine z_ok (fun ox4 _ _ => ?_)
    have ox4 := ox4.1; unfold m_ok m_32 at ox4
    refine z_vI (M := M_X12_when) 85 dX12_when_85 t_X12_canBe l_X12_374 (m_rr_of rfl) (rest := []) (c_X12_canBe h2 x4 G2 (NP.call hN R2 (fun _ => rfl) (fun _ => rfl) (fun _ => rfl))) o_108 rfl rfl rfl (Nat.le_of_ble_eq_true rfl) ⟨rfl, rfl⟩ (fun x5 h3 qx5 => ?_)
    obtain ⟨G3, S3, ax5, bx5, fx5_0⟩ := qx5
    have R3 := R2.call S3 (by decide +kernel)
    refine z_if_eq (M := M_X12_when) 88 dX12_when_88 113 rfl (fun c6 => ?_) (fun c6 => ?_)
    · refine z_iincN (M := M_X12_when) 113 dX12_when_113 (ls' := [some (mR 108), some (mI a1), some (mI a2), some (mI l3), some (mI l4), some (mI l5), some (mI (l6 + 1))]) (by decide) rfl (by (unfold m_32; decide)) (by omega) (by omega) rfl ?_
      refine z_goto (M := M_X12_when) 116 dX12_when_116 65 rfl ?_
      exact z_mask [true, true, true, true, true, true, true] rfl (ih l3 l4 l5 (l6 + 1) h3 G3 R3 (by omega) (by omega) (by omega) (by omega) (by omega) (by omega) (by omega) (by omega) (by omega) (by omega) (by omega))
    · refine z_iincW (M := M_X12_when) 91 dX12_when_91 (by decide) rfl (by (unfold m_32; decide)) (fun x7 ox7 => ?_)
      unfold m_32 at ox7
      refine z_ls (ls' := [some (mR 108), some (mI a1), some (mI a2), some (mI x7), some (mI l4), some (mI l5), some (mI l6)]) rfl ?_
      refine z_iload (M := M_X12_when) 94 dX12_when_94 rfl ?_
      refine z_iconst (M := M_X12_when) 96 dX12_when_96 ?_
      refine z_icmp_ne (M := M_X12_when) 97 dX12_when_97 105 rfl (fun c8 => ?_) (fun c8 => ?_)
      · refine z_iload (M := M_X12_when) 105 dX12_when_105 rfl ?_
        refine z_istore (M := M_X12_when) 107 dX12_when_107 (ls' := [some (mR 108), some (mI a1), some (mI a2), some (mI x7), some (mI l4), some (mI l5), some (mI l6)]) (by decide) rfl ?_
        refine z_iload (M := M_X12_when) 109 dX12_when_109 rfl ?_
        refine z_istore (M := M_X12_when) 111 dX12_when_111 (ls' := [some (mR 108), some (mI a1), some (mI a2), some (mI x7), some (mI l4), some (mI l6), some (mI l6)]) (by decide) rfl ?_
        refine z_iincN (M := M_X12_when) 113 dX12_when_113 (ls' := [some (mR 108), some (mI a1), some (mI a2), some (mI x7), some (mI l4), some (mI l6), some (mI (l6 + 1))]) (by decide) rfl (by (unfold m_32; decide)) (by omega) (by omega) rfl ?_
        refine z_goto (M := M_X12_when) 116 dX12_when_116 65 rfl ?_
        exact z_mask [true, true, true, true, true, true, true] rfl (ih x7 l4 l6 (l6 + 1) h3 G3 R3 (by omega) (by omega) (by omega) (by omega) (by omega) (by omega) (by omega) (by omega) (by omega) (by omega) (by omega))
      · refine z_iload (M := M_X12_when) 100 dX12_when_100 rfl ?_
        refine z_goto (M := M_X12_when) 102 dX12_when_102 107 rfl ?_
        refine z_istore (M := M_X12_when) 107 dX12_when_107 (ls' := [some (mR 108), some (mI a1), some (mI a2), some (mI x7), some (mI l6), some (mI l5), some (mI l6)]) (by decide) rfl ?_
        refine z_iload (M := M_X12_when) 109 dX12_when_109 rfl ?_
        refine z_istore (M := M_X12_when) 111 dX12_when_111 (ls' := [some (mR 108), some (mI a1), some (mI a2), some (mI x7), some (mI l6), some (mI l6), some (mI l6)]) (by decide) rfl ?_
        refine z_iincN (M := M_X12_when) 113 dX12_when_113 (ls' := [some (mR 108), some (mI a1), some (mI a2), some (mI x7), some (mI l6), some (mI l6), some (mI (l6 + 1))]) (by decide) rfl (by (unfold m_32; decide)) (by omega) (by omega) rfl ?_
        refine z_goto (M := M_X12_when) 116 dX12_when_116 65 rfl ?_
        exact z_mask [true, true, true, true, true, true, true] rfl (ih x7 l6 l6 (l6 + 1) h3 G3 R3 (by omega) (by omega) (by omega) (by omega) (by omega) (by omega) (by omega) (by omega) (by omega) (by omega) (by omega))
theorem a_X12_when (h0 : m_H) (a1 a2 : Int) (G0 : GI h0) (hN : NP h0) : ∀ n, q_X12_when h0 a1 a2 n := by
  intro n
  induction n with
  | zero => unfold q_X12_when; intros; omega
  | succ n ih => exact s_X12_when_65 h0 a1 a2 G0 hN n ih
set_option maxHeartbeats 4000000 in
set_option maxRecDepth 100000 in
theorem c_X12_when (h0 : m_H) (a1 a2 : Int) (G0 : GI h0) (hN : NP h0) : m_CI M_X12_when [mR 108, mI a1, mI a2] h0 (P_X12_when h0 a1 a2) := by
  refine m_CI_of ⟨by decide, rfl, by simp [m_arg, m_isL, M_X12_when], ⟨rfl, rfl⟩, rfl, rfl⟩ (ls := [some (mR 108), some (mI a1), some (mI a2), none, none, none, none]) rfl ?_
  have ih := a_X12_when h0 a1 a2 G0 hN 70
  refine z_ok (fun _ _ ok => ?_)
  have oa1 : m_32 a1 := ok 1 _ rfl
  unfold m_32 at oa1
  have oa2 : m_32 a2 := ok 2 _ rfl
  unfold m_32 at oa2
  refine z_aload_n (M := M_X12_when) 0 dX12_when_0 rfl ?_
  refine z_iconst (M := M_X12_when) 1 dX12_when_1 ?_
  refine z_putIH (M := M_X12_when) 2 dX12_when_2 p_X12_133 o_108 rfl (u_108_0 G0) ((FR.rf (cs := [115, 116, 117, 118, 119, 120, 121, 122, 123, 124, 125, 126, 127, 128, 129, 130, 131, 132, 133, 134]) (ss := [(108, 0), (108, 21)]) (h := h0)).up rfl) (fun h1 E1 G1 R1 => ?_)
  refine z_iload_n (M := M_X12_when) 5 dX12_when_5 rfl ?_
  refine z_sI (M := M_X12_when) 6 dX12_when_6 t_X12_isThing l_X12_166 (m_rr_of rfl) (rest := []) (c_X12_isThing h1 a1 G1) rfl rfl (Nat.le_of_ble_eq_true rfl) ⟨rfl, rfl⟩ (fun x1 h2 qx1 => ?_)
  obtain ⟨rfl, ⟨rfl, cx1⟩ | ⟨rfl, cx1⟩⟩ := qx1
  · refine z_if_eq_F (M := M_X12_when) 9 dX12_when_9 48 rfl (by omega) ?_
    refine z_iload_n (M := M_X12_when) 12 dX12_when_12 rfl ?_
    refine z_i2l (M := M_X12_when) 13 dX12_when_13 ?_
    refine z_lconst (M := M_X12_when) 14 dX12_when_14 (v := 0) ?_
    refine z_ldc2 (M := M_X12_when) 15 dX12_when_15 k_X12_182 ?_
    refine z_sI (M := M_X12_when) 18 dX12_when_18 t_X12_in l_X12_143 (m_rr_of rfl) (rest := []) (c_X12_in h1 a2 0 2 G1) rfl rfl (Nat.le_of_ble_eq_true rfl) ⟨rfl, rfl⟩ (fun x2 h3 qx2 => ?_)
    obtain ⟨rfl, ⟨rfl, cx2⟩ | ⟨rfl, cx2⟩⟩ := qx2
    · refine z_if_eq_F (M := M_X12_when) 21 dX12_when_21 48 rfl (by omega) ?_
      refine z_aload_n (M := M_X12_when) 24 dX12_when_24 rfl ?_
      refine z_getR (M := M_X12_when) 25 dX12_when_25 f_X12_13 o_108 rfl (g_108_3 G1) ?_
      refine z_bipush (M := M_X12_when) 28 dX12_when_28 ?_
      refine z_iload_n (M := M_X12_when) 30 dX12_when_30 rfl ?_
      refine z_sI (M := M_X12_when) 31 dX12_when_31 t_X12_isThing l_X12_166 (m_rr_of rfl) (rest := [mI 42, mR 110]) (c_X12_isThing h1 a1 G1) rfl rfl (Nat.le_of_ble_eq_true rfl) ⟨rfl, rfl⟩ (fun x3 h4 qx3 => ?_)
      obtain ⟨rfl, ⟨rfl, cx3⟩ | ⟨rfl, cx3⟩⟩ := qx3
      · refine z_if_eq_F (M := M_X12_when) 34 dX12_when_34 41 rfl (by omega) ?_
        refine z_iload_n (M := M_X12_when) 37 dX12_when_37 rfl ?_
        refine z_goto (M := M_X12_when) 38 dX12_when_38 42 rfl ?_
        refine z_iaddN (M := M_X12_when) 42 dX12_when_42 (by omega) (by omega) ?_
        refine z_ialdG (M := M_X12_when) 43 dX12_when_43 o_110 (by omega) (by omega) (gw_c G1 (by omega) (by omega)) (fun x4 ex4 ax4 bx4 => ?_)
        refine z_iconst (M := M_X12_when) 44 dX12_when_44 ?_
        refine z_icmp_eq (M := M_X12_when) 45 dX12_when_45 50 rfl (fun c5 => ?_) (fun c5 => ?_)
        · refine z_aload_n (M := M_X12_when) 50 dX12_when_50 rfl ?_
          refine z_vV (M := M_X12_when) 51 dX12_when_51 t_X12_asIs l_X12_367 (m_rr_of rfl) (rest := []) (c_X12_asIsX h1 G1) o_108 rfl rfl rfl (Nat.le_of_ble_eq_true rfl) ⟨rfl, rfl⟩ (fun h5 qx6 => ?_)
          obtain ⟨G5, S5, fx6_0⟩ := qx6
          have R5 := R1.call S5 (by decide +kernel)
          refine z_iconst (M := M_X12_when) 54 dX12_when_54 ?_
          refine z_istore_n (M := M_X12_when) 55 dX12_when_55 (ls' := [some (mR 108), some (mI a1), some (mI a2), some (mI 0), none, none, none]) (by decide) rfl ?_
          refine z_iconst (M := M_X12_when) 56 dX12_when_56 ?_
          refine z_istore (M := M_X12_when) 57 dX12_when_57 (ls' := [some (mR 108), some (mI a1), some (mI a2), some (mI 0), some (mI (-1)), none, none]) (by decide) rfl ?_
          refine z_iconst (M := M_X12_when) 59 dX12_when_59 ?_
          refine z_istore (M := M_X12_when) 60 dX12_when_60 (ls' := [some (mR 108), some (mI a1), some (mI a2), some (mI 0), some (mI (-1)), some (mI (-1)), none]) (by decide) rfl ?_
          refine z_iconst (M := M_X12_when) 62 dX12_when_62 ?_
          refine z_istore (M := M_X12_when) 63 dX12_when_63 (ls' := [some (mR 108), some (mI a1), some (mI a2), some (mI 0), some (mI (-1)), some (mI (-1)), some (mI 1)]) (by decide) rfl ?_
          exact z_mask [true, true, true, true, true, true, true] rfl (ih 0 (-1) (-1) 1 h5 G5 R5 (by omega) (by omega) (by omega) (by omega) (by omega) (by omega) (by omega) (by omega) (by omega) (by omega) (by omega))
        · refine z_iconst (M := M_X12_when) 48 dX12_when_48 ?_
          exact z_retI (M := M_X12_when) 49 dX12_when_49 rfl ⟨G1, R1⟩
      · refine z_if_eq_T (M := M_X12_when) 34 dX12_when_34 41 rfl (by omega) ?_
        refine z_iconst (M := M_X12_when) 41 dX12_when_41 ?_
        refine z_iaddN (M := M_X12_when) 42 dX12_when_42 (by omega) (by omega) ?_
        refine z_ialdG (M := M_X12_when) 43 dX12_when_43 o_110 (by omega) (by omega) (gw_c G1 (by omega) (by omega)) (fun x7 ex7 ax7 bx7 => ?_)
        refine z_iconst (M := M_X12_when) 44 dX12_when_44 ?_
        refine z_icmp_eq (M := M_X12_when) 45 dX12_when_45 50 rfl (fun c8 => ?_) (fun c8 => ?_)
        · refine z_aload_n (M := M_X12_when) 50 dX12_when_50 rfl ?_
          refine z_vV (M := M_X12_when) 51 dX12_when_51 t_X12_asIs l_X12_367 (m_rr_of rfl) (rest := []) (c_X12_asIsX h1 G1) o_108 rfl rfl rfl (Nat.le_of_ble_eq_true rfl) ⟨rfl, rfl⟩ (fun h6 qx9 => ?_)
          obtain ⟨G6, S6, fx9_0⟩ := qx9
          have R6 := R1.call S6 (by decide +kernel)
          refine z_iconst (M := M_X12_when) 54 dX12_when_54 ?_
          refine z_istore_n (M := M_X12_when) 55 dX12_when_55 (ls' := [some (mR 108), some (mI a1), some (mI a2), some (mI 0), none, none, none]) (by decide) rfl ?_
          refine z_iconst (M := M_X12_when) 56 dX12_when_56 ?_
          refine z_istore (M := M_X12_when) 57 dX12_when_57 (ls' := [some (mR 108), some (mI a1), some (mI a2), some (mI 0), some (mI (-1)), none, none]) (by decide) rfl ?_
          refine z_iconst (M := M_X12_when) 59 dX12_when_59 ?_
          refine z_istore (M := M_X12_when) 60 dX12_when_60 (ls' := [some (mR 108), some (mI a1), some (mI a2), some (mI 0), some (mI (-1)), some (mI (-1)), none]) (by decide) rfl ?_
          refine z_iconst (M := M_X12_when) 62 dX12_when_62 ?_
          refine z_istore (M := M_X12_when) 63 dX12_when_63 (ls' := [some (mR 108), some (mI a1), some (mI a2), some (mI 0), some (mI (-1)), some (mI (-1)), some (mI 1)]) (by decide) rfl ?_
          exact z_mask [true, true, true, true, true, true, true] rfl (ih 0 (-1) (-1) 1 h6 G6 R6 (by omega) (by omega) (by omega) (by omega) (by omega) (by omega) (by omega) (by omega) (by omega) (by omega) (by omega))
        · refine z_iconst (M := M_X12_when) 48 dX12_when_48 ?_
          exact z_retI (M := M_X12_when) 49 dX12_when_49 rfl ⟨G1, R1⟩
    · refine z_if_eq_T (M := M_X12_when) 21 dX12_when_21 48 rfl (by omega) ?_
      refine z_iconst (M := M_X12_when) 48 dX12_when_48 ?_
      exact z_retI (M := M_X12_when) 49 dX12_when_49 rfl ⟨G1, R1⟩
  · refine z_if_eq_T (M := M_X12_when) 9 dX12_when_9 48 rfl (by omega) ?_
    refine z_iconst (M := M_X12_when) 48 dX12_when_48 ?_
    exact z_retI (M := M_X12_when) 49 dX12_when_49 rfl ⟨G1, R1⟩
