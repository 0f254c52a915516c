abbrev P_X12_joined (h0 : m_H) (a1 a2 : Int) : Int → m_H → Prop := fun x h' => GI h' ∧ FR [117, 118, 119, 120, 121, 122, 123, 145] [(108, 0), (108, 21)] h0 h' ∧ (-2) ≤ x ∧ x ≤ 1
set_option maxHeartbeats 4000000 in
set_option maxRecDepth 100000 in
theorem c_X12_joined (h0 : m_H) (a1 a2 : Int) (G0 : GI h0) (hN : NP h0) : m_CI M_X12_joined [mR 108, mI a1, mI a2] h0 (P_X12_joined h0 a1 a2) := by
  refine m_CI_of ⟨by decide, rfl, by simp [m_arg, m_isL, M_X12_joined], ⟨rfl, rfl⟩, rfl, rfl⟩ (ls := [some (mR 108), some (mI a1), some (mI a2)]) rfl ?_
  refine z_ok (fun _ _ ok => ?_)
  have oa1 : m_32 a1 := ok 1 _ rfl
  unfold m_32 at oa1
  have oa2 : m_32 a2 := ok 2 _ rfl
  unfold m_32 at oa2
  refine z_aload_n (M := M_X12_joined) 0 dX12_joined_0 rfl ?_
  refine z_iconst (M := M_X12_joined) 1 dX12_joined_1 ?_
  refine z_putIH (M := M_X12_joined) 2 dX12_joined_2 p_X12_133 o_108 rfl (u_108_0 G0) ((FR.rf (cs := [117, 118, 119, 120, 121, 122, 123, 145]) (ss := [(108, 0), (108, 21)]) (h := h0)).up rfl) (fun h1 E1 G1 R1 => ?_)
  refine z_aload_n (M := M_X12_joined) 5 dX12_joined_5 rfl ?_
  refine z_iload_n (M := M_X12_joined) 6 dX12_joined_6 rfl ?_
  refine z_vI (M := M_X12_joined) 7 dX12_joined_7 t_X12_isLength l_X12_391 (m_rr_of rfl) (rest := []) (c_X12_isLengthX h1 a1 G1) o_108 rfl rfl rfl (Nat.le_of_ble_eq_true rfl) ⟨rfl, rfl⟩ (fun x1 h2 qx1 => ?_)
  obtain ⟨G2, S2, ax1, bx1, fx1_0⟩ := qx1
  have R2 := R1.call S2 (by decide +kernel)
  refine z_if_eq (M := M_X12_joined) 10 dX12_joined_10 21 rfl (fun c2 => ?_) (fun c2 => ?_)
  · refine z_bipush (M := M_X12_joined) 21 dX12_joined_21 ?_
    exact z_retI (M := M_X12_joined) 23 dX12_joined_23 rfl ⟨G2, R2, by omega, by omega⟩
  · refine z_aload_n (M := M_X12_joined) 13 dX12_joined_13 rfl ?_
    refine z_iload_n (M := M_X12_joined) 14 dX12_joined_14 rfl ?_
    refine z_vI (M := M_X12_joined) 15 dX12_joined_15 t_X12_isLength l_X12_391 (m_rr_of rfl) (rest := []) (c_X12_isLengthX h2 a2 G2) o_108 rfl rfl rfl (Nat.le_of_ble_eq_true rfl) ⟨rfl, rfl⟩ (fun x3 h3 qx3 => ?_)
    obtain ⟨G3, S3, ax3, bx3, fx3_0⟩ := qx3
    have R3 := R2.call S3 (by decide +kernel)
    refine z_if_ne (M := M_X12_joined) 18 dX12_joined_18 24 rfl (fun c4 => ?_) (fun c4 => ?_)
    · have ln7 := fx1_0 (by omega)
      have ln15 := fx3_0 (by omega)
      refine z_aload_n (M := M_X12_joined) 24 dX12_joined_24 rfl ?_
      refine z_vV (M := M_X12_joined) 25 dX12_joined_25 t_X12_findGroups l_X12_484 (m_rr_of rfl) (rest := []) (c_X12_findGroups h3 G3 (NP.call hN R3 (fun _ => rfl) (fun _ => rfl) (fun _ => rfl))) o_108 rfl rfl rfl (Nat.le_of_ble_eq_true rfl) ⟨rfl, rfl⟩ (fun h4 qx5 => ?_)
      obtain ⟨G4, S4⟩ := qx5
      have R4 := R3.call S4 (by decide +kernel)
      refine z_aload_n (M := M_X12_joined) 28 dX12_joined_28 rfl ?_
      refine z_getR (M := M_X12_joined) 29 dX12_joined_29 f_X12_124 o_108 rfl (g_108_56 G4) ?_
      refine z_iload_n (M := M_X12_joined) 32 dX12_joined_32 rfl ?_
      refine z_ialdG (M := M_X12_joined) 33 dX12_joined_33 o_145 (by omega) (by omega) (g_145 G4 (by omega)) (fun x6 ex6 ax6 bx6 => ?_)
      refine z_aload_n (M := M_X12_joined) 34 dX12_joined_34 rfl ?_
      refine z_getR (M := M_X12_joined) 35 dX12_joined_35 f_X12_124 o_108 rfl (g_108_56 G4) ?_
      refine z_iload_n (M := M_X12_joined) 38 dX12_joined_38 rfl ?_
      refine z_ialdG (M := M_X12_joined) 39 dX12_joined_39 o_145 (by omega) (by omega) (g_145 G4 (by omega)) (fun x7 ex7 ax7 bx7 => ?_)
      refine z_icmp_ne (M := M_X12_joined) 40 dX12_joined_40 47 rfl (fun c8 => ?_) (fun c8 => ?_)
      · refine z_iconst (M := M_X12_joined) 47 dX12_joined_47 ?_
        exact z_retI (M := M_X12_joined) 48 dX12_joined_48 rfl ⟨G4, R4, by omega, by omega⟩
      · refine z_iconst (M := M_X12_joined) 43 dX12_joined_43 ?_
        refine z_goto (M := M_X12_joined) 44 dX12_joined_44 48 rfl ?_
        exact z_retI (M := M_X12_joined) 48 dX12_joined_48 rfl ⟨G4, R4, by omega, by omega⟩
    · refine z_bipush (M := M_X12_joined) 21 dX12_joined_21 ?_
      exact z_retI (M := M_X12_joined) 23 dX12_joined_23 rfl ⟨G3, R3, by omega, by omega⟩
abbrev P_X12_groups (h0 : m_H) (a1 : Int) : Int → m_H → Prop := fun x h' => GI h' ∧ FR [117, 118, 119, 120, 121, 122, 123, 145] [(108, 0), (108, 21)] h0 h'
def q_X12_groups (h0 : m_H) (a1 : Int) (n : Nat) : Prop := (∀ (l2 l3 l4 : Int) (h : m_H), GI h → FR [117, 118, 119, 120, 121, 122, 123, 145] [(108, 0), (108, 21)] h0 h → 0 ≤ l3 → l3 ≤ 2147483647 → 0 ≤ l4 → l4 ≤ 16 → 0 ≤ a1 → a1 ≤ 2 → 37 * (16 - l4) + (36) ≤ (n : Int) → m_Z oF M_X12_groups 30 [some (mR 108), some (mI a1), some (mI l2), some (mI l3), some (mI l4), none, none] [] h (m_QI (P_X12_groups h0 a1))) ∧ (∀ (l2 l3 l4 l5 l6 : Int) (h : m_H), GI h → FR [117, 118, 119, 120, 121, 122, 123, 145] [(108, 0), (108, 21)] h0 h → 0 ≤ l3 → l3 ≤ 2147483647 → 0 ≤ l4 → l4 ≤ 15 → 0 ≤ l6 → l6 ≤ 16 → 0 ≤ a1 → a1 ≤ 2 → 37 * (16 - l4) + 2 * (16 - l6) + (1) ≤ (n : Int) → m_Z oF M_X12_groups 43 [some (mR 108), some (mI a1), some (mI l2), some (mI l3), some (mI l4), some (mI l5), some (mI l6)] [] h (m_QI (P_X12_groups h0 a1)))
set_option maxHeartbeats 4000000 in
set_option maxRecDepth 100000 in
theorem s_X12_groups_30 (h0 : m_H) (a1 : Int) (G0 : GI h0) (hN : NP h0) (n : Nat) (ih : q_X12_groups h0 a1 n) : ∀ (l2 l3 l4 : Int) (h : m_H), GI h → FR [117, 118, 119, 120, 121, 122, 123, 145] [(108, 0), (108, 21)] h0 h → 0 ≤ l3 → l3 ≤ 2147483647 → 0 ≤ l4 → l4 ≤ 16 → 0 ≤ a1 → a1 ≤ 2 → 37 * (16 - l4) + (36) ≤ ((n + 1 : Nat) : Int) → m_Z oF M_X12_groups 30 [some (mR 108), some (mI a1), some (mI l2), some (mI l3), some (mI l4), none, none] [] h (m_QI (P_X12_groups h0 a1)) := by
  intro l2 l3 l4 h G R v0 v1 v2 v3 v4 v5 hr
  refine z_ok (fun ostk _ olocs => ?_)
  have ol2 : m_32 l2 := olocs 2 _ rfl
  unfold m_32 at ol2
  refine z_iload (M := M_X12_groups) 30 dX12_groups_30 rfl ?_
  refine z_bipush (M := M_X12_groups) 32 dX12_groups_32 ?_
  refine z_icmp_ge (M := M_X12_groups) 34 dX12_groups_34 119 rfl (fun c1 => ?_) (fun c1 => ?_)
  · refine z_iload_n (M := M_X12_groups) 119 dX12_groups_119 rfl ?_
    refine z_if_ne (M := M_X12_groups) 120 dX12_groups_120 127 rfl (fun c2 => ?_) (fun c2 => ?_)
    · refine z_iload_n (M := M_X12_groups) 127 dX12_groups_127 rfl ?_
      refine z_iconst (M := M_X12_groups) 128 dX12_groups_128 ?_
      refine z_icmp_ne (M := M_X12_groups) 129 dX12_groups_129 138 rfl (fun c3 => ?_) (fun c3 => ?_)
      · refine z_iload_n (M := M_X12_groups) 138 dX12_groups_138 rfl ?_
        exact z_retI (M := M_X12_groups) 139 dX12_groups_139 rfl ⟨G, R⟩
      · refine z_iload_n (M := M_X12_groups) 132 dX12_groups_132 rfl ?_
        refine z_iconst (M := M_X12_groups) 133 dX12_groups_133 ?_
        refine z_isub (M := M_X12_groups) 134 dX12_groups_134 ?_
        refine z_topm (fun x4 ex4 ox4 => ?_)
        unfold m_32 at ox4
        refine z_goto (M := M_X12_groups) 135 dX12_groups_135 139 rfl ?_
        exact z_retI (M := M_X12_groups) 139 dX12_groups_139 rfl ⟨G, R⟩
    · refine z_iload_n (M := M_X12_groups) 123 dX12_groups_123 rfl ?_
      refine z_goto (M := M_X12_groups) 124 dX12_groups_124 139 rfl ?_
      exact z_retI (M := M_X12_groups) 139 dX12_groups_139 rfl ⟨G, R⟩
  · refine z_iconst (M := M_X12_groups) 37 dX12_groups_37 ?_
    refine z_istore (M := M_X12_groups) 38 dX12_groups_38 (ls' := [some (mR 108), some (mI a1), some (mI l2), some (mI l3), some (mI l4), some (mI 0), none]) (by decide) rfl ?_
    refine z_iconst (M := M_X12_groups) 40 dX12_groups_40 ?_
    refine z_istore (M := M_X12_groups) 41 dX12_groups_41 (ls' := [some (mR 108), some (mI a1), some (mI l2), some (mI l3), some (mI l4), some (mI 0), some (mI 0)]) (by decide) rfl ?_
    exact z_mask [true, true, true, true, true, true, true] rfl (ih.2 l2 l3 l4 0 0 h G R (by omega) (by omega) (by omega) (by omega) (by omega) (by omega) (by omega) (by omega) (by omega))
set_option maxHeartbeats 4000000 in
set_option maxRecDepth 100000 in
theorem s_X12_groups_43 (h0 : m_H) (a1 : Int) (G0 : GI h0) (hN : NP h0) (n : Nat) (ih : q_X12_groups h0 a1 n) : ∀ (l2 l3 l4 l5 l6 : Int) (h : m_H), GI h → FR [117, 118, 119, 120, 121, 122, 123, 145] [(108, 0), (108, 21)] h0 h → 0 ≤ l3 → l3 ≤ 2147483647 → 0 ≤ l4 → l4 ≤ 15 → 0 ≤ l6 → l6 ≤ 16 → 0 ≤ a1 → a1 ≤ 2 → 37 * (16 - l4) + 2 * (16 - l6) + (1) ≤ ((n + 1 : Nat) : Int) → m_Z oF M_X12_groups 43 [some (mR 108), some (mI a1), some (mI l2), some (mI l3), some (mI l4), some (mI l5), some (mI l6)] [] h (m_QI (P_X12_groups h0 a1)) := by
  intro l2 l3 l4 l5 l6 h G R v0 v1 v2 v3 v4 v5 v6 v7 hr
  refine z_ok (fun ostk _ olocs => ?_)
  have ol2 : m_32 l2 := olocs 2 _ rfl
  unfold m_32 at ol2
  have ol5 : m_32 l5 := olocs 5 _ rfl
  unfold m_32 at ol5
  refine z_iload (M := M_X12_groups) 43 dX12_groups_43 rfl ?_
  refine z_bipush (M := M_X12_groups) 45 dX12_groups_45 ?_
  refine z_icmp_ge (M := M_X12_groups) 47 dX12_groups_47 87 rfl (fun c1 => ?_) (fun c1 => ?_)
  · refine z_iload_n (M := M_X12_groups) 87 dX12_groups_87 rfl ?_
    refine z_iload (M := M_X12_groups) 88 dX12_groups_88 rfl ?_
    refine z_if_le (M := M_X12_groups) 90 dX12_groups_90 97 rfl (fun c2 => ?_) (fun c2 => ?_)
    · refine z_iconst (M := M_X12_groups) 97 dX12_groups_97 ?_
      refine z_iaddN (M := M_X12_groups) 98 dX12_groups_98 (by omega) (by omega) ?_
      refine z_istore_n (M := M_X12_groups) 99 dX12_groups_99 (ls' := [some (mR 108), some (mI a1), some (mI (l2 + 0)), some (mI l3), some (mI l4), some (mI l5), some (mI l6)]) (by decide) rfl ?_
      refine z_iload (M := M_X12_groups) 100 dX12_groups_100 rfl ?_
      refine z_iload_n (M := M_X12_groups) 102 dX12_groups_102 rfl ?_
      refine z_icmp_le_T (M := M_X12_groups) 103 dX12_groups_103 111 rfl (by omega) ?_
      refine z_iload_n (M := M_X12_groups) 111 dX12_groups_111 rfl ?_
      refine z_istore_n (M := M_X12_groups) 112 dX12_groups_112 (ls' := [some (mR 108), some (mI a1), some (mI (l2 + 0)), some (mI l3), some (mI l4), some (mI l5), some (mI l6)]) (by decide) rfl ?_
      refine z_iincN (M := M_X12_groups) 113 dX12_groups_113 (ls' := [some (mR 108), some (mI a1), some (mI (l2 + 0)), some (mI l3), some (mI (l4 + 1)), some (mI l5), some (mI l6)]) (by decide) rfl (by (unfold m_32; decide)) (by omega) (by omega) rfl ?_
      refine z_goto (M := M_X12_groups) 116 dX12_groups_116 30 rfl ?_
      exact z_mask [true, true, true, true, true, false, false] rfl (ih.1 (l2 + 0) l3 (l4 + 1) h G R (by omega) (by omega) (by omega) (by omega) (by omega) (by omega) (by omega))
    · refine z_iconst (M := M_X12_groups) 93 dX12_groups_93 ?_
      refine z_goto (M := M_X12_groups) 94 dX12_groups_94 98 rfl ?_
      refine z_iadd (M := M_X12_groups) 98 dX12_groups_98 ?_
      refine z_topm (fun x3 ex3 ox3 => ?_)
      unfold m_32 at ox3
      refine z_istore_n (M := M_X12_groups) 99 dX12_groups_99 (ls' := [some (mR 108), some (mI a1), some (mI x3), some (mI l3), some (mI l4), some (mI l5), some (mI l6)]) (by decide) rfl ?_
      refine z_iload (M := M_X12_groups) 100 dX12_groups_100 rfl ?_
      refine z_iload_n (M := M_X12_groups) 102 dX12_groups_102 rfl ?_
      refine z_icmp_le (M := M_X12_groups) 103 dX12_groups_103 111 rfl (fun c4 => ?_) (fun c4 => ?_)
      · refine z_iload_n (M := M_X12_groups) 111 dX12_groups_111 rfl ?_
        refine z_istore_n (M := M_X12_groups) 112 dX12_groups_112 (ls' := [some (mR 108), some (mI a1), some (mI x3), some (mI l3), some (mI l4), some (mI l5), some (mI l6)]) (by decide) rfl ?_
        refine z_iincN (M := M_X12_groups) 113 dX12_groups_113 (ls' := [some (mR 108), some (mI a1), some (mI x3), some (mI l3), some (mI (l4 + 1)), some (mI l5), some (mI l6)]) (by decide) rfl (by (unfold m_32; decide)) (by omega) (by omega) rfl ?_
        refine z_goto (M := M_X12_groups) 116 dX12_groups_116 30 rfl ?_
        exact z_mask [true, true, true, true, true, false, false] rfl (ih.1 x3 l3 (l4 + 1) h G R (by omega) (by omega) (by omega) (by omega) (by omega) (by omega) (by omega))
      · refine z_iload (M := M_X12_groups) 106 dX12_groups_106 rfl ?_
        refine z_goto (M := M_X12_groups) 108 dX12_groups_108 112 rfl ?_
        refine z_istore_n (M := M_X12_groups) 112 dX12_groups_112 (ls' := [some (mR 108), some (mI a1), some (mI x3), some (mI l5), some (mI l4), some (mI l5), some (mI l6)]) (by decide) rfl ?_
        refine z_iincN (M := M_X12_groups) 113 dX12_groups_113 (ls' := [some (mR 108), some (mI a1), some (mI x3), some (mI l5), some (mI (l4 + 1)), some (mI l5), some (mI l6)]) (by decide) rfl (by (unfold m_32; decide)) (by omega) (by omega) rfl ?_
        refine z_goto (M := M_X12_groups) 116 dX12_groups_116 30 rfl ?_
        exact z_mask [true, true, true, true, true, false, false] rfl (ih.1 x3 l5 (l4 + 1) h G R (by omega) (by omega) (by omega) (by omega) (by omega) (by omega) (by omega))
  · refine z_iload (M := M_X12_groups) 50 dX12_groups_50 rfl ?_
    refine z_aload_n (M := M_X12_groups) 52 dX12_groups_52 rfl ?_
    refine z_iload (M := M_X12_groups) 53 dX12_groups_53 rfl ?_
    refine z_vI (M := M_X12_groups) 55 dX12_groups_55 t_X12_isLength l_X12_391 (m_rr_of rfl) (rest := [mI l5]) (c_X12_isLengthX h l6 G) o_108 rfl rfl rfl (Nat.le_of_ble_eq_true rfl) ⟨rfl, rfl⟩ (fun x5 h1 qx5 => ?_)
    obtain ⟨G1, S1, ax5, bx5, fx5_0⟩ := qx5
    have R1 := R.call S1 (by decide +kernel)
    refine z_if_eq (M := M_X12_groups) 58 dX12_groups_58 77 rfl (fun c6 => ?_) (fun c6 => ?_)
    · refine z_iconst (M := M_X12_groups) 77 dX12_groups_77 ?_
      refine z_iaddN (M := M_X12_groups) 78 dX12_groups_78 (by omega) (by omega) ?_
      refine z_istore (M := M_X12_groups) 79 dX12_groups_79 (ls' := [some (mR 108), some (mI a1), some (mI l2), some (mI l3), some (mI l4), some (mI (l5 + 0)), some (mI l6)]) (by decide) rfl ?_
      refine z_iincN (M := M_X12_groups) 81 dX12_groups_81 (ls' := [some (mR 108), some (mI a1), some (mI l2), some (mI l3), some (mI l4), some (mI (l5 + 0)), some (mI (l6 + 1))]) (by decide) rfl (by (unfold m_32; decide)) (by omega) (by omega) rfl ?_
      refine z_goto (M := M_X12_groups) 84 dX12_groups_84 43 rfl ?_
      exact z_mask [true, true, true, true, true, true, true] rfl (ih.2 l2 l3 l4 (l5 + 0) (l6 + 1) h1 G1 R1 (by omega) (by omega) (by omega) (by omega) (by omega) (by omega) (by omega) (by omega) (by omega))
    · refine z_aload_n (M := M_X12_groups) 61 dX12_groups_61 rfl ?_
      refine z_getR (M := M_X12_groups) 62 dX12_groups_62 f_X12_124 o_108 rfl (g_108_56 G1) ?_
      refine z_iload (M := M_X12_groups) 65 dX12_groups_65 rfl ?_
      refine z_ialdG (M := M_X12_groups) 67 dX12_groups_67 o_145 (by omega) (by omega) (g_145 G1 (by omega)) (fun x7 ex7 ax7 bx7 => ?_)
      refine z_iload (M := M_X12_groups) 68 dX12_groups_68 rfl ?_
      refine z_icmp_ne (M := M_X12_groups) 70 dX12_groups_70 77 rfl (fun c8 => ?_) (fun c8 => ?_)
      · refine z_iconst (M := M_X12_groups) 77 dX12_groups_77 ?_
        refine z_iaddN (M := M_X12_groups) 78 dX12_groups_78 (by omega) (by omega) ?_
        refine z_istore (M := M_X12_groups) 79 dX12_groups_79 (ls' := [some (mR 108), some (mI a1), some (mI l2), some (mI l3), some (mI l4), some (mI (l5 + 0)), some (mI l6)]) (by decide) rfl ?_
        refine z_iincN (M := M_X12_groups) 81 dX12_groups_81 (ls' := [some (mR 108), some (mI a1), some (mI l2), some (mI l3), some (mI l4), some (mI (l5 + 0)), some (mI (l6 + 1))]) (by decide) rfl (by (unfold m_32; decide)) (by omega) (by omega) rfl ?_
        refine z_goto (M := M_X12_groups) 84 dX12_groups_84 43 rfl ?_
        exact z_mask [true, true, true, true, true, true, true] rfl (ih.2 l2 l3 l4 (l5 + 0) (l6 + 1) h1 G1 R1 (by omega) (by omega) (by omega) (by omega) (by omega) (by omega) (by omega) (by omega) (by omega))
      · refine z_iconst (M := M_X12_groups) 73 dX12_groups_73 ?_
        refine z_goto (M := M_X12_groups) 74 dX12_groups_74 78 rfl ?_
        refine z_iadd (M := M_X12_groups) 78 dX12_groups_78 ?_
        refine z_topm (fun x9 ex9 ox9 => ?_)
        unfold m_32 at ox9
        refine z_istore (M := M_X12_groups) 79 dX12_groups_79 (ls' := [some (mR 108), some (mI a1), some (mI l2), some (mI l3), some (mI l4), some (mI x9), some (mI l6)]) (by decide) rfl ?_
        refine z_iincN (M := M_X12_groups) 81 dX12_groups_81 (ls' := [some (mR 108), some (mI a1), some (mI l2), some (mI l3), some (mI l4), some (mI x9), some (mI (l6 + 1))]) (by decide) rfl (by (unfold m_32; decide)) (by omega) (by omega) rfl ?_
        refine z_goto (M := M_X12_groups) 84 dX12_groups_84 43 rfl ?_
        exact z_mask [true, true, true, true, true, true, true] rfl (ih.2 l2 l3 l4 x9 (l6 + 1) h1 G1 R1 (by omega) (by omega) (by omega) (by omega) (by omega) (by omega) (by omega) (by omega) (by omega))
theorem a_X12_groups (h0 : m_H) (a1 : Int) (G0 : GI h0) (hN : NP h0) : ∀ n, q_X12_groups h0 a1 n := by
  intro n
  induction n with
  | zero => unfold q_X12_groups; refine ⟨?_, ?_⟩ <;> (intros; omega)
  | succ n ih => exact ⟨s_X12_groups_30 h0 a1 G0 hN n ih, s_X12_groups_43 h0 a1 G0 hN n ih⟩
set_option maxHeartbeats 4000000 in
set_option maxRecDepth 100000 in
theorem c_X12_groups (h0 : m_H) (a1 : Int) (G0 : GI h0) (hN : NP h0) : m_CI M_X12_groups [mR 108, mI a1] h0 (P_X12_groups h0 a1) := by
  refine m_CI_of ⟨by decide, rfl, by simp [m_arg, m_isL, M_X12_groups], ⟨rfl, rfl⟩, rfl, rfl⟩ (ls := [some (mR 108), some (mI a1), none, none, none, none, none]) rfl ?_
  have ih := a_X12_groups h0 a1 G0 hN 635
  refine z_ok (fun _ _ ok => ?_)
  have oa1 : m_32 a1 := ok 1 _ rfl
  unfold m_32 at oa1
  refine z_aload_n (M := M_X12_groups) 0 dX12_groups_0 rfl ?_
  refine z_iconst (M := M_X12_groups) 1 dX12_groups_1 ?_
  refine z_putIH (M := M_X12_groups) 2 dX12_groups_2 p_X12_133 o_108 rfl (u_108_0 G0) ((FR.rf (cs := [117, 118, 119, 120, 121, 122, 123, 145]) (ss := [(108, 0), (108, 21)]) (h := h0)).up rfl) (fun h1 E1 G1 R1 => ?_)
  refine z_iload_n (M := M_X12_groups) 5 dX12_groups_5 rfl ?_
  refine z_i2l (M := M_X12_groups) 6 dX12_groups_6 ?_
  refine z_lconst (M := M_X12_groups) 7 dX12_groups_7 (v := 0) ?_
  refine z_ldc2 (M := M_X12_groups) 8 dX12_groups_8 k_X12_182 ?_
  refine z_sI (M := M_X12_groups) 11 dX12_groups_11 t_X12_in l_X12_143 (m_rr_of rfl) (rest := []) (c_X12_in h1 a1 0 2 G1) rfl rfl (Nat.le_of_ble_eq_true rfl) ⟨rfl, rfl⟩ (fun x1 h2 qx1 => ?_)
  obtain ⟨rfl, ⟨rfl, cx1⟩ | ⟨rfl, cx1⟩⟩ := qx1
  · refine z_if_ne_T (M := M_X12_groups) 14 dX12_groups_14 19 rfl (by omega) ?_
    refine z_aload_n (M := M_X12_groups) 19 dX12_groups_19 rfl ?_
    refine z_vV (M := M_X12_groups) 20 dX12_groups_20 t_X12_findGroups l_X12_484 (m_rr_of rfl) (rest := []) (c_X12_findGroups h1 G1 (NP.call hN R1 (fun _ => rfl) (fun _ => rfl) (fun _ => rfl))) o_108 rfl rfl rfl (Nat.le_of_ble_eq_true rfl) ⟨rfl, rfl⟩ (fun h3 qx2 => ?_)
    obtain ⟨G3, S3⟩ := qx2
    have R3 := R1.call S3 (by decide +kernel)
    refine z_iconst (M := M_X12_groups) 23 dX12_groups_23 ?_
    refine z_istore_n (M := M_X12_groups) 24 dX12_groups_24 (ls' := [some (mR 108), some (mI a1), some (mI 0), none, none, none, none]) (by decide) rfl ?_
    refine z_iconst (M := M_X12_groups) 25 dX12_groups_25 ?_
    refine z_istore_n (M := M_X12_groups) 26 dX12_groups_26 (ls' := [some (mR 108), some (mI a1), some (mI 0), some (mI 0), none, none, none]) (by decide) rfl ?_
    refine z_iconst (M := M_X12_groups) 27 dX12_groups_27 ?_
    refine z_istore (M := M_X12_groups) 28 dX12_groups_28 (ls' := [some (mR 108), some (mI a1), some (mI 0), some (mI 0), some (mI 0), none, none]) (by decide) rfl ?_
    exact z_mask [true, true, true, true, true, false, false] rfl (ih.1 0 0 0 h3 G3 R3 (by omega) (by omega) (by omega) (by omega) (by omega) (by omega) (by omega))
  · refine z_if_ne_F (M := M_X12_groups) 14 dX12_groups_14 19 rfl (by omega) ?_
    refine z_iconst (M := M_X12_groups) 17 dX12_groups_17 ?_
    exact z_retI (M := M_X12_groups) 18 dX12_groups_18 rfl ⟨G1, R1⟩
abbrev P_X12_core (h0 : m_H) : Int → m_H → Prop := fun x h' => GI h' ∧ FR [115, 116, 117, 118, 119, 120, 121, 122, 123, 124, 125, 126, 127, 128, 129, 130, 131, 132, 133, 134] [(108, 0), (108, 21)] h0 h'
def q_X12_core (h0 : m_H) (n : Nat) : Prop := (∀ (l1 l2 : Int) (h : m_H), GI h → FR [115, 116, 117, 118, 119, 120, 121, 122, 123, 124, 125, 126, 127, 128, 129, 130, 131, 132, 133, 134] [(108, 0), (108, 21)] h0 h → 0 ≤ l2 → l2 ≤ 24 → 2 * (24 - l2) + (1) ≤ (n : Int) → m_Z oF M_X12_core 36 [some (mR 108), some (mI l1), some (mI l2)] [] h (m_QI (P_X12_core h0)))
set_option maxHeartbeats 4000000 in
set_option maxRecDepth 100000 in
theorem s_X12_core_36 (h0 : m_H) (G0 : GI h0) (hN : NP h0) (n : Nat) (ih : q_X12_core h0 n) : ∀ (l1 l2 : Int) (h : m_H), GI h → FR [115, 116, 117, 118, 119, 120, 121, 122, 123, 124, 125, 126, 127, 128, 129, 130, 131, 132, 133, 134] [(108, 0), (108, 21)] h0 h → 0 ≤ l2 → l2 ≤ 24 → 2 * (24 - l2) + (1) ≤ ((n + 1 : Nat) : Int) → m_Z oF M_X12_core 36 [some (mR 108), some (mI l1), some (mI l2)] [] h (m_QI (P_X12_core h0)) := by
  intro l1 l2 h G R v0 v1 hr
  refine z_ok (fun ostk _ olocs => ?_)
  have ol1 : m_32 l1 := olocs 1 _ rfl
  unfold m_32 at ol1
  refine z_iload_n (M := M_X12_core) 36 dX12_core_36 rfl ?_
  refine z_aload_n (M := M_X12_core) 37 dX12_core_37 rfl ?_
  refine z_getR (M := M_X12_core) 38 dX12_core_38 f_X12_13 o_108 rfl (g_108_3 G) ?_
  refine z_iconst (M := M_X12_core) 41 dX12_core_41 ?_
  refine z_ialdG (M := M_X12_core) 42 dX12_core_42 o_110 (by omega) (by omega) (gw_0 G) (fun x1 ex1 ax1 bx1 => ?_)
  refine z_icmp_ge (M := M_X12_core) 43 dX12_core_43 82 rfl (fun c2 => ?_) (fun c2 => ?_)
  · refine z_iload_n (M := M_X12_core) 82 dX12_core_82 rfl ?_
    exact z_retI (M := M_X12_core) 83 dX12_core_83 rfl ⟨G, R⟩
  · refine z_iload_n (M := M_X12_core) 46 dX12_core_46 rfl ?_
    refine z_iload_n (M := M_X12_core) 47 dX12_core_47 rfl ?_
    refine z_sI (M := M_X12_core) 48 dX12_core_48 t_X12_is l_X12_336 (m_rr_of rfl) (rest := []) (c_X12_is h l1 l2 G) rfl rfl (Nat.le_of_ble_eq_true rfl) ⟨rfl, rfl⟩ (fun x3 h1 qx3 => ?_)
    obtain ⟨rfl, ⟨rfl, cx3⟩ | ⟨rfl, cx3⟩⟩ := qx3
    · refine z_if_eq_F (M := M_X12_core) 51 dX12_core_51 76 rfl (by omega) ?_
      refine z_aload_n (M := M_X12_core) 54 dX12_core_54 rfl ?_
      refine z_iload_n (M := M_X12_core) 55 dX12_core_55 rfl ?_
      refine z_iconst (M := M_X12_core) 56 dX12_core_56 ?_
      refine z_iload_n (M := M_X12_core) 57 dX12_core_57 rfl ?_
      refine z_ishl (M := M_X12_core) 58 dX12_core_58 ?_
      refine z_topm (fun x4 ex4 ox4 => ?_)
      unfold m_32 at ox4
      refine z_iconst (M := M_X12_core) 59 dX12_core_59 ?_
      refine z_ixor (M := M_X12_core) 60 dX12_core_60 ?_
      refine z_topm (fun x5 ex5 ox5 => ?_)
      unfold m_32 at ox5
      refine z_iand (M := M_X12_core) 61 dX12_core_61 ?_
      refine z_topm (fun x6 ex6 ox6 => ?_)
      unfold m_32 at ox6
      refine z_vI (M := M_X12_core) 62 dX12_core_62 t_X12_canBe l_X12_374 (m_rr_of rfl) (rest := []) (c_X12_canBe h x6 G (NP.call hN R (fun _ => rfl) (fun _ => rfl) (fun _ => rfl))) o_108 rfl rfl rfl (Nat.le_of_ble_eq_true rfl) ⟨rfl, rfl⟩ (fun x7 h2 qx7 => ?_)
      obtain ⟨G2, S2, ax7, bx7, fx7_0⟩ := qx7
      have R2 := R.call S2 (by decide +kernel)
      refine z_if_ne (M := M_X12_core) 65 dX12_core_65 76 rfl (fun c8 => ?_) (fun c8 => ?_)
      · refine z_iincN (M := M_X12_core) 76 dX12_core_76 (ls' := [some (mR 108), some (mI l1), some (mI (l2 + 1))]) (by decide) rfl (by (unfold m_32; decide)) (by omega) (by omega) rfl ?_
        refine z_goto (M := M_X12_core) 79 dX12_core_79 36 rfl ?_
        exact z_mask [true, true, true] rfl (ih l1 (l2 + 1) h2 G2 R2 (by omega) (by omega) (by omega))
      · refine z_iload_n (M := M_X12_core) 68 dX12_core_68 rfl ?_
        refine z_iconst (M := M_X12_core) 69 dX12_core_69 ?_
        refine z_iload_n (M := M_X12_core) 70 dX12_core_70 rfl ?_
        refine z_ishl (M := M_X12_core) 71 dX12_core_71 ?_
        refine z_topm (fun x9 ex9 ox9 => ?_)
        unfold m_32 at ox9
        refine z_iconst (M := M_X12_core) 72 dX12_core_72 ?_
        refine z_ixor (M := M_X12_core) 73 dX12_core_73 ?_
        refine z_topm (fun x10 ex10 ox10 => ?_)
        unfold m_32 at ox10
        refine z_iand (M := M_X12_core) 74 dX12_core_74 ?_
        refine z_topm (fun x11 ex11 ox11 => ?_)
        unfold m_32 at ox11
        refine z_istore_n (M := M_X12_core) 75 dX12_core_75 (ls' := [some (mR 108), some (mI x11), some (mI l2)]) (by decide) rfl ?_
        refine z_iincN (M := M_X12_core) 76 dX12_core_76 (ls' := [some (mR 108), some (mI x11), some (mI (l2 + 1))]) (by decide) rfl (by (unfold m_32; decide)) (by omega) (by omega) rfl ?_
        refine z_goto (M := M_X12_core) 79 dX12_core_79 36 rfl ?_
        exact z_mask [true, true, true] rfl (ih x11 (l2 + 1) h2 G2 R2 (by omega) (by omega) (by omega))
    · refine z_if_eq_T (M := M_X12_core) 51 dX12_core_51 76 rfl (by omega) ?_
      refine z_iincN (M := M_X12_core) 76 dX12_core_76 (ls' := [some (mR 108), some (mI l1), some (mI (l2 + 1))]) (by decide) rfl (by (unfold m_32; decide)) (by omega) (by omega) rfl ?_
      refine z_goto (M := M_X12_core) 79 dX12_core_79 36 rfl ?_
      exact z_mask [true, true, true] rfl (ih l1 (l2 + 1) h G R (by omega) (by omega) (by omega))
theorem a_X12_core (h0 : m_H) (G0 : GI h0) (hN : NP h0) : ∀ n, q_X12_core h0 n := by
  intro n
  induction n with
  | zero => unfold q_X12_core; intros; omega
  | succ n ih => exact s_X12_core_36 h0 G0 hN n ih
set_option maxHeartbeats 4000000 in
set_option maxRecDepth 100000 in
theorem c_X12_core (h0 : m_H) (G0 : GI h0) (hN : NP h0) : m_CI M_X12_core [mR 108] h0 (P_X12_core h0) := by
  refine m_CI_of ⟨by decide, rfl, by simp [m_arg, m_isL, M_X12_core], ⟨rfl, rfl⟩, rfl, rfl⟩ (ls := [some (mR 108), none, none]) rfl ?_
  have ih := a_X12_core h0 G0 hN 56
  refine z_aload_n (M := M_X12_core) 0 dX12_core_0 rfl ?_
  refine z_iconst (M := M_X12_core) 1 dX12_core_1 ?_
  refine z_putIH (M := M_X12_core) 2 dX12_core_2 p_X12_133 o_108 rfl (u_108_0 G0) ((FR.rf (cs := [115, 116, 117, 118, 119, 120, 121, 122, 123, 124, 125, 126, 127, 128, 129, 130, 131, 132, 133, 134]) (ss := [(108, 0), (108, 21)]) (h := h0)).up rfl) (fun h1 E1 G1 R1 => ?_)
  refine z_aload_n (M := M_X12_core) 5 dX12_core_5 rfl ?_
  refine z_vV (M := M_X12_core) 6 dX12_core_6 t_X12_asIs l_X12_367 (m_rr_of rfl) (rest := []) (c_X12_asIsX h1 G1) o_108 rfl rfl rfl (Nat.le_of_ble_eq_true rfl) ⟨rfl, rfl⟩ (fun h2 qx1 => ?_)
  obtain ⟨G2, S2, fx1_0⟩ := qx1
  have R2 := R1.call S2 (by decide +kernel)
  refine z_aload_n (M := M_X12_core) 9 dX12_core_9 rfl ?_
  refine z_vI (M := M_X12_core) 10 dX12_core_10 t_X12_counting l_X12_370 (m_rr_of rfl) (rest := []) (c_X12_countingX h2 G2) o_108 rfl rfl rfl (Nat.le_of_ble_eq_true rfl) ⟨rfl, rfl⟩ (fun x2 h3 qx2 => ?_)
  obtain ⟨G3, S3, fx2_0⟩ := qx2
  have R3 := R2.call S3 (by decide +kernel)
  refine z_ok (fun ox2 _ _ => ?_)
  have ox2 := ox2.1; unfold m_ok m_32 at ox2
  refine z_istore_n (M := M_X12_core) 13 dX12_core_13 (ls' := [some (mR 108), some (mI x2), none]) (by decide) rfl ?_
  refine z_aload_n (M := M_X12_core) 14 dX12_core_14 rfl ?_
  refine z_iload_n (M := M_X12_core) 15 dX12_core_15 rfl ?_
  refine z_vI (M := M_X12_core) 16 dX12_core_16 t_X12_canBe l_X12_374 (m_rr_of rfl) (rest := []) (c_X12_canBe h3 x2 G3 (NP.call hN R3 (fun _ => rfl) (fun _ => rfl) (fun _ => rfl))) o_108 rfl rfl rfl (Nat.le_of_ble_eq_true rfl) ⟨rfl, rfl⟩ (fun x3 h4 qx3 => ?_)
  obtain ⟨G4, S4, ax3, bx3, fx3_0⟩ := qx3
  have R4 := R3.call S4 (by decide +kernel)
  refine z_if_eq (M := M_X12_core) 19 dX12_core_19 24 rfl (fun c4 => ?_) (fun c4 => ?_)
  · refine z_aload_n (M := M_X12_core) 24 dX12_core_24 rfl ?_
    refine z_iconst (M := M_X12_core) 25 dX12_core_25 ?_
    refine z_vI (M := M_X12_core) 26 dX12_core_26 t_X12_canBe l_X12_374 (m_rr_of rfl) (rest := []) (c_X12_canBe h4 0 G4 (NP.call hN R4 (fun _ => rfl) (fun _ => rfl) (fun _ => rfl))) o_108 rfl rfl rfl (Nat.le_of_ble_eq_true rfl) ⟨rfl, rfl⟩ (fun x5 h5 qx5 => ?_)
    obtain ⟨G5, S5, ax5, bx5, fx5_0⟩ := qx5
    have R5 := R4.call S5 (by decide +kernel)
    refine z_if_ne (M := M_X12_core) 29 dX12_core_29 34 rfl (fun c6 => ?_) (fun c6 => ?_)
    · refine z_iconst (M := M_X12_core) 34 dX12_core_34 ?_
      refine z_istore_n (M := M_X12_core) 35 dX12_core_35 (ls' := [some (mR 108), some (mI x2), some (mI 0)]) (by decide) rfl ?_
      exact z_mask [true, true, true] rfl (ih x2 0 h5 G5 R5 (by omega) (by omega) (by omega))
    · refine z_iconst (M := M_X12_core) 32 dX12_core_32 ?_
      exact z_retI (M := M_X12_core) 33 dX12_core_33 rfl ⟨G5, R5⟩
  · refine z_iconst (M := M_X12_core) 22 dX12_core_22 ?_
    exact z_retI (M := M_X12_core) 23 dX12_core_23 rfl ⟨G4, R4⟩
abbrev P_X12_wrong (h0 : m_H) (a1 : Int) : Int → m_H → Prop := fun x h' => GI h' ∧ FR [115, 116, 117, 118, 119, 120, 121, 122, 123, 124, 125, 126, 127, 128, 129, 130, 131, 132, 133, 134] [(108, 0), (108, 21)] h0 h'
def q_X12_wrong (h0 : m_H) (a1 : Int) (n : Nat) : Prop := (∀ (l2 l3 l4 : Int) (h : m_H), GI h → FR [115, 116, 117, 118, 119, 120, 121, 122, 123, 124, 125, 126, 127, 128, 129, 130, 131, 132, 133, 134] [(108, 0), (108, 21)] h0 h → 0 ≤ l3 → l3 ≤ 24 → 0 ≤ l4 → l4 ≤ 3 → 0 ≤ a1 → a1 ≤ 2 → 2478 * (3 - l4) + (2477) ≤ (n : Int) → m_Z oF M_X12_wrong 38 [some (mR 108), some (mI a1), some (mI l2), some (mI l3), some (mI l4), none, none, none, none, none, none] [] h (m_QI (P_X12_wrong h0 a1))) ∧ (∀ (l2 l3 l4 l5 l6 l7 : Int) (h : m_H), GI h → FR [115, 116, 117, 118, 119, 120, 121, 122, 123, 124, 125, 126, 127, 128, 129, 130, 131, 132, 133, 134] [(108, 0), (108, 21)] h0 h → 0 ≤ l3 → l3 ≤ 24 → 0 ≤ l4 → l4 ≤ 2 → 0 ≤ l7 → l7 ≤ 24 → 0 ≤ a1 → a1 ≤ 2 → 2478 * (3 - l4) + 99 * (24 - l7) + (98) ≤ (n : Int) → m_Z oF M_X12_wrong 53 [some (mR 108), some (mI a1), some (mI l2), some (mI l3), some (mI l4), some (mI l5), some (mI l6), some (mI l7), none, none, none] [] h (m_QI (P_X12_wrong h0 a1))) ∧ (∀ (l2 l3 l4 l5 l6 l7 l8 : Int) (h : m_H), GI h → FR [115, 116, 117, 118, 119, 120, 121, 122, 123, 124, 125, 126, 127, 128, 129, 130, 131, 132, 133, 134] [(108, 0), (108, 21)] h0 h → 0 ≤ l3 → l3 ≤ 24 → 0 ≤ l4 → l4 ≤ 2 → 0 ≤ l7 → l7 ≤ 23 → 0 ≤ l8 → l8 ≤ 23 → 0 ≤ a1 → a1 ≤ 2 → 2478 * (3 - l4) + 99 * (24 - l7) + 4 * (23 - l8) + (3) ≤ (n : Int) → m_Z oF M_X12_wrong 71 [some (mR 108), some (mI a1), some (mI l2), some (mI l3), some (mI l4), some (mI l5), some (mI l6), some (mI l7), some (mI l8), none, none] [] h (m_QI (P_X12_wrong h0 a1))) ∧ (∀ (l2 l3 l4 l5 l6 l7 l8 l10 : Int) (h : m_H), GI h → FR [115, 116, 117, 118, 119, 120, 121, 122, 123, 124, 125, 126, 127, 128, 129, 130, 131, 132, 133, 134] [(108, 0), (108, 21)] h0 h → 0 ≤ l3 → l3 ≤ 24 → 0 ≤ l4 → l4 ≤ 2 → 0 ≤ l7 → l7 ≤ 23 → 0 ≤ l8 → l8 ≤ 22 → 0 ≤ l10 → l10 ≤ 1 → 0 ≤ a1 → a1 ≤ 2 → 2478 * (3 - l4) + 99 * (24 - l7) + 4 * (23 - l8) + (2) ≤ (n : Int) → m_Z oF M_X12_wrong 165 [some (mR 108), some (mI a1), some (mI l2), some (mI l3), some (mI l4), some (mI l5), some (mI l6), some (mI l7), some (mI l8), none, some (mI l10)] [] h (m_QI (P_X12_wrong h0 a1))) ∧ (∀ (l2 l3 l4 l6 l7 l8 k0 k1 : Int) (h : m_H), GI h → FR [115, 116, 117, 118, 119, 120, 121, 122, 123, 124, 125, 126, 127, 128, 129, 130, 131, 132, 133, 134] [(108, 0), (108, 21)] h0 h → 0 ≤ l3 → l3 ≤ 24 → 0 ≤ l4 → l4 ≤ 2 → 0 ≤ l7 → l7 ≤ 23 → 0 ≤ l8 → l8 ≤ 22 → 0 ≤ k1 → k1 ≤ 1 → 0 ≤ a1 → a1 ≤ 2 → 2478 * (3 - l4) + 99 * (24 - l7) + 4 * (23 - l8) + (1) ≤ (n : Int) → m_Z oF M_X12_wrong 181 [some (mR 108), some (mI a1), some (mI l2), some (mI l3), some (mI l4), none, some (mI l6), some (mI l7), some (mI l8), none, none] [mI k1, mI k0] h (m_QI (P_X12_wrong h0 a1)))
set_option maxHeartbeats 4000000 in
set_option maxRecDepth 100000 in
theorem s_X12_wrong_38 (h0 : m_H) (a1 : Int) (G0 : GI h0) (hN : NP h0) (n : Nat) (ih : q_X12_wrong h0 a1 n) : ∀ (l2 l3 l4 : Int) (h : m_H), GI h → FR [115, 116, 117, 118, 119, 120, 121, 122, 123, 124, 125, 126, 127, 128, 129, 130, 131, 132, 133, 134] [(108, 0), (108, 21)] h0 h → 0 ≤ l3 → l3 ≤ 24 → 0 ≤ l4 → l4 ≤ 3 → 0 ≤ a1 → a1 ≤ 2 → 2478 * (3 - l4) + (2477) ≤ ((n + 1 : Nat) : Int) → m_Z oF M_X12_wrong 38 [some (mR 108), some (mI a1), some (mI l2), some (mI l3), some (mI l4), none, none, none, none, none, none] [] h (m_QI (P_X12_wrong h0 a1)) := by
  intro l2 l3 l4 h G R v0 v1 v2 v3 v4 v5 hr
  refine z_ok (fun ostk _ olocs => ?_)
  have ol2 : m_32 l2 := olocs 2 _ rfl
  unfold m_32 at ol2
  refine z_iload (M := M_X12_wrong) 38 dX12_wrong_38 rfl ?_
  refine z_iconst (M := M_X12_wrong) 40 dX12_wrong_40 ?_
  refine z_icmp_gt (M := M_X12_wrong) 41 dX12_wrong_41 229 rfl (fun c1 => ?_) (fun c1 => ?_)
  · refine z_iconst (M := M_X12_wrong) 229 dX12_wrong_229 ?_
    exact z_retI (M := M_X12_wrong) 230 dX12_wrong_230 rfl ⟨G, R⟩
  · refine z_iconst (M := M_X12_wrong) 44 dX12_wrong_44 ?_
    refine z_istore (M := M_X12_wrong) 45 dX12_wrong_45 (ls' := [some (mR 108), some (mI a1), some (mI l2), some (mI l3), some (mI l4), some (mI 0), none, none, none, none, none]) (by decide) rfl ?_
    refine z_iconst (M := M_X12_wrong) 47 dX12_wrong_47 ?_
    refine z_istore (M := M_X12_wrong) 48 dX12_wrong_48 (ls' := [some (mR 108), some (mI a1), some (mI l2), some (mI l3), some (mI l4), some (mI 0), some (mI 0), none, none, none, none]) (by decide) rfl ?_
    refine z_iconst (M := M_X12_wrong) 50 dX12_wrong_50 ?_
    refine z_istore (M := M_X12_wrong) 51 dX12_wrong_51 (ls' := [some (mR 108), some (mI a1), some (mI l2), some (mI l3), some (mI l4), some (mI 0), some (mI 0), some (mI 0), none, none, none]) (by decide) rfl ?_
    exact z_mask [true, true, true, true, true, true, true, true, false, false, false] rfl (ih.2.1 l2 l3 l4 0 0 0 h G R (by omega) (by omega) (by omega) (by omega) (by omega) (by omega) (by omega) (by omega) (by omega))
set_option maxHeartbeats 4000000 in
set_option maxRecDepth 100000 in
theorem s_X12_wrong_53 (h0 : m_H) (a1 : Int) (G0 : GI h0) (hN : NP h0) (n : Nat) (ih : q_X12_wrong h0 a1 n) : ∀ (l2 l3 l4 l5 l6 l7 : Int) (h : m_H), GI h → FR [115, 116, 117, 118, 119, 120, 121, 122, 123, 124, 125, 126, 127, 128, 129, 130, 131, 132, 133, 134] [(108, 0), (108, 21)] h0 h → 0 ≤ l3 → l3 ≤ 24 → 0 ≤ l4 → l4 ≤ 2 → 0 ≤ l7 → l7 ≤ 24 → 0 ≤ a1 → a1 ≤ 2 → 2478 * (3 - l4) + 99 * (24 - l7) + (98) ≤ ((n + 1 : Nat) : Int) → m_Z oF M_X12_wrong 53 [some (mR 108), some (mI a1), some (mI l2), some (mI l3), some (mI l4), some (mI l5), some (mI l6), some (mI l7), none, none, none] [] h (m_QI (P_X12_wrong h0 a1)) := by
  intro l2 l3 l4 l5 l6 l7 h G R v0 v1 v2 v3 v4 v5 v6 v7 hr
  refine z_ok (fun ostk _ olocs => ?_)
  have ol2 : m_32 l2 := olocs 2 _ rfl
  unfold m_32 at ol2
  have ol5 : m_32 l5 := olocs 5 _ rfl
  unfold m_32 at ol5
  have ol6 : m_32 l6 := olocs 6 _ rfl
  unfold m_32 at ol6
  refine z_iload (M := M_X12_wrong) 53 dX12_wrong_53 rfl ?_
  refine z_iload (M := M_X12_wrong) 55 dX12_wrong_55 rfl ?_
  refine z_if_ne (M := M_X12_wrong) 57 dX12_wrong_57 64 rfl (fun c1 => ?_) (fun c1 => ?_)
  · refine z_iload_n (M := M_X12_wrong) 64 dX12_wrong_64 rfl ?_
    refine z_icmp_ge (M := M_X12_wrong) 65 dX12_wrong_65 196 rfl (fun c2 => ?_) (fun c2 => ?_)
    · refine z_iload (M := M_X12_wrong) 196 dX12_wrong_196 rfl ?_
      refine z_if_le (M := M_X12_wrong) 198 dX12_wrong_198 223 rfl (fun c3 => ?_) (fun c3 => ?_)
      · refine z_iincN (M := M_X12_wrong) 223 dX12_wrong_223 (ls' := [some (mR 108), some (mI a1), some (mI l2), some (mI l3), some (mI (l4 + 1)), some (mI l5), some (mI l6), some (mI l7), none, none, none]) (by decide) rfl (by (unfold m_32; decide)) (by omega) (by omega) rfl ?_
        refine z_goto (M := M_X12_wrong) 226 dX12_wrong_226 38 rfl ?_
        exact z_mask [true, true, true, true, true, false, false, false, false, false, false] rfl (ih.1 l2 l3 (l4 + 1) h G R (by omega) (by omega) (by omega) (by omega) (by omega) (by omega) (by omega))
      · refine z_iload_n (M := M_X12_wrong) 201 dX12_wrong_201 rfl ?_
        refine z_if_ne (M := M_X12_wrong) 202 dX12_wrong_202 210 rfl (fun c4 => ?_) (fun c4 => ?_)
        · refine z_iload_n (M := M_X12_wrong) 210 dX12_wrong_210 rfl ?_
          refine z_iconst (M := M_X12_wrong) 211 dX12_wrong_211 ?_
          refine z_icmp_ne (M := M_X12_wrong) 212 dX12_wrong_212 220 rfl (fun c5 => ?_) (fun c5 => ?_)
          · refine z_iload (M := M_X12_wrong) 220 dX12_wrong_220 rfl ?_
            exact z_retI (M := M_X12_wrong) 222 dX12_wrong_222 rfl ⟨G, R⟩
          · refine z_iload (M := M_X12_wrong) 215 dX12_wrong_215 rfl ?_
            refine z_goto (M := M_X12_wrong) 217 dX12_wrong_217 222 rfl ?_
            exact z_retI (M := M_X12_wrong) 222 dX12_wrong_222 rfl ⟨G, R⟩
        · refine z_iload (M := M_X12_wrong) 205 dX12_wrong_205 rfl ?_
          refine z_goto (M := M_X12_wrong) 207 dX12_wrong_207 222 rfl ?_
          exact z_retI (M := M_X12_wrong) 222 dX12_wrong_222 rfl ⟨G, R⟩
    · refine z_iconst (M := M_X12_wrong) 68 dX12_wrong_68 ?_
      refine z_istore (M := M_X12_wrong) 69 dX12_wrong_69 (ls' := [some (mR 108), some (mI a1), some (mI l2), some (mI l3), some (mI l4), some (mI l5), some (mI l6), some (mI l7), some (mI 0), none, none]) (by decide) rfl ?_
      exact z_mask [true, true, true, true, true, true, true, true, true, false, false] rfl (ih.2.2.1 l2 l3 l4 l5 l6 l7 0 h G R (by omega) (by omega) (by omega) (by omega) (by omega) (by omega) (by omega) (by omega) (by omega) (by omega) (by omega))
  · refine z_iconst (M := M_X12_wrong) 60 dX12_wrong_60 ?_
    refine z_goto (M := M_X12_wrong) 61 dX12_wrong_61 65 rfl ?_
    refine z_icmp_ge (M := M_X12_wrong) 65 dX12_wrong_65 196 rfl (fun c6 => ?_) (fun c6 => ?_)
    · refine z_iload (M := M_X12_wrong) 196 dX12_wrong_196 rfl ?_
      refine z_if_le (M := M_X12_wrong) 198 dX12_wrong_198 223 rfl (fun c7 => ?_) (fun c7 => ?_)
      · refine z_iincN (M := M_X12_wrong) 223 dX12_wrong_223 (ls' := [some (mR 108), some (mI a1), some (mI l2), some (mI l3), some (mI (l4 + 1)), some (mI l5), some (mI l6), some (mI l7), none, none, none]) (by decide) rfl (by (unfold m_32; decide)) (by omega) (by omega) rfl ?_
        refine z_goto (M := M_X12_wrong) 226 dX12_wrong_226 38 rfl ?_
        exact z_mask [true, true, true, true, true, false, false, false, false, false, false] rfl (ih.1 l2 l3 (l4 + 1) h G R (by omega) (by omega) (by omega) (by omega) (by omega) (by omega) (by omega))
      · refine z_iload_n (M := M_X12_wrong) 201 dX12_wrong_201 rfl ?_
        refine z_if_ne (M := M_X12_wrong) 202 dX12_wrong_202 210 rfl (fun c8 => ?_) (fun c8 => ?_)
        · refine z_iload_n (M := M_X12_wrong) 210 dX12_wrong_210 rfl ?_
          refine z_iconst (M := M_X12_wrong) 211 dX12_wrong_211 ?_
          refine z_icmp_ne (M := M_X12_wrong) 212 dX12_wrong_212 220 rfl (fun c9 => ?_) (fun c9 => ?_)
          · refine z_iload (M := M_X12_wrong) 220 dX12_wrong_220 rfl ?_
            exact z_retI (M := M_X12_wrong) 222 dX12_wrong_222 rfl ⟨G, R⟩
          · refine z_iload (M := M_X12_wrong) 215 dX12_wrong_215 rfl ?_
            refine z_goto (M := M_X12_wrong) 217 dX12_wrong_217 222 rfl ?_
            exact z_retI (M := M_X12_wrong) 222 dX12_wrong_222 rfl ⟨G, R⟩
        · refine z_iload (M := M_X12_wrong) 205 dX12_wrong_205 rfl ?_
          refine z_goto (M := M_X12_wrong) 207 dX12_wrong_207 222 rfl ?_
          exact z_retI (M := M_X12_wrong) 222 dX12_wrong_222 rfl ⟨G, R⟩
    · refine z_iconst (M := M_X12_wrong) 68 dX12_wrong_68 ?_
      refine z_istore (M := M_X12_wrong) 69 dX12_wrong_69 (ls' := [some (mR 108), some (mI a1), some (mI l2), some (mI l3), some (mI l4), some (mI l5), some (mI l6), some (mI l7), some (mI 0), none, none]) (by decide) rfl ?_
      exact z_mask [true, true, true, true, true, true, true, true, true, false, false] rfl (ih.2.2.1 l2 l3 l4 l5 l6 l7 0 h G R (by omega) (by omega) (by omega) (by omega) (by omega) (by omega) (by omega) (by omega) (by omega) (by omega) (by omega))
set_option maxHeartbeats 4000000 in
set_option maxRecDepth 100000 in
theorem s_X12_wrong_71 (h0 : m_H) (a1 : Int) (G0 : GI h0) (hN : NP h0) (n : Nat) (ih : q_X12_wrong h0 a1 n) : ∀ (l2 l3 l4 l5 l6 l7 l8 : Int) (h : m_H), GI h → FR [115, 116, 117, 118, 119, 120, 121, 122, 123, 124, 125, 126, 127, 128, 129, 130, 131, 132, 133, 134] [(108, 0), (108, 21)] h0 h → 0 ≤ l3 → l3 ≤ 24 → 0 ≤ l4 → l4 ≤ 2 → 0 ≤ l7 → l7 ≤ 23 → 0 ≤ l8 → l8 ≤ 23 → 0 ≤ a1 → a1 ≤ 2 → 2478 * (3 - l4) + 99 * (24 - l7) + 4 * (23 - l8) + (3) ≤ ((n + 1 : Nat) : Int) → m_Z oF M_X12_wrong 71 [some (mR 108), some (mI a1), some (mI l2), some (mI l3), some (mI l4), some (mI l5), some (mI l6), some (mI l7), some (mI l8), none, none] [] h (m_QI (P_X12_wrong h0 a1)) := by
  intro l2 l3 l4 l5 l6 l7 l8 h G R v0 v1 v2 v3 v4 v5 v6 v7 v8 v9 hr
  refine z_ok (fun ostk _ olocs => ?_)
  have ol2 : m_32 l2 := olocs 2 _ rfl
  unfold m_32 at ol2
  have ol5 : m_32 l5 := olocs 5 _ rfl
  unfold m_32 at ol5
  have ol6 : m_32 l6 := olocs 6 _ rfl
  unfold m_32 at ol6
  refine z_iload (M := M_X12_wrong) 71 dX12_wrong_71 rfl ?_
  refine z_iload (M := M_X12_wrong) 73 dX12_wrong_73 rfl ?_
  refine z_iconst (M := M_X12_wrong) 75 dX12_wrong_75 ?_
  refine z_icmp_ge (M := M_X12_wrong) 76 dX12_wrong_76 83 rfl (fun c1 => ?_) (fun c1 => ?_)
  · refine z_iload (M := M_X12_wrong) 83 dX12_wrong_83 rfl ?_
    refine z_icmp_ge (M := M_X12_wrong) 85 dX12_wrong_85 190 rfl (fun c2 => ?_) (fun c2 => ?_)
    · refine z_iincN (M := M_X12_wrong) 190 dX12_wrong_190 (ls' := [some (mR 108), some (mI a1), some (mI l2), some (mI l3), some (mI l4), some (mI l5), some (mI l6), some (mI (l7 + 1)), some (mI l8), none, none]) (by decide) rfl (by (unfold m_32; decide)) (by omega) (by omega) rfl ?_
      refine z_goto (M := M_X12_wrong) 193 dX12_wrong_193 53 rfl ?_
      exact z_mask [true, true, true, true, true, true, true, true, false, false, false] rfl (ih.2.1 l2 l3 l4 l5 l6 (l7 + 1) h G R (by omega) (by omega) (by omega) (by omega) (by omega) (by omega) (by omega) (by omega) (by omega))
    · refine z_iload (M := M_X12_wrong) 88 dX12_wrong_88 rfl ?_
      refine z_if_ne_T (M := M_X12_wrong) 90 dX12_wrong_90 97 rfl (by omega) ?_
      refine z_iload (M := M_X12_wrong) 97 dX12_wrong_97 rfl ?_
      refine z_iconst (M := M_X12_wrong) 99 dX12_wrong_99 ?_
      refine z_icmp_ne_T (M := M_X12_wrong) 100 dX12_wrong_100 110 rfl (by omega) ?_
      refine z_iconst (M := M_X12_wrong) 110 dX12_wrong_110 ?_
      refine z_iload (M := M_X12_wrong) 111 dX12_wrong_111 rfl ?_
      refine z_ishl (M := M_X12_wrong) 113 dX12_wrong_113 ?_
      refine z_topm (fun x3 ex3 ox3 => ?_)
      unfold m_32 at ox3
      refine z_iconst (M := M_X12_wrong) 114 dX12_wrong_114 ?_
      refine z_iload (M := M_X12_wrong) 115 dX12_wrong_115 rfl ?_
      refine z_ishl (M := M_X12_wrong) 117 dX12_wrong_117 ?_
      refine z_topm (fun x4 ex4 ox4 => ?_)
      unfold m_32 at ox4
      refine z_ior (M := M_X12_wrong) 118 dX12_wrong_118 ?_
      refine z_topm (fun x5 ex5 ox5 => ?_)
      unfold m_32 at ox5
      refine z_istore (M := M_X12_wrong) 119 dX12_wrong_119 (ls' := [some (mR 108), some (mI a1), some (mI l2), some (mI l3), some (mI l4), some (mI l5), some (mI l6), some (mI l7), some (mI l8), some (mI x5), none]) (by decide) rfl ?_
      refine z_iload (M := M_X12_wrong) 121 dX12_wrong_121 rfl ?_
      refine z_iload_n (M := M_X12_wrong) 123 dX12_wrong_123 rfl ?_
      refine z_iconst (M := M_X12_wrong) 124 dX12_wrong_124 ?_
      refine z_ixor (M := M_X12_wrong) 125 dX12_wrong_125 ?_
      refine z_topm (fun x6 ex6 ox6 => ?_)
      unfold m_32 at ox6
      refine z_iand (M := M_X12_wrong) 126 dX12_wrong_126 ?_
      refine z_topm (fun x7 ex7 ox7 => ?_)
      unfold m_32 at ox7
      refine z_if_ne (M := M_X12_wrong) 127 dX12_wrong_127 147 rfl (fun c8 => ?_) (fun c8 => ?_)
      · refine z_iconst (M := M_X12_wrong) 147 dX12_wrong_147 ?_
        refine z_istore (M := M_X12_wrong) 148 dX12_wrong_148 (ls' := [some (mR 108), some (mI a1), some (mI l2), some (mI l3), some (mI l4), some (mI l5), some (mI l6), some (mI l7), some (mI l8), some (mI x5), some (mI 0)]) (by decide) rfl ?_
        refine z_iload (M := M_X12_wrong) 150 dX12_wrong_150 rfl ?_
        refine z_if_eq_T (M := M_X12_wrong) 152 dX12_wrong_152 165 rfl (by omega) ?_
        exact z_mask [true, true, true, true, true, true, true, true, true, false, true] rfl (ih.2.2.2.1 l2 l3 l4 l5 l6 l7 l8 0 h G R (by omega) (by omega) (by omega) (by omega) (by omega) (by omega) (by omega) (by omega) (by omega) (by omega) (by omega) (by omega) (by omega))
      · refine z_aload_n (M := M_X12_wrong) 130 dX12_wrong_130 rfl ?_
        refine z_iload_n (M := M_X12_wrong) 131 dX12_wrong_131 rfl ?_
        refine z_iload (M := M_X12_wrong) 132 dX12_wrong_132 rfl ?_
        refine z_iconst (M := M_X12_wrong) 134 dX12_wrong_134 ?_
        refine z_ixor (M := M_X12_wrong) 135 dX12_wrong_135 ?_
        refine z_topm (fun x9 ex9 ox9 => ?_)
        unfold m_32 at ox9
        refine z_iand (M := M_X12_wrong) 136 dX12_wrong_136 ?_
        refine z_topm (fun x10 ex10 ox10 => ?_)
        unfold m_32 at ox10
        refine z_vI (M := M_X12_wrong) 137 dX12_wrong_137 t_X12_canBe l_X12_374 (m_rr_of rfl) (rest := []) (c_X12_canBe h x10 G (NP.call hN R (fun _ => rfl) (fun _ => rfl) (fun _ => rfl))) o_108 rfl rfl rfl (Nat.le_of_ble_eq_true rfl) ⟨rfl, rfl⟩ (fun x11 h1 qx11 => ?_)
        obtain ⟨G1, S1, ax11, bx11, fx11_0⟩ := qx11
        have R1 := R.call S1 (by decide +kernel)
        refine z_if_eq (M := M_X12_wrong) 140 dX12_wrong_140 147 rfl (fun c12 => ?_) (fun c12 => ?_)
        · refine z_iconst (M := M_X12_wrong) 147 dX12_wrong_147 ?_
          refine z_istore (M := M_X12_wrong) 148 dX12_wrong_148 (ls' := [some (mR 108), some (mI a1), some (mI l2), some (mI l3), some (mI l4), some (mI l5), some (mI l6), some (mI l7), some (mI l8), some (mI x5), some (mI 0)]) (by decide) rfl ?_
          refine z_iload (M := M_X12_wrong) 150 dX12_wrong_150 rfl ?_
          refine z_if_eq_T (M := M_X12_wrong) 152 dX12_wrong_152 165 rfl (by omega) ?_
          exact z_mask [true, true, true, true, true, true, true, true, true, false, true] rfl (ih.2.2.2.1 l2 l3 l4 l5 l6 l7 l8 0 h1 G1 R1 (by omega) (by omega) (by omega) (by omega) (by omega) (by omega) (by omega) (by omega) (by omega) (by omega) (by omega) (by omega) (by omega))
        · refine z_iconst (M := M_X12_wrong) 143 dX12_wrong_143 ?_
          refine z_goto (M := M_X12_wrong) 144 dX12_wrong_144 148 rfl ?_
          refine z_istore (M := M_X12_wrong) 148 dX12_wrong_148 (ls' := [some (mR 108), some (mI a1), some (mI l2), some (mI l3), some (mI l4), some (mI l5), some (mI l6), some (mI l7), some (mI l8), some (mI x5), some (mI 1)]) (by decide) rfl ?_
          refine z_iload (M := M_X12_wrong) 150 dX12_wrong_150 rfl ?_
          refine z_if_eq_F (M := M_X12_wrong) 152 dX12_wrong_152 165 rfl (by omega) ?_
          refine z_iload (M := M_X12_wrong) 155 dX12_wrong_155 rfl ?_
          refine z_if_ne (M := M_X12_wrong) 157 dX12_wrong_157 165 rfl (fun c13 => ?_) (fun c13 => ?_)
          · exact z_mask [true, true, true, true, true, true, true, true, true, false, true] rfl (ih.2.2.2.1 l2 l3 l4 l5 l6 l7 l8 1 h1 G1 R1 (by omega) (by omega) (by omega) (by omega) (by omega) (by omega) (by omega) (by omega) (by omega) (by omega) (by omega) (by omega) (by omega))
          · refine z_iload (M := M_X12_wrong) 160 dX12_wrong_160 rfl ?_
            refine z_goto (M := M_X12_wrong) 162 dX12_wrong_162 167 rfl ?_
            refine z_istore (M := M_X12_wrong) 167 dX12_wrong_167 (ls' := [some (mR 108), some (mI a1), some (mI l2), some (mI l3), some (mI l4), some (mI l5), some (mI x5), some (mI l7), some (mI l8), some (mI x5), some (mI 1)]) (by decide) rfl ?_
            refine z_iload (M := M_X12_wrong) 169 dX12_wrong_169 rfl ?_
            refine z_iload (M := M_X12_wrong) 171 dX12_wrong_171 rfl ?_
            refine z_if_eq_F (M := M_X12_wrong) 173 dX12_wrong_173 180 rfl (by omega) ?_
            refine z_iconst (M := M_X12_wrong) 176 dX12_wrong_176 ?_
            refine z_goto (M := M_X12_wrong) 177 dX12_wrong_177 181 rfl ?_
            exact z_mask [true, true, true, true, true, false, true, true, true, false, false] rfl (ih.2.2.2.2 l2 l3 l4 x5 l7 l8 l5 1 h1 G1 R1 (by omega) (by omega) (by omega) (by omega) (by omega) (by omega) (by omega) (by omega) (by omega) (by omega) (by omega) (by omega) (by omega))
  · refine z_iconst (M := M_X12_wrong) 79 dX12_wrong_79 ?_
    refine z_goto (M := M_X12_wrong) 80 dX12_wrong_80 85 rfl ?_
    refine z_icmp_ge (M := M_X12_wrong) 85 dX12_wrong_85 190 rfl (fun c14 => ?_) (fun c14 => ?_)
    · refine z_iincN (M := M_X12_wrong) 190 dX12_wrong_190 (ls' := [some (mR 108), some (mI a1), some (mI l2), some (mI l3), some (mI l4), some (mI l5), some (mI l6), some (mI (l7 + 1)), some (mI l8), none, none]) (by decide) rfl (by (unfold m_32; decide)) (by omega) (by omega) rfl ?_
      refine z_goto (M := M_X12_wrong) 193 dX12_wrong_193 53 rfl ?_
      exact z_mask [true, true, true, true, true, true, true, true, false, false, false] rfl (ih.2.1 l2 l3 l4 l5 l6 (l7 + 1) h G R (by omega) (by omega) (by omega) (by omega) (by omega) (by omega) (by omega) (by omega) (by omega))
    · refine z_iload (M := M_X12_wrong) 88 dX12_wrong_88 rfl ?_
      refine z_if_ne (M := M_X12_wrong) 90 dX12_wrong_90 97 rfl (fun c15 => ?_) (fun c15 => ?_)
      · refine z_iload (M := M_X12_wrong) 97 dX12_wrong_97 rfl ?_
        refine z_iconst (M := M_X12_wrong) 99 dX12_wrong_99 ?_
        refine z_icmp_ne_F (M := M_X12_wrong) 100 dX12_wrong_100 110 rfl (by omega) ?_
        refine z_iconst (M := M_X12_wrong) 103 dX12_wrong_103 ?_
        refine z_iload (M := M_X12_wrong) 104 dX12_wrong_104 rfl ?_
        refine z_ishl (M := M_X12_wrong) 106 dX12_wrong_106 ?_
        refine z_topm (fun x16 ex16 ox16 => ?_)
        unfold m_32 at ox16
        refine z_goto (M := M_X12_wrong) 107 dX12_wrong_107 119 rfl ?_
        refine z_istore (M := M_X12_wrong) 119 dX12_wrong_119 (ls' := [some (mR 108), some (mI a1), some (mI l2), some (mI l3), some (mI l4), some (mI l5), some (mI l6), some (mI l7), some (mI l8), some (mI x16), none]) (by decide) rfl ?_
        refine z_iload (M := M_X12_wrong) 121 dX12_wrong_121 rfl ?_
        refine z_iload_n (M := M_X12_wrong) 123 dX12_wrong_123 rfl ?_
        refine z_iconst (M := M_X12_wrong) 124 dX12_wrong_124 ?_
        refine z_ixor (M := M_X12_wrong) 125 dX12_wrong_125 ?_
        refine z_topm (fun x17 ex17 ox17 => ?_)
        unfold m_32 at ox17
        refine z_iand (M := M_X12_wrong) 126 dX12_wrong_126 ?_
        refine z_topm (fun x18 ex18 ox18 => ?_)
        unfold m_32 at ox18
        refine z_if_ne (M := M_X12_wrong) 127 dX12_wrong_127 147 rfl (fun c19 => ?_) (fun c19 => ?_)
        · refine z_iconst (M := M_X12_wrong) 147 dX12_wrong_147 ?_
          refine z_istore (M := M_X12_wrong) 148 dX12_wrong_148 (ls' := [some (mR 108), some (mI a1), some (mI l2), some (mI l3), some (mI l4), some (mI l5), some (mI l6), some (mI l7), some (mI l8), some (mI x16), some (mI 0)]) (by decide) rfl ?_
          refine z_iload (M := M_X12_wrong) 150 dX12_wrong_150 rfl ?_
          refine z_if_eq_T (M := M_X12_wrong) 152 dX12_wrong_152 165 rfl (by omega) ?_
          exact z_mask [true, true, true, true, true, true, true, true, true, false, true] rfl (ih.2.2.2.1 l2 l3 l4 l5 l6 l7 l8 0 h G R (by omega) (by omega) (by omega) (by omega) (by omega) (by omega) (by omega) (by omega) (by omega) (by omega) (by omega) (by omega) (by omega))
        · refine z_aload_n (M := M_X12_wrong) 130 dX12_wrong_130 rfl ?_
          refine z_iload_n (M := M_X12_wrong) 131 dX12_wrong_131 rfl ?_
          refine z_iload (M := M_X12_wrong) 132 dX12_wrong_132 rfl ?_
          refine z_iconst (M := M_X12_wrong) 134 dX12_wrong_134 ?_
          refine z_ixor (M := M_X12_wrong) 135 dX12_wrong_135 ?_
          refine z_topm (fun x20 ex20 ox20 => ?_)
          unfold m_32 at ox20
          refine z_iand (M := M_X12_wrong) 136 dX12_wrong_136 ?_
          refine z_topm (fun x21 ex21 ox21 => ?_)
          unfold m_32 at ox21
          refine z_vI (M := M_X12_wrong) 137 dX12_wrong_137 t_X12_canBe l_X12_374 (m_rr_of rfl) (rest := []) (c_X12_canBe h x21 G (NP.call hN R (fun _ => rfl) (fun _ => rfl) (fun _ => rfl))) o_108 rfl rfl rfl (Nat.le_of_ble_eq_true rfl) ⟨rfl, rfl⟩ (fun x22 h2 qx22 => ?_)
          obtain ⟨G2, S2, ax22, bx22, fx22_0⟩ := qx22
          have R2 := R.call S2 (by decide +kernel)
          refine z_if_eq (M := M_X12_wrong) 140 dX12_wrong_140 147 rfl (fun c23 => ?_) (fun c23 => ?_)
          · refine z_iconst (M := M_X12_wrong) 147 dX12_wrong_147 ?_
            refine z_istore (M := M_X12_wrong) 148 dX12_wrong_148 (ls' := [some (mR 108), some (mI a1), some (mI l2), some (mI l3), some (mI l4), some (mI l5), some (mI l6), some (mI l7), some (mI l8), some (mI x16), some (mI 0)]) (by decide) rfl ?_
            refine z_iload (M := M_X12_wrong) 150 dX12_wrong_150 rfl ?_
            refine z_if_eq_T (M := M_X12_wrong) 152 dX12_wrong_152 165 rfl (by omega) ?_
            exact z_mask [true, true, true, true, true, true, true, true, true, false, true] rfl (ih.2.2.2.1 l2 l3 l4 l5 l6 l7 l8 0 h2 G2 R2 (by omega) (by omega) (by omega) (by omega) (by omega) (by omega) (by omega) (by omega) (by omega) (by omega) (by omega) (by omega) (by omega))
          · refine z_iconst (M := M_X12_wrong) 143 dX12_wrong_143 ?_
            refine z_goto (M := M_X12_wrong) 144 dX12_wrong_144 148 rfl ?_
            refine z_istore (M := M_X12_wrong) 148 dX12_wrong_148 (ls' := [some (mR 108), some (mI a1), some (mI l2), some (mI l3), some (mI l4), some (mI l5), some (mI l6), some (mI l7), some (mI l8), some (mI x16), some (mI 1)]) (by decide) rfl ?_
            refine z_iload (M := M_X12_wrong) 150 dX12_wrong_150 rfl ?_
            refine z_if_eq_F (M := M_X12_wrong) 152 dX12_wrong_152 165 rfl (by omega) ?_
            refine z_iload (M := M_X12_wrong) 155 dX12_wrong_155 rfl ?_
            refine z_if_ne (M := M_X12_wrong) 157 dX12_wrong_157 165 rfl (fun c24 => ?_) (fun c24 => ?_)
            · exact z_mask [true, true, true, true, true, true, true, true, true, false, true] rfl (ih.2.2.2.1 l2 l3 l4 l5 l6 l7 l8 1 h2 G2 R2 (by omega) (by omega) (by omega) (by omega) (by omega) (by omega) (by omega) (by omega) (by omega) (by omega) (by omega) (by omega) (by omega))
            · refine z_iload (M := M_X12_wrong) 160 dX12_wrong_160 rfl ?_
              refine z_goto (M := M_X12_wrong) 162 dX12_wrong_162 167 rfl ?_
              refine z_istore (M := M_X12_wrong) 167 dX12_wrong_167 (ls' := [some (mR 108), some (mI a1), some (mI l2), some (mI l3), some (mI l4), some (mI l5), some (mI x16), some (mI l7), some (mI l8), some (mI x16), some (mI 1)]) (by decide) rfl ?_
              refine z_iload (M := M_X12_wrong) 169 dX12_wrong_169 rfl ?_
              refine z_iload (M := M_X12_wrong) 171 dX12_wrong_171 rfl ?_
              refine z_if_eq_F (M := M_X12_wrong) 173 dX12_wrong_173 180 rfl (by omega) ?_
              refine z_iconst (M := M_X12_wrong) 176 dX12_wrong_176 ?_
              refine z_goto (M := M_X12_wrong) 177 dX12_wrong_177 181 rfl ?_
              exact z_mask [true, true, true, true, true, false, true, true, true, false, false] rfl (ih.2.2.2.2 l2 l3 l4 x16 l7 l8 l5 1 h2 G2 R2 (by omega) (by omega) (by omega) (by omega) (by omega) (by omega) (by omega) (by omega) (by omega) (by omega) (by omega) (by omega) (by omega))
      · refine z_iconst (M := M_X12_wrong) 93 dX12_wrong_93 ?_
        refine z_goto (M := M_X12_wrong) 94 dX12_wrong_94 119 rfl ?_
        refine z_istore (M := M_X12_wrong) 119 dX12_wrong_119 (ls' := [some (mR 108), some (mI a1), some (mI l2), some (mI l3), some (mI l4), some (mI l5), some (mI l6), some (mI l7), some (mI l8), some (mI 0), none]) (by decide) rfl ?_
        refine z_iload (M := M_X12_wrong) 121 dX12_wrong_121 rfl ?_
        refine z_iload_n (M := M_X12_wrong) 123 dX12_wrong_123 rfl ?_
        refine z_iconst (M := M_X12_wrong) 124 dX12_wrong_124 ?_
        refine z_ixor (M := M_X12_wrong) 125 dX12_wrong_125 ?_
        refine z_topm (fun x25 ex25 ox25 => ?_)
        unfold m_32 at ox25
        refine z_iand (M := M_X12_wrong) 126 dX12_wrong_126 ?_
        refine z_topm (fun x26 ex26 ox26 => ?_)
        unfold m_32 at ox26
        refine z_if_ne (M := M_X12_wrong) 127 dX12_wrong_127 147 rfl (fun c27 => ?_) (fun c27 => ?_)
        · refine z_iconst (M := M_X12_wrong) 147 dX12_wrong_147 ?_
          refine z_istore (M := M_X12_wrong) 148 dX12_wrong_148 (ls' := [some (mR 108), some (mI a1), some (mI l2), some (mI l3), some (mI l4), some (mI l5), some (mI l6), some (mI l7), some (mI l8), some (mI 0), some (mI 0)]) (by decide) rfl ?_
          refine z_iload (M := M_X12_wrong) 150 dX12_wrong_150 rfl ?_
          refine z_if_eq_T (M := M_X12_wrong) 152 dX12_wrong_152 165 rfl (by omega) ?_
          exact z_mask [true, true, true, true, true, true, true, true, true, false, true] rfl (ih.2.2.2.1 l2 l3 l4 l5 l6 l7 l8 0 h G R (by omega) (by omega) (by omega) (by omega) (by omega) (by omega) (by omega) (by omega) (by omega) (by omega) (by omega) (by omega) (by omega))
        · refine z_aload_n (M := M_X12_wrong) 130 dX12_wrong_130 rfl ?_
          refine z_iload_n (M := M_X12_wrong) 131 dX12_wrong_131 rfl ?_
          refine z_iload (M := M_X12_wrong) 132 dX12_wrong_132 rfl ?_
          refine z_iconst (M := M_X12_wrong) 134 dX12_wrong_134 ?_
          refine z_ixor (M := M_X12_wrong) 135 dX12_wrong_135 ?_
          refine z_topm (fun x28 ex28 ox28 => ?_)
          unfold m_32 at ox28
          refine z_iand (M := M_X12_wrong) 136 dX12_wrong_136 ?_
          refine z_topm (fun x29 ex29 ox29 => ?_)
          unfold m_32 at ox29
          refine z_vI (M := M_X12_wrong) 137 dX12_wrong_137 t_X12_canBe l_X12_374 (m_rr_of rfl) (rest := []) (c_X12_canBe h x29 G (NP.call hN R (fun _ => rfl) (fun _ => rfl) (fun _ => rfl))) o_108 rfl rfl rfl (Nat.le_of_ble_eq_true rfl) ⟨rfl, rfl⟩ (fun x30 h3 qx30 => ?_)
          obtain ⟨G3, S3, ax30, bx30, fx30_0⟩ := qx30
          have R3 := R.call S3 (by decide +kernel)
          refine z_if_eq (M := M_X12_wrong) 140 dX12_wrong_140 147 rfl (fun c31 => ?_) (fun c31 => ?_)
          · refine z_iconst (M := M_X12_wrong) 147 dX12_wrong_147 ?_
            refine z_istore (M := M_X12_wrong) 148 dX12_wrong_148 (ls' := [some (mR 108), some (mI a1), some (mI l2), some (mI l3), some (mI l4), some (mI l5), some (mI l6), some (mI l7), some (mI l8), some (mI 0), some (mI 0)]) (by decide) rfl ?_
            refine z_iload (M := M_X12_wrong) 150 dX12_wrong_150 rfl ?_
            refine z_if_eq_T (M := M_X12_wrong) 152 dX12_wrong_152 165 rfl (by omega) ?_
            exact z_mask [true, true, true, true, true, true, true, true, true, false, true] rfl (ih.2.2.2.1 l2 l3 l4 l5 l6 l7 l8 0 h3 G3 R3 (by omega) (by omega) (by omega) (by omega) (by omega) (by omega) (by omega) (by omega) (by omega) (by omega) (by omega) (by omega) (by omega))
          · refine z_iconst (M := M_X12_wrong) 143 dX12_wrong_143 ?_
            refine z_goto (M := M_X12_wrong) 144 dX12_wrong_144 148 rfl ?_
            refine z_istore (M := M_X12_wrong) 148 dX12_wrong_148 (ls' := [some (mR 108), some (mI a1), some (mI l2), some (mI l3), some (mI l4), some (mI l5), some (mI l6), some (mI l7), some (mI l8), some (mI 0), some (mI 1)]) (by decide) rfl ?_
            refine z_iload (M := M_X12_wrong) 150 dX12_wrong_150 rfl ?_
            refine z_if_eq_F (M := M_X12_wrong) 152 dX12_wrong_152 165 rfl (by omega) ?_
            refine z_iload (M := M_X12_wrong) 155 dX12_wrong_155 rfl ?_
            refine z_if_ne (M := M_X12_wrong) 157 dX12_wrong_157 165 rfl (fun c32 => ?_) (fun c32 => ?_)
            · exact z_mask [true, true, true, true, true, true, true, true, true, false, true] rfl (ih.2.2.2.1 l2 l3 l4 l5 l6 l7 l8 1 h3 G3 R3 (by omega) (by omega) (by omega) (by omega) (by omega) (by omega) (by omega) (by omega) (by omega) (by omega) (by omega) (by omega) (by omega))
            · refine z_iload (M := M_X12_wrong) 160 dX12_wrong_160 rfl ?_
              refine z_goto (M := M_X12_wrong) 162 dX12_wrong_162 167 rfl ?_
              refine z_istore (M := M_X12_wrong) 167 dX12_wrong_167 (ls' := [some (mR 108), some (mI a1), some (mI l2), some (mI l3), some (mI l4), some (mI l5), some (mI 0), some (mI l7), some (mI l8), some (mI 0), some (mI 1)]) (by decide) rfl ?_
              refine z_iload (M := M_X12_wrong) 169 dX12_wrong_169 rfl ?_
              refine z_iload (M := M_X12_wrong) 171 dX12_wrong_171 rfl ?_
              refine z_if_eq_F (M := M_X12_wrong) 173 dX12_wrong_173 180 rfl (by omega) ?_
              refine z_iconst (M := M_X12_wrong) 176 dX12_wrong_176 ?_
              refine z_goto (M := M_X12_wrong) 177 dX12_wrong_177 181 rfl ?_
              exact z_mask [true, true, true, true, true, false, true, true, true, false, false] rfl (ih.2.2.2.2 l2 l3 l4 0 l7 l8 l5 1 h3 G3 R3 (by omega) (by omega) (by omega) (by omega) (by omega) (by omega) (by omega) (by omega) (by omega) (by omega) (by omega) (by omega) (by omega))
set_option maxHeartbeats 4000000 in
set_option maxRecDepth 100000 in
theorem s_X12_wrong_165 (h0 : m_H) (a1 : Int) (G0 : GI h0) (hN : NP h0) (n : Nat) (ih : q_X12_wrong h0 a1 n) : ∀ (l2 l3 l4 l5 l6 l7 l8 l10 : Int) (h : m_H), GI h → FR [115, 116, 117, 118, 119, 120, 121, 122, 123, 124, 125, 126, 127, 128, 129, 130, 131, 132, 133, 134] [(108, 0), (108, 21)] h0 h → 0 ≤ l3 → l3 ≤ 24 → 0 ≤ l4 → l4 ≤ 2 → 0 ≤ l7 → l7 ≤ 23 → 0 ≤ l8 → l8 ≤ 22 → 0 ≤ l10 → l10 ≤ 1 → 0 ≤ a1 → a1 ≤ 2 → 2478 * (3 - l4) + 99 * (24 - l7) + 4 * (23 - l8) + (2) ≤ ((n + 1 : Nat) : Int) → m_Z oF M_X12_wrong 165 [some (mR 108), some (mI a1), some (mI l2), some (mI l3), some (mI l4), some (mI l5), some (mI l6), some (mI l7), some (mI l8), none, some (mI l10)] [] h (m_QI (P_X12_wrong h0 a1)) := by
  intro l2 l3 l4 l5 l6 l7 l8 l10 h G R v0 v1 v2 v3 v4 v5 v6 v7 v8 v9 v10 v11 hr
  refine z_ok (fun ostk _ olocs => ?_)
  have ol2 : m_32 l2 := olocs 2 _ rfl
  unfold m_32 at ol2
  have ol5 : m_32 l5 := olocs 5 _ rfl
  unfold m_32 at ol5
  have ol6 : m_32 l6 := olocs 6 _ rfl
  unfold m_32 at ol6
  refine z_iload (M := M_X12_wrong) 165 dX12_wrong_165 rfl ?_
  refine z_istore (M := M_X12_wrong) 167 dX12_wrong_167 (ls' := [some (mR 108), some (mI a1), some (mI l2), some (mI l3), some (mI l4), some (mI l5), some (mI l6), some (mI l7), some (mI l8), none, some (mI l10)]) (by decide) rfl ?_
  refine z_iload (M := M_X12_wrong) 169 dX12_wrong_169 rfl ?_
  refine z_iload (M := M_X12_wrong) 171 dX12_wrong_171 rfl ?_
  refine z_if_eq (M := M_X12_wrong) 173 dX12_wrong_173 180 rfl (fun c1 => ?_) (fun c1 => ?_)
  · refine z_iconst (M := M_X12_wrong) 180 dX12_wrong_180 ?_
    exact z_mask [true, true, true, true, true, false, true, true, true, false, false] rfl (ih.2.2.2.2 l2 l3 l4 l6 l7 l8 l5 0 h G R (by omega) (by omega) (by omega) (by omega) (by omega) (by omega) (by omega) (by omega) (by omega) (by omega) (by omega) (by omega) (by omega))
  · refine z_iconst (M := M_X12_wrong) 176 dX12_wrong_176 ?_
    refine z_goto (M := M_X12_wrong) 177 dX12_wrong_177 181 rfl ?_
    exact z_mask [true, true, true, true, true, false, true, true, true, false, false] rfl (ih.2.2.2.2 l2 l3 l4 l6 l7 l8 l5 1 h G R (by omega) (by omega) (by omega) (by omega) (by omega) (by omega) (by omega) (by omega) (by omega) (by omega) (by omega) (by omega) (by omega))
set_option maxHeartbeats 4000000 in
set_option maxRecDepth 100000 in
theorem s_X12_wrong_181 (h0 : m_H) (a1 : Int) (G0 : GI h0) (hN : NP h0) (n : Nat) (ih : q_X12_wrong h0 a1 n) : ∀ (l2 l3 l4 l6 l7 l8 k0 k1 : Int) (h : m_H), GI h → FR [115, 116, 117, 118, 119, 120, 121, 122, 123, 124, 125, 126, 127, 128, 129, 130, 131, 132, 133, 134] [(108, 0), (108, 21)] h0 h → 0 ≤ l3 → l3 ≤ 24 → 0 ≤ l4 → l4 ≤ 2 → 0 ≤ l7 → l7 ≤ 23 → 0 ≤ l8 → l8 ≤ 22 → 0 ≤ k1 → k1 ≤ 1 → 0 ≤ a1 → a1 ≤ 2 → 2478 * (3 - l4) + 99 * (24 - l7) + 4 * (23 - l8) + (1) ≤ ((n + 1 : Nat) : Int) → m_Z oF M_X12_wrong 181 [some (mR 108), some (mI a1), some (mI l2), some (mI l3), some (mI l4), none, some (mI l6), some (mI l7), some (mI l8), none, none] [mI k1, mI k0] h (m_QI (P_X12_wrong h0 a1)) := by
  intro l2 l3 l4 l6 l7 l8 k0 k1 h G R v0 v1 v2 v3 v4 v5 v6 v7 v8 v9 v10 v11 hr
  refine z_ok (fun ostk _ olocs => ?_)
  have ol2 : m_32 l2 := olocs 2 _ rfl
  unfold m_32 at ol2
  have ol6 : m_32 l6 := olocs 6 _ rfl
  unfold m_32 at ol6
  have ok0 : m_32 k0 := ostk.2.1
  unfold m_32 at ok0
  refine z_iadd (M := M_X12_wrong) 181 dX12_wrong_181 ?_
  refine z_topm (fun x1 ex1 ox1 => ?_)
  unfold m_32 at ox1
  refine z_istore (M := M_X12_wrong) 182 dX12_wrong_182 (ls' := [some (mR 108), some (mI a1), some (mI l2), some (mI l3), some (mI l4), some (mI x1), some (mI l6), some (mI l7), some (mI l8), none, none]) (by decide) rfl ?_
  refine z_iincN (M := M_X12_wrong) 184 dX12_wrong_184 (ls' := [some (mR 108), some (mI a1), some (mI l2), some (mI l3), some (mI l4), some (mI x1), some (mI l6), some (mI l7), some (mI (l8 + 1)), none, none]) (by decide) rfl (by (unfold m_32; decide)) (by omega) (by omega) rfl ?_
  refine z_goto (M := M_X12_wrong) 187 dX12_wrong_187 71 rfl ?_
  exact z_mask [true, true, true, true, true, true, true, true, true, false, false] rfl (ih.2.2.1 l2 l3 l4 x1 l6 l7 (l8 + 1) h G R (by omega) (by omega) (by omega) (by omega) (by omega) (by omega) (by omega) (by omega) (by omega) (by omega) (by omega))
theorem a_X12_wrong (h0 : m_H) (a1 : Int) (G0 : GI h0) (hN : NP h0) : ∀ n, q_X12_wrong h0 a1 n := by
  intro n
  induction n with
  | zero => unfold q_X12_wrong; refine ⟨?_, ?_, ?_, ?_, ?_⟩ <;> (intros; omega)
  | succ n ih => exact ⟨s_X12_wrong_38 h0 a1 G0 hN n ih, s_X12_wrong_53 h0 a1 G0 hN n ih, s_X12_wrong_71 h0 a1 G0 hN n ih, s_X12_wrong_165 h0 a1 G0 hN n ih, s_X12_wrong_181 h0 a1 G0 hN n ih⟩
set_option maxHeartbeats 4000000 in
set_option maxRecDepth 100000 in
theorem c_X12_wrong (h0 : m_H) (a1 : Int) (G0 : GI h0) (hN : NP h0) : m_CI M_X12_wrong [mR 108, mI a1] h0 (P_X12_wrong h0 a1) := by
  refine m_CI_of ⟨by decide, rfl, by simp [m_arg, m_isL, M_X12_wrong], ⟨rfl, rfl⟩, rfl, rfl⟩ (ls := [some (mR 108), some (mI a1), none, none, none, none, none, none, none, none, none]) rfl ?_
  have ih := a_X12_wrong h0 a1 G0 hN 9918
  refine z_ok (fun _ _ ok => ?_)
  have oa1 : m_32 a1 := ok 1 _ rfl
  unfold m_32 at oa1
  refine z_aload_n (M := M_X12_wrong) 0 dX12_wrong_0 rfl ?_
  refine z_iconst (M := M_X12_wrong) 1 dX12_wrong_1 ?_
  refine z_putIH (M := M_X12_wrong) 2 dX12_wrong_2 p_X12_133 o_108 rfl (u_108_0 G0) ((FR.rf (cs := [115, 116, 117, 118, 119, 120, 121, 122, 123, 124, 125, 126, 127, 128, 129, 130, 131, 132, 133, 134]) (ss := [(108, 0), (108, 21)]) (h := h0)).up rfl) (fun h1 E1 G1 R1 => ?_)
  refine z_iload_n (M := M_X12_wrong) 5 dX12_wrong_5 rfl ?_
  refine z_i2l (M := M_X12_wrong) 6 dX12_wrong_6 ?_
  refine z_lconst (M := M_X12_wrong) 7 dX12_wrong_7 (v := 0) ?_
  refine z_ldc2 (M := M_X12_wrong) 8 dX12_wrong_8 k_X12_182 ?_
  refine z_sI (M := M_X12_wrong) 11 dX12_wrong_11 t_X12_in l_X12_143 (m_rr_of rfl) (rest := []) (c_X12_in h1 a1 0 2 G1) rfl rfl (Nat.le_of_ble_eq_true rfl) ⟨rfl, rfl⟩ (fun x1 h2 qx1 => ?_)
  obtain ⟨rfl, ⟨rfl, cx1⟩ | ⟨rfl, cx1⟩⟩ := qx1
  · refine z_if_ne_T (M := M_X12_wrong) 14 dX12_wrong_14 19 rfl (by omega) ?_
    refine z_aload_n (M := M_X12_wrong) 19 dX12_wrong_19 rfl ?_
    refine z_vV (M := M_X12_wrong) 20 dX12_wrong_20 t_X12_asIs l_X12_367 (m_rr_of rfl) (rest := []) (c_X12_asIsX h1 G1) o_108 rfl rfl rfl (Nat.le_of_ble_eq_true rfl) ⟨rfl, rfl⟩ (fun h3 qx2 => ?_)
    obtain ⟨G3, S3, fx2_0⟩ := qx2
    have R3 := R1.call S3 (by decide +kernel)
    refine z_aload_n (M := M_X12_wrong) 23 dX12_wrong_23 rfl ?_
    refine z_vI (M := M_X12_wrong) 24 dX12_wrong_24 t_X12_counting l_X12_370 (m_rr_of rfl) (rest := []) (c_X12_countingX h3 G3) o_108 rfl rfl rfl (Nat.le_of_ble_eq_true rfl) ⟨rfl, rfl⟩ (fun x3 h4 qx3 => ?_)
    obtain ⟨G4, S4, fx3_0⟩ := qx3
    have R4 := R3.call S4 (by decide +kernel)
    refine z_ok (fun ox3 _ _ => ?_)
    have ox3 := ox3.1; unfold m_ok m_32 at ox3
    refine z_istore_n (M := M_X12_wrong) 27 dX12_wrong_27 (ls' := [some (mR 108), some (mI a1), some (mI x3), none, none, none, none, none, none, none, none]) (by decide) rfl ?_
    refine z_aload_n (M := M_X12_wrong) 28 dX12_wrong_28 rfl ?_
    refine z_getR (M := M_X12_wrong) 29 dX12_wrong_29 f_X12_13 o_108 rfl (g_108_3 G4) ?_
    refine z_iconst (M := M_X12_wrong) 32 dX12_wrong_32 ?_
    refine z_ialdG (M := M_X12_wrong) 33 dX12_wrong_33 o_110 (by omega) (by omega) (gw_0 G4) (fun x4 ex4 ax4 bx4 => ?_)
    refine z_istore_n (M := M_X12_wrong) 34 dX12_wrong_34 (ls' := [some (mR 108), some (mI a1), some (mI x3), some (mI x4), none, none, none, none, none, none, none]) (by decide) rfl ?_
    refine z_iconst (M := M_X12_wrong) 35 dX12_wrong_35 ?_
    refine z_istore (M := M_X12_wrong) 36 dX12_wrong_36 (ls' := [some (mR 108), some (mI a1), some (mI x3), some (mI x4), some (mI 0), none, none, none, none, none, none]) (by decide) rfl ?_
    exact z_mask [true, true, true, true, true, false, false, false, false, false, false] rfl (ih.1 x3 x4 0 h4 G4 R4 (by omega) (by omega) (by omega) (by omega) (by omega) (by omega) (by omega))
  · refine z_if_ne_F (M := M_X12_wrong) 14 dX12_wrong_14 19 rfl (by omega) ?_
    refine z_iconst (M := M_X12_wrong) 17 dX12_wrong_17 ?_
    exact z_retI (M := M_X12_wrong) 18 dX12_wrong_18 rfl ⟨G1, R1⟩
abbrev P_X12_waysWith (h0 : m_H) (a1 a2 : Int) : Int → m_H → Prop := fun x h' => GI h' ∧ FR [115, 116, 117, 118, 119, 120, 121, 122, 124, 125, 126, 127, 128, 129, 130, 131, 132, 133, 134] [(108, 21)] h0 h'
def q_X12_waysWith (h0 : m_H) (a1 a2 : Int) (n : Nat) : Prop := (∀ (l3 l4 : Int) (h : m_H), GI h → FR [115, 116, 117, 118, 119, 120, 121, 122, 124, 125, 126, 127, 128, 129, 130, 131, 132, 133, 134] [(108, 21)] h0 h → 0 ≤ l4 → l4 ≤ 81 → 11 * (81 - l4) + (10) ≤ (n : Int) → m_Z oF M_X12_waysWith 5 [some (mR 108), some (mI a1), some (mI a2), some (mI l3), some (mI l4), none] [] h (m_QI (P_X12_waysWith h0 a1 a2))) ∧ (∀ (l3 l4 l5 : Int) (h : m_H), GI h → FR [115, 116, 117, 118, 119, 120, 121, 122, 124, 125, 126, 127, 128, 129, 130, 131, 132, 133, 134] [(108, 21)] h0 h → 0 ≤ l4 → l4 ≤ 80 → 0 ≤ l5 → l5 ≤ 3 → 11 * (81 - l4) + 2 * (3 - l5) + (1) ≤ (n : Int) → m_Z oF M_X12_waysWith 38 [some (mR 108), some (mI a1), some (mI a2), some (mI l3), some (mI l4), some (mI l5)] [] h (m_QI (P_X12_waysWith h0 a1 a2)))
set_option maxHeartbeats 4000000 in
set_option maxRecDepth 100000 in
theorem s_X12_waysWith_5 (h0 : m_H) (a1 a2 : Int) (G0 : GI h0) (pa1 : 0 ≤ a1 ∧ a1 ≤ 2) (pa2 : (-1) ≤ a2 ∧ a2 ≤ 3) (hN : NP h0) (n : Nat) (ih : q_X12_waysWith h0 a1 a2 n) : ∀ (l3 l4 : Int) (h : m_H), GI h → FR [115, 116, 117, 118, 119, 120, 121, 122, 124, 125, 126, 127, 128, 129, 130, 131, 132, 133, 134] [(108, 21)] h0 h → 0 ≤ l4 → l4 ≤ 81 → 11 * (81 - l4) + (10) ≤ ((n + 1 : Nat) : Int) → m_Z oF M_X12_waysWith 5 [some (mR 108), some (mI a1), some (mI a2), some (mI l3), some (mI l4), none] [] h (m_QI (P_X12_waysWith h0 a1 a2)) := by
  intro l3 l4 h G R v0 v1 hr
  refine z_ok (fun ostk _ olocs => ?_)
  have ol3 : m_32 l3 := olocs 3 _ rfl
  unfold m_32 at ol3
  refine z_iload (M := M_X12_waysWith) 5 dX12_waysWith_5 rfl ?_
  refine z_iconst (M := M_X12_waysWith) 7 dX12_waysWith_7 ?_
  refine z_iconst (M := M_X12_waysWith) 8 dX12_waysWith_8 ?_
  refine z_aload_n (M := M_X12_waysWith) 9 dX12_waysWith_9 rfl ?_
  refine z_getIG (M := M_X12_waysWith) 10 dX12_waysWith_10 f_X12_487 o_108 (by decide) (g_108_58 G) (fun x1 ex1 ax1 bx1 => ?_)
  refine z_imulN (M := M_X12_waysWith) 13 dX12_waysWith_13 (by omega) (by omega) ?_
  refine z_ishl (M := M_X12_waysWith) 14 dX12_waysWith_14 ?_
  refine z_topBI (lo := 1) (hi := 64) (shl_b (by omega) (by omega)) (fun x2 ex2 ax2 bx2 => ?_)
  refine z_icmp_ge (M := M_X12_waysWith) 15 dX12_waysWith_15 99 rfl (fun c3 => ?_) (fun c3 => ?_)
  · refine z_iload_n (M := M_X12_waysWith) 99 dX12_waysWith_99 rfl ?_
    exact z_retI (M := M_X12_waysWith) 100 dX12_waysWith_100 rfl ⟨G, R⟩
  · refine z_iload_n (M := M_X12_waysWith) 18 dX12_waysWith_18 rfl ?_
    refine z_iconst (M := M_X12_waysWith) 19 dX12_waysWith_19 ?_
    refine z_icmp_eq (M := M_X12_waysWith) 20 dX12_waysWith_20 35 rfl (fun c4 => ?_) (fun c4 => ?_)
    · refine z_iconst (M := M_X12_waysWith) 35 dX12_waysWith_35 ?_
      refine z_istore (M := M_X12_waysWith) 36 dX12_waysWith_36 (ls' := [some (mR 108), some (mI a1), some (mI a2), some (mI l3), some (mI l4), some (mI 0)]) (by decide) rfl ?_
      exact z_mask [true, true, true, true, true, true] rfl (ih.2 l3 l4 0 h G R (by omega) (by omega) (by omega) (by omega) (by omega))
    · refine z_iload (M := M_X12_waysWith) 23 dX12_waysWith_23 rfl ?_
      refine z_iconst (M := M_X12_waysWith) 25 dX12_waysWith_25 ?_
      refine z_iload_n (M := M_X12_waysWith) 26 dX12_waysWith_26 rfl ?_
      refine z_imulN (M := M_X12_waysWith) 27 dX12_waysWith_27 (by omega) (by omega) ?_
      refine z_ishr (M := M_X12_waysWith) 28 dX12_waysWith_28 ?_
      refine z_topm (fun x5 ex5 ox5 => ?_)
      unfold m_32 at ox5
      refine z_iconst (M := M_X12_waysWith) 29 dX12_waysWith_29 ?_
      refine z_iand (M := M_X12_waysWith) 30 dX12_waysWith_30 ?_
      refine z_topBI (m_and_3 _) (fun x6 ex6 ax6 bx6 => ?_)
      refine z_iload_n (M := M_X12_waysWith) 31 dX12_waysWith_31 rfl ?_
      refine z_icmp_ne (M := M_X12_waysWith) 32 dX12_waysWith_32 93 rfl (fun c7 => ?_) (fun c7 => ?_)
      · refine z_iincN (M := M_X12_waysWith) 93 dX12_waysWith_93 (ls' := [some (mR 108), some (mI a1), some (mI a2), some (mI l3), some (mI (l4 + 1)), none]) (by decide) rfl (by (unfold m_32; decide)) (by omega) (by omega) rfl ?_
        refine z_goto (M := M_X12_waysWith) 96 dX12_waysWith_96 5 rfl ?_
        exact z_mask [true, true, true, true, true, false] rfl (ih.1 l3 (l4 + 1) h G R (by omega) (by omega) (by omega))
      · refine z_iconst (M := M_X12_waysWith) 35 dX12_waysWith_35 ?_
        refine z_istore (M := M_X12_waysWith) 36 dX12_waysWith_36 (ls' := [some (mR 108), some (mI a1), some (mI a2), some (mI l3), some (mI l4), some (mI 0)]) (by decide) rfl ?_
        exact z_mask [true, true, true, true, true, true] rfl (ih.2 l3 l4 0 h G R (by omega) (by omega) (by omega) (by omega) (by omega))
set_option maxHeartbeats 4000000 in
set_option maxRecDepth 100000 in
theorem s_X12_waysWith_38 (h0 : m_H) (a1 a2 : Int) (G0 : GI h0) (pa1 : 0 ≤ a1 ∧ a1 ≤ 2) (pa2 : (-1) ≤ a2 ∧ a2 ≤ 3) (hN : NP h0) (n : Nat) (ih : q_X12_waysWith h0 a1 a2 n) : ∀ (l3 l4 l5 : Int) (h : m_H), GI h → FR [115, 116, 117, 118, 119, 120, 121, 122, 124, 125, 126, 127, 128, 129, 130, 131, 132, 133, 134] [(108, 21)] h0 h → 0 ≤ l4 → l4 ≤ 80 → 0 ≤ l5 → l5 ≤ 3 → 11 * (81 - l4) + 2 * (3 - l5) + (1) ≤ ((n + 1 : Nat) : Int) → m_Z oF M_X12_waysWith 38 [some (mR 108), some (mI a1), some (mI a2), some (mI l3), some (mI l4), some (mI l5)] [] h (m_QI (P_X12_waysWith h0 a1 a2)) := by
  intro l3 l4 l5 h G R v0 v1 v2 v3 hr
  refine z_ok (fun ostk _ olocs => ?_)
  have ol3 : m_32 l3 := olocs 3 _ rfl
  unfold m_32 at ol3
  refine z_iload (M := M_X12_waysWith) 38 dX12_waysWith_38 rfl ?_
  refine z_aload_n (M := M_X12_waysWith) 40 dX12_waysWith_40 rfl ?_
  refine z_getIG (M := M_X12_waysWith) 41 dX12_waysWith_41 f_X12_487 o_108 (by decide) (g_108_58 G) (fun x1 ex1 ax1 bx1 => ?_)
  refine z_icmp_ge (M := M_X12_waysWith) 44 dX12_waysWith_44 74 rfl (fun c2 => ?_) (fun c2 => ?_)
  · refine z_iload_n (M := M_X12_waysWith) 74 dX12_waysWith_74 rfl ?_
    refine z_aload_n (M := M_X12_waysWith) 75 dX12_waysWith_75 rfl ?_
    refine z_aload_n (M := M_X12_waysWith) 76 dX12_waysWith_76 rfl ?_
    refine z_vI (M := M_X12_waysWith) 77 dX12_waysWith_77 t_X12_counting l_X12_370 (m_rr_of rfl) (rest := [mR 108, mI l3]) (c_X12_countingX h G) o_108 rfl rfl rfl (Nat.le_of_ble_eq_true rfl) ⟨rfl, rfl⟩ (fun x3 h1 qx3 => ?_)
    obtain ⟨G1, S1, fx3_0⟩ := qx3
    have R1 := R.call S1 (by decide +kernel)
    refine z_ok (fun ox3 _ _ => ?_)
    have ox3 := ox3.1; unfold m_ok m_32 at ox3
    refine z_vI (M := M_X12_waysWith) 80 dX12_waysWith_80 t_X12_canBe l_X12_374 (m_rr_of rfl) (rest := [mI l3]) (c_X12_canBe h1 x3 G1 (NP.call hN R1 (fun _ => rfl) (fun _ => rfl) (fun _ => rfl))) o_108 rfl rfl rfl (Nat.le_of_ble_eq_true rfl) ⟨rfl, rfl⟩ (fun x4 h2 qx4 => ?_)
    obtain ⟨G2, S2, ax4, bx4, fx4_0⟩ := qx4
    have R2 := R1.call S2 (by decide +kernel)
    refine z_if_eq (M := M_X12_waysWith) 83 dX12_waysWith_83 90 rfl (fun c5 => ?_) (fun c5 => ?_)
    · refine z_iconst (M := M_X12_waysWith) 90 dX12_waysWith_90 ?_
      refine z_iaddN (M := M_X12_waysWith) 91 dX12_waysWith_91 (by omega) (by omega) ?_
      refine z_istore_n (M := M_X12_waysWith) 92 dX12_waysWith_92 (ls' := [some (mR 108), some (mI a1), some (mI a2), some (mI (l3 + 0)), some (mI l4), some (mI l5)]) (by decide) rfl ?_
      refine z_iincN (M := M_X12_waysWith) 93 dX12_waysWith_93 (ls' := [some (mR 108), some (mI a1), some (mI a2), some (mI (l3 + 0)), some (mI (l4 + 1)), some (mI l5)]) (by decide) rfl (by (unfold m_32; decide)) (by omega) (by omega) rfl ?_
      refine z_goto (M := M_X12_waysWith) 96 dX12_waysWith_96 5 rfl ?_
      exact z_mask [true, true, true, true, true, false] rfl (ih.1 (l3 + 0) (l4 + 1) h2 G2 R2 (by omega) (by omega) (by omega))
    · refine z_iconst (M := M_X12_waysWith) 86 dX12_waysWith_86 ?_
      refine z_goto (M := M_X12_waysWith) 87 dX12_waysWith_87 91 rfl ?_
      refine z_iadd (M := M_X12_waysWith) 91 dX12_waysWith_91 ?_
      refine z_topm (fun x6 ex6 ox6 => ?_)
      unfold m_32 at ox6
      refine z_istore_n (M := M_X12_waysWith) 92 dX12_waysWith_92 (ls' := [some (mR 108), some (mI a1), some (mI a2), some (mI x6), some (mI l4), some (mI l5)]) (by decide) rfl ?_
      refine z_iincN (M := M_X12_waysWith) 93 dX12_waysWith_93 (ls' := [some (mR 108), some (mI a1), some (mI a2), some (mI x6), some (mI (l4 + 1)), some (mI l5)]) (by decide) rfl (by (unfold m_32; decide)) (by omega) (by omega) rfl ?_
      refine z_goto (M := M_X12_waysWith) 96 dX12_waysWith_96 5 rfl ?_
      exact z_mask [true, true, true, true, true, false] rfl (ih.1 x6 (l4 + 1) h2 G2 R2 (by omega) (by omega) (by omega))
  · refine z_aload_n (M := M_X12_waysWith) 47 dX12_waysWith_47 rfl ?_
    refine z_getR (M := M_X12_waysWith) 48 dX12_waysWith_48 f_X12_55 o_108 rfl (g_108_27 G) ?_
    refine z_aload_n (M := M_X12_waysWith) 51 dX12_waysWith_51 rfl ?_
    refine z_getR (M := M_X12_waysWith) 52 dX12_waysWith_52 f_X12_127 o_108 rfl (g_108_57 G) ?_
    refine z_iload (M := M_X12_waysWith) 55 dX12_waysWith_55 rfl ?_
    refine z_ialdG (M := M_X12_waysWith) 57 dX12_waysWith_57 o_146 (by omega) (by omega) (g_146 G (by omega)) (fun x7 ex7 ax7 bx7 => ?_)
    refine z_iload (M := M_X12_waysWith) 58 dX12_waysWith_58 rfl ?_
    refine z_iconst (M := M_X12_waysWith) 60 dX12_waysWith_60 ?_
    refine z_iload (M := M_X12_waysWith) 61 dX12_waysWith_61 rfl ?_
    refine z_imulN (M := M_X12_waysWith) 63 dX12_waysWith_63 (by omega) (by omega) ?_
    refine z_ishr (M := M_X12_waysWith) 64 dX12_waysWith_64 ?_
    refine z_topm (fun x8 ex8 ox8 => ?_)
    unfold m_32 at ox8
    refine z_iconst (M := M_X12_waysWith) 65 dX12_waysWith_65 ?_
    refine z_iand (M := M_X12_waysWith) 66 dX12_waysWith_66 ?_
    refine z_topBI (m_and_3 _) (fun x9 ex9 ax9 bx9 => ?_)
    refine z_iastH (M := M_X12_waysWith) 67 dX12_waysWith_67 o_122 (by omega) (by omega) (u_122 G (by omega) (by omega)) (R.up rfl) (fun h3 E3 G3 R3 => ?_)
    refine z_iincN (M := M_X12_waysWith) 68 dX12_waysWith_68 (ls' := [some (mR 108), some (mI a1), some (mI a2), some (mI l3), some (mI l4), some (mI (l5 + 1))]) (by decide) rfl (by (unfold m_32; decide)) (by omega) (by omega) rfl ?_
    refine z_goto (M := M_X12_waysWith) 71 dX12_waysWith_71 38 rfl ?_
    exact z_mask [true, true, true, true, true, true] rfl (ih.2 l3 l4 (l5 + 1) h3 G3 R3 (by omega) (by omega) (by omega) (by omega) (by omega))
theorem a_X12_waysWith (h0 : m_H) (a1 a2 : Int) (G0 : GI h0) (pa1 : 0 ≤ a1 ∧ a1 ≤ 2) (pa2 : (-1) ≤ a2 ∧ a2 ≤ 3) (hN : NP h0) : ∀ n, q_X12_waysWith h0 a1 a2 n := by
  intro n
  induction n with
  | zero => unfold q_X12_waysWith; refine ⟨?_, ?_⟩ <;> (intros; omega)
  | succ n ih => exact ⟨s_X12_waysWith_5 h0 a1 a2 G0 pa1 pa2 hN n ih, s_X12_waysWith_38 h0 a1 a2 G0 pa1 pa2 hN n ih⟩
set_option maxHeartbeats 4000000 in
set_option maxRecDepth 100000 in
theorem c_X12_waysWith (h0 : m_H) (a1 a2 : Int) (G0 : GI h0) (pa1 : 0 ≤ a1 ∧ a1 ≤ 2) (pa2 : (-1) ≤ a2 ∧ a2 ≤ 3) (hN : NP h0) : m_CI M_X12_waysWith [mR 108, mI a1, mI a2] h0 (P_X12_waysWith h0 a1 a2) := by
  refine m_CI_of ⟨by decide, rfl, by simp [m_arg, m_isL, M_X12_waysWith], ⟨rfl, rfl⟩, rfl, rfl⟩ (ls := [some (mR 108), some (mI a1), some (mI a2), none, none, none]) rfl ?_
  have ih := a_X12_waysWith h0 a1 a2 G0 pa1 pa2 hN 908
  refine z_iconst (M := M_X12_waysWith) 0 dX12_waysWith_0 ?_
  refine z_istore_n (M := M_X12_waysWith) 1 dX12_waysWith_1 (ls' := [some (mR 108), some (mI a1), some (mI a2), some (mI 0), none, none]) (by decide) rfl ?_
  refine z_iconst (M := M_X12_waysWith) 2 dX12_waysWith_2 ?_
  refine z_istore (M := M_X12_waysWith) 3 dX12_waysWith_3 (ls' := [some (mR 108), some (mI a1), some (mI a2), some (mI 0), some (mI 0), none]) (by decide) rfl ?_
  exact z_mask [true, true, true, true, true, false] rfl (ih.1 0 0 h0 G0 (FR.rf (cs := [115, 116, 117, 118, 119, 120, 121, 122, 124, 125, 126, 127, 128, 129, 130, 131, 132, 133, 134]) (ss := [(108, 21)]) (h := h0)) (by omega) (by omega) (by omega))
abbrev P_X12_whose (h0 : m_H) (a1 : Int) : Int → m_H → Prop := fun x h' => GI h' ∧ FR [115, 116, 117, 118, 119, 120, 121, 122, 123, 124, 125, 126, 127, 128, 129, 130, 131, 132, 133, 134, 146] [(108, 0), (108, 21), (108, 58)] h0 h'
def q_X12_whose (h0 : m_H) (a1 : Int) (n : Nat) : Prop := (∀ (l2 l3 l4 : Int) (h : m_H), GI h → FR [115, 116, 117, 118, 119, 120, 121, 122, 123, 124, 125, 126, 127, 128, 129, 130, 131, 132, 133, 134, 146] [(108, 0), (108, 21), (108, 58)] h0 h → 0 ≤ l2 → l2 ≤ 2 → (-1) ≤ l3 → l3 ≤ 5 → 0 ≤ l4 → l4 ≤ 4 → (-2147483648) ≤ a1 → a1 ≤ 2147483647 → 2 * (4 - l4) + (1) ≤ (n : Int) → m_Z oF M_X12_whose 44 [some (mR 108), none, some (mI l2), some (mI l3), some (mI l4)] [] h (m_QI (P_X12_whose h0 a1)))
set_option maxHeartbeats 4000000 in
set_option maxRecDepth 100000 in
theorem s_X12_whose_44 (h0 : m_H) (a1 : Int) (G0 : GI h0) (hN : NP h0) (n : Nat) (ih : q_X12_whose h0 a1 n) : ∀ (l2 l3 l4 : Int) (h : m_H), GI h → FR [115, 116, 117, 118, 119, 120, 121, 122, 123, 124, 125, 126, 127, 128, 129, 130, 131, 132, 133, 134, 146] [(108, 0), (108, 21), (108, 58)] h0 h → 0 ≤ l2 → l2 ≤ 2 → (-1) ≤ l3 → l3 ≤ 5 → 0 ≤ l4 → l4 ≤ 4 → (-2147483648) ≤ a1 → a1 ≤ 2147483647 → 2 * (4 - l4) + (1) ≤ ((n + 1 : Nat) : Int) → m_Z oF M_X12_whose 44 [some (mR 108), none, some (mI l2), some (mI l3), some (mI l4)] [] h (m_QI (P_X12_whose h0 a1)) := by
  intro l2 l3 l4 h G R v0 v1 v2 v3 v4 v5 v6 v7 hr
  refine z_iload (M := M_X12_whose) 44 dX12_whose_44 rfl ?_
  refine z_iconst (M := M_X12_whose) 46 dX12_whose_46 ?_
  refine z_icmp_ge (M := M_X12_whose) 47 dX12_whose_47 78 rfl (fun c1 => ?_) (fun c1 => ?_)
  · refine z_iload_n (M := M_X12_whose) 78 dX12_whose_78 rfl ?_
    exact z_retI (M := M_X12_whose) 79 dX12_whose_79 rfl ⟨G, R⟩
  · refine z_aload_n (M := M_X12_whose) 50 dX12_whose_50 rfl ?_
    refine z_iload_n (M := M_X12_whose) 51 dX12_whose_51 rfl ?_
    refine z_iload (M := M_X12_whose) 52 dX12_whose_52 rfl ?_
    refine z_vI (M := M_X12_whose) 54 dX12_whose_54 t_X12_waysWith l_X12_493 (m_rr_of rfl) (rest := []) (c_X12_waysWith h l2 l4 G ⟨by omega, by omega⟩ ⟨by omega, by omega⟩ (NP.call hN R (fun _ => rfl) (fun _ => rfl) (fun _ => rfl))) o_108 rfl rfl rfl (Nat.le_of_ble_eq_true rfl) ⟨rfl, rfl⟩ (fun x2 h1 qx2 => ?_)
    obtain ⟨G1, S1⟩ := qx2
    have R1 := R.call S1 (by decide +kernel)
    refine z_ok (fun ox2 _ _ => ?_)
    have ox2 := ox2.1; unfold m_ok m_32 at ox2
    refine z_if_le (M := M_X12_whose) 57 dX12_whose_57 72 rfl (fun c3 => ?_) (fun c3 => ?_)
    · refine z_iincN (M := M_X12_whose) 72 dX12_whose_72 (ls' := [some (mR 108), none, some (mI l2), some (mI l3), some (mI (l4 + 1))]) (by decide) rfl (by (unfold m_32; decide)) (by omega) (by omega) rfl ?_
      refine z_goto (M := M_X12_whose) 75 dX12_whose_75 44 rfl ?_
      exact z_mask [true, false, true, true, true] rfl (ih l2 l3 (l4 + 1) h1 G1 R1 (by omega) (by omega) (by omega) (by omega) (by omega) (by omega) (by omega) (by omega) (by omega))
    · refine z_iload_n (M := M_X12_whose) 60 dX12_whose_60 rfl ?_
      refine z_iconst (M := M_X12_whose) 61 dX12_whose_61 ?_
      refine z_icmp_ne (M := M_X12_whose) 62 dX12_whose_62 70 rfl (fun c4 => ?_) (fun c4 => ?_)
      · refine z_iconst (M := M_X12_whose) 70 dX12_whose_70 ?_
        refine z_istore_n (M := M_X12_whose) 71 dX12_whose_71 (ls' := [some (mR 108), none, some (mI l2), some (mI 5), some (mI l4)]) (by decide) rfl ?_
        refine z_iincN (M := M_X12_whose) 72 dX12_whose_72 (ls' := [some (mR 108), none, some (mI l2), some (mI 5), some (mI (l4 + 1))]) (by decide) rfl (by (unfold m_32; decide)) (by omega) (by omega) rfl ?_
        refine z_goto (M := M_X12_whose) 75 dX12_whose_75 44 rfl ?_
        exact z_mask [true, false, true, true, true] rfl (ih l2 5 (l4 + 1) h1 G1 R1 (by omega) (by omega) (by omega) (by omega) (by omega) (by omega) (by omega) (by omega) (by omega))
      · refine z_iload (M := M_X12_whose) 65 dX12_whose_65 rfl ?_
        refine z_goto (M := M_X12_whose) 67 dX12_whose_67 71 rfl ?_
        refine z_istore_n (M := M_X12_whose) 71 dX12_whose_71 (ls' := [some (mR 108), none, some (mI l2), some (mI l4), some (mI l4)]) (by decide) rfl ?_
        refine z_iincN (M := M_X12_whose) 72 dX12_whose_72 (ls' := [some (mR 108), none, some (mI l2), some (mI l4), some (mI (l4 + 1))]) (by decide) rfl (by (unfold m_32; decide)) (by omega) (by omega) rfl ?_
        refine z_goto (M := M_X12_whose) 75 dX12_whose_75 44 rfl ?_
        exact z_mask [true, false, true, true, true] rfl (ih l2 l4 (l4 + 1) h1 G1 R1 (by omega) (by omega) (by omega) (by omega) (by omega) (by omega) (by omega) (by omega) (by omega))
theorem a_X12_whose (h0 : m_H) (a1 : Int) (G0 : GI h0) (hN : NP h0) : ∀ n, q_X12_whose h0 a1 n := by
  intro n
  induction n with
  | zero => unfold q_X12_whose; intros; omega
  | succ n ih => exact s_X12_whose_44 h0 a1 G0 hN n ih
set_option maxHeartbeats 4000000 in
set_option maxRecDepth 100000 in
theorem c_X12_whose (h0 : m_H) (a1 : Int) (G0 : GI h0) (hN : NP h0) : m_CI M_X12_whose [mR 108, mI a1] h0 (P_X12_whose h0 a1) := by
  refine m_CI_of ⟨by decide, rfl, by simp [m_arg, m_isL, M_X12_whose], ⟨rfl, rfl⟩, rfl, rfl⟩ (ls := [some (mR 108), some (mI a1), none, none, none]) rfl ?_
  have ih := a_X12_whose h0 a1 G0 hN 16
  refine z_ok (fun _ _ ok => ?_)
  have oa1 : m_32 a1 := ok 1 _ rfl
  unfold m_32 at oa1
  refine z_aload_n (M := M_X12_whose) 0 dX12_whose_0 rfl ?_
  refine z_iconst (M := M_X12_whose) 1 dX12_whose_1 ?_
  refine z_putIH (M := M_X12_whose) 2 dX12_whose_2 p_X12_133 o_108 rfl (u_108_0 G0) ((FR.rf (cs := [115, 116, 117, 118, 119, 120, 121, 122, 123, 124, 125, 126, 127, 128, 129, 130, 131, 132, 133, 134, 146]) (ss := [(108, 0), (108, 21), (108, 58)]) (h := h0)).up rfl) (fun h1 E1 G1 R1 => ?_)
  refine z_aload_n (M := M_X12_whose) 5 dX12_whose_5 rfl ?_
  refine z_vI (M := M_X12_whose) 6 dX12_whose_6 t_X12_findAsked l_X12_490 (m_rr_of rfl) (rest := []) (c_X12_findAsked h1 G1) o_108 rfl rfl rfl (Nat.le_of_ble_eq_true rfl) ⟨rfl, rfl⟩ (fun x1 h2 qx1 => ?_)
  obtain ⟨G2, S2, ax1, bx1⟩ := qx1
  have R2 := R1.call S2 (by decide +kernel)
  refine z_if_ne (M := M_X12_whose) 9 dX12_whose_9 14 rfl (fun c2 => ?_) (fun c2 => ?_)
  · refine z_iload_n (M := M_X12_whose) 14 dX12_whose_14 rfl ?_
    refine z_iconst (M := M_X12_whose) 15 dX12_whose_15 ?_
    refine z_icmp_ne (M := M_X12_whose) 16 dX12_whose_16 26 rfl (fun c3 => ?_) (fun c3 => ?_)
    · refine z_aload_n (M := M_X12_whose) 26 dX12_whose_26 rfl ?_
      refine z_iload_n (M := M_X12_whose) 27 dX12_whose_27 rfl ?_
      refine z_vI (M := M_X12_whose) 28 dX12_whose_28 t_X12_whichOf l_X12_496 (m_rr_of rfl) (rest := []) (c_X12_whichOf h2 a1 G2) o_108 rfl rfl rfl (Nat.le_of_ble_eq_true rfl) ⟨rfl, rfl⟩ (fun x4 h3 qx4 => ?_)
      obtain ⟨G3, S3, ax4, bx4⟩ := qx4
      have R3 := R2.call S3 (by decide +kernel)
      refine z_istore_n (M := M_X12_whose) 31 dX12_whose_31 (ls' := [some (mR 108), some (mI a1), some (mI x4), none, none]) (by decide) rfl ?_
      refine z_iload_n (M := M_X12_whose) 32 dX12_whose_32 rfl ?_
      refine z_iconst (M := M_X12_whose) 33 dX12_whose_33 ?_
      refine z_icmp_ne (M := M_X12_whose) 34 dX12_whose_34 39 rfl (fun c5 => ?_) (fun c5 => ?_)
      · refine z_iconst (M := M_X12_whose) 39 dX12_whose_39 ?_
        refine z_istore_n (M := M_X12_whose) 40 dX12_whose_40 (ls' := [some (mR 108), some (mI a1), some (mI x4), some (mI (-1)), none]) (by decide) rfl ?_
        refine z_iconst (M := M_X12_whose) 41 dX12_whose_41 ?_
        refine z_istore (M := M_X12_whose) 42 dX12_whose_42 (ls' := [some (mR 108), some (mI a1), some (mI x4), some (mI (-1)), some (mI 0)]) (by decide) rfl ?_
        exact z_mask [true, false, true, true, true] rfl (ih x4 (-1) 0 h3 G3 R3 (by omega) (by omega) (by omega) (by omega) (by omega) (by omega) (by omega) (by omega) (by omega))
      · refine z_iconst (M := M_X12_whose) 37 dX12_whose_37 ?_
        exact z_retI (M := M_X12_whose) 38 dX12_whose_38 rfl ⟨G3, R3⟩
    · refine z_aload_n (M := M_X12_whose) 19 dX12_whose_19 rfl ?_
      refine z_iconst (M := M_X12_whose) 20 dX12_whose_20 ?_
      refine z_iconst (M := M_X12_whose) 21 dX12_whose_21 ?_
      refine z_vI (M := M_X12_whose) 22 dX12_whose_22 t_X12_waysWith l_X12_493 (m_rr_of rfl) (rest := []) (c_X12_waysWith h2 0 (-1) G2 ⟨by omega, by omega⟩ ⟨by omega, by omega⟩ (NP.call hN R2 (fun _ => rfl) (fun _ => rfl) (fun _ => rfl))) o_108 rfl rfl rfl (Nat.le_of_ble_eq_true rfl) ⟨rfl, rfl⟩ (fun x6 h4 qx6 => ?_)
      obtain ⟨G4, S4⟩ := qx6
      have R4 := R2.call S4 (by decide +kernel)
      refine z_ok (fun ox6 _ _ => ?_)
      have ox6 := ox6.1; unfold m_ok m_32 at ox6
      exact z_retI (M := M_X12_whose) 25 dX12_whose_25 rfl ⟨G4, R4⟩
  · refine z_iconst (M := M_X12_whose) 12 dX12_whose_12 ?_
    exact z_retI (M := M_X12_whose) 13 dX12_whose_13 rfl ⟨G2, R2⟩
abbrev P_X12_could (h0 : m_H) (a1 a2 : Int) : Int → m_H → Prop := fun x h' => GI h' ∧ FR [115, 116, 117, 118, 119, 120, 121, 122, 123, 124, 125, 126, 127, 128, 129, 130, 131, 132, 133, 134, 146] [(108, 0), (108, 21), (108, 58)] h0 h'
set_option maxHeartbeats 4000000 in
set_option maxRecDepth 100000 in
theorem c_X12_could (h0 : m_H) (a1 a2 : Int) (G0 : GI h0) (hN : NP h0) : m_CI M_X12_could [mR 108, mI a1, mI a2] h0 (P_X12_could h0 a1 a2) := by
  refine m_CI_of ⟨by decide, rfl, by simp [m_arg, m_isL, M_X12_could], ⟨rfl, rfl⟩, rfl, rfl⟩ (ls := [some (mR 108), some (mI a1), some (mI a2), none]) rfl ?_
  refine z_ok (fun _ _ ok => ?_)
  have oa1 : m_32 a1 := ok 1 _ rfl
  unfold m_32 at oa1
  have oa2 : m_32 a2 := ok 2 _ rfl
  unfold m_32 at oa2
  refine z_aload_n (M := M_X12_could) 0 dX12_could_0 rfl ?_
  refine z_iconst (M := M_X12_could) 1 dX12_could_1 ?_
  refine z_putIH (M := M_X12_could) 2 dX12_could_2 p_X12_133 o_108 rfl (u_108_0 G0) ((FR.rf (cs := [115, 116, 117, 118, 119, 120, 121, 122, 123, 124, 125, 126, 127, 128, 129, 130, 131, 132, 133, 134, 146]) (ss := [(108, 0), (108, 21), (108, 58)]) (h := h0)).up rfl) (fun h1 E1 G1 R1 => ?_)
  refine z_iload_n (M := M_X12_could) 5 dX12_could_5 rfl ?_
  refine z_sI (M := M_X12_could) 6 dX12_could_6 t_X12_isKeeper l_X12_169 (m_rr_of rfl) (rest := []) (c_X12_isKeeper h1 a2 G1) rfl rfl (Nat.le_of_ble_eq_true rfl) ⟨rfl, rfl⟩ (fun x1 h2 qx1 => ?_)
  obtain ⟨rfl, ⟨rfl, cx1⟩ | ⟨rfl, cx1⟩⟩ := qx1
  · refine z_if_eq_F (M := M_X12_could) 9 dX12_could_9 19 rfl (by omega) ?_
    refine z_aload_n (M := M_X12_could) 12 dX12_could_12 rfl ?_
    refine z_vI (M := M_X12_could) 13 dX12_could_13 t_X12_findAsked l_X12_490 (m_rr_of rfl) (rest := []) (c_X12_findAsked h1 G1) o_108 rfl rfl rfl (Nat.le_of_ble_eq_true rfl) ⟨rfl, rfl⟩ (fun x2 h3 qx2 => ?_)
    obtain ⟨G3, S3, ax2, bx2⟩ := qx2
    have R3 := R1.call S3 (by decide +kernel)
    refine z_if_ne (M := M_X12_could) 16 dX12_could_16 21 rfl (fun c3 => ?_) (fun c3 => ?_)
    · refine z_aload_n (M := M_X12_could) 21 dX12_could_21 rfl ?_
      refine z_iload_n (M := M_X12_could) 22 dX12_could_22 rfl ?_
      refine z_vI (M := M_X12_could) 23 dX12_could_23 t_X12_whichOf l_X12_496 (m_rr_of rfl) (rest := []) (c_X12_whichOf h3 a1 G3) o_108 rfl rfl rfl (Nat.le_of_ble_eq_true rfl) ⟨rfl, rfl⟩ (fun x4 h4 qx4 => ?_)
      obtain ⟨G4, S4, ax4, bx4⟩ := qx4
      have R4 := R3.call S4 (by decide +kernel)
      refine z_istore_n (M := M_X12_could) 26 dX12_could_26 (ls' := [some (mR 108), some (mI a1), some (mI a2), some (mI x4)]) (by decide) rfl ?_
      refine z_iload_n (M := M_X12_could) 27 dX12_could_27 rfl ?_
      refine z_iconst (M := M_X12_could) 28 dX12_could_28 ?_
      refine z_icmp_ne (M := M_X12_could) 29 dX12_could_29 36 rfl (fun c5 => ?_) (fun c5 => ?_)
      · refine z_aload_n (M := M_X12_could) 36 dX12_could_36 rfl ?_
        refine z_iload_n (M := M_X12_could) 37 dX12_could_37 rfl ?_
        refine z_iload_n (M := M_X12_could) 38 dX12_could_38 rfl ?_
        refine z_vI (M := M_X12_could) 39 dX12_could_39 t_X12_waysWith l_X12_493 (m_rr_of rfl) (rest := []) (c_X12_waysWith h4 x4 a2 G4 ⟨by omega, by omega⟩ ⟨by omega, by omega⟩ (NP.call hN R4 (fun _ => rfl) (fun _ => rfl) (fun _ => rfl))) o_108 rfl rfl rfl (Nat.le_of_ble_eq_true rfl) ⟨rfl, rfl⟩ (fun x6 h5 qx6 => ?_)
        obtain ⟨G5, S5⟩ := qx6
        have R5 := R4.call S5 (by decide +kernel)
        refine z_ok (fun ox6 _ _ => ?_)
        have ox6 := ox6.1; unfold m_ok m_32 at ox6
        exact z_retI (M := M_X12_could) 42 dX12_could_42 rfl ⟨G5, R5⟩
      · refine z_iconst (M := M_X12_could) 32 dX12_could_32 ?_
        refine z_goto (M := M_X12_could) 33 dX12_could_33 42 rfl ?_
        exact z_retI (M := M_X12_could) 42 dX12_could_42 rfl ⟨G4, R4⟩
    · refine z_iconst (M := M_X12_could) 19 dX12_could_19 ?_
      exact z_retI (M := M_X12_could) 20 dX12_could_20 rfl ⟨G3, R3⟩
  · refine z_if_eq_T (M := M_X12_could) 9 dX12_could_9 19 rfl (by omega) ?_
    refine z_iconst (M := M_X12_could) 19 dX12_could_19 ?_
    exact z_retI (M := M_X12_could) 20 dX12_could_20 rfl ⟨G1, R1⟩
abbrev P_X12_when (h0 : m_H) (a1 a2 : Int) : Int → m_H → Prop := fun x h' => GI h' ∧ FR [115, 116, 117, 118, 119, 120, 121, 122, 123, 124, 125, 126, 127, 128, 129, 130, 131, 132, 133, 134] [(108, 0), (108, 21)] h0 h'
def q_X12_when (h0 : m_H) (a1 a2 : Int) (n : Nat) : Prop := (∀ (l3 l4 l5 l6 : Int) (h : m_H), GI h → FR [115, 116, 117, 118, 119, 120, 121, 122, 123, 124, 125, 126, 127, 128, 129, 130, 131, 132, 133, 134] [(108, 0), (108, 21)] h0 h → (-1) ≤ l4 → l4 ≤ 31 → (-1) ≤ l5 → l5 ≤ 31 → 1 ≤ l6 → l6 ≤ 32 → 0 ≤ a1 → a1 ≤ 5 → 0 ≤ a2 → a2 ≤ 2 → 2 * (32 - l6) + (1) ≤ (n : Int) → m_Z oF M_X12_when 65 [some (mR 108), some (mI a1), some (mI a2), some (mI l3), some (mI l4), some (mI l5), some (mI l6)] [] h (m_QI (P_X12_when h0 a1 a2)))
set_option maxHeartbeats 4000000 in
set_option maxRecDepth 100000 in
theorem s_X12_when_65 (h0 : m_H) (a1 a2 : Int) (G0 : GI h0) (hN : NP h0) (n : Nat) (ih : q_X12_when h0 a1 a2 n) : ∀ (l3 l4 l5 l6 : Int) (h : m_H), GI h → FR [115, 116, 117, 118, 119, 120, 121, 122, 123, 124, 125, 126, 127, 128, 129, 130, 131, 132, 133, 134] [(108, 0), (108, 21)] h0 h → (-1) ≤ l4 → l4 ≤ 31 → (-1) ≤ l5 → l5 ≤ 31 → 1 ≤ l6 → l6 ≤ 32 → 0 ≤ a1 → a1 ≤ 5 → 0 ≤ a2 → a2 ≤ 2 → 2 * (32 - l6) + (1) ≤ ((n + 1 : Nat) : Int) → m_Z oF M_X12_when 65 [some (mR 108), some (mI a1), some (mI a2), some (mI l3), some (mI l4), some (mI l5), some (mI l6)] [] h (m_QI (P_X12_when h0 a1 a2)) := by
  intro l3 l4 l5 l6 h G R v0 v1 v2 v3 v4 v5 v6 v7 v8 v9 hr
  refine z_ok (fun ostk _ olocs => ?_)
  have ol3 : m_32 l3 := olocs 3 _ rfl
  unfold m_32 at ol3
  refine z_iload (M := M_X12_when) 65 dX12_when_65 rfl ?_
  refine z_bipush (M := M_X12_when) 67 dX12_when_67 ?_
  refine z_icmp_ge (M := M_X12_when) 69 dX12_when_69 119 rfl (fun c1 => ?_) (fun c1 => ?_)
  · refine z_iload_n (M := M_X12_when) 119 dX12_when_119 rfl ?_
    refine z_if_ne (M := M_X12_when) 120 dX12_when_120 127 rfl (fun c2 => ?_) (fun c2 => ?_)
    · refine z_iload_n (M := M_X12_when) 127 dX12_when_127 rfl ?_
      refine z_iconst (M := M_X12_when) 128 dX12_when_128 ?_
      refine z_icmp_ne (M := M_X12_when) 129 dX12_when_129 137 rfl (fun c3 => ?_) (fun c3 => ?_)
      · refine z_iload (M := M_X12_when) 137 dX12_when_137 rfl ?_
        exact z_retI (M := M_X12_when) 139 dX12_when_139 rfl ⟨G, R⟩
      · refine z_iload (M := M_X12_when) 132 dX12_when_132 rfl ?_
        refine z_goto (M := M_X12_when) 134 dX12_when_134 139 rfl ?_
        exact z_retI (M := M_X12_when) 139 dX12_when_139 rfl ⟨G, R⟩
    · refine z_iload_n (M := M_X12_when) 123 dX12_when_123 rfl ?_
      refine z_goto (M := M_X12_when) 124 dX12_when_124 139 rfl ?_
      exact z_retI (M := M_X12_when) 139 dX12_when_139 rfl ⟨G, R⟩
  · refine z_aload_n (M := M_X12_when) 72 dX12_when_72 rfl ?_
    refine z_getR (M := M_X12_when) 73 dX12_when_73 f_X12_58 o_108 rfl (g_108_28 G) ?_
    refine z_iload_n (M := M_X12_when) 76 dX12_when_76 rfl ?_
    refine z_iload (M := M_X12_when) 77 dX12_when_77 rfl ?_
    refine z_iastH (M := M_X12_when) 79 dX12_when_79 o_123 (by omega) (by omega) (u_123 G (by omega) (by omega)) (R.up rfl) (fun h1 E1 G1 R1 => ?_)
    refine z_aload_n (M := M_X12_when) 80 dX12_when_80 rfl ?_
    refine z_aload_n (M := M_X12_when) 81 dX12_when_81 rfl ?_
    refine z_vI (M := M_X12_when) 82 dX12_when_82 t_X12_counting l_X12_370 (m_rr_of rfl) (rest := [mR 108]) (c_X12_countingX h1 G1) o_108 rfl rfl rfl (Nat.le_of_ble_eq_true rfl) ⟨rfl, rfl⟩ (fun x4 h2 qx4 => ?_)
    obtain ⟨G2, S2, fx4_0⟩ := qx4
    have R2 := R1.call S2 (by decide +kernel)
    refine z_ok (fun ox4 _ _ => ?_)
    have ox4 := ox4.1; unfold m_ok m_32 at ox4
    refine z_vI (M := M_X12_when) 85 dX12_when_85 t_X12_canBe l_X12_374 (m_rr_of rfl) (rest := []) (c_X12_canBe h2 x4 G2 (NP.call hN R2 (fun _ => rfl) (fun _ => rfl) (fun _ => rfl))) o_108 rfl rfl rfl (Nat.le_of_ble_eq_true rfl) ⟨rfl, rfl⟩ (fun x5 h3 qx5 => ?_)
    obtain ⟨G3, S3, ax5, bx5, fx5_0⟩ := qx5
    have R3 := R2.call S3 (by decide +kernel)
    refine z_if_eq (M := M_X12_when) 88 dX12_when_88 113 rfl (fun c6 => ?_) (fun c6 => ?_)
    · refine z_iincN (M := M_X12_when) 113 dX12_when_113 (ls' := [some (mR 108), some (mI a1), some (mI a2), some (mI l3), some (mI l4), some (mI l5), some (mI (l6 + 1))]) (by decide) rfl (by (unfold m_32; decide)) (by omega) (by omega) rfl ?_
      refine z_goto (M := M_X12_when) 116 dX12_when_116 65 rfl ?_
      exact z_mask [true, true, true, true, true, true, true] rfl (ih l3 l4 l5 (l6 + 1) h3 G3 R3 (by omega) (by omega) (by omega) (by omega) (by omega) (by omega) (by omega) (by omega) (by omega) (by omega) (by omega))
    · refine z_iincW (M := M_X12_when) 91 dX12_when_91 (by decide) rfl (by (unfold m_32; decide)) (fun x7 ox7 => ?_)
      unfold m_32 at ox7
      refine z_ls (ls' := [some (mR 108), some (mI a1), some (mI a2), some (mI x7), some (mI l4), some (mI l5), some (mI l6)]) rfl ?_
      refine z_iload (M := M_X12_when) 94 dX12_when_94 rfl ?_
      refine z_iconst (M := M_X12_when) 96 dX12_when_96 ?_
      refine z_icmp_ne (M := M_X12_when) 97 dX12_when_97 105 rfl (fun c8 => ?_) (fun c8 => ?_)
      · refine z_iload (M := M_X12_when) 105 dX12_when_105 rfl ?_
        refine z_istore (M := M_X12_when) 107 dX12_when_107 (ls' := [some (mR 108), some (mI a1), some (mI a2), some (mI x7), some (mI l4), some (mI l5), some (mI l6)]) (by decide) rfl ?_
        refine z_iload (M := M_X12_when) 109 dX12_when_109 rfl ?_
        refine z_istore (M := M_X12_when) 111 dX12_when_111 (ls' := [some (mR 108), some (mI a1), some (mI a2), some (mI x7), some (mI l4), some (mI l6), some (mI l6)]) (by decide) rfl ?_
        refine z_iincN (M := M_X12_when) 113 dX12_when_113 (ls' := [some (mR 108), some (mI a1), some (mI a2), some (mI x7), some (mI l4), some (mI l6), some (mI (l6 + 1))]) (by decide) rfl (by (unfold m_32; decide)) (by omega) (by omega) rfl ?_
        refine z_goto (M := M_X12_when) 116 dX12_when_116 65 rfl ?_
        exact z_mask [true, true, true, true, true, true, true] rfl (ih x7 l4 l6 (l6 + 1) h3 G3 R3 (by omega) (by omega) (by omega) (by omega) (by omega) (by omega) (by omega) (by omega) (by omega) (by omega) (by omega))
      · refine z_iload (M := M_X12_when) 100 dX12_when_100 rfl ?_
        refine z_goto (M := M_X12_when) 102 dX12_when_102 107 rfl ?_
        refine z_istore (M := M_X12_when) 107 dX12_when_107 (ls' := [some (mR 108), some (mI a1), some (mI a2), some (mI x7), some (mI l6), some (mI l5), some (mI l6)]) (by decide) rfl ?_
        refine z_iload (M := M_X12_when) 109 dX12_when_109 rfl ?_
        refine z_istore (M := M_X12_when) 111 dX12_when_111 (ls' := [some (mR 108), some (mI a1), some (mI a2), some (mI x7), some (mI l6), some (mI l6), some (mI l6)]) (by decide) rfl ?_
        refine z_iincN (M := M_X12_when) 113 dX12_when_113 (ls' := [some (mR 108), some (mI a1), some (mI a2), some (mI x7), some (mI l6), some (mI l6), some (mI (l6 + 1))]) (by decide) rfl (by (unfold m_32; decide)) (by omega) (by omega) rfl ?_
        refine z_goto (M := M_X12_when) 116 dX12_when_116 65 rfl ?_
        exact z_mask [true, true, true, true, true, true, true] rfl (ih x7 l6 l6 (l6 + 1) h3 G3 R3 (by omega) (by omega) (by omega) (by omega) (by omega) (by omega) (by omega) (by omega) (by omega) (by omega) (by omega))
theorem a_X12_when (h0 : m_H) (a1 a2 : Int) (G0 : GI h0) (hN : NP h0) : ∀ n, q_X12_when h0 a1 a2 n := by
  intro n
  induction n with
  | zero => unfold q_X12_when; intros; omega
  | succ n ih => exact s_X12_when_65 h0 a1 a2 G0 hN n ih
set_option maxHeartbeats 4000000 in
set_option maxRecDepth 100000 in
theorem c_X12_when (h0 : m_H) (a1 a2 : Int) (G0 : GI h0) (hN : NP h0) : m_CI M_X12_when [mR 108, mI a1, mI a2] h0 (P_X12_when h0 a1 a2) := by
  refine m_CI_of ⟨by decide, rfl, by simp [m_arg, m_isL, M_X12_when], ⟨rfl, rfl⟩, rfl, rfl⟩ (ls := [some (mR 108), some (mI a1), some (mI a2), none, none, none, none]) rfl ?_
  have ih := a_X12_when h0 a1 a2 G0 hN 70
  refine z_ok (fun _ _ ok => ?_)
  have oa1 : m_32 a1 := ok 1 _ rfl
  unfold m_32 at oa1
  have oa2 : m_32 a2 := ok 2 _ rfl
  unfold m_32 at oa2
  refine z_aload_n (M := M_X12_when) 0 dX12_when_0 rfl ?_
  refine z_iconst (M := M_X12_when) 1 dX12_when_1 ?_
  refine z_putIH (M := M_X12_when) 2 dX12_when_2 p_X12_133 o_108 rfl (u_108_0 G0) ((FR.rf (cs := [115, 116, 117, 118, 119, 120, 121, 122, 123, 124, 125, 126, 127, 128, 129, 130, 131, 132, 133, 134]) (ss := [(108, 0), (108, 21)]) (h := h0)).up rfl) (fun h1 E1 G1 R1 => ?_)
  refine z_iload_n (M := M_X12_when) 5 dX12_when_5 rfl ?_
  refine z_sI (M := M_X12_when) 6 dX12_when_6 t_X12_isThing l_X12_166 (m_rr_of rfl) (rest := []) (c_X12_isThing h1 a1 G1) rfl rfl (Nat.le_of_ble_eq_true rfl) ⟨rfl, rfl⟩ (fun x1 h2 qx1 => ?_)
  obtain ⟨rfl, ⟨rfl, cx1⟩ | ⟨rfl, cx1⟩⟩ := qx1
  · refine z_if_eq_F (M := M_X12_when) 9 dX12_when_9 48 rfl (by omega) ?_
    refine z_iload_n (M := M_X12_when) 12 dX12_when_12 rfl ?_
    refine z_i2l (M := M_X12_when) 13 dX12_when_13 ?_
    refine z_lconst (M := M_X12_when) 14 dX12_when_14 (v := 0) ?_
    refine z_ldc2 (M := M_X12_when) 15 dX12_when_15 k_X12_182 ?_
    refine z_sI (M := M_X12_when) 18 dX12_when_18 t_X12_in l_X12_143 (m_rr_of rfl) (rest := []) (c_X12_in h1 a2 0 2 G1) rfl rfl (Nat.le_of_ble_eq_true rfl) ⟨rfl, rfl⟩ (fun x2 h3 qx2 => ?_)
    obtain ⟨rfl, ⟨rfl, cx2⟩ | ⟨rfl, cx2⟩⟩ := qx2
    · refine z_if_eq_F (M := M_X12_when) 21 dX12_when_21 48 rfl (by omega) ?_
      refine z_aload_n (M := M_X12_when) 24 dX12_when_24 rfl ?_
      refine z_getR (M := M_X12_when) 25 dX12_when_25 f_X12_13 o_108 rfl (g_108_3 G1) ?_
      refine z_bipush (M := M_X12_when) 28 dX12_when_28 ?_
      refine z_iload_n (M := M_X12_when) 30 dX12_when_30 rfl ?_
      refine z_sI (M := M_X12_when) 31 dX12_when_31 t_X12_isThing l_X12_166 (m_rr_of rfl) (rest := [mI 42, mR 110]) (c_X12_isThing h1 a1 G1) rfl rfl (Nat.le_of_ble_eq_true rfl) ⟨rfl, rfl⟩ (fun x3 h4 qx3 => ?_)
      obtain ⟨rfl, ⟨rfl, cx3⟩ | ⟨rfl, cx3⟩⟩ := qx3
      · refine z_if_eq_F (M := M_X12_when) 34 dX12_when_34 41 rfl (by omega) ?_
        refine z_iload_n (M := M_X12_when) 37 dX12_when_37 rfl ?_
        refine z_goto (M := M_X12_when) 38 dX12_when_38 42 rfl ?_
        refine z_iaddN (M := M_X12_when) 42 dX12_when_42 (by omega) (by omega) ?_
        refine z_ialdG (M := M_X12_when) 43 dX12_when_43 o_110 (by omega) (by omega) (gw_c G1 (by omega) (by omega)) (fun x4 ex4 ax4 bx4 => ?_)
        refine z_iconst (M := M_X12_when) 44 dX12_when_44 ?_
        refine z_icmp_eq (M := M_X12_when) 45 dX12_when_45 50 rfl (fun c5 => ?_) (fun c5 => ?_)
        · refine z_aload_n (M := M_X12_when) 50 dX12_when_50 rfl ?_
          refine z_vV (M := M_X12_when) 51 dX12_when_51 t_X12_asIs l_X12_367 (m_rr_of rfl) (rest := []) (c_X12_asIsX h1 G1) o_108 rfl rfl rfl (Nat.le_of_ble_eq_true rfl) ⟨rfl, rfl⟩ (fun h5 qx6 => ?_)
          obtain ⟨G5, S5, fx6_0⟩ := qx6
          have R5 := R1.call S5 (by decide +kernel)
          refine z_iconst (M := M_X12_when) 54 dX12_when_54 ?_
          refine z_istore_n (M := M_X12_when) 55 dX12_when_55 (ls' := [some (mR 108), some (mI a1), some (mI a2), some (mI 0), none, none, none]) (by decide) rfl ?_
          refine z_iconst (M := M_X12_when) 56 dX12_when_56 ?_
          refine z_istore (M := M_X12_when) 57 dX12_when_57 (ls' := [some (mR 108), some (mI a1), some (mI a2), some (mI 0), some (mI (-1)), none, none]) (by decide) rfl ?_
          refine z_iconst (M := M_X12_when) 59 dX12_when_59 ?_
          refine z_istore (M := M_X12_when) 60 dX12_when_60 (ls' := [some (mR 108), some (mI a1), some (mI a2), some (mI 0), some (mI (-1)), some (mI (-1)), none]) (by decide) rfl ?_
          refine z_iconst (M := M_X12_when) 62 dX12_when_62 ?_
          refine z_istore (M := M_X12_when) 63 dX12_when_63 (ls' := [some (mR 108), some (mI a1), some (mI a2), some (mI 0), some (mI (-1)), some (mI (-1)), some (mI 1)]) (by decide) rfl ?_
          exact z_mask [true, true, true, true, true, true, true] rfl (ih 0 (-1) (-1) 1 h5 G5 R5 (by omega) (by omega) (by omega) (by omega) (by omega) (by omega) (by omega) (by omega) (by omega) (by omega) (by omega))
        · refine z_iconst (M := M_X12_when) 48 dX12_when_48 ?_
          exact z_retI (M := M_X12_when) 49 dX12_when_49 rfl ⟨G1, R1⟩
      · refine z_if_eq_T (M := M_X12_when) 34 dX12_when_34 41 rfl (by omega) ?_
        refine z_iconst (M := M_X12_when) 41 dX12_when_41 ?_
        refine z_iaddN (M := M_X12_when) 42 dX12_when_42 (by omega) (by omega) ?_
        refine z_ialdG (M := M_X12_when) 43 dX12_when_43 o_110 (by omega) (by omega) (gw_c G1 (by omega) (by omega)) (fun x7 ex7 ax7 bx7 => ?_)
        refine z_iconst (M := M_X12_when) 44 dX12_when_44 ?_
        refine z_icmp_eq (M := M_X12_when) 45 dX12_when_45 50 rfl (fun c8 => ?_) (fun c8 => ?_)
        · refine z_aload_n (M := M_X12_when) 50 dX12_when_50 rfl ?_
          refine z_vV (M := M_X12_when) 51 dX12_when_51 t_X12_asIs l_X12_367 (m_rr_of rfl) (rest := []) (c_X12_asIsX h1 G1) o_108 rfl rfl rfl (Nat.le_of_ble_eq_true rfl) ⟨rfl, rfl⟩ (fun h6 qx9 => ?_)
          obtain ⟨G6, S6, fx9_0⟩ := qx9
          have R6 := R1.call S6 (by decide +kernel)
          refine z_iconst (M := M_X12_when) 54 dX12_when_54 ?_
          refine z_istore_n (M := M_X12_when) 55 dX12_when_55 (ls' := [some (mR 108), some (mI a1), some (mI a2), some (mI 0), none, none, none]) (by decide) rfl ?_
          refine z_iconst (M := M_X12_when) 56 dX12_when_56 ?_
          refine z_istore (M := M_X12_when) 57 dX12_when_57 (ls' := [some (mR 108), some (mI a1), some (mI a2), some (mI 0), some (mI (-1)), none, none]) (by decide) rfl ?_
          refine z_iconst (M := M_X12_when) 59 dX12_when_59 ?_
          refine z_istore (M := M_X12_when) 60 dX12_when_60 (ls' := [some (mR 108), some (mI a1), some (mI a2), some (mI 0), some (mI (-1)), some (mI (-1)), none]) (by decide) rfl ?_
          refine z_iconst (M := M_X12_when) 62 dX12_when_62 ?_
          refine z_istore (M := M_X12_when) 63 dX12_when_63 (ls' := [some (mR 108), some (mI a1), some (mI a2), some (mI 0), some (mI (-1)), some (mI (-1)), some (mI 1)]) (by decide) rfl ?_
          exact z_mask [true, true, true, true, true, true, true] rfl (ih 0 (-1) (-1) 1 h6 G6 R6 (by omega) (by omega) (by omega) (by omega) (by omega) (by omega) (by omega) (by omega) (by omega) (by omega) (by omega))
        · refine z_iconst (M := M_X12_when) 48 dX12_when_48 ?_
          exact z_retI (M := M_X12_when) 49 dX12_when_49 rfl ⟨G1, R1⟩
    · refine z_if_eq_T (M := M_X12_when) 21 dX12_when_21 48 rfl (by omega) ?_
      refine z_iconst (M := M_X12_when) 48 dX12_when_48 ?_
      exact z_retI (M := M_X12_when) 49 dX12_when_49 rfl ⟨G1, R1⟩
  · refine z_if_eq_T (M := M_X12_when) 9 dX12_when_9 48 rfl (by omega) ?_
    refine z_iconst (M := M_X12_when) 48 dX12_when_48 ?_
    exact z_retI (M := M_X12_when) 49 dX12_when_49 rfl ⟨G1, R1⟩
/-! ===== the rules, with something known besides ===== -/
def m_Y (X : m_E → Method → State → Prop) (Ω : m_W) (M : m_M) (pc : Nat) (ls : List (Option m_V)) (st : List m_V) (h : m_H) (Q : m_W → Option m_V → m_H → Prop) : Prop :=
  ∀ (E : m_E) (p : Program) (l : Launch) (e : Env) (s : State) (m : MethodId) (args : Array Value) (below : List Frame) (meth : Method) (c : Code) (QQ : State → Prop) (H : Heap) (locs : List Loc) (lsR : Array Slot),
    X E meth s → m_Cx E M p s m args c → m_Ret E M p l e s m args below meth c QQ Q → m_Rel E Ω h s H locs → m_LH E lsR M.2.2.2.1 ls → m_oks st → m_b Ω M →
    W p l e (m_rm M) s m args below meth c H locs (Ω.length - m_k0 M) (m_sz Ω - m_s0 M) QQ (F0 m pc lsR (st.map (m_v E)))
section YR
variable {X : m_E → Method → State → Prop} {Ω Ω' : m_W} {M M' : m_M} {ls : List (Option m_V)} {st rest : List m_V} {h h0 : m_H} {Q : m_W → Option m_V → m_H → Prop} {Q' : Option m_V → m_H → Prop} {cs : List Nat} {ss : List (Nat × Nat)}
theorem y_iconst (pc : Nat) {n : Int} (d : decode M.2.2.1 pc = .ok (.iconst n, 1)) (k : m_Y X Ω M (pc + 1) ls (mI n :: st) h Q) (hn : m_32 n := by (unfold m_32; decide)) : m_Y X Ω M pc ls st h Q := by
  intro E p l e s m args below meth c QQ H locs lsR hX C Rt Rl L o b
  refine lv_iconst C.1 C.2.1 d rfl ?_
  exact k E p l e s m args below meth c QQ H locs lsR hX C Rt Rl L ⟨hn, o⟩ b
theorem y_bipush (pc : Nat) {n : Int} (d : decode M.2.2.1 pc = .ok (.bipush n, 2)) (k : m_Y X Ω M (pc + 2) ls (mI n :: st) h Q) (hv : (Int8.ofInt n).toInt32 = Int32.ofInt n := by decide) (hn : m_32 n := by (unfold m_32; decide)) : m_Y X Ω M pc ls st h Q := by
  intro E p l e s m args below meth c QQ H locs lsR hX C Rt Rl L o b
  refine lv_bipush C.1 C.2.1 d hv ?_
  exact k E p l e s m args below meth c QQ H locs lsR hX C Rt Rl L ⟨hn, o⟩ b
theorem y_sipush (pc : Nat) {n : Int} (d : decode M.2.2.1 pc = .ok (.sipush n, 3)) (k : m_Y X Ω M (pc + 3) ls (mI n :: st) h Q) (hv : (Int16.ofInt n).toInt32 = Int32.ofInt n := by decide) (hn : m_32 n := by (unfold m_32; decide)) : m_Y X Ω M pc ls st h Q := by
  intro E p l e s m args below meth c QQ H locs lsR hX C Rt Rl L o b
  refine lv_sipush C.1 C.2.1 d hv ?_
  exact k E p l e s m args below meth c QQ H locs lsR hX C Rt Rl L ⟨hn, o⟩ b
theorem y_lconst (pc : Nat) {n : Fin 2} (d : decode M.2.2.1 pc = .ok (.lconst n, 1)) {v : Int} (k : m_Y X Ω M (pc + 1) ls (mJ v :: st) h Q) (hv : Int64.ofNat (n : Nat) = Int64.ofInt v := by decide) (hn : m_64 v := by (unfold m_64; decide)) : m_Y X Ω M pc ls st h Q := by
  intro E p l e s m args below meth c QQ H locs lsR hX C Rt Rl L o b
  refine lv_lconst C.1 C.2.1 d hv ?_
  exact k E p l e s m args below meth c QQ H locs lsR hX C Rt Rl L ⟨hn, o⟩ b
theorem y_ldc (pc : Nat) {index : Nat} (d : decode M.2.2.1 pc = .ok (.ldc index, 2)) {v : Int} (w : Cond.constant M.1 index (Int32.ofInt v) ∈ m_G) (k : m_Y X Ω M (pc + 2) ls (mI v :: st) h Q) (hn : m_32 v := by (unfold m_32; decide)) : m_Y X Ω M pc ls st h Q := by
  intro E p l e s m args below meth c QQ H locs lsR hX C Rt Rl L o b
  refine lv_ldc C.1 C.2.1 C.2.2.2.1 (C.2.2.2.2.1 _ w) d ?_
  exact k E p l e s m args below meth c QQ H locs lsR hX C Rt Rl L ⟨hn, o⟩ b
theorem y_ldcw (pc : Nat) {index : Nat} (d : decode M.2.2.1 pc = .ok (.ldc_w index, 3)) {v : Int} (w : Cond.constant M.1 index (Int32.ofInt v) ∈ m_G) (k : m_Y X Ω M (pc + 3) ls (mI v :: st) h Q) (hn : m_32 v := by (unfold m_32; decide)) : m_Y X Ω M pc ls st h Q := by
  intro E p l e s m args below meth c QQ H locs lsR hX C Rt Rl L o b
  refine lv_ldcw C.1 C.2.1 C.2.2.2.1 (C.2.2.2.2.1 _ w) d ?_
  exact k E p l e s m args below meth c QQ H locs lsR hX C Rt Rl L ⟨hn, o⟩ b
theorem y_ldc2 (pc : Nat) {index : Nat} (d : decode M.2.2.1 pc = .ok (.ldc2_w index, 3)) {v : Int} (w : Cond.constantLong M.1 index (Int64.ofInt v) ∈ m_G) (k : m_Y X Ω M (pc + 3) ls (mJ v :: st) h Q) (hn : m_64 v := by (unfold m_64; decide)) : m_Y X Ω M pc ls st h Q := by
  intro E p l e s m args below meth c QQ H locs lsR hX C Rt Rl L o b
  refine lv_ldc2 C.1 C.2.1 C.2.2.2.1 (C.2.2.2.2.1 _ w) d ?_
  exact k E p l e s m args below meth c QQ H locs lsR hX C Rt Rl L ⟨hn, o⟩ b
theorem y_iload_n (pc : Nat) {n : Fin 4} (d : decode M.2.2.1 pc = .ok (.iload_n n, 1)) {x : Int} (hl : ls[(n : Nat)]? = some (some (mI x))) (k : m_Y X Ω M (pc + 1) ls (mI x :: st) h Q) : m_Y X Ω M pc ls st h Q := by
  intro E p l e s m args below meth c QQ H locs lsR hX C Rt Rl L o b
  refine lv_iload_n C.1 C.2.1 d rfl (L.2.2 _ _ hl).1 ?_
  exact k E p l e s m args below meth c QQ H locs lsR hX C Rt Rl L ⟨(L.2.2 _ _ hl).2, o⟩ b
theorem y_iload (pc : Nat) {n : Nat} (d : decode M.2.2.1 pc = .ok (.iload n, 2)) {x : Int} (hl : ls[n]? = some (some (mI x))) (k : m_Y X Ω M (pc + 2) ls (mI x :: st) h Q) : m_Y X Ω M pc ls st h Q := by
  intro E p l e s m args below meth c QQ H locs lsR hX C Rt Rl L o b
  refine lv_iload C.1 C.2.1 d (L.2.2 _ _ hl).1 ?_
  exact k E p l e s m args below meth c QQ H locs lsR hX C Rt Rl L ⟨(L.2.2 _ _ hl).2, o⟩ b
theorem y_lload_n (pc : Nat) {n : Fin 4} (d : decode M.2.2.1 pc = .ok (.lload_n n, 1)) {x : Int} (hl : ls[(n : Nat)]? = some (some (mJ x))) (k : m_Y X Ω M (pc + 1) ls (mJ x :: st) h Q) : m_Y X Ω M pc ls st h Q := by
  intro E p l e s m args below meth c QQ H locs lsR hX C Rt Rl L o b
  refine lv_lload_n C.1 C.2.1 d rfl (L.2.2 _ _ hl).1 ?_
  exact k E p l e s m args below meth c QQ H locs lsR hX C Rt Rl L ⟨(L.2.2 _ _ hl).2, o⟩ b
theorem y_lload (pc : Nat) {n : Nat} (d : decode M.2.2.1 pc = .ok (.lload n, 2)) {x : Int} (hl : ls[n]? = some (some (mJ x))) (k : m_Y X Ω M (pc + 2) ls (mJ x :: st) h Q) : m_Y X Ω M pc ls st h Q := by
  intro E p l e s m args below meth c QQ H locs lsR hX C Rt Rl L o b
  refine lv_lload C.1 C.2.1 d (L.2.2 _ _ hl).1 ?_
  exact k E p l e s m args below meth c QQ H locs lsR hX C Rt Rl L ⟨(L.2.2 _ _ hl).2, o⟩ b
theorem y_aload_n (pc : Nat) {n : Fin 4} (d : decode M.2.2.1 pc = .ok (.aload_n n, 1)) {x : Nat} (hl : ls[(n : Nat)]? = some (some (mR x))) (k : m_Y X Ω M (pc + 1) ls (mR x :: st) h Q) : m_Y X Ω M pc ls st h Q := by
  intro E p l e s m args below meth c QQ H locs lsR hX C Rt Rl L o b
  refine lv_aload_n C.1 C.2.1 d rfl (L.2.2 _ _ hl).1 ?_
  exact k E p l e s m args below meth c QQ H locs lsR hX C Rt Rl L ⟨trivial, o⟩ b
theorem y_aload (pc : Nat) {n : Nat} (d : decode M.2.2.1 pc = .ok (.aload n, 2)) {x : Nat} (hl : ls[n]? = some (some (mR x))) (k : m_Y X Ω M (pc + 2) ls (mR x :: st) h Q) : m_Y X Ω M pc ls st h Q := by
  intro E p l e s m args below meth c QQ H locs lsR hX C Rt Rl L o b
  refine lv_aload C.1 C.2.1 d (L.2.2 _ _ hl).1 ?_
  exact k E p l e s m args below meth c QQ H locs lsR hX C Rt Rl L ⟨trivial, o⟩ b
theorem y_aload_nO (pc : Nat) {n : Fin 4} (d : decode M.2.2.1 pc = .ok (.aload_n n, 1)) {x : Nat} (hl : ls[(n : Nat)]? = some (some (mO x))) (k : m_Y X Ω M (pc + 1) ls (mO x :: st) h Q) (hx : x ≠ 40 := by omega) : m_Y X Ω M pc ls st h Q := by
  intro E p l e s m args below meth c QQ H locs lsR hX C Rt Rl L o b
  have h1 := (L.2.2 _ _ hl).1
  rw [m_vO hx] at h1
  refine lv_aload_n C.1 C.2.1 d rfl h1 ?_
  have key := k E p l e s m args below meth c QQ H locs lsR hX C Rt Rl L ⟨trivial, o⟩ b
  rw [List.map_cons, m_vO hx] at key
  exact key
theorem y_aloadO (pc : Nat) {n : Nat} (d : decode M.2.2.1 pc = .ok (.aload n, 2)) {x : Nat} (hl : ls[n]? = some (some (mO x))) (k : m_Y X Ω M (pc + 2) ls (mO x :: st) h Q) (hx : x ≠ 40 := by omega) : m_Y X Ω M pc ls st h Q := by
  intro E p l e s m args below meth c QQ H locs lsR hX C Rt Rl L o b
  have h1 := (L.2.2 _ _ hl).1
  rw [m_vO hx] at h1
  refine lv_aload C.1 C.2.1 d h1 ?_
  have key := k E p l e s m args below meth c QQ H locs lsR hX C Rt Rl L ⟨trivial, o⟩ b
  rw [List.map_cons, m_vO hx] at key
  exact key
theorem y_istore_n (pc : Nat) {n : Fin 4} (d : decode M.2.2.1 pc = .ok (.istore_n n, 1)) {x : Int} {ls' : List (Option m_V)} (hn : (n : Nat) < M.2.2.2.1) (e : m_st1 ls (n : Nat) (mI x) = ls') (k : m_Y X Ω M (pc + 1) ls' st h Q) : m_Y X Ω M pc ls (mI x :: st) h Q := by
  subst e
  intro E p l e s m args below meth c QQ H locs lsR hX C Rt Rl L o b
  refine lv_istore_n C.1 C.2.1 d rfl L.has hn rfl (fun ls2 hl2 => ?_)
  exact k E p l e s m args below meth c QQ H locs ls2 hX C Rt Rl (L.st1 o.1 hl2) o.2 b
theorem y_istore (pc : Nat) {n : Nat} (d : decode M.2.2.1 pc = .ok (.istore n, 2)) {x : Int} {ls' : List (Option m_V)} (hn : n < M.2.2.2.1) (e : m_st1 ls n (mI x) = ls') (k : m_Y X Ω M (pc + 2) ls' st h Q) : m_Y X Ω M pc ls (mI x :: st) h Q := by
  subst e
  intro E p l e s m args below meth c QQ H locs lsR hX C Rt Rl L o b
  refine lv_istore C.1 C.2.1 d L.has hn rfl (fun ls2 hl2 => ?_)
  exact k E p l e s m args below meth c QQ H locs ls2 hX C Rt Rl (L.st1 o.1 hl2) o.2 b
theorem y_lstore_n (pc : Nat) {n : Fin 4} (d : decode M.2.2.1 pc = .ok (.lstore_n n, 1)) {x : Int} {ls' : List (Option m_V)} (hn : (n : Nat) + 1 < M.2.2.2.1) (e : m_st2 ls (n : Nat) (mJ x) = ls') (k : m_Y X Ω M (pc + 1) ls' st h Q) : m_Y X Ω M pc ls (mJ x :: st) h Q := by
  subst e
  intro E p l e s m args below meth c QQ H locs lsR hX C Rt Rl L o b
  refine lv_lstore_n C.1 C.2.1 d rfl L.has hn rfl (fun ls2 hl2 => ?_)
  exact k E p l e s m args below meth c QQ H locs ls2 hX C Rt Rl (L.st2 o.1 hl2) o.2 b
theorem y_lstore (pc : Nat) {n : Nat} (d : decode M.2.2.1 pc = .ok (.lstore n, 2)) {x : Int} {ls' : List (Option m_V)} (hn : n + 1 < M.2.2.2.1) (e : m_st2 ls n (mJ x) = ls') (k : m_Y X Ω M (pc + 2) ls' st h Q) : m_Y X Ω M pc ls (mJ x :: st) h Q := by
  subst e
  intro E p l e s m args below meth c QQ H locs lsR hX C Rt Rl L o b
  refine lv_lstore C.1 C.2.1 d L.has hn rfl (fun ls2 hl2 => ?_)
  exact k E p l e s m args below meth c QQ H locs ls2 hX C Rt Rl (L.st2 o.1 hl2) o.2 b
theorem y_astore_n (pc : Nat) {n : Fin 4} (d : decode M.2.2.1 pc = .ok (.astore_n n, 1)) {x : Nat} {ls' : List (Option m_V)} (hn : (n : Nat) < M.2.2.2.1) (e : m_st1 ls (n : Nat) (mR x) = ls') (k : m_Y X Ω M (pc + 1) ls' st h Q) : m_Y X Ω M pc ls (mR x :: st) h Q := by
  subst e
  intro E p l e s m args below meth c QQ H locs lsR hX C Rt Rl L o b
  refine lv_astore_n C.1 C.2.1 d rfl L.has hn rfl (fun ls2 hl2 => ?_)
  exact k E p l e s m args below meth c QQ H locs ls2 hX C Rt Rl (L.st1 o.1 hl2) o.2 b
theorem y_astore (pc : Nat) {n : Nat} (d : decode M.2.2.1 pc = .ok (.astore n, 2)) {x : Nat} {ls' : List (Option m_V)} (hn : n < M.2.2.2.1) (e : m_st1 ls n (mR x) = ls') (k : m_Y X Ω M (pc + 2) ls' st h Q) : m_Y X Ω M pc ls (mR x :: st) h Q := by
  subst e
  intro E p l e s m args below meth c QQ H locs lsR hX C Rt Rl L o b
  refine lv_astore C.1 C.2.1 d L.has hn rfl (fun ls2 hl2 => ?_)
  exact k E p l e s m args below meth c QQ H locs ls2 hX C Rt Rl (L.st1 o.1 hl2) o.2 b
theorem y_iinc (pc : Nat) {n : Nat} {i : Int} (d : decode M.2.2.1 pc = .ok (.iinc n i, 3)) {x : Int} {ls' : List (Option m_V)} (hn : n < M.2.2.2.1) (hl : ls[n]? = some (some (mI x))) (hi : m_32 i) (e : m_st1 ls n (mI (m_w (x + i))) = ls') (k : m_Y X Ω M (pc + 3) ls' st h Q) : m_Y X Ω M pc ls st h Q := by
  subst e
  intro E p l e s m args below meth c QQ H locs lsR hX C Rt Rl L o b
  have hx := (L.2.2 _ _ hl).2
  have e1 : Int32.ofInt x + Int32.ofInt i = Int32.ofInt (m_w (x + i)) := m_eq32 (by rw [Int32.toInt_add, m_i32 hx, m_i32 hi]; rfl)
  obtain ⟨kk, hkk⟩ := List.getElem?_of_mem (m_pr_in (E := E) hl)
  refine lv_iinc C.1 C.2.1 d L.has hkk e1 hn rfl (fun ls2 hl2 => ?_)
  exact k E p l e s m args below meth c QQ H locs ls2 hX C Rt Rl (L.st1 (v := mI (m_w (x + i))) (m_w_ok _) hl2) o b
theorem y_iadd (pc : Nat) (d : decode M.2.2.1 pc = .ok (.iadd, 1)) {x y : Int} (k : m_Y X Ω M (pc + 1) ls (mI (m_w (x + y)) :: st) h Q) : m_Y X Ω M pc ls (mI y :: mI x :: st) h Q := by
  intro E p l e s m args below meth c QQ H locs lsR hX C Rt Rl L o b
  have e1 : Int32.ofInt x + Int32.ofInt y = Int32.ofInt (m_w (x + y)) := m_eq32 (by rw [Int32.toInt_add, m_i32 o.2.1, m_i32 o.1]; rfl)
  refine lv_iadd C.1 C.2.1 d ?_
  rw [e1]
  exact k E p l e s m args below meth c QQ H locs lsR hX C Rt Rl L ⟨m_w_ok _, o.2.2⟩ b
theorem y_ladd (pc : Nat) (d : decode M.2.2.1 pc = .ok (.ladd, 1)) {x y : Int} (k : m_Y X Ω M (pc + 1) ls (mJ (m_x (x + y)) :: st) h Q) : m_Y X Ω M pc ls (mJ y :: mJ x :: st) h Q := by
  intro E p l e s m args below meth c QQ H locs lsR hX C Rt Rl L o b
  have e1 : Int64.ofInt x + Int64.ofInt y = Int64.ofInt (m_x (x + y)) := m_eq64 (by rw [Int64.toInt_add, m_i64 o.2.1, m_i64 o.1]; rfl)
  refine lv_ladd C.1 C.2.1 d ?_
  rw [e1]
  exact k E p l e s m args below meth c QQ H locs lsR hX C Rt Rl L ⟨m_x_ok _, o.2.2⟩ b
theorem y_isub (pc : Nat) (d : decode M.2.2.1 pc = .ok (.isub, 1)) {x y : Int} (k : m_Y X Ω M (pc + 1) ls (mI (m_w (x - y)) :: st) h Q) : m_Y X Ω M pc ls (mI y :: mI x :: st) h Q := by
  intro E p l e s m args below meth c QQ H locs lsR hX C Rt Rl L o b
  have e1 : Int32.ofInt x - Int32.ofInt y = Int32.ofInt (m_w (x - y)) := m_eq32 (by rw [Int32.toInt_sub, m_i32 o.2.1, m_i32 o.1]; rfl)
  refine lv_isub C.1 C.2.1 d ?_
  rw [e1]
  exact k E p l e s m args below meth c QQ H locs lsR hX C Rt Rl L ⟨m_w_ok _, o.2.2⟩ b
theorem y_lsub (pc : Nat) (d : decode M.2.2.1 pc = .ok (.lsub, 1)) {x y : Int} (k : m_Y X Ω M (pc + 1) ls (mJ (m_x (x - y)) :: st) h Q) : m_Y X Ω M pc ls (mJ y :: mJ x :: st) h Q := by
  intro E p l e s m args below meth c QQ H locs lsR hX C Rt Rl L o b
  have e1 : Int64.ofInt x - Int64.ofInt y = Int64.ofInt (m_x (x - y)) := m_eq64 (by rw [Int64.toInt_sub, m_i64 o.2.1, m_i64 o.1]; rfl)
  refine lv_lsub C.1 C.2.1 d ?_
  rw [e1]
  exact k E p l e s m args below meth c QQ H locs lsR hX C Rt Rl L ⟨m_x_ok _, o.2.2⟩ b
theorem y_imul (pc : Nat) (d : decode M.2.2.1 pc = .ok (.imul, 1)) {x y : Int} (k : m_Y X Ω M (pc + 1) ls (mI (m_w (x * y)) :: st) h Q) : m_Y X Ω M pc ls (mI y :: mI x :: st) h Q := by
  intro E p l e s m args below meth c QQ H locs lsR hX C Rt Rl L o b
  have e1 : Int32.ofInt x * Int32.ofInt y = Int32.ofInt (m_w (x * y)) := m_eq32 (by rw [Int32.toInt_mul, m_i32 o.2.1, m_i32 o.1]; rfl)
  refine lv_imul C.1 C.2.1 d ?_
  rw [e1]
  exact k E p l e s m args below meth c QQ H locs lsR hX C Rt Rl L ⟨m_w_ok _, o.2.2⟩ b
theorem y_lmul (pc : Nat) (d : decode M.2.2.1 pc = .ok (.lmul, 1)) {x y : Int} (k : m_Y X Ω M (pc + 1) ls (mJ (m_x (x * y)) :: st) h Q) : m_Y X Ω M pc ls (mJ y :: mJ x :: st) h Q := by
  intro E p l e s m args below meth c QQ H locs lsR hX C Rt Rl L o b
  have e1 : Int64.ofInt x * Int64.ofInt y = Int64.ofInt (m_x (x * y)) := m_eq64 (by rw [Int64.toInt_mul, m_i64 o.2.1, m_i64 o.1]; rfl)
  refine lv_lmul C.1 C.2.1 d ?_
  rw [e1]
  exact k E p l e s m args below meth c QQ H locs lsR hX C Rt Rl L ⟨m_x_ok _, o.2.2⟩ b
theorem y_iand (pc : Nat) (d : decode M.2.2.1 pc = .ok (.iand, 1)) {x y : Int} (k : m_Y X Ω M (pc + 1) ls (mI (m_and x y) :: st) h Q) : m_Y X Ω M pc ls (mI y :: mI x :: st) h Q := by
  intro E p l e s m args below meth c QQ H locs lsR hX C Rt Rl L o b
  have e1 : Int32.ofInt x &&& Int32.ofInt y = Int32.ofInt (m_and x y) := m_eq32 rfl
  refine lv_iand C.1 C.2.1 d ?_
  rw [e1]
  exact k E p l e s m args below meth c QQ H locs lsR hX C Rt Rl L ⟨m_32t _, o.2.2⟩ b
theorem y_i2l (pc : Nat) (d : decode M.2.2.1 pc = .ok (.i2l, 1)) {x : Int} (k : m_Y X Ω M (pc + 1) ls (mJ x :: st) h Q) : m_Y X Ω M pc ls (mI x :: st) h Q := by
  intro E p l e s m args below meth c QQ H locs lsR hX C Rt Rl L o b
  have o1 : m_32 x := o.1
  refine lv_i2l (v := Int64.ofInt x) C.1 C.2.1 d (m_eq64 (by rw [Int32.toInt_toInt64, m_i32 o.1])) ?_
  exact k E p l e s m args below meth c QQ H locs lsR hX C Rt Rl L ⟨by unfold m_32 at o1; show m_64 x; unfold m_64; omega, o.2⟩ b
theorem y_dup (pc : Nat) (d : decode M.2.2.1 pc = .ok (.dup, 1)) {a : m_V} (ha : m_isL a = false) (k : m_Y X Ω M (pc + 1) ls (a :: a :: st) h Q) : m_Y X Ω M pc ls (a :: st) h Q := by
  intro E p l e s m args below meth c QQ H locs lsR hX C Rt Rl L o b
  refine lv_dup C.1 C.2.1 d (by rw [m_cat, ha]; rfl) ?_
  exact k E p l e s m args below meth c QQ H locs lsR hX C Rt Rl L ⟨o.1, o⟩ b
theorem y_pop (pc : Nat) (d : decode M.2.2.1 pc = .ok (.pop, 1)) {a : m_V} (ha : m_isL a = false) (k : m_Y X Ω M (pc + 1) ls st h Q) : m_Y X Ω M pc ls (a :: st) h Q := by
  intro E p l e s m args below meth c QQ H locs lsR hX C Rt Rl L o b
  refine lv_pop C.1 C.2.1 d (by rw [m_cat, ha]; rfl) ?_
  exact k E p l e s m args below meth c QQ H locs lsR hX C Rt Rl L o.2 b
theorem y_pop2 (pc : Nat) (d : decode M.2.2.1 pc = .ok (.pop2, 1)) {a : m_V} (ha : m_isL a = true) (k : m_Y X Ω M (pc + 1) ls st h Q) : m_Y X Ω M pc ls (a :: st) h Q := by
  intro E p l e s m args below meth c QQ H locs lsR hX C Rt Rl L o b
  refine lv_pop2_2 C.1 C.2.1 d (by rw [m_cat, ha]; rfl) ?_
  exact k E p l e s m args below meth c QQ H locs lsR hX C Rt Rl L o.2 b
theorem y_dup2 (pc : Nat) (d : decode M.2.2.1 pc = .ok (.dup2, 1)) {a a' : m_V} (ha : m_isL a = false) (ha' : m_isL a' = false) (k : m_Y X Ω M (pc + 1) ls (a :: a' :: a :: a' :: st) h Q) : m_Y X Ω M pc ls (a :: a' :: st) h Q := by
  intro E p l e s m args below meth c QQ H locs lsR hX C Rt Rl L o b
  refine lv_dup2_11 C.1 C.2.1 d (by rw [m_cat, ha]; rfl) (by rw [m_cat, ha']; rfl) ?_
  exact k E p l e s m args below meth c QQ H locs lsR hX C Rt Rl L ⟨o.1, o.2.1, o⟩ b
theorem y_if_eq (pc : Nat) {off : Int} {x : Int} (d : decode M.2.2.1 pc = .ok (.ifCond .eq off, 3)) (tgt : Nat) (ht : (pc : Int) + off = (tgt : Int)) (kt : x = 0 → m_Y X Ω M tgt ls st h Q) (kf : ¬ x = 0 → m_Y X Ω M (pc + 3) ls st h Q) : m_Y X Ω M pc ls (mI x :: st) h Q := by
  intro E p l e s m args below meth c QQ H locs lsR hX C Rt Rl L o b
  have hb := m_inj32 (x := x) (y := 0) o.1 m_320
  refine lv_if_eq C.1 C.2.1 d ht (fun q => kt ((hb).mp q) E p l e s m args below meth c QQ H locs lsR hX C Rt Rl L o.2 b) (fun q => kf (fun z => q ((hb).mpr z)) E p l e s m args below meth c QQ H locs lsR hX C Rt Rl L o.2 b)
theorem y_icmp_eq (pc : Nat) {off : Int} {x y : Int} (d : decode M.2.2.1 pc = .ok (.if_icmp .eq off, 3)) (tgt : Nat) (ht : (pc : Int) + off = (tgt : Int)) (kt : x = y → m_Y X Ω M tgt ls st h Q) (kf : ¬ x = y → m_Y X Ω M (pc + 3) ls st h Q) : m_Y X Ω M pc ls (mI y :: mI x :: st) h Q := by
  intro E p l e s m args below meth c QQ H locs lsR hX C Rt Rl L o b
  have hb := m_inj32 (x := x) (y := y) o.2.1 o.1
  refine lv_icmp_eq C.1 C.2.1 d ht (fun q => kt ((hb).mp q) E p l e s m args below meth c QQ H locs lsR hX C Rt Rl L o.2.2 b) (fun q => kf (fun z => q ((hb).mpr z)) E p l e s m args below meth c QQ H locs lsR hX C Rt Rl L o.2.2 b)
theorem y_if_ne (pc : Nat) {off : Int} {x : Int} (d : decode M.2.2.1 pc = .ok (.ifCond .ne off, 3)) (tgt : Nat) (ht : (pc : Int) + off = (tgt : Int)) (kt : ¬ x = 0 → m_Y X Ω M tgt ls st h Q) (kf : x = 0 → m_Y X Ω M (pc + 3) ls st h Q) : m_Y X Ω M pc ls (mI x :: st) h Q := by
  intro E p l e s m args below meth c QQ H locs lsR hX C Rt Rl L o b
  have hb := m_inj32 (x := x) (y := 0) o.1 m_320
  refine lv_if_ne C.1 C.2.1 d ht (fun q => kt (fun z => q ((hb).mpr z)) E p l e s m args below meth c QQ H locs lsR hX C Rt Rl L o.2 b) (fun q => kf ((hb).mp q) E p l e s m args below meth c QQ H locs lsR hX C Rt Rl L o.2 b)
theorem y_icmp_ne (pc : Nat) {off : Int} {x y : Int} (d : decode M.2.2.1 pc = .ok (.if_icmp .ne off, 3)) (tgt : Nat) (ht : (pc : Int) + off = (tgt : Int)) (kt : ¬ x = y → m_Y X Ω M tgt ls st h Q) (kf : x = y → m_Y X Ω M (pc + 3) ls st h Q) : m_Y X Ω M pc ls (mI y :: mI x :: st) h Q := by
  intro E p l e s m args below meth c QQ H locs lsR hX C Rt Rl L o b
  have hb := m_inj32 (x := x) (y := y) o.2.1 o.1
  refine lv_icmp_ne C.1 C.2.1 d ht (fun q => kt (fun z => q ((hb).mpr z)) E p l e s m args below meth c QQ H locs lsR hX C Rt Rl L o.2.2 b) (fun q => kf ((hb).mp q) E p l e s m args below meth c QQ H locs lsR hX C Rt Rl L o.2.2 b)
theorem y_if_lt (pc : Nat) {off : Int} {x : Int} (d : decode M.2.2.1 pc = .ok (.ifCond .lt off, 3)) (tgt : Nat) (ht : (pc : Int) + off = (tgt : Int)) (kt : x < 0 → m_Y X Ω M tgt ls st h Q) (kf : ¬ x < 0 → m_Y X Ω M (pc + 3) ls st h Q) : m_Y X Ω M pc ls (mI x :: st) h Q := by
  intro E p l e s m args below meth c QQ H locs lsR hX C Rt Rl L o b
  have hb := m_lt32 (x := x) (y := 0) o.1 m_320
  refine lv_if_lt C.1 C.2.1 d ht (fun q => kt ((hb).mp q) E p l e s m args below meth c QQ H locs lsR hX C Rt Rl L o.2 b) (fun q => kf (fun z => q ((hb).mpr z)) E p l e s m args below meth c QQ H locs lsR hX C Rt Rl L o.2 b)
theorem y_icmp_lt (pc : Nat) {off : Int} {x y : Int} (d : decode M.2.2.1 pc = .ok (.if_icmp .lt off, 3)) (tgt : Nat) (ht : (pc : Int) + off = (tgt : Int)) (kt : x < y → m_Y X Ω M tgt ls st h Q) (kf : ¬ x < y → m_Y X Ω M (pc + 3) ls st h Q) : m_Y X Ω M pc ls (mI y :: mI x :: st) h Q := by
  intro E p l e s m args below meth c QQ H locs lsR hX C Rt Rl L o b
  have hb := m_lt32 (x := x) (y := y) o.2.1 o.1
  refine lv_icmp_lt C.1 C.2.1 d ht (fun q => kt ((hb).mp q) E p l e s m args below meth c QQ H locs lsR hX C Rt Rl L o.2.2 b) (fun q => kf (fun z => q ((hb).mpr z)) E p l e s m args below meth c QQ H locs lsR hX C Rt Rl L o.2.2 b)
theorem y_if_ge (pc : Nat) {off : Int} {x : Int} (d : decode M.2.2.1 pc = .ok (.ifCond .ge off, 3)) (tgt : Nat) (ht : (pc : Int) + off = (tgt : Int)) (kt : 0 ≤ x → m_Y X Ω M tgt ls st h Q) (kf : ¬ 0 ≤ x → m_Y X Ω M (pc + 3) ls st h Q) : m_Y X Ω M pc ls (mI x :: st) h Q := by
  intro E p l e s m args below meth c QQ H locs lsR hX C Rt Rl L o b
  have hb := m_le32 (x := 0) (y := x) m_320 o.1
  refine lv_if_ge C.1 C.2.1 d ht (fun q => kt ((hb).mp q) E p l e s m args below meth c QQ H locs lsR hX C Rt Rl L o.2 b) (fun q => kf (fun z => q ((hb).mpr z)) E p l e s m args below meth c QQ H locs lsR hX C Rt Rl L o.2 b)
theorem y_icmp_ge (pc : Nat) {off : Int} {x y : Int} (d : decode M.2.2.1 pc = .ok (.if_icmp .ge off, 3)) (tgt : Nat) (ht : (pc : Int) + off = (tgt : Int)) (kt : y ≤ x → m_Y X Ω M tgt ls st h Q) (kf : ¬ y ≤ x → m_Y X Ω M (pc + 3) ls st h Q) : m_Y X Ω M pc ls (mI y :: mI x :: st) h Q := by
  intro E p l e s m args below meth c QQ H locs lsR hX C Rt Rl L o b
  have hb := m_le32 (x := y) (y := x) o.1 o.2.1
  refine lv_icmp_ge C.1 C.2.1 d ht (fun q => kt ((hb).mp q) E p l e s m args below meth c QQ H locs lsR hX C Rt Rl L o.2.2 b) (fun q => kf (fun z => q ((hb).mpr z)) E p l e s m args below meth c QQ H locs lsR hX C Rt Rl L o.2.2 b)
theorem y_if_gt (pc : Nat) {off : Int} {x : Int} (d : decode M.2.2.1 pc = .ok (.ifCond .gt off, 3)) (tgt : Nat) (ht : (pc : Int) + off = (tgt : Int)) (kt : 0 < x → m_Y X Ω M tgt ls st h Q) (kf : ¬ 0 < x → m_Y X Ω M (pc + 3) ls st h Q) : m_Y X Ω M pc ls (mI x :: st) h Q := by
  intro E p l e s m args below meth c QQ H locs lsR hX C Rt Rl L o b
  have hb := m_lt32 (x := 0) (y := x) m_320 o.1
  refine lv_if_gt C.1 C.2.1 d ht (fun q => kt ((hb).mp q) E p l e s m args below meth c QQ H locs lsR hX C Rt Rl L o.2 b) (fun q => kf (fun z => q ((hb).mpr z)) E p l e s m args below meth c QQ H locs lsR hX C Rt Rl L o.2 b)
theorem y_icmp_gt (pc : Nat) {off : Int} {x y : Int} (d : decode M.2.2.1 pc = .ok (.if_icmp .gt off, 3)) (tgt : Nat) (ht : (pc : Int) + off = (tgt : Int)) (kt : y < x → m_Y X Ω M tgt ls st h Q) (kf : ¬ y < x → m_Y X Ω M (pc + 3) ls st h Q) : m_Y X Ω M pc ls (mI y :: mI x :: st) h Q := by
  intro E p l e s m args below meth c QQ H locs lsR hX C Rt Rl L o b
  have hb := m_lt32 (x := y) (y := x) o.1 o.2.1
  refine lv_icmp_gt C.1 C.2.1 d ht (fun q => kt ((hb).mp q) E p l e s m args below meth c QQ H locs lsR hX C Rt Rl L o.2.2 b) (fun q => kf (fun z => q ((hb).mpr z)) E p l e s m args below meth c QQ H locs lsR hX C Rt Rl L o.2.2 b)
theorem y_if_le (pc : Nat) {off : Int} {x : Int} (d : decode M.2.2.1 pc = .ok (.ifCond .le off, 3)) (tgt : Nat) (ht : (pc : Int) + off = (tgt : Int)) (kt : x ≤ 0 → m_Y X Ω M tgt ls st h Q) (kf : ¬ x ≤ 0 → m_Y X Ω M (pc + 3) ls st h Q) : m_Y X Ω M pc ls (mI x :: st) h Q := by
  intro E p l e s m args below meth c QQ H locs lsR hX C Rt Rl L o b
  have hb := m_le32 (x := x) (y := 0) o.1 m_320
  refine lv_if_le C.1 C.2.1 d ht (fun q => kt ((hb).mp q) E p l e s m args below meth c QQ H locs lsR hX C Rt Rl L o.2 b) (fun q => kf (fun z => q ((hb).mpr z)) E p l e s m args below meth c QQ H locs lsR hX C Rt Rl L o.2 b)
theorem y_icmp_le (pc : Nat) {off : Int} {x y : Int} (d : decode M.2.2.1 pc = .ok (.if_icmp .le off, 3)) (tgt : Nat) (ht : (pc : Int) + off = (tgt : Int)) (kt : x ≤ y → m_Y X Ω M tgt ls st h Q) (kf : ¬ x ≤ y → m_Y X Ω M (pc + 3) ls st h Q) : m_Y X Ω M pc ls (mI y :: mI x :: st) h Q := by
  intro E p l e s m args below meth c QQ H locs lsR hX C Rt Rl L o b
  have hb := m_le32 (x := x) (y := y) o.2.1 o.1
  refine lv_icmp_le C.1 C.2.1 d ht (fun q => kt ((hb).mp q) E p l e s m args below meth c QQ H locs lsR hX C Rt Rl L o.2.2 b) (fun q => kf (fun z => q ((hb).mpr z)) E p l e s m args below meth c QQ H locs lsR hX C Rt Rl L o.2.2 b)
theorem y_goto (pc : Nat) {off : Int} (d : decode M.2.2.1 pc = .ok (.goto off, 3)) (tgt : Nat) (ht : (pc : Int) + off = (tgt : Int)) (k : m_Y X Ω M tgt ls st h Q) : m_Y X Ω M pc ls st h Q := by
  intro E p l e s m args below meth c QQ H locs lsR hX C Rt Rl L o b
  refine lv_goto C.1 C.2.1 d ht ?_
  exact k E p l e s m args below meth c QQ H locs lsR hX C Rt Rl L o b
theorem y_tabOut (pc : Nat) {df lo hi : Int} {offs : Array Int} {len : Nat} (d : decode M.2.2.1 pc = .ok (.tableswitch df lo hi offs, len)) {x : Int} (tgt : Nat) (hx : x < lo ∨ hi < x) (ht : (pc : Int) + df = (tgt : Int)) (k : m_Y X Ω M tgt ls st h Q) : m_Y X Ω M pc ls (mI x :: st) h Q := by
  intro E p l e s m args below meth c QQ H locs lsR hX C Rt Rl L o b
  refine lv_tableOut C.1 C.2.1 d (by rw [m_i32 o.1]; exact hx) ht ?_
  exact k E p l e s m args below meth c QQ H locs lsR hX C Rt Rl L o.2 b
theorem y_tabIn (pc : Nat) {df lo hi : Int} {offs : Array Int} {len : Nat} (d : decode M.2.2.1 pc = .ok (.tableswitch df lo hi offs, len)) {x off : Int} (tgt : Nat) (h1 : lo ≤ x) (h2 : x ≤ hi) (ho : offs[(x - lo).toNat]? = some off) (ht : (pc : Int) + off = (tgt : Int)) (k : m_Y X Ω M tgt ls st h Q) : m_Y X Ω M pc ls (mI x :: st) h Q := by
  intro E p l e s m args below meth c QQ H locs lsR hX C Rt Rl L o b
  have e1 := m_i32 (x := x) o.1
  refine lv_tableIn C.1 C.2.1 d (by rw [e1]; omega) (by rw [e1]; omega) (by rw [e1]; exact ho) ht ?_
  exact k E p l e s m args below meth c QQ H locs lsR hX C Rt Rl L o.2 b
theorem y_ok {pc : Nat} (k : m_oks st → m_hok Ω h → (∀ (i : Nat) (v : m_V), ls[i]? = some (some v) → m_ok v) → m_Y X Ω M pc ls st h Q) : m_Y X Ω M pc ls st h Q := by
  intro E p l e s m args below meth c QQ H locs lsR hX C Rt Rl L o b
  exact k o Rl.2.2.2 (fun i v q => (L.2.2 i v q).2) E p l e s m args below meth c QQ H locs lsR hX C Rt Rl L o b
theorem y_sub {pc : Nat} {ls' : List (Option m_V)} (q : ∀ (i : Nat) (v : m_V), ls'[i]? = some (some v) → ls[i]? = some (some v)) (k : m_Y X Ω M pc ls' st h Q) : m_Y X Ω M pc ls st h Q := by
  intro E p l e s m args below meth c QQ H locs lsR hX C Rt Rl L o b
  exact k E p l e s m args below meth c QQ H locs lsR hX C Rt Rl ⟨L.1, L.2.1, fun i v z => L.2.2 i v (q i v z)⟩ o b
theorem y_post {pc : Nat} {Q' : m_W → Option m_V → m_H → Prop} (q : ∀ w r h', Q' w r h' → Q w r h') (k : m_Y X Ω M pc ls st h Q') : m_Y X Ω M pc ls st h Q := by
  intro E p l e s m args below meth c QQ H locs lsR hX C Rt Rl L o b
  exact k E p l e s m args below meth c QQ H locs lsR hX C (fun Ω r h H locs pc ls i a => Rt Ω r h H locs pc ls i (q _ _ _ a)) Rl L o b
theorem y_iret (pc : Nat) {x : Int} (d : decode M.2.2.1 pc = .ok (.ireturn, 1)) (hr : M.2.2.2.2.1 = some .int) (q : Q Ω (some (mI x)) h) : m_Y X Ω M pc ls [mI x] h Q := by
  intro E p l e s m args below meth c QQ H locs lsR hX C Rt Rl L o b
  exact Rt Ω (some (mI x)) h H locs pc lsR _ q (fun v e => by cases e; exact o.1) Rl d (Or.inr (Or.inl ⟨x, hr, rfl, rfl⟩))
theorem y_zret (pc : Nat) {x : Int} (d : decode M.2.2.1 pc = .ok (.ireturn, 1)) (hr : M.2.2.2.2.1 = some .boolean) (hx : x = 0 ∨ x = 1) (q : Q Ω (some (mI x)) h) : m_Y X Ω M pc ls [mI x] h Q := by
  intro E p l e s m args below meth c QQ H locs lsR hX C Rt Rl L o b
  exact Rt Ω (some (mI x)) h H locs pc lsR _ q (fun v e => by cases e; exact o.1) Rl d (Or.inr (Or.inr (Or.inl ⟨x, hr, rfl, rfl, hx⟩)))
theorem y_lret (pc : Nat) {x : Int} (d : decode M.2.2.1 pc = .ok (.lreturn, 1)) (hr : M.2.2.2.2.1 = some .long) (q : Q Ω (some (mJ x)) h) : m_Y X Ω M pc ls [mJ x] h Q := by
  intro E p l e s m args below meth c QQ H locs lsR hX C Rt Rl L o b
  exact Rt Ω (some (mJ x)) h H locs pc lsR _ q (fun v e => by cases e; exact o.1) Rl d (Or.inr (Or.inr (Or.inr (Or.inl ⟨x, hr, rfl, rfl⟩))))
theorem y_vret (pc : Nat) (d : decode M.2.2.1 pc = .ok (.return_, 1)) (hr : M.2.2.2.2.1 = none) (q : Q Ω none h) : m_Y X Ω M pc ls [] h Q := by
  intro E p l e s m args below meth c QQ H locs lsR hX C Rt Rl L o b
  exact Rt Ω none h H locs pc lsR _ q (fun v e => by cases e) Rl d (Or.inl ⟨hr, rfl, rfl⟩)
theorem y_aret (pc : Nat) {x : Nat} (d : decode M.2.2.1 pc = .ok (.areturn, 1)) (hr : M.2.2.2.2.1 = some (.array (.object "WeekFoot$Bound"))) (q : Q Ω (some (mR x)) h) : m_Y X Ω M pc ls [mR x] h Q := by
  intro E p l e s m args below meth c QQ H locs lsR hX C Rt Rl L o b
  exact Rt Ω (some (mR x)) h H locs pc lsR _ q (fun v e => by cases e; trivial) Rl d (Or.inr (Or.inr (Or.inr (Or.inr (Or.inl ⟨x, hr, rfl, rfl⟩)))))
theorem y_nret (pc : Nat) {x : Int} (d : decode M.2.2.1 pc = .ok (.ireturn, 1)) {ty : FieldType} (hr : M.2.2.2.2.1 = some ty) (hn : narrow ty (.int (Int32.ofInt x)) = .int (Int32.ofInt x)) (q : Q Ω (some (mI x)) h) : m_Y X Ω M pc ls [mI x] h Q := by
  intro E p l e s m args below meth c QQ H locs lsR hX C Rt Rl L o b
  exact Rt Ω (some (mI x)) h H locs pc lsR _ q (fun v e => by cases e; exact o.1) Rl d (Or.inr (Or.inr (Or.inr (Or.inr (Or.inr ⟨x, ty, hr, rfl, rfl, hn⟩)))))
theorem y_getI (pc : Nat) {index ci N j k : Nat} (d : decode M.2.2.1 pc = .ok (.getfield index, 3)) (f : m_fl M.1 index ci N j) (hk : Ω[k]? = some (ci + 5, N)) (ht : m_tk (m_ty ci j) ≠ 1 ∧ m_tk (m_ty ci j) ≠ 3) (kk : m_Y X Ω M (pc + 3) ls (mI (h k j) :: st) h Q) : m_Y X Ω M pc ls (mR k :: st) h Q := by
  intro E p l e s m args below meth c QQ H locs lsR hX C Rt Rl L o b
  refine m_get C Rl d f hk ?_
  have hb := Rl.2.2.2 k _ hk j
  simp only [m_sk, m_rg, ht.1, ht.2, if_false] at hb
  simp only [m_sv, ht.1, ht.2, if_false]
  exact kk E p l e s m args below meth c QQ H locs lsR hX C Rt Rl L ⟨hb, o.2⟩ b
theorem y_getJ (pc : Nat) {index ci N j k : Nat} (d : decode M.2.2.1 pc = .ok (.getfield index, 3)) (f : m_fl M.1 index ci N j) (hk : Ω[k]? = some (ci + 5, N)) (ht : m_tk (m_ty ci j) = 1) (kk : m_Y X Ω M (pc + 3) ls (mJ (h k j) :: st) h Q) : m_Y X Ω M pc ls (mR k :: st) h Q := by
  intro E p l e s m args below meth c QQ H locs lsR hX C Rt Rl L o b
  refine m_get C Rl d f hk ?_
  have hb := Rl.2.2.2 k _ hk j
  simp only [m_sk, m_rg, ht, if_true] at hb
  simp only [m_sv, ht, if_true]
  exact kk E p l e s m args below meth c QQ H locs lsR hX C Rt Rl L ⟨hb, o.2⟩ b
theorem y_getR (pc : Nat) {index ci N j k t : Nat} (d : decode M.2.2.1 pc = .ok (.getfield index, 3)) (f : m_fl M.1 index ci N j) (hk : Ω[k]? = some (ci + 5, N)) (ht : m_tk (m_ty ci j) = 3) (hr : h k j = (t : Int)) (kk : m_Y X Ω M (pc + 3) ls (mR t :: st) h Q) : m_Y X Ω M pc ls (mR k :: st) h Q := by
  intro E p l e s m args below meth c QQ H locs lsR hX C Rt Rl L o b
  refine m_get C Rl d f hk ?_
  have e1 : m_sv E (m_tk (m_ty ci j)) (h k j) = .ref (E.1.1 + t) := by
    rw [ht, hr]
    simp [m_sv, m_rv]
  rw [e1]
  exact kk E p l e s m args below meth c QQ H locs lsR hX C Rt Rl L ⟨trivial, o.2⟩ b
theorem y_putI (pc : Nat) {index ci N j k : Nat} {x : Int} (d : decode M.2.2.1 pc = .ok (.putfield index, 3)) (f : m_fp M.1 index ci N j) (hk : Ω[k]? = some (ci + 5, N)) (ht : m_ty ci j = .int) (kk : m_Y X Ω M (pc + 3) ls st (m_up h k j x) Q) : m_Y X Ω M pc ls (mI x :: mR k :: st) h Q := by
  intro E p l e s m args below meth c QQ H locs lsR hX C Rt Rl L o b
  have e1 : m_sv E (m_tk (m_ty ci j)) x = .int (Int32.ofInt x) := by rw [ht]; rfl
  have h1 := m_put (x := x) (rest := st.map (m_v E)) (lsR := lsR) (QQ := QQ) (R := m_rm M) (l := l) (e := e) (below := below) (meth := meth) (cells := Ω.length - m_k0 M) (slots := m_sz Ω - m_s0 M) C Rl d f hk (by rw [e1, ht]; rfl) (by rw [e1, ht]; rfl) (by rw [ht]; exact o.1) (fun H1 locs1 R1 => kk E p l e s m args below meth c QQ H1 locs1 lsR hX C Rt R1 L o.2.2 b)
  rw [e1] at h1
  exact h1
theorem y_putZ (pc : Nat) {index ci N j k : Nat} {x : Int} (d : decode M.2.2.1 pc = .ok (.putfield index, 3)) (f : m_fp M.1 index ci N j) (hk : Ω[k]? = some (ci + 5, N)) (ht : m_ty ci j = .boolean) (hx : x = 0 ∨ x = 1) (kk : m_Y X Ω M (pc + 3) ls st (m_up h k j x) Q) : m_Y X Ω M pc ls (mI x :: mR k :: st) h Q := by
  intro E p l e s m args below meth c QQ H locs lsR hX C Rt Rl L o b
  have e1 : m_sv E (m_tk (m_ty ci j)) x = .int (Int32.ofInt x) := by rw [ht]; rfl
  have h1 := m_put (x := x) (rest := st.map (m_v E)) (lsR := lsR) (QQ := QQ) (R := m_rm M) (l := l) (e := e) (below := below) (meth := meth) (cells := Ω.length - m_k0 M) (slots := m_sz Ω - m_s0 M) C Rl d f hk (by rw [e1, ht]; rcases hx with rfl | rfl <;> rfl) (by rw [e1, ht]; rcases hx with rfl | rfl <;> rfl) (by rw [ht]; exact o.1) (fun H1 locs1 R1 => kk E p l e s m args below meth c QQ H1 locs1 lsR hX C Rt R1 L o.2.2 b)
  rw [e1] at h1
  exact h1
theorem y_putJ (pc : Nat) {index ci N j k : Nat} {x : Int} (d : decode M.2.2.1 pc = .ok (.putfield index, 3)) (f : m_fp M.1 index ci N j) (hk : Ω[k]? = some (ci + 5, N)) (ht : m_ty ci j = .long) (kk : m_Y X Ω M (pc + 3) ls st (m_up h k j x) Q) : m_Y X Ω M pc ls (mJ x :: mR k :: st) h Q := by
  intro E p l e s m args below meth c QQ H locs lsR hX C Rt Rl L o b
  have e1 : m_sv E (m_tk (m_ty ci j)) x = .long (Int64.ofInt x) := by rw [ht]; rfl
  have h1 := m_put (x := x) (rest := st.map (m_v E)) (lsR := lsR) (QQ := QQ) (R := m_rm M) (l := l) (e := e) (below := below) (meth := meth) (cells := Ω.length - m_k0 M) (slots := m_sz Ω - m_s0 M) C Rl d f hk (by rw [e1, ht]; rfl) (by rw [e1, ht]; rfl) (by rw [ht]; exact o.1) (fun H1 locs1 R1 => kk E p l e s m args below meth c QQ H1 locs1 lsR hX C Rt R1 L o.2.2 b)
  rw [e1] at h1
  exact h1
theorem y_iald (pc : Nat) {k n : Nat} {i : Int} (d : decode M.2.2.1 pc = .ok (.iaload, 1)) (hk : Ω[k]? = some (0, n)) (h0 : 0 ≤ i) (h1 : i < n) (kk : m_Y X Ω M (pc + 1) ls (mI (h k i.toNat) :: st) h Q) : m_Y X Ω M pc ls (mI i :: mR k :: st) h Q := by
  intro E p l e s m args below meth c QQ H locs lsR hX C Rt Rl L o b
  have hb := Rl.2.2.2 k _ hk i.toNat
  refine va_iald C.1 C.2.1 C.2.2.2.2.2.1 Rl.2.1 k 0 (m_wl_at hk) rfl (m_ix o.1 h0 h1) d ?_
  rw [m_cn o.1]
  exact kk E p l e s m args below meth c QQ H locs lsR hX C Rt Rl L ⟨hb, o.2.2⟩ b
theorem y_lald (pc : Nat) {k n : Nat} {i : Int} (d : decode M.2.2.1 pc = .ok (.laload, 1)) (hk : Ω[k]? = some (1, n)) (h0 : 0 ≤ i) (h1 : i < n) (kk : m_Y X Ω M (pc + 1) ls (mJ (h k i.toNat) :: st) h Q) : m_Y X Ω M pc ls (mI i :: mR k :: st) h Q := by
  intro E p l e s m args below meth c QQ H locs lsR hX C Rt Rl L o b
  have hb := Rl.2.2.2 k _ hk i.toNat
  refine va_lald C.1 C.2.1 C.2.2.2.2.2.1 Rl.2.1 k 1 (m_wl_at hk) rfl (m_ix o.1 h0 h1) d ?_
  rw [m_cn o.1]
  exact kk E p l e s m args below meth c QQ H locs lsR hX C Rt Rl L ⟨hb, o.2.2⟩ b
theorem y_zald (pc : Nat) {k n : Nat} {i : Int} (d : decode M.2.2.1 pc = .ok (.baload, 1)) (hk : Ω[k]? = some (2, n)) (h0 : 0 ≤ i) (h1 : i < n) (kk : m_Y X Ω M (pc + 1) ls (mI (h k i.toNat) :: st) h Q) : m_Y X Ω M pc ls (mI i :: mR k :: st) h Q := by
  intro E p l e s m args below meth c QQ H locs lsR hX C Rt Rl L o b
  have hb := Rl.2.2.2 k _ hk i.toNat
  refine va_zald C.1 C.2.1 C.2.2.2.2.2.1 Rl.2.1 k 2 (m_wl_at hk) rfl (m_ix o.1 h0 h1) d ?_
  rw [m_cn o.1]
  exact kk E p l e s m args below meth c QQ H locs lsR hX C Rt Rl L ⟨hb, o.2.2⟩ b
theorem y_aaldB (pc : Nat) {k n t : Nat} {i : Int} (d : decode M.2.2.1 pc = .ok (.aaload, 1)) (hk : Ω[k]? = some (3, n)) (h0 : 0 ≤ i) (h1 : i < n) (hr : h k i.toNat = (t : Int)) (kk : m_Y X Ω M (pc + 1) ls (mR t :: st) h Q) : m_Y X Ω M pc ls (mI i :: mR k :: st) h Q := by
  intro E p l e s m args below meth c QQ H locs lsR hX C Rt Rl L o b
  refine va_aldq (C := "WeekFoot$Bound") C.1 C.2.1 C.2.2.2.2.2.1 Rl.2.1 k 3 (m_wl_at hk) rfl (m_ix o.1 h0 h1) d ?_
  rw [m_cn o.1, hr, if_neg (by omega), Int.toNat_natCast]
  exact kk E p l e s m args below meth c QQ H locs lsR hX C Rt Rl L ⟨trivial, o.2.2⟩ b
theorem y_aaldL (pc : Nat) {k n t : Nat} {i : Int} (d : decode M.2.2.1 pc = .ok (.aaload, 1)) (hk : Ω[k]? = some (4, n)) (h0 : 0 ≤ i) (h1 : i < n) (hr : h k i.toNat = (t : Int)) (kk : m_Y X Ω M (pc + 1) ls (mR t :: st) h Q) : m_Y X Ω M pc ls (mI i :: mR k :: st) h Q := by
  intro E p l e s m args below meth c QQ H locs lsR hX C Rt Rl L o b
  refine va_aldq (C := "WeekFoot$Ledger") C.1 C.2.1 C.2.2.2.2.2.1 Rl.2.1 k 4 (m_wl_at hk) rfl (m_ix o.1 h0 h1) d ?_
  rw [m_cn o.1, hr, if_neg (by omega), Int.toNat_natCast]
  exact kk E p l e s m args below meth c QQ H locs lsR hX C Rt Rl L ⟨trivial, o.2.2⟩ b
theorem y_alen (pc : Nat) {k kd n : Nat} (d : decode M.2.2.1 pc = .ok (.arraylength, 1)) (hk : Ω[k]? = some (kd, n)) (hd : kd ≤ 4) (hn : n ≤ 2147483647) (kk : m_Y X Ω M (pc + 1) ls (mI n :: st) h Q) : m_Y X Ω M pc ls (mR k :: st) h Q := by
  intro E p l e s m args below meth c QQ H locs lsR hX C Rt Rl L o b
  have key : W p l e (m_rm M) s m args below meth c H locs (Ω.length - m_k0 M) (m_sz Ω - m_s0 M) QQ (F0 m (pc + 1) lsR (.int (Int32.ofInt n) :: st.map (m_v E))) := kk E p l e s m args below meth c QQ H locs lsR hX C Rt Rl L ⟨by show m_32 _; unfold m_32; omega, o.2⟩ b
  have e0 : ∀ x : vp_A, x.1 = n → Int32.ofNat x.1 = Int32.ofInt (n : Int) := fun x q => by rw [q]; rfl
  have hw := m_wl_at (E := E) (h := h) hk
  rcases (show kd = 0 ∨ kd = 1 ∨ kd = 2 ∨ kd = 3 ∨ kd = 4 by omega) with rfl | rfl | rfl | rfl | rfl
  · exact va_alen C.1 C.2.1 C.2.2.2.2.2.1 Rl.2.1 k 0 hw rfl (e0 _ rfl) d key
  · exact va_alen C.1 C.2.1 C.2.2.2.2.2.1 Rl.2.1 k 1 hw rfl (e0 _ rfl) d key
  · exact va_alen C.1 C.2.1 C.2.2.2.2.2.1 Rl.2.1 k 2 hw rfl (e0 _ rfl) d key
  · exact va_alen C.1 C.2.1 C.2.2.2.2.2.1 Rl.2.1 k 3 hw rfl (e0 _ rfl) d key
  · exact va_alen C.1 C.2.1 C.2.2.2.2.2.1 Rl.2.1 k 4 hw rfl (e0 _ rfl) d key
theorem y_iast (pc : Nat) {k n : Nat} {i x : Int} (d : decode M.2.2.1 pc = .ok (.iastore, 1)) (hk : Ω[k]? = some (0, n)) (h0 : 0 ≤ i) (h1 : i < n) (kk : m_Y X Ω M (pc + 1) ls st (m_up h k i.toNat x) Q) : m_Y X Ω M pc ls (mI x :: mI i :: mR k :: st) h Q := by
  intro E p l e s m args below meth c QQ H locs lsR hX C Rt Rl L o b
  have ha : H[E.1.1 + k]? = some (arrV (E.2.1 0) n (fun j => .int (Int32.ofInt (h k j)))) := Rl.2.1 k _ (m_wl_at hk)
  refine W.iast C.1 C.2.1 ha ((C.2.2.2.2.2.1.2 0 _ rfl).1 n (fun j => .int (Int32.ofInt (h k j)))) (fun q => by cases q) (by show ¬ (_ ∨ (arrV _ _ _).slots.size ≤ _); rw [arrV_size]; exact m_ix o.2.1 h0 h1) rfl rfl d fun H1 e1 z oq => ?_
  refine kk E p l e s m args below meth c QQ H1 _ lsR hX C Rt (m_rel_set Rl hk o.1 ?_ z oq) L o.2.2.2 b
  show H1[E.1.1 + k]? = some (arrV (E.2.1 0) n (fun j => .int (Int32.ofInt (m_up h k i.toNat x k j))))
  rw [e1, arrV_store, m_cn o.2.1]
  congr 2
  funext q
  by_cases hq : q = i.toNat
  · subst hq; simp [updV, m_up]
  · simp [updV, m_up, hq]
theorem y_last (pc : Nat) {k n : Nat} {i x : Int} (d : decode M.2.2.1 pc = .ok (.lastore, 1)) (hk : Ω[k]? = some (1, n)) (h0 : 0 ≤ i) (h1 : i < n) (kk : m_Y X Ω M (pc + 1) ls st (m_up h k i.toNat x) Q) : m_Y X Ω M pc ls (mJ x :: mI i :: mR k :: st) h Q := by
  intro E p l e s m args below meth c QQ H locs lsR hX C Rt Rl L o b
  have ha : H[E.1.1 + k]? = some (arrV (E.2.1 1) n (fun j => .long (Int64.ofInt (h k j)))) := Rl.2.1 k _ (m_wl_at hk)
  refine W.last C.1 C.2.1 ha ((C.2.2.2.2.2.1.2 1 _ rfl).1 n (fun j => .long (Int64.ofInt (h k j)))) (fun q => by cases q) (by show ¬ (_ ∨ (arrV _ _ _).slots.size ≤ _); rw [arrV_size]; exact m_ix o.2.1 h0 h1) rfl rfl d fun H1 e1 z oq => ?_
  refine kk E p l e s m args below meth c QQ H1 _ lsR hX C Rt (m_rel_set Rl hk o.1 ?_ z oq) L o.2.2.2 b
  show H1[E.1.1 + k]? = some (arrV (E.2.1 1) n (fun j => .long (Int64.ofInt (m_up h k i.toNat x k j))))
  rw [e1, arrV_store, m_cn o.2.1]
  congr 2
  funext q
  by_cases hq : q = i.toNat
  · subst hq; simp [updV, m_up]
  · simp [updV, m_up, hq]
theorem y_zast (pc : Nat) {k n : Nat} {i x : Int} (d : decode M.2.2.1 pc = .ok (.bastore, 1)) (hk : Ω[k]? = some (2, n)) (h0 : 0 ≤ i) (h1 : i < n) (hx : x = 0 ∨ x = 1) (kk : m_Y X Ω M (pc + 1) ls st (m_up h k i.toNat x) Q) : m_Y X Ω M pc ls (mI x :: mI i :: mR k :: st) h Q := by
  intro E p l e s m args below meth c QQ H locs lsR hX C Rt Rl L o b
  have ha : H[E.1.1 + k]? = some (arrV (E.2.1 2) n (fun j => .int (Int32.ofInt (h k j)))) := Rl.2.1 k _ (m_wl_at hk)
  refine W.zast C.1 C.2.1 ha ((C.2.2.2.2.2.1.2 2 _ rfl).1 n (fun j => .int (Int32.ofInt (h k j)))) (fun q => by cases q) (by show ¬ (_ ∨ (arrV _ _ _).slots.size ≤ _); rw [arrV_size]; exact m_ix o.2.1 h0 h1) rfl rfl d fun H1 e1 z oq => ?_
  refine kk E p l e s m args below meth c QQ H1 _ lsR hX C Rt (m_rel_set Rl hk o.1 ?_ z oq) L o.2.2.2 b
  show H1[E.1.1 + k]? = some (arrV (E.2.1 2) n (fun j => .int (Int32.ofInt (m_up h k i.toNat x k j))))
  have e2 : narrow .boolean (.int (Int32.ofInt x)) = .int (Int32.ofInt x) := by rcases hx with rfl | rfl <;> rfl
  rw [e1, e2, arrV_store, m_cn o.2.1]
  congr 2
  funext q
  by_cases hq : q = i.toNat
  · subst hq; simp [updV, m_up]
  · simp [updV, m_up, hq]
theorem y_callV (pc : Nat) {index k ci N n : Nat} {as : List m_V} (d : decode M.2.2.1 pc = .ok (.invokevirtual index, 3)) (mt : m_mV M' n) (lk : Cond.methodLink M.1 index M'.2.1 ∈ m_G) (rr : m_rr M M') (hc : m_C M' Ω Ω (mR k :: as) h Q') (hk : Ω[k]? = some (ci + 5, N)) (hcl : (vwCl[ci]?).map (fun q => q.1) = some M'.2.1.cls) (hst : as.reverse ++ mR k :: rest = st) (hn : as.length = n) (hrest : m_cs rest ≤ 8) (h0 : (m_rm M').cells = 0 ∧ (m_rm M').slots = 0)
    (kk : ∀ (r : Option m_V) (h' : m_H), Q' r h' → m_Y X Ω M (pc + 3) ls (r.toList ++ rest) h' Q) : m_Y X Ω M pc ls st h Q := by
  subst hst
  intro E p l e s m args below meth c QQ H locs lsR hX C Rt Rl L o b
  obtain ⟨o1, o2⟩ := m_oks_app o
  have hM := hc l E Rl.2.2.2 ⟨trivial, m_oks_rev o1⟩
  have hts := C.2.2.2.2.1
  obtain ⟨qc, hqc, hqn⟩ : ∃ qc : vw_C, vwCl[ci]? = some qc ∧ qc.1 = M'.2.1.cls := by
    cases hv : vwCl[ci]? with
    | none => rw [hv] at hcl; cases hcl
    | some qc => rw [hv] at hcl; exact ⟨qc, rfl, Option.some.inj hcl⟩
  have hrecv := va_recv C.2.2.2.2.2.1 Rl.2.1 hqc (m_wl_at (E := E) hk)
  rw [hqn] at hrecv
  have hcw : CallW (m_rm M) s args M.1 M'.2.1.cls index M'.2.1 M'.2.2.1 M'.2.2.2.1 M'.2.2.2.2.1 (m_ws M') (m_rm M') (m_rm M').cells (m_rm M').slots n :=
    ⟨callB_of n hts (m_good mt.2.1.2) rfl rfl rfl (hts _ mt.2.1.1) (hts _ lk) mt.2.2 rr, hts _ mt.1.1, hts _ mt.1.2⟩
  have hrun := va_runV (g := F0 m pc lsR ((as.reverse ++ mR k :: rest).map (m_v E))) (As := as.map (m_v E)) (rest := rest.map (m_v E)) (b := E.1.1 + k) (below := below) (locs := locs) (meth := meth) (e := e) ⟨C.1, C.2.1, C.2.2.1, C.2.2.2.1, hts⟩ hM hcw ⟨m_blind, hrecv, fun U hU hW => ⟨rfl, m_pre_at C Rl U hU hW⟩⟩ rfl (by rw [List.length_map]; exact hn) L.1 (by simp [m_v]) (m_roomW hrest) d (cells := Ω.length - m_k0 M) (slots := m_sz Ω - m_s0 M) (by rw [h0.1, h0.2]; exact b.2)
  refine m_after hrun Rl.2.2.1 (fun r h' H1 locs1 hq hr R1 => ?_)
  rw [h0.1, h0.2, m_toL]
  exact kk r h' hq E p l e s m args below meth c QQ H1 locs1 lsR hX C Rt R1 L (m_okT hr o2.2) b
theorem y_callS (pc : Nat) {index n : Nat} {as : List m_V} (d : decode M.2.2.1 pc = .ok (.invokestatic index, 3)) (mt : m_mS M' n) (lk : Cond.methodLink M.1 index M'.2.1 ∈ m_G) (rr : m_rr M M') (hc : m_C M' Ω Ω as h Q') (hst : as.reverse ++ rest = st) (hn : as.length = n) (hrest : m_cs rest ≤ 8) (h0 : (m_rm M').cells = 0 ∧ (m_rm M').slots = 0)
    (kk : ∀ (r : Option m_V) (h' : m_H), Q' r h' → m_Y X Ω M (pc + 3) ls (r.toList ++ rest) h' Q) : m_Y X Ω M pc ls st h Q := by
  subst hst
  intro E p l e s m args below meth c QQ H locs lsR hX C Rt Rl L o b
  obtain ⟨o1, o2⟩ := m_oks_app o
  have hM := hc l E Rl.2.2.2 (m_oks_rev o1)
  have hts := C.2.2.2.2.1
  have hcw : CallB (m_rm M) s args M.1 index M'.2.1 M'.2.2.1 M'.2.2.2.1 M'.2.2.2.2.1 (m_ws M') (m_rm M') (m_rm M').cells (m_rm M').slots n ∧ (Cond.static M'.2.1).before args s = true :=
    ⟨callB_of n hts (m_good mt.2.1.2) rfl rfl rfl (hts _ mt.2.1.1) (hts _ lk) mt.2.2 rr, hts _ mt.1⟩
  have hrun := va_runS (g := F0 m pc lsR ((as.reverse ++ rest).map (m_v E))) (As := as.map (m_v E)) (rest := rest.map (m_v E)) (below := below) (locs := locs) (meth := meth) (e := e) ⟨C.1, C.2.1, C.2.2.1, C.2.2.2.1, hts⟩ hM hcw ⟨m_blind, fun U hU hW => ⟨rfl, m_pre_at C Rl U hU hW⟩⟩ rfl (by rw [List.length_map]; exact hn) L.1 (by simp) (m_roomW hrest) d (cells := Ω.length - m_k0 M) (slots := m_sz Ω - m_s0 M) (by rw [h0.1, h0.2]; exact b.2)
  refine m_after hrun Rl.2.2.1 (fun r h' H1 locs1 hq hr R1 => ?_)
  rw [h0.1, h0.2, m_toL]
  exact kk r h' hq E p l e s m args below meth c QQ H1 locs1 lsR hX C Rt R1 L (m_okT hr o2) b
theorem y_callSN (pc : Nat) {index n : Nat} {host : String} {as : List m_V} (d : decode M.2.2.1 pc = .ok (.invokestatic index, 3)) (mt : m_mS M' n) (lk : Cond.methodLinkNest M.1 index M'.2.1 host ∈ m_N) (rr : m_rr M M') (hc : m_C M' Ω Ω as h Q') (hst : as.reverse ++ rest = st) (hn : as.length = n) (hrest : m_cs rest ≤ 8) (h0 : (m_rm M').cells = 0 ∧ (m_rm M').slots = 0)
    (kk : ∀ (r : Option m_V) (h' : m_H), Q' r h' → m_Y X Ω M (pc + 3) ls (r.toList ++ rest) h' Q) : m_Y X Ω M pc ls st h Q := by
  subst hst
  intro E p l e s m args below meth c QQ H locs lsR hX C Rt Rl L o b
  obtain ⟨o1, o2⟩ := m_oks_app o
  have hM := hc l E Rl.2.2.2 (m_oks_rev o1)
  have hts := C.2.2.2.2.1
  have hcw := va_cnB (R := m_rm M) (host := host) (index := index) (own := M.1) (y := M'.2.1) (bytes := M'.2.2.1) (maxL := M'.2.2.2.1) (ret := M'.2.2.2.2.1) (ws := m_ws M') (rm := m_rm M') (mc := (m_rm M').cells) (ms := (m_rm M').slots) n hts (m_good mt.2.1.2) rfl rfl rfl (C.2.2.2.2.2.2.1 _ lk) (hts _ mt.2.1.1) mt.2.2 rr
  have hrun := va_runSN (g := F0 m pc lsR ((as.reverse ++ rest).map (m_v E))) (As := as.map (m_v E)) (rest := rest.map (m_v E)) (below := below) (locs := locs) (meth := meth) (e := e) ⟨C.1, C.2.1, C.2.2.1, C.2.2.2.1, hts⟩ hM ⟨hcw, hts _ mt.1, trivial⟩ ⟨m_blind, fun U hU hW => ⟨rfl, m_pre_at C Rl U hU hW⟩⟩ rfl (by rw [List.length_map]; exact hn) L.1 (by simp) (m_roomW hrest) d (cells := Ω.length - m_k0 M) (slots := m_sz Ω - m_s0 M) (by rw [h0.1, h0.2]; exact b.2)
  refine m_after hrun Rl.2.2.1 (fun r h' H1 locs1 hq hr R1 => ?_)
  rw [h0.1, h0.2, m_toL]
  exact kk r h' hq E p l e s m args below meth c QQ H1 locs1 lsR hX C Rt R1 L (m_okT hr o2) b
theorem y_vI (pc : Nat) {index n k ci N : Nat} {as : List m_V} {P : Int → m_H → Prop} (d : decode M.2.2.1 pc = .ok (.invokevirtual index, 3)) (mt : m_mV M' n) (lk : Cond.methodLink M.1 index M'.2.1 ∈ m_G) (rr : m_rr M M') (hc : m_CI M' (mR k :: as) h P) (hk : oF[k]? = some (ci + 5, N)) (hcl : (vwCl[ci]?).map (fun q => q.1) = some M'.2.1.cls) (hst : as.reverse ++ mR k :: rest = st) (hn : as.length = n) (hrest : m_cs rest ≤ 8) (hz : (m_rm M').cells = 0 ∧ (m_rm M').slots = 0)
    (kk : ∀ (x : Int) (h' : m_H), P x h' → m_Y X oF M (pc + 3) ls (mI x :: rest) h' Q) : m_Y X oF M pc ls st h Q := y_callV pc d mt lk rr hc hk hcl hst hn hrest hz (fun r h' q => by obtain ⟨x, rfl, p⟩ := q; exact kk x h' p)
theorem y_vJ (pc : Nat) {index n k ci N : Nat} {as : List m_V} {P : Int → m_H → Prop} (d : decode M.2.2.1 pc = .ok (.invokevirtual index, 3)) (mt : m_mV M' n) (lk : Cond.methodLink M.1 index M'.2.1 ∈ m_G) (rr : m_rr M M') (hc : m_CJ M' (mR k :: as) h P) (hk : oF[k]? = some (ci + 5, N)) (hcl : (vwCl[ci]?).map (fun q => q.1) = some M'.2.1.cls) (hst : as.reverse ++ mR k :: rest = st) (hn : as.length = n) (hrest : m_cs rest ≤ 8) (hz : (m_rm M').cells = 0 ∧ (m_rm M').slots = 0)
    (kk : ∀ (x : Int) (h' : m_H), P x h' → m_Y X oF M (pc + 3) ls (mJ x :: rest) h' Q) : m_Y X oF M pc ls st h Q := y_callV pc d mt lk rr hc hk hcl hst hn hrest hz (fun r h' q => by obtain ⟨x, rfl, p⟩ := q; exact kk x h' p)
theorem y_vV (pc : Nat) {index n k ci N : Nat} {as : List m_V} {P : m_H → Prop} (d : decode M.2.2.1 pc = .ok (.invokevirtual index, 3)) (mt : m_mV M' n) (lk : Cond.methodLink M.1 index M'.2.1 ∈ m_G) (rr : m_rr M M') (hc : m_CV M' (mR k :: as) h P) (hk : oF[k]? = some (ci + 5, N)) (hcl : (vwCl[ci]?).map (fun q => q.1) = some M'.2.1.cls) (hst : as.reverse ++ mR k :: rest = st) (hn : as.length = n) (hrest : m_cs rest ≤ 8) (hz : (m_rm M').cells = 0 ∧ (m_rm M').slots = 0)
    (kk : ∀ (h' : m_H), P h' → m_Y X oF M (pc + 3) ls rest h' Q) : m_Y X oF M pc ls st h Q := y_callV pc d mt lk rr hc hk hcl hst hn hrest hz (fun r h' q => by obtain ⟨rfl, p⟩ := q; exact kk h' p)
theorem y_sI (pc : Nat) {index n : Nat} {as : List m_V} {P : Int → m_H → Prop} (d : decode M.2.2.1 pc = .ok (.invokestatic index, 3)) (mt : m_mS M' n) (lk : Cond.methodLink M.1 index M'.2.1 ∈ m_G) (rr : m_rr M M') (hc : m_CI M' (as) h P) (hst : as.reverse ++ rest = st) (hn : as.length = n) (hrest : m_cs rest ≤ 8) (hz : (m_rm M').cells = 0 ∧ (m_rm M').slots = 0)
    (kk : ∀ (x : Int) (h' : m_H), P x h' → m_Y X oF M (pc + 3) ls (mI x :: rest) h' Q) : m_Y X oF M pc ls st h Q := y_callS pc d mt lk rr hc hst hn hrest hz (fun r h' q => by obtain ⟨x, rfl, p⟩ := q; exact kk x h' p)
theorem y_sV (pc : Nat) {index n : Nat} {as : List m_V} {P : m_H → Prop} (d : decode M.2.2.1 pc = .ok (.invokestatic index, 3)) (mt : m_mS M' n) (lk : Cond.methodLink M.1 index M'.2.1 ∈ m_G) (rr : m_rr M M') (hc : m_CV M' (as) h P) (hst : as.reverse ++ rest = st) (hn : as.length = n) (hrest : m_cs rest ≤ 8) (hz : (m_rm M').cells = 0 ∧ (m_rm M').slots = 0)
    (kk : ∀ (h' : m_H), P h' → m_Y X oF M (pc + 3) ls rest h' Q) : m_Y X oF M pc ls st h Q := y_callS pc d mt lk rr hc hst hn hrest hz (fun r h' q => by obtain ⟨rfl, p⟩ := q; exact kk h' p)
theorem y_iaddN (pc : Nat) {x y : Int} (d : decode M.2.2.1 pc = .ok (.iadd, 1)) (h1 : -2147483648 ≤ x + y) (h2 : x + y ≤ 2147483647) (k : m_Y X Ω M (pc + 1) ls (mI (x + y) :: st) h Q) : m_Y X Ω M pc ls (mI y :: mI x :: st) h Q := y_iadd pc d (by rw [m_w_id h1 h2]; exact k)
theorem y_isubN (pc : Nat) {x y : Int} (d : decode M.2.2.1 pc = .ok (.isub, 1)) (h1 : -2147483648 ≤ x - y) (h2 : x - y ≤ 2147483647) (k : m_Y X Ω M (pc + 1) ls (mI (x - y) :: st) h Q) : m_Y X Ω M pc ls (mI y :: mI x :: st) h Q := y_isub pc d (by rw [m_w_id h1 h2]; exact k)
theorem y_imulN (pc : Nat) {x y : Int} (d : decode M.2.2.1 pc = .ok (.imul, 1)) (h1 : -2147483648 ≤ x * y) (h2 : x * y ≤ 2147483647) (k : m_Y X Ω M (pc + 1) ls (mI (x * y) :: st) h Q) : m_Y X Ω M pc ls (mI y :: mI x :: st) h Q := y_imul pc d (by rw [m_w_id h1 h2]; exact k)
theorem y_iincN (pc : Nat) {n : Nat} {i x : Int} {ls' : List (Option m_V)} (d : decode M.2.2.1 pc = .ok (.iinc n i, 3)) (hn : n < M.2.2.2.1) (hl : ls[n]? = some (some (mI x))) (hi : m_32 i) (h1 : -2147483648 ≤ x + i) (h2 : x + i ≤ 2147483647) (e : m_st1 ls n (mI (x + i)) = ls') (k : m_Y X Ω M (pc + 3) ls' st h Q) : m_Y X Ω M pc ls st h Q := y_iinc pc d hn hl hi (by rw [m_w_id h1 h2]; exact e) k
theorem y_topI {pc : Nat} {x : Int} (k : ∀ y : Int, x = y → m_Y X Ω M pc ls (mI y :: st) h Q) : m_Y X Ω M pc ls (mI x :: st) h Q := k x rfl
theorem y_topBI {pc : Nat} {x lo hi : Int} (hb : lo ≤ x ∧ x ≤ hi) (k : ∀ y : Int, x = y → lo ≤ y → y ≤ hi → m_Y X Ω M pc ls (mI y :: st) h Q) : m_Y X Ω M pc ls (mI x :: st) h Q := k x rfl hb.1 hb.2
theorem y_topm {pc : Nat} {x : Int} (k : ∀ y : Int, x = y → m_32 y → m_Y X Ω M pc ls (mI y :: st) h Q) : m_Y X Ω M pc ls (mI x :: st) h Q := y_ok (fun o _ _ => k x rfl o.1)
theorem y_icmp_ge_T (pc : Nat) {x y off : Int} (d : decode M.2.2.1 pc = .ok (.if_icmp .ge off, 3)) (tgt : Nat) (ht : (pc : Int) + off = (tgt : Int)) (hc : y ≤ x) (k : m_Y X Ω M tgt ls st h Q) : m_Y X Ω M pc ls (mI y :: mI x :: st) h Q := y_icmp_ge pc d tgt ht (fun _ => k) (fun q => absurd hc (q))
theorem y_icmp_ge_F (pc : Nat) {x y off : Int} (d : decode M.2.2.1 pc = .ok (.if_icmp .ge off, 3)) (tgt : Nat) (ht : (pc : Int) + off = (tgt : Int)) (hc : ¬ y ≤ x) (k : m_Y X Ω M (pc + 3) ls st h Q) : m_Y X Ω M pc ls (mI y :: mI x :: st) h Q := y_icmp_ge pc d tgt ht (fun q => absurd q hc) (fun _ => k)
theorem y_icmp_gt_T (pc : Nat) {x y off : Int} (d : decode M.2.2.1 pc = .ok (.if_icmp .gt off, 3)) (tgt : Nat) (ht : (pc : Int) + off = (tgt : Int)) (hc : y < x) (k : m_Y X Ω M tgt ls st h Q) : m_Y X Ω M pc ls (mI y :: mI x :: st) h Q := y_icmp_gt pc d tgt ht (fun _ => k) (fun q => absurd hc (q))
theorem y_icmp_gt_F (pc : Nat) {x y off : Int} (d : decode M.2.2.1 pc = .ok (.if_icmp .gt off, 3)) (tgt : Nat) (ht : (pc : Int) + off = (tgt : Int)) (hc : ¬ y < x) (k : m_Y X Ω M (pc + 3) ls st h Q) : m_Y X Ω M pc ls (mI y :: mI x :: st) h Q := y_icmp_gt pc d tgt ht (fun q => absurd q hc) (fun _ => k)
theorem y_mask {M : m_M} {pc : Nat} {ls ls' : List (Option m_V)} {st : List m_V} {h : m_H} {Q : m_W → Option m_V → m_H → Prop} (mask : List Bool) (e : m_mask mask ls = ls') (k : m_Y X Ω M pc ls' st h Q) : m_Y X Ω M pc ls st h Q := by
  subst e
  exact y_sub (fun i v q => m_mask_at mask ls i v q) k
theorem y_ls {M : m_M} {pc : Nat} {ls ls' : List (Option m_V)} {st : List m_V} {h : m_H} {Q : m_W → Option m_V → m_H → Prop} (e : ls = ls') (k : m_Y X Ω M pc ls' st h Q) : m_Y X Ω M pc ls st h Q := by subst e; exact k

theorem y_maxI (pc : Nat) {index : Nat} {x y : Int} (d : decode M.2.2.1 pc = .ok (.invokestatic index, 3)) (lk : Cond.methodLink M.1 index Lib.Math.max.name ∈ m_G) (hf : 1 ≤ (m_rm M).frames) (hl : m_cs rest + 13 ≤ (m_rm M).locals) (k : m_Y X Ω M (pc + 3) ls (mI (if x < y then y else x) :: rest) h Q) : m_Y X Ω M pc ls (mI y :: mI x :: rest) h Q := by
  intro E p l e s m args below meth c QQ H locs lsR hX C Rt Rl L o b
  have hts := C.2.2.2.2.1
  refine va_mmax C.1 C.2.1 (by rw [L.1]; exact C.2.2.1) C.2.2.2.1 (hts _ lk) (hts _ mm_maxI_s) (hts _ mm_ini) (hts _ mm_maxI_c) hf (by rw [m_csE]; exact hl) b.2.1 b.2.2 d ?_
  have e1 : (if Int32.ofInt x < Int32.ofInt y then Int32.ofInt y else Int32.ofInt x) = Int32.ofInt (if x < y then y else x) := by
    have hxy := m_lt32 (x := x) (y := y) o.2.1 o.1
    have hyx := m_lt32 (x := y) (y := x) o.1 o.2.1
    by_cases q : x < y
    · have q2 : ¬ y < x := by omega
      simp [q, q2, hxy, hyx]
    · by_cases q2 : y < x
      · simp [q, q2, hxy, hyx]
      · have : x = y := by omega
        subst this; simp
  rw [e1]
  exact k E p l e s m args below meth c QQ H locs lsR hX C Rt Rl L ⟨by show m_32 _; have h1 : m_32 x := o.2.1; have h2 : m_32 y := o.1; split <;> assumption, o.2.2⟩ b
end YR
/-! ===== a world that grows ===== -/
def m_nw (h : m_H) (n : Nat) (q : Nat × Nat) : m_H := fun a b => if a = n then (if m_sk q.1 b = 3 then -1 else 0) else h a b
theorem m_nw_at {h h' : m_H} {n : Nat} {q : Nat × Nat} (E : h' = m_nw h n q) (j : Nat) : h' n j = if m_sk q.1 j = 3 then -1 else 0 := by rw [E]; simp [m_nw]
theorem m_nw_ne {h h' : m_H} {n : Nat} {q : Nat × Nat} (E : h' = m_nw h n q) {a : Nat} (ha : a ≠ n) : h' a = h a := by funext b; rw [E]; simp [m_nw, ha]
theorem m_nw_up {h h' : m_H} {n k j : Nat} {q : Nat × Nat} {v : Int} (E : h' = m_nw h n q) (e : h k j = v) (hk : k < n) : h' k j = v := by rw [m_nw_ne E (by omega)]; exact e
theorem m_wl_app {E : m_E} {Ω : m_W} {q : Nat × Nat} {h h' : m_H} (e : ∀ k, k < Ω.length → h' k = h k) : m_wl E (Ω ++ [q]) h' = m_wl E Ω h ++ [(E.1.1 + Ω.length, m_el E q (h' Ω.length))] := by
  apply List.ext_getElem?
  intro i
  have hl : (m_wl E Ω h).length = Ω.length := by simp [m_wl]
  by_cases hi : i < Ω.length
  · rw [List.getElem?_append_left (by rw [hl]; exact hi)]
    unfold m_wl
    rw [List.getElem?_mapIdx, List.getElem?_mapIdx, List.getElem?_append_left hi]
    cases hq : Ω[i]? with
    | none => rfl
    | some z => simp only [Option.map_some]; rw [e i hi]
  · by_cases hi2 : i = Ω.length
    · subst hi2
      rw [List.getElem?_append_right (by rw [hl]; exact Nat.le_refl _), hl, Nat.sub_self]
      unfold m_wl
      rw [List.getElem?_mapIdx, List.getElem?_append_right (Nat.le_refl _), Nat.sub_self]
      rfl
    · rw [List.getElem?_eq_none (by simp [m_wl]; omega), List.getElem?_eq_none (by rw [List.length_append, hl]; simp; omega)]
theorem m_sz_app (Ω : m_W) (q : Nat × Nat) : m_sz (Ω ++ [q]) = m_sz Ω + q.2 := by simp [m_sz]
theorem m_rg_0 (t : Nat) : m_rg t (if t = 3 then -1 else 0) := by
  unfold m_rg m_64 m_32
  by_cases h1 : t = 1
  · subst h1; simp
  · by_cases h3 : t = 3
    · subst h3; simp
    · simp [h1, h3]
theorem m_rel_app {E : m_E} {Ω : m_W} {q : Nat × Nat} {h : m_H} {s : State} {H H1 : Heap} {locs : List Loc} (Rl : m_Rel E Ω h s H locs) (hc : va_at E.2.2 vwCl (E.1.1 + Ω.length, m_el E q (m_nw h Ω.length q Ω.length)) H1) (z1 : H1.size = H.size + 1) (o1 : ∀ a : Nat, a < H.size → H1[a]? = H[a]?) : m_Rel E (Ω ++ [q]) (m_nw h Ω.length q) s H1 locs := by
  have e0 : ∀ k, k < Ω.length → m_nw h Ω.length q k = h k := fun k hk => m_nw_ne rfl (by omega)
  refine ⟨by rw [z1, Rl.1, List.length_append]; rfl, ?_, ⟨Nat.le_trans Rl.2.2.1.1 (by omega), fun x h1 h2 => (o1 x (Nat.lt_of_lt_of_le h1 Rl.2.2.1.1)).trans (Rl.2.2.1.2.1 x h1 h2), Rl.2.2.1.2.2⟩, ?_⟩
  · rw [m_wl_app e0]
    refine (Rl.2.1.kept (fun k x hx => o1 x.1 ((Rl.2.1 k x hx).lt))).app (fun k x hx => ?_)
    have hz : k < 1 := (List.getElem?_eq_some_iff.mp hx).1
    rw [show k = 0 by omega] at hx
    cases hx
    exact hc
  · intro a p ha b
    by_cases hi : a < Ω.length
    · rw [List.getElem?_append_left hi] at ha
      rw [e0 a hi]; exact Rl.2.2.2 a p ha b
    · rw [List.getElem?_append_right (by omega)] at ha
      have hz : a - Ω.length < 1 := (List.getElem?_eq_some_iff.mp ha).1
      have e1 : a = Ω.length := by omega
      subst e1
      rw [Nat.sub_self] at ha
      cases ha
      rw [m_nw_at rfl]; exact m_rg_0 _
theorem m_grow {Ω : m_W} {q : Nat × Nat} {M : m_M} (b : m_b Ω M) (hb : m_b (Ω ++ [q]) M) : ((Ω ++ [q]).length - m_k0 M = Ω.length - m_k0 M + 1 ∧ m_sz (Ω ++ [q]) - m_s0 M = m_sz Ω - m_s0 M + q.2) ∧ Ω.length - m_k0 M + 1 ≤ (m_rm M).cells ∧ m_sz Ω - m_s0 M + q.2 ≤ (m_rm M).slots := by
  unfold m_b at b hb
  rw [m_sz_app, List.length_append] at hb
  rw [m_sz_app, List.length_append]
  simp only [List.length_cons, List.length_nil] at hb ⊢
  omega
/-- class C (number ci, N fields) can be made, as class own's entry index names it -/
def m_okt : FieldType → Bool
  | .int => true | .long => true | .boolean => true | .object _ => true | .array _ => true | _ => false
def m_nf (own : String) (index ci N : Nat) : Prop := ∃ (C : String) (T : u_T), m_cf ci C T N ∧ (Cond.classLink own index C ∈ m_G ∧ Cond.instantiable C N ∈ m_G ∧ Cond.initialized C ∈ m_G) ∧ ∀ j, j < N → m_okt (m_ty ci j) = true
theorem m_dv {E : m_E} {ty : FieldType} (h : m_okt ty = true) : defaultValue ty = m_sv E (m_tk ty) (if m_tk ty = 3 then -1 else 0) := by
  cases ty <;> first | rfl | cases h
section YG
variable {X : m_E → Method → State → Prop} {Ω Ω' : m_W} {M M' : m_M} {ls : List (Option m_V)} {st rest : List m_V} {h h0 : m_H} {Q : m_W → Option m_V → m_H → Prop} {Q' : Option m_V → m_H → Prop}
theorem y_new (pc : Nat) {index ci N n : Nat} (d : decode M.2.2.1 pc = .ok (.new index, 3)) (f : m_nf M.1 index ci N) (hΩ : Ω' = Ω ++ [(ci + 5, N)]) (hn : Ω.length = n) (hb : m_b Ω' M) (k : ∀ h', h' = m_nw h n (ci + 5, N) → m_Y X Ω' M (pc + 3) ls (mR n :: st) h' Q) : m_Y X Ω M pc ls st h Q := by
  subst hΩ; subst hn
  intro E p l e s m args below meth c QQ H locs lsR hX C Rt Rl L o b
  obtain ⟨Cn, T, ⟨c1, c2, c3, c4⟩, ⟨w1, w2, w3⟩, hty⟩ := f
  have hts := C.2.2.2.2.1
  have hKn := C.2.2.2.2.2.1.1 ci _ c1
  obtain ⟨⟨g1, g2⟩, g3, g4⟩ := m_grow b hb
  refine W.newcK C.1 C.2.1 C.2.2.2.1 (hts _ w1) (hts _ w2) (hts _ w3) rfl d g3 g4 hKn.2.1 rfl fun H1 kC hkC e1 z1 o1 => ?_
  have hc : va_at E.2.2 vwCl (E.1.1 + Ω.length, m_el E (ci + 5, N) (m_nw h Ω.length (ci + 5, N) Ω.length)) H1 := by
    show va_at E.2.2 vwCl (E.1.1 + Ω.length, .inr (ci, (List.range N).map (fun j => m_sv E (m_tk (m_ty ci j)) (m_nw h Ω.length (ci + 5, N) Ω.length j)))) H1
    rw [← Rl.1]
    refine ⟨_, c1, (u_born (m_ty ci) hts c2 hKn hkC e1 c3).to (fun j hj => ?_)⟩
    show _ = List.getD _ j Value.null
    rw [List.getD_eq_getElem?_getD, m_fs_at hj, m_dv (E := E) (hty j hj)]
    rw [m_nw_at rfl]
    rfl
  have key := k _ rfl E p l e s m args below meth c QQ H1 locs lsR hX C Rt (m_rel_app Rl hc z1 o1) L ⟨trivial, o⟩ hb
  rw [g1, g2] at key
  rw [Rl.1]
  exact key
theorem m_ar {E : m_E} {s : State} {cA : ClassId} {t : Nat} {ty : FieldType} (hK : va_K E.2.2 vwCl (m_tys E) s) (ht : (m_tys E)[t]? = some (E.2.1 t, ty)) (hp : va_RA s (E.2.1 t) ty = (s.vm.findClass ("[" ++ ty.toString) = some (E.2.1 t))) (h : s.vm.findClass ("[" ++ ty.toString) = some cA) : cA = E.2.1 t := by
  have h1 := (hK.2 t _ ht).2
  rw [hp] at h1
  exact Option.some.inj (h.symm.trans h1)
theorem m_N32 {N : Nat} (hN : N ≤ 1000) : ¬ Int32.ofInt (N : Int) < 0 ∧ (Int32.ofInt (N : Int)).toNatClampNeg = N := by
  have h1 : m_32 (N : Int) := by unfold m_32; omega
  refine ⟨fun q => ?_, ?_⟩
  · have h2 := (m_lt32 h1 m_320).mp q
    omega
  · rw [m_cn h1]; omega
theorem y_newaI (pc : Nat) {N n : Nat} (d : decode M.2.2.1 pc = .ok (.newarray .int, 2)) (w : Cond.arrayClass .int ∈ m_G) (hN : N ≤ 1000) (hΩ : Ω' = Ω ++ [(0, N)]) (hn : Ω.length = n) (hb : m_b Ω' M) (k : ∀ h', h' = m_nw h n (0, N) → m_Y X Ω' M (pc + 2) ls (mR n :: st) h' Q) : m_Y X Ω M pc ls (mI N :: st) h Q := by
  subst hΩ; subst hn
  intro E p l e s m args below meth c QQ H locs lsR hX C Rt Rl L o b
  obtain ⟨⟨g1, g2⟩, g3, g4⟩ := m_grow b hb
  obtain ⟨n1, n2⟩ := m_N32 hN
  refine va_newaK (atype := .int) C.1 C.2.1 (C.2.2.2.2.1 _ w) rfl d rfl n1 n2 (by show N * 4 ≤ _; omega) g3 g4 rfl fun H1 cA e1 z1 o1 hAr hNm => ?_
  have hcA : cA = E.2.1 0 := m_ar (t := 0) (ty := .int) C.2.2.2.2.2.1 rfl rfl hNm
  subst hcA
  have hc : va_at E.2.2 vwCl (E.1.1 + Ω.length, m_el E (0, N) (m_nw h Ω.length (0, N) Ω.length)) H1 := by
    show H1[E.1.1 + Ω.length]? = some (arrV (E.2.1 0) N (fun j => .int (Int32.ofInt (m_nw h Ω.length (0, N) Ω.length j))))
    rw [← Rl.1, e1]
    congr 2
    funext j
    rw [m_nw_at rfl]
    rfl
  have key := k _ rfl E p l e s m args below meth c QQ H1 locs lsR hX C Rt (m_rel_app Rl hc z1 o1) L ⟨trivial, o.2⟩ hb
  rw [g1, g2] at key
  rw [Rl.1]
  exact key
theorem y_newaJ (pc : Nat) {N n : Nat} (d : decode M.2.2.1 pc = .ok (.newarray .long, 2)) (w : Cond.arrayClass .long ∈ m_G) (hN : N ≤ 1000) (hΩ : Ω' = Ω ++ [(1, N)]) (hn : Ω.length = n) (hb : m_b Ω' M) (k : ∀ h', h' = m_nw h n (1, N) → m_Y X Ω' M (pc + 2) ls (mR n :: st) h' Q) : m_Y X Ω M pc ls (mI N :: st) h Q := by
  subst hΩ; subst hn
  intro E p l e s m args below meth c QQ H locs lsR hX C Rt Rl L o b
  obtain ⟨⟨g1, g2⟩, g3, g4⟩ := m_grow b hb
  obtain ⟨n1, n2⟩ := m_N32 hN
  refine va_newaK (atype := .long) C.1 C.2.1 (C.2.2.2.2.1 _ w) rfl d rfl n1 n2 (by show N * 8 ≤ _; omega) g3 g4 rfl fun H1 cA e1 z1 o1 hAr hNm => ?_
  have hcA : cA = E.2.1 1 := m_ar (t := 1) (ty := .long) C.2.2.2.2.2.1 rfl rfl hNm
  subst hcA
  have hc : va_at E.2.2 vwCl (E.1.1 + Ω.length, m_el E (1, N) (m_nw h Ω.length (1, N) Ω.length)) H1 := by
    show H1[E.1.1 + Ω.length]? = some (arrV (E.2.1 1) N (fun j => .long (Int64.ofInt (m_nw h Ω.length (1, N) Ω.length j))))
    rw [← Rl.1, e1]
    congr 2
    funext j
    rw [m_nw_at rfl]
    rfl
  have key := k _ rfl E p l e s m args below meth c QQ H1 locs lsR hX C Rt (m_rel_app Rl hc z1 o1) L ⟨trivial, o.2⟩ hb
  rw [g1, g2] at key
  rw [Rl.1]
  exact key
theorem y_newaZ (pc : Nat) {N n : Nat} (d : decode M.2.2.1 pc = .ok (.newarray .boolean, 2)) (w : Cond.arrayClass .boolean ∈ m_G) (hN : N ≤ 1000) (hΩ : Ω' = Ω ++ [(2, N)]) (hn : Ω.length = n) (hb : m_b Ω' M) (k : ∀ h', h' = m_nw h n (2, N) → m_Y X Ω' M (pc + 2) ls (mR n :: st) h' Q) : m_Y X Ω M pc ls (mI N :: st) h Q := by
  subst hΩ; subst hn
  intro E p l e s m args below meth c QQ H locs lsR hX C Rt Rl L o b
  obtain ⟨⟨g1, g2⟩, g3, g4⟩ := m_grow b hb
  obtain ⟨n1, n2⟩ := m_N32 hN
  refine va_newaK (atype := .boolean) C.1 C.2.1 (C.2.2.2.2.1 _ w) rfl d rfl n1 n2 (by show N * 1 ≤ _; omega) g3 g4 rfl fun H1 cA e1 z1 o1 hAr hNm => ?_
  have hcA : cA = E.2.1 2 := m_ar (t := 2) (ty := .boolean) C.2.2.2.2.2.1 rfl rfl hNm
  subst hcA
  have hc : va_at E.2.2 vwCl (E.1.1 + Ω.length, m_el E (2, N) (m_nw h Ω.length (2, N) Ω.length)) H1 := by
    show H1[E.1.1 + Ω.length]? = some (arrV (E.2.1 2) N (fun j => .int (Int32.ofInt (m_nw h Ω.length (2, N) Ω.length j))))
    rw [← Rl.1, e1]
    congr 2
    funext j
    rw [m_nw_at rfl]
    rfl
  have key := k _ rfl E p l e s m args below meth c QQ H1 locs lsR hX C Rt (m_rel_app Rl hc z1 o1) L ⟨trivial, o.2⟩ hb
  rw [g1, g2] at key
  rw [Rl.1]
  exact key
theorem m_ao {E : m_E} {s : State} {cA comp : ClassId} {kA : Class} {t : Nat} {C : String} (hK : va_K E.2.2 vwCl (m_tys E) s) (ht : (m_tys E)[t]? = some (E.2.1 t, .object C)) (f1 : s.vm.findClass ("[" ++ (FieldType.object C).toString) = some cA) : cA = E.2.1 t := by
  obtain ⟨kA, comp, k1, k2, k3, k4⟩ := (hK.2 t _ ht).2
  exact Option.some.inj (f1.symm.trans k4)
theorem y_newq (pc : Nat) {index N n t : Nat} {Cn : String} (d : decode M.2.2.1 pc = .ok (.anewarray index, 3)) (w : Cond.classLink M.1 index Cn ∈ m_G) (hN : N ≤ 1000) (ht : (t = 3 ∧ Cn = "WeekFoot$Bound") ∨ (t = 4 ∧ Cn = "WeekFoot$Ledger")) (hXA : ∀ E meth s, X E meth s → va_AO Cn s) (hΩ : Ω' = Ω ++ [(t, N)]) (hn : Ω.length = n) (hb : m_b Ω' M) (k : ∀ h', h' = m_nw h n (t, N) → m_Y X Ω' M (pc + 3) ls (mR n :: st) h' Q) : m_Y X Ω M pc ls (mI N :: st) h Q := by
  subst hΩ; subst hn
  intro E p l e s m args below meth c QQ H locs lsR hX C Rt Rl L o b
  obtain ⟨⟨g1, g2⟩, g3, g4⟩ := m_grow b hb
  obtain ⟨n1, n2⟩ := m_N32 hN
  refine W.anew C.1 C.2.1 C.2.2.2.1 (C.2.2.2.2.1 _ w) (va_AO.use (hXA E meth s hX)) rfl d rfl n1 (by rw [n2]; omega) g3 (by rw [n2]; exact g4) fun cA kA comp f1 f2 f3 f4 => ?_
  rw [n2]
  generalize hH1 : H.push ({ cls := cA, slots := Array.replicate N .null, vm := .none } : Cell) = H1
  have z1 : H1.size = H.size + 1 := by rw [← hH1, Array.size_push]
  have e1 : H1[H.size]? = some (arrV cA N (fun _ => .null)) := by rw [← hH1, Array.getElem?_push_size, ← arrV_new]
  have o1 : ∀ q : Nat, q < H.size → H1[q]? = H[q]? := fun q hq => by rw [← hH1, Array.getElem?_push, if_neg (Nat.ne_of_lt hq)]
  have hcA : cA = E.2.1 t := by
    rcases ht with ⟨rfl, rfl⟩ | ⟨rfl, rfl⟩
    · exact m_ao (comp := comp) (kA := kA) C.2.2.2.2.2.1 rfl f1
    · exact m_ao (comp := comp) (kA := kA) C.2.2.2.2.2.1 rfl f1
  have hc : va_at E.2.2 vwCl (E.1.1 + Ω.length, m_el E (t, N) (m_nw h Ω.length (t, N) Ω.length)) H1 := by
    rcases ht with ⟨rfl, rfl⟩ | ⟨rfl, rfl⟩
    · show H1[E.1.1 + Ω.length]? = some (arrV (E.2.1 3) N (fun j => va_rf (if m_nw h Ω.length (3, N) Ω.length j < 0 then none else some (E.1.1 + (m_nw h Ω.length (3, N) Ω.length j).toNat))))
      rw [← Rl.1, e1, hcA]
      congr 2
      funext j
      rw [m_nw_at rfl]
      rfl
    · show H1[E.1.1 + Ω.length]? = some (arrV (E.2.1 4) N (fun j => va_rf (if m_nw h Ω.length (4, N) Ω.length j < 0 then none else some (E.1.1 + (m_nw h Ω.length (4, N) Ω.length j).toNat))))
      rw [← Rl.1, e1, hcA]
      congr 2
      funext j
      rw [m_nw_at rfl]
      rfl
  have key := k _ rfl E p l e s m args below meth c QQ H1 locs lsR hX C Rt (m_rel_app Rl hc z1 o1) L ⟨trivial, o.2⟩ hb
  rw [g1, g2] at key
  rw [Rl.1]
  exact key
/-- a final field of a reference, in its own class's constructor -/
def m_ff (own : String) (index ci N j : Nat) : Prop := ∃ (C : String) (T : u_T), m_cf ci C T N ∧ j < N ∧ Cond.fieldLink own index (T j).1 (T j).2.1 (T j).2.2.1 ∈ m_G ∧ (T j).2.2.2 = true ∧ (T j).1 = own
theorem y_putF (pc : Nat) {index ci N j k t : Nat} (d : decode M.2.2.1 pc = .ok (.putfield index, 3)) (f : m_ff M.1 index ci N j) (hk : Ω[k]? = some (ci + 5, N)) (hXN : ∀ E meth s, X E meth s → meth.name = "<init>") (ht : m_tk (m_ty ci j) = 3) (hn : ∀ q : Nat, narrow (m_ty ci j) (.ref q) = .ref q ∧ fits (m_ty ci j) (.ref q) = true) (kk : ∀ h', h' = m_up h k j (t : Int) → m_Y X Ω M (pc + 3) ls st h' Q) : m_Y X Ω M pc ls (mR t :: mR k :: st) h Q := by
  intro E p l e s m args below meth c QQ H locs lsR hX C Rt Rl L o b
  obtain ⟨Cn, T, ⟨c1, c2, c3, c4⟩, hj, hl, hfin, hdecl⟩ := f
  have hts := C.2.2.2.2.1
  have hap := va_apart (own := M.1) hts c2 (m_ty ci) c3 c4 C.2.2.2.2.2.1 c1
  obtain ⟨r, h1, cell, q1, q2, q3, q4⟩ := Rl.2.1 k _ (m_wl_at hk)
  have hr : r = (Cn, T, N) := Option.some.inj (h1.symm.trans c1)
  subst hr
  obtain ⟨hS, hfc, kC, hkC, hkind⟩ := C.2.2.2.2.2.1.1 ci _ c1
  obtain ⟨cf, kf, fi, fd, hi, hsl⟩ := hS j hj
  have hlay := hts _ (c2 _ (u_in_lay hj))
  unfold u_lay at hlay
  rw [if_pos hfin] at hlay
  have hst := (u_facts hfc hkC (u_lays hts c2 hj) hi).1
  have hcf : m.cls = cf := by
    obtain ⟨_, _, c', _, _, _, -, -, hf', -, -, -, hown2, -⟩ := Cond.laysFinal_spec hlay
    have e1 : c' = cf := by have := hi.symm.trans hf'; simp at this; exact this.1.symm
    rw [hdecl] at hown2
    rw [← e1]; exact Option.some.inj (C.2.2.2.1.symm.trans hown2)
  have h6 := u_fits hfc hkC hkind (Or.inr hlay) hi (c3 j hj) (hn (E.1.1 + t)).1 (hn (E.1.1 + t)).2
  have e0 : m_sv E (m_tk (m_ty ci j)) (t : Int) = .ref (E.1.1 + t) := by rw [ht]; simp [m_sv, m_rv]
  refine W.putFinK C.1 C.2.1 C.2.2.2.1 (hts _ hl) hi hst hcf (hXN E meth s hX) (by rw [q2]; exact h6) q1 q3 (by rw [hsl]; exact k2_hasslot (q4 j hj)) rfl rfl d fun H' e1 e2 e3 => ?_
  have hx : m_rg (m_sk (ci + 5, N).1 j) (t : Int) := by show m_rg (m_tk (m_ty ci j)) _; rw [ht]; simp [m_rg]
  refine kk _ rfl E p l e s m args below meth c QQ H' _ lsR hX C Rt (m_rel_set Rl hk hx ?_ e2 e3) L o.2.2 b
  rw [hsl] at e1
  show va_at E.2.2 vwCl (E.1.1 + k, .inr (ci, (List.range N).map (fun i => m_sv E (m_tk (m_ty ci i)) (m_up h k j (t : Int) k i)))) H'
  rw [← m_fs_set hj, e0]
  exact ⟨_, c1, t_OB.to (V := updV (vp_V _) j _) ⟨_, e1, q2, q3, t_set q4 hap hj _⟩ (fun i _ => vp_updV_set (by simpa using hj) _ i)⟩
theorem y_aast (pc : Nat) {k n a v ci N : Nat} {r : vw_C} {i : Int} (d : decode M.2.2.1 pc = .ok (.aastore, 1)) (ht : (k = 3 ∧ r.1 = "WeekFoot$Bound") ∨ (k = 4 ∧ r.1 = "WeekFoot$Ledger")) (hk : Ω[a]? = some (k, n)) (hv : Ω[v]? = some (ci + 5, N)) (hc : vwCl[ci]? = some r) (h0' : 0 ≤ i) (h1 : i < n) (kk : ∀ h', h' = m_up h a i.toNat (v : Int) → m_Y X Ω M (pc + 1) ls st h' Q) : m_Y X Ω M pc ls (mR v :: mI i :: mR a :: st) h Q := by
  intro E p l e s m args below meth c QQ H locs lsR hX C Rt Rl L o b
  have hin := m_ix o.2.1 h0' h1
  have hlt : (Int32.ofInt i).toNatClampNeg < n := Nat.not_le.mp fun q => hin (Or.inr q)
  have hn0 : ¬ Int32.ofInt i < 0 := fun q => hin (Or.inl q)
  have main : ∀ (f : Nat → Option Nat), (m_wl E Ω h)[a]? = some (E.1.1 + a, .inl (E.2.1 k, n, .inr (.inr (.inr (.inr f))))) → (m_tys E)[k]? = some (E.2.1 k, .object r.1) → (∀ H1 : Heap, H1[E.1.1 + a]? = some (arrV (E.2.1 k) n (fun j => va_rf (va_up f i.toNat (some (E.1.1 + v)) j))) → va_at E.2.2 vwCl (E.1.1 + a, m_el E (k, n) (m_up h a i.toNat (v : Int) a)) H1) → W p l e (m_rm M) s m args below meth c H locs (Ω.length - m_k0 M) (m_sz Ω - m_s0 M) QQ (F0 m pc lsR ((mR v :: mI i :: mR a :: st).map (m_v E))) := by
    intro f ha ht2 hfin
    obtain ⟨r', hr', cellV, g1, g2, g3, -⟩ := Rl.2.1 v _ (m_wl_at hv)
    have hcls := (C.2.2.2.2.2.1.1 ci r hc).2
    obtain ⟨kA, comp, k1, k2, k3, -⟩ := (C.2.2.2.2.2.1.2 k _ ht2).2
    have hcomp : comp = E.2.2.1 ci := Option.some.inj (k3.symm.trans hcls.1)
    subst hcomp
    obtain ⟨kC, hkC, -⟩ := hcls.2
    refine W.aast C.1 C.2.1 (Rl.2.1 a _ ha) (fun q h => by cases h) (fun h => by cases h) k1 k2 rfl hkC ⟨hn0, by show _ < (arrV _ _ _).slots.size; rw [arrV_size]; exact hlt⟩ g1 (fun q h => by rw [g3] at h; cases h) (by rw [g2]; exact hkC) (by rw [g2]; exact va_assign hcls) rfl rfl d fun H1 e z oq => ?_
    have hx : m_rg (m_sk (k, n).1 i.toNat) (v : Int) := by
      rcases ht with ⟨rfl, -⟩ | ⟨rfl, -⟩ <;> exact trivial
    refine kk _ rfl E p l _ s m args below meth c QQ H1 _ lsR hX C Rt (m_rel_set Rl hk hx (hfin H1 ?_) z oq) L o.2.2.2 b
    rw [e]
    show some ((vp_cell _ _).setSlot _ _) = _
    rw [vp_cell_q, arrV_store, m_cn o.2.1]
    congr 2
    funext q
    by_cases hq : q = i.toNat
    · subst hq
      simp [updV, va_up, va_rf]
    · simp [updV, va_up, hq]
  have up : ∀ q, (if m_up h a i.toNat (v : Int) a q < 0 then none else some (E.1.1 + (m_up h a i.toNat (v : Int) a q).toNat)) = va_up (fun j => if h a j < 0 then none else some (E.1.1 + (h a j).toNat)) i.toNat (some (E.1.1 + v)) q := by
    intro q
    by_cases hq : q = i.toNat
    · subst hq
      rw [m_up_eq]
      simp [va_up]
    · rw [m_up_ne (fun z => hq z.2)]
      simp [va_up, hq]
  rcases ht with ⟨rfl, hr⟩ | ⟨rfl, hr⟩
  · refine main _ (m_wl_at hk) (by rw [hr]; rfl) (fun H1 e => ?_)
    show H1[E.1.1 + a]? = some (arrV (E.2.1 3) n (fun j => va_rf (if m_up h a i.toNat (v : Int) a j < 0 then none else some (E.1.1 + (m_up h a i.toNat (v : Int) a j).toNat))))
    rw [e]
    congr 2
    funext q
    rw [up]
  · refine main _ (m_wl_at hk) (by rw [hr]; rfl) (fun H1 e => ?_)
    show H1[E.1.1 + a]? = some (arrV (E.2.1 4) n (fun j => va_rf (if m_up h a i.toNat (v : Int) a j < 0 then none else some (E.1.1 + (m_up h a i.toNat (v : Int) a j).toNat))))
    rw [e]
    congr 2
    funext q
    rw [up]
theorem y_objI (pc : Nat) {index k : Nat} (d : decode M.2.2.1 pc = .ok (.invokespecial index, 3)) (w1 : Cond.methodLink M.1 index Lib.objectInit ∈ m_G) (w2 : Cond.instanceMethod Lib.objectInit ∈ m_G) (w3 : Cond.code Lib.objectInit ⟨#[0xb1]⟩ 1 none ∈ m_G) (hf : 1 ≤ (m_rm M).frames) (hl : m_cs st + 12 ≤ (m_rm M).locals) (kk : m_Y X Ω M (pc + 3) ls st h Q) : m_Y X Ω M pc ls (mR k :: st) h Q := by
  intro E p l e s m args below meth c QQ H locs lsR hX C Rt Rl L o b
  have hts := C.2.2.2.2.1
  have hc : (st.map (fun v => if m_isL v then 2 else 1)).sum = ((st.map (m_v E)).map fun v => v.category).sum := by
    rw [List.map_map]
    congr 2
    funext v
    exact (m_cat E v).symm
  refine W.objInit C.1 C.2.1 C.2.2.2.1 (hts _ w1) (hts _ w2) (hts _ w3) rfl (by rw [C.2.2.1]; exact L.1) rfl d hf ?_ ?_
  · show 0 + _ + 12 ≤ _
    unfold m_cs at hl
    rw [Nat.zero_add, ← hc]; exact hl
  · exact kk E p l e s m args below meth c QQ H locs lsR hX C Rt Rl L o.2 b
end YG
/-! ===== contracts of constructors ===== -/
def xI (nm : String) : m_E → Method → State → Prop := fun _ meth s => meth.name = nm ∧ va_AO "WeekFoot$Bound" s ∧ va_AO "WeekFoot$Ledger" s
def m_PreD (E : m_E) (Ω : m_W) (h : m_H) (U : State) : Prop := m_Pre E Ω h U ∧ va_AO "WeekFoot$Bound" U ∧ va_AO "WeekFoot$Ledger" U
def m_D (M : m_M) (Ω Ω' : m_W) (as : List m_V) (h : m_H) (Q : Option m_V → m_H → Prop) : Prop :=
  ∀ (l : Launch) (E : m_E), m_hok Ω h → m_oks as → Met l M.2.1 (m_ws M) (m_rm M) (va_Pc (as.map (m_v E)) (m_PreD E Ω h)) (m_Post E Ω' Q) (m_rm M).cells (m_rm M).slots (fun q => E.1.1 ≤ q)
theorem m_D_of {M : m_M} {Ω Ω' : m_W} {as : List m_V} {h : m_H} {Q : Option m_V → m_H → Prop} (hy : plainName M.2.1.cls = true) (hown : M.1 = M.2.1.cls) (hl : (m_arg as).length ≤ M.2.2.2.1) (hb : m_b Ω M) (hk0 : m_k0 M = Ω.length ∧ m_s0 M = m_sz Ω) (hrm : Ω'.length - Ω.length = (m_rm M).cells ∧ m_sz Ω' - m_sz Ω = (m_rm M).slots)
    {ls : List (Option m_V)} (hls : m_loc as M.2.2.2.1 = ls) (z : m_Y (xI M.2.1.name) Ω M 0 ls [] h (fun w r h' => w = Ω' ∧ Q r h')) : m_D M Ω Ω' as h Q := by
  subst hls
  intro l E hok has
  refine Met.ofW (cc := M.2.2.1) (maxL := M.2.2.2.1) (ret := M.2.2.2.2.1) hy rfl ?_
  intro p e s m args below meth c s₁ B hml hv
  obtain ⟨rfl, ⟨hsz, hP, hK, hN, hStr⟩, hA1, hA2⟩ := hv
  have hts := atoms_spec (ws := m_ws M) B.pre
  have hown' : s.vm.findClass M.1 = some m.cls := by rw [hown]; exact findClass_of_methodNamed B.named
  have hlk := B.notSynchronized
  have hle : (lg_sl (as.map (m_v E))).length ≤ M.2.2.2.1 := by rw [m_arg_len]; exact hl
  have hl0 := lv_entry (as.map (m_v E)) (n := M.2.2.2.1) hle
  rw [lg_entry_eq]
  generalize (lg_sl (as.map (m_v E)) ++ List.replicate (M.2.2.2.1 - (lg_sl (as.map (m_v E))).length) Slot.unset).toArray = lsR at hl0 ⊢
  have key := z E p l e s m (as.map (m_v E)).toArray below meth c (MQ below (m_Post E Ω' Q) (as.map (m_v E)).toArray s (m_rm M).cells (m_rm M).slots (fun q => E.1.1 ≤ q)) s.heap [] lsR
    ⟨(name_of_methodNamed B.named B.method).1, hA1, hA2⟩ ⟨B.exec, B.bytes, hml, hown', fun w hw => hts w (List.mem_cons_of_mem _ hw), hK, hN, hStr, by rw [hsz]; exact Nat.le_add_right _ _⟩ ?_ ⟨hsz, hP, va_S.rf, hok⟩ ⟨hl0.1, hl0.2.1, fun i v q => ?_⟩ trivial hb
  · rw [hk0.1, hk0.2, Nat.sub_self, Nat.sub_self] at key
    exact key
  · intro Ω2 r h2 H2 locs2 pc ls i hq hr Rl d hi
    obtain ⟨rfl, hq⟩ := hq
    have e1 : Ω2.length - m_k0 M = (m_rm M).cells := by rw [hk0.1]; exact hrm.1
    have e2 : m_sz Ω2 - m_s0 M = (m_rm M).slots := by rw [hk0.2]; exact hrm.2
    rw [e1, e2]
    have hfin : ∀ t : State, t.heap = H2 → s.WarmedH t.vm → m_Post E Ω2 Q (as.map (m_v E)).toArray s (.returned (r.map (m_v E))) t := fun t ht _ =>
      ⟨⟨r, h2, rfl, hq, Rl.2.2.2, hr, by rw [ht]; exact Rl.1, by rw [ht]; exact Rl.2.1⟩, Rl.2.2.1.F ht⟩
    have hret := B.returns
    rcases hi with ⟨g1, g2, g3⟩ | ⟨x, g1, g2, g3⟩ | ⟨x, g1, g2, g3, g4⟩ | ⟨x, g1, g2, g3⟩ | ⟨k, g1, g2, g3⟩ | ⟨x, ty, g1, g2, g3, g4⟩
    · subst g2; subst g3
      exact W.vret B.exec B.bytes (hret.trans g1) hfin Rl.2.2.1.2.2 d
    · subst g2; subst g3
      exact W.iret B.exec B.bytes (hret.trans g1) hfin Rl.2.2.1.2.2 d
    · subst g2; subst g3
      exact W.zret B.exec B.bytes (hret.trans g1) (by rcases g4 with rfl | rfl <;> rfl) hfin Rl.2.2.1.2.2 d
    · subst g2; subst g3
      exact W.lret B.exec B.bytes (hret.trans g1) hfin Rl.2.2.1.2.2 d
    · subst g2; subst g3
      exact W.aret B.exec B.bytes (hret.trans g1) (Or.inr ⟨_, rfl⟩) (Or.inr ⟨_, rfl⟩) hfin Rl.2.2.1.2.2 d
    · subst g2; subst g3
      exact W.zret B.exec B.bytes (hret.trans g1) g4 hfin Rl.2.2.1.2.2 d
  · have h1 := m_arg_in E as 0 i v (m_loc_in q)
    rw [Nat.zero_add] at h1
    exact ⟨hl0.2.2 _ h1.1, m_oks_in has h1.2⟩
theorem m_blindD {E : m_E} {Ω : m_W} {h : m_H} {av : List Value} : FrameBlind (va_Pc av (m_PreD E Ω h)) := by
  intro a U g mk q
  obtain ⟨q0, ⟨q1, q2, q3, q4, q5, q6, q7, q8⟩, q9, q10⟩ := q
  exact ⟨q0, ⟨q1, q2, va_K.moved (u := U) (U := U.calling g mk a) (Vm.Alike.refl U.vm) q3, m_Nw_same (u := U) (U := U.calling g mk a) rfl q4, vk_S.moved (u := U) (U := U.calling g mk a) (Vm.Alike.refl U.vm) q5, fun i x e => vk_R.same (u := U) (U := U.calling g mk a) rfl (q6 i x e), va_Z.moved (u := U) (U := U.calling g mk a) (Vm.Alike.refl U.vm) q7, va_Z.moved (u := U) (U := U.calling g mk a) (Vm.Alike.refl U.vm) q8⟩, va_AO.moved (u := U) (U := U.calling g mk a) (Vm.Alike.refl U.vm) q9, va_AO.moved (u := U) (U := U.calling g mk a) (Vm.Alike.refl U.vm) q10⟩
def xA (X : m_E → Method → State → Prop) : Prop := ∀ E meth s, X E meth s → va_AO "WeekFoot$Bound" s ∧ va_AO "WeekFoot$Ledger" s
theorem xI_A {nm : String} : xA (xI nm) := fun _ _ _ h => h.2
section YD
variable {X : m_E → Method → State → Prop} {Ω Ω' : m_W} {M M' : m_M} {ls : List (Option m_V)} {st rest : List m_V} {h h0 : m_H} {Q : m_W → Option m_V → m_H → Prop} {Q' : Option m_V → m_H → Prop}
/-- how much a call makes -/
def m_cr (Ω Ω' : m_W) (M M' : m_M) : Prop := ((m_rm M').cells = Ω'.length - Ω.length ∧ (m_rm M').slots = m_sz Ω' - m_sz Ω) ∧ (Ω.length ≤ Ω'.length ∧ m_sz Ω ≤ m_sz Ω') ∧ m_b Ω' M
theorem m_room {b : m_b Ω M} (cr : m_cr Ω Ω' M M') : (Ω.length - m_k0 M + (m_rm M').cells = Ω'.length - m_k0 M ∧ m_sz Ω - m_s0 M + (m_rm M').slots = m_sz Ω' - m_s0 M) ∧ Ω.length - m_k0 M + (m_rm M').cells ≤ (m_rm M).cells ∧ m_sz Ω - m_s0 M + (m_rm M').slots ≤ (m_rm M).slots := by
  obtain ⟨c1, c2, c3⟩ := cr
  unfold m_b at b c3
  omega
theorem y_callI (pc : Nat) {index k n : Nat} {as : List m_V} (d : decode M.2.2.1 pc = .ok (.invokespecial index, 3)) (mt : m_mI M' n) (lk : Cond.methodLink M.1 index M'.2.1 ∈ m_G) (rr : m_rr M M') (hXA : xA X) (hc : m_D M' Ω Ω' (mR k :: as) h Q') (hst : as.reverse ++ mR k :: rest = st) (hn : as.length = n) (hrest : m_cs rest ≤ 8) (cr : m_cr Ω Ω' M M')
    (kk : ∀ (r : Option m_V) (h' : m_H), Q' r h' → m_Y X Ω' M (pc + 3) ls (r.toList ++ rest) h' Q) : m_Y X Ω M pc ls st h Q := by
  subst hst
  intro E p l e s m args below meth c QQ H locs lsR hX C Rt Rl L o b
  obtain ⟨o1, o2⟩ := m_oks_app o
  have hM := hc l E Rl.2.2.2 ⟨trivial, m_oks_rev o1⟩
  have hts := C.2.2.2.2.1
  have hA := hXA E meth s hX
  obtain ⟨⟨g1, g2⟩, g3, g4⟩ := m_room (b := b) cr
  have hcw : CallB (m_rm M) s args M.1 index M'.2.1 M'.2.2.1 M'.2.2.2.1 none (m_ws M') (m_rm M') (m_rm M').cells (m_rm M').slots n ∧ M'.2.1.name = "<init>" ∧ (Cond.instanceMethod M'.2.1).before args s = true := by
    have h1 := callB_of (R := m_rm M) (own := M.1) (index := index) (y := M'.2.1) (bytes := M'.2.2.1) (maxL := M'.2.2.2.1) (ret := M'.2.2.2.2.1) (ws := m_ws M') (rm := m_rm M') (mc := (m_rm M').cells) (ms := (m_rm M').slots) n hts (m_good mt.2.1.2) rfl rfl rfl (hts _ mt.2.1.1) (hts _ lk) mt.2.2 rr
    rw [mt.1.2.2] at h1
    exact ⟨h1, mt.1.2.1, hts _ mt.1.1⟩
  have hrun := va_runI (g := F0 m pc lsR ((as.reverse ++ mR k :: rest).map (m_v E))) (As := as.map (m_v E)) (rest := rest.map (m_v E)) (b := E.1.1 + k) (below := below) (locs := locs) (meth := meth) (e := e) ⟨C.1, C.2.1, C.2.2.1, C.2.2.2.1, hts⟩ hM hcw ⟨m_blindD, fun U hU hW => ⟨rfl, m_pre_at C Rl U hU hW, va_AO.moved hW.alike hA.1, va_AO.moved hW.alike hA.2⟩⟩ rfl (by rw [List.length_map]; exact hn) L.1 (by simp [m_v]) (m_roomW hrest) d (cells := Ω.length - m_k0 M) (slots := m_sz Ω - m_s0 M) ⟨g3, g4⟩
  refine m_after hrun Rl.2.2.1 (fun r h' H1 locs1 hq hr R1 => ?_)
  rw [g1, g2, m_toL]
  exact kk r h' hq E p l e s m args below meth c QQ H1 locs1 lsR hX C Rt R1 L (m_okT hr o2.2) cr.2.2
theorem y_callIN (pc : Nat) {index k n : Nat} {host : String} {as : List m_V} (d : decode M.2.2.1 pc = .ok (.invokespecial index, 3)) (mt : m_mI M' n) (lk : Cond.methodLinkNest M.1 index M'.2.1 host ∈ m_N) (rr : m_rr M M') (hXA : xA X) (hc : m_D M' Ω Ω' (mR k :: as) h Q') (hst : as.reverse ++ mR k :: rest = st) (hn : as.length = n) (hrest : m_cs rest ≤ 8) (cr : m_cr Ω Ω' M M')
    (kk : ∀ (r : Option m_V) (h' : m_H), Q' r h' → m_Y X Ω' M (pc + 3) ls (r.toList ++ rest) h' Q) : m_Y X Ω M pc ls st h Q := by
  subst hst
  intro E p l e s m args below meth c QQ H locs lsR hX C Rt Rl L o b
  obtain ⟨o1, o2⟩ := m_oks_app o
  have hM := hc l E Rl.2.2.2 ⟨trivial, m_oks_rev o1⟩
  have hts := C.2.2.2.2.1
  have hA := hXA E meth s hX
  obtain ⟨⟨g1, g2⟩, g3, g4⟩ := m_room (b := b) cr
  have hcw := va_cnB (R := m_rm M) (host := host) (index := index) (own := M.1) (y := M'.2.1) (bytes := M'.2.2.1) (maxL := M'.2.2.2.1) (ret := M'.2.2.2.2.1) (ws := m_ws M') (rm := m_rm M') (mc := (m_rm M').cells) (ms := (m_rm M').slots) n hts (m_good mt.2.1.2) rfl rfl rfl (C.2.2.2.2.2.2.1 _ lk) (hts _ mt.2.1.1) mt.2.2 rr
  rw [mt.1.2.2] at hcw
  have hrun := va_runIN (g := F0 m pc lsR ((as.reverse ++ mR k :: rest).map (m_v E))) (As := as.map (m_v E)) (rest := rest.map (m_v E)) (b := E.1.1 + k) (below := below) (locs := locs) (meth := meth) (e := e) ⟨C.1, C.2.1, C.2.2.1, C.2.2.2.1, hts⟩ hM ⟨hcw, mt.1.2.1, hts _ mt.1.1⟩ ⟨m_blindD, fun U hU hW => ⟨rfl, m_pre_at C Rl U hU hW, va_AO.moved hW.alike hA.1, va_AO.moved hW.alike hA.2⟩⟩ rfl (by rw [List.length_map]; exact hn) L.1 (by simp [m_v]) (m_roomW hrest) d (cells := Ω.length - m_k0 M) (slots := m_sz Ω - m_s0 M) ⟨g3, g4⟩
  refine m_after hrun Rl.2.2.1 (fun r h' H1 locs1 hq hr R1 => ?_)
  rw [g1, g2, m_toL]
  exact kk r h' hq E p l e s m args below meth c QQ H1 locs1 lsR hX C Rt R1 L (m_okT hr o2.2) cr.2.2
theorem y_callSND (pc : Nat) {index n : Nat} {host : String} {as : List m_V} (d : decode M.2.2.1 pc = .ok (.invokestatic index, 3)) (mt : m_mS M' n) (lk : Cond.methodLinkNest M.1 index M'.2.1 host ∈ m_N) (rr : m_rr M M') (hXA : xA X) (hc : m_D M' Ω Ω' as h Q') (hst : as.reverse ++ rest = st) (hn : as.length = n) (hrest : m_cs rest ≤ 8) (cr : m_cr Ω Ω' M M')
    (kk : ∀ (r : Option m_V) (h' : m_H), Q' r h' → m_Y X Ω' M (pc + 3) ls (r.toList ++ rest) h' Q) : m_Y X Ω M pc ls st h Q := by
  subst hst
  intro E p l e s m args below meth c QQ H locs lsR hX C Rt Rl L o b
  obtain ⟨o1, o2⟩ := m_oks_app o
  have hM := hc l E Rl.2.2.2 (m_oks_rev o1)
  have hts := C.2.2.2.2.1
  have hA := hXA E meth s hX
  obtain ⟨⟨g1, g2⟩, g3, g4⟩ := m_room (b := b) cr
  have hcw := va_cnB (R := m_rm M) (host := host) (index := index) (own := M.1) (y := M'.2.1) (bytes := M'.2.2.1) (maxL := M'.2.2.2.1) (ret := M'.2.2.2.2.1) (ws := m_ws M') (rm := m_rm M') (mc := (m_rm M').cells) (ms := (m_rm M').slots) n hts (m_good mt.2.1.2) rfl rfl rfl (C.2.2.2.2.2.2.1 _ lk) (hts _ mt.2.1.1) mt.2.2 rr
  have hrun := va_runSN (g := F0 m pc lsR ((as.reverse ++ rest).map (m_v E))) (As := as.map (m_v E)) (rest := rest.map (m_v E)) (below := below) (locs := locs) (meth := meth) (e := e) ⟨C.1, C.2.1, C.2.2.1, C.2.2.2.1, hts⟩ hM ⟨hcw, hts _ mt.1, trivial⟩ ⟨m_blindD, fun U hU hW => ⟨rfl, m_pre_at C Rl U hU hW, va_AO.moved hW.alike hA.1, va_AO.moved hW.alike hA.2⟩⟩ rfl (by rw [List.length_map]; exact hn) L.1 (by simp) (m_roomW hrest) d (cells := Ω.length - m_k0 M) (slots := m_sz Ω - m_s0 M) ⟨g3, g4⟩
  refine m_after hrun Rl.2.2.1 (fun r h' H1 locs1 hq hr R1 => ?_)
  rw [g1, g2, m_toL]
  exact kk r h' hq E p l e s m args below meth c QQ H1 locs1 lsR hX C Rt R1 L (m_okT hr o2) cr.2.2
end YD
/-! ===== the world in the making ===== -/
theorem tk_s {n : Nat} {q : Nat × Nat} (o : oF[n]? = some q) : oF.take (n + 1) = oF.take n ++ [q] := by rw [List.take_succ, o]; rfl
theorem tk_l {n : Nat} (hn : n ≤ 148) : (oF.take n).length = n := by rw [List.length_take, oF_len]; omega
theorem tk_g {n k : Nat} {q : Nat × Nat} (hk : k < n) (o : oF[k]? = some q) : (oF.take n)[k]? = some q := by rw [List.getElem?_take_of_lt hk]; exact o
theorem tk_m {a b : Nat} (h : a ≤ b) : m_sz (oF.take a) ≤ m_sz (oF.take b) := by
  have e : oF.take b = oF.take a ++ (oF.drop a).take (b - a) := by rw [← List.take_add]; congr 1; omega
  unfold m_sz
  rw [e, List.map_append, List.sum_append]
  omega
abbrev mkM (R : String) (y : MethodName) (c : ByteArray) (mx f l n0 n1 : Nat) (ret : Option FieldType) : m_M := (R, y, c, mx, ret, { frames := f, cells := n1 - n0, slots := m_sz (oF.take n1) - m_sz (oF.take n0), locals := l }, n0, m_sz (oF.take n0))
theorem tk_b {R : String} {y : MethodName} {c : ByteArray} {mx f l n0 n1 n : Nat} {ret : Option FieldType} (h0 : n0 ≤ n) (h1 : n ≤ n1) (h2 : n1 ≤ 148) : m_b (oF.take n) (mkM R y c mx f l n0 n1 ret) := by
  have a1 := tk_m h0
  have a2 := tk_m h1
  refine ⟨⟨?_, a1⟩, ?_, ?_⟩
  · show n0 ≤ (oF.take n).length; rw [tk_l (by omega)]; exact h0
  · show (oF.take n).length - n0 ≤ n1 - n0; rw [tk_l (by omega)]; omega
  · show m_sz (oF.take n) - m_sz (oF.take n0) ≤ m_sz (oF.take n1) - m_sz (oF.take n0); omega
theorem tk_c {R R' : String} {y y' : MethodName} {c c' : ByteArray} {mx f l n0 n1 mx' f' l' a b : Nat} {ret ret' : Option FieldType} (h0 : n0 ≤ a) (hab : a ≤ b) (h1 : b ≤ n1) (h2 : n1 ≤ 148) : m_cr (oF.take a) (oF.take b) (mkM R y c mx f l n0 n1 ret) (mkM R' y' c' mx' f' l' a b ret') := by
  refine ⟨⟨?_, rfl⟩, ⟨?_, tk_m hab⟩, tk_b (by omega) h1 h2⟩
  · show b - a = _; rw [tk_l (by omega), tk_l (by omega)]
  · rw [tk_l (by omega), tk_l (by omega)]; exact hab
theorem tk_k {R : String} {y : MethodName} {c : ByteArray} {mx f l n0 n1 : Nat} {ret : Option FieldType} (h0 : n0 ≤ n1) (h2 : n1 ≤ 148) : (m_k0 (mkM R y c mx f l n0 n1 ret) = (oF.take n0).length ∧ m_s0 (mkM R y c mx f l n0 n1 ret) = m_sz (oF.take n0)) ∧ ((oF.take n1).length - (oF.take n0).length = (m_rm (mkM R y c mx f l n0 n1 ret)).cells ∧ m_sz (oF.take n1) - m_sz (oF.take n0) = (m_rm (mkM R y c mx f l n0 n1 ret)).slots) := by
  refine ⟨⟨?_, rfl⟩, ⟨?_, rfl⟩⟩
  · rw [tk_l (by omega)]
  · rw [tk_l (by omega), tk_l (by omega)]
theorem tk_D {R : String} {y : MethodName} {c : ByteArray} {mx f l n0 n1 : Nat} {ret : Option FieldType} {as : List m_V} {h : m_H} {Q : Option m_V → m_H → Prop} (h0 : n0 ≤ n1) (h2 : n1 ≤ 148) (hy : plainName y.cls = true) (hown : R = y.cls) (hl : (m_arg as).length ≤ mx) {ls : List (Option m_V)} (hls : m_loc as mx = ls) (z : m_Y (xI y.name) (oF.take n0) (mkM R y c mx f l n0 n1 ret) 0 ls [] h (fun w r h' => w = oF.take n1 ∧ Q r h')) : m_D (mkM R y c mx f l n0 n1 ret) (oF.take n0) (oF.take n1) as h Q :=
  m_D_of hy hown hl (tk_b (Nat.le_refl _) h0 h2) (tk_k h0 h2).1 (tk_k h0 h2).2 hls z
/-! cells that are as they must be -/
def gC (k : Nat) (f : Nat → Int) : Prop := ∀ q : Nat × (Nat → Int → Prop), g_bt[k]? = some q → ∀ j, j < q.1 → q.2 j (f j)
def gR (a b : Nat) (h : m_H) : Prop := ∀ k, a ≤ k → k < b → gC k (h k)
theorem gC_of {k n : Nat} {f : Nat → Int} {P : Nat → Int → Prop} (o : g_bt[k]? = some (n, P)) (H : ∀ j, j < n → P j (f j)) : gC k f := by
  intro q hq
  rw [o] at hq
  cases hq
  exact H
theorem gR.put {a b c j : Nat} {v : Int} {h h' : m_H} (g : gR a b h) (E : h' = m_up h c j v) (hc : c < a ∨ b ≤ c) : gR a b h' := fun k h1 h2 => by rw [upo E (by omega)]; exact g k h1 h2
theorem gR.nw {a b n : Nat} {q : Nat × Nat} {h h' : m_H} (g : gR a b h) (E : h' = m_nw h n q) (hn : b ≤ n) : gR a b h' := fun k h1 h2 => by rw [m_nw_ne E (by omega)]; exact g k h1 h2
theorem gR.fr {a b n : Nat} {h h' : m_H} (g : gR a b h) (E : ∀ k, k < n → h' k = h k) (hn : b ≤ n) : gR a b h' := fun k h1 h2 => by rw [E k (by omega)]; exact g k h1 h2
theorem gR.cell {a b c : Nat} {h h' : m_H} (g : gR a b h) (E : ∀ k, k ≠ c → h' k = h k) (hc : c < a ∨ b ≤ c) : gR a b h' := fun k h1 h2 => by rw [E k (by omega)]; exact g k h1 h2
theorem gR.join {a b c : Nat} {h : m_H} (g : gR a b h) (g2 : gR b c h) : gR a c h := fun k h1 h2 => by
  by_cases q : k < b
  · exact g k h1 q
  · exact g2 k (by omega) h2
theorem gR_1 {k : Nat} {h : m_H} (g : gC k (h k)) : gR k (k + 1) h := fun a h1 h2 => by
  have e : a = k := by omega
  rw [e]; exact g
theorem gR_0 {k : Nat} {h : m_H} : gR k k h := fun a h1 h2 => by omega
theorem nw_u {h h' : m_H} {n k j : Nat} {q : Nat × Nat} {v : Int} (E : h' = m_nw h n q) (hk : k ≠ n) (e : h k j = v) : h' k j = v := by rw [m_nw_ne E hk]; exact e
theorem fr_u {h h' : m_H} {n k j : Nat} {v : Int} (E : ∀ k, k < n → h' k = h k) (hk : k < n) (e : h k j = v) : h' k j = v := by rw [E k hk]; exact e
theorem ce_u {h h' : m_H} {c k j : Nat} {v : Int} (E : ∀ k, k ≠ c → h' k = h k) (hk : k ≠ c) (e : h k j = v) : h' k j = v := by rw [E k hk]; exact e
theorem frn_nw {h0 h h' : m_H} {n m : Nat} {q : Nat × Nat} (F : ∀ k, k < n → h k = h0 k) (E : h' = m_nw h m q) (hm : n ≤ m) : ∀ k, k < n → h' k = h0 k := fun k hk => (m_nw_ne E (by omega)).trans (F k hk)
theorem frn_up {h0 h h' : m_H} {n c j : Nat} {v : Int} (F : ∀ k, k < n → h k = h0 k) (E : h' = m_up h c j v) (hm : n ≤ c) : ∀ k, k < n → h' k = h0 k := fun k hk => (upo E (by omega)).trans (F k hk)
theorem frn_fr {h0 h h' : m_H} {n m : Nat} (F : ∀ k, k < n → h k = h0 k) (E : ∀ k, k < m → h' k = h k) (hm : n ≤ m) : ∀ k, k < n → h' k = h0 k := fun k hk => (E k (by omega)).trans (F k hk)
theorem frn_ce {h0 h h' : m_H} {n c : Nat} (F : ∀ k, k < n → h k = h0 k) (E : ∀ k, k ≠ c → h' k = h k) (hm : n ≤ c) : ∀ k, k < n → h' k = h0 k := fun k hk => (E k (by omega)).trans (F k hk)
/-! Arrays.fill -/
def M_fill (Ω : m_W) : m_M := (RJ7, yJ7_fill_53178, cJ7_fill_53178, 4, none, { frames := 0, cells := 0, slots := 0, locals := 0 }, Ω.length, m_sz Ω)
theorem t_fill (Ω : m_W) : m_mS (M_fill Ω) 2 := t_J7_fill_53178
def fiQ (h0 : m_H) (c N : Nat) (v : Int) (r : Option m_V) (h' : m_H) : Prop := r = none ∧ (∀ j, j < N → h' c j = v) ∧ ∀ k, k ≠ c → h' k = h0 k
theorem s_fill {Ω : m_W} {c N : Nat} {v : Int} {h0 : m_H} (hk : Ω[c]? = some (0, N)) (hN : N ≤ 1000) : ∀ (n : Nat) (i : Int) (h : m_H), 0 ≤ i → i ≤ N → (N : Int) - i ≤ n → (∀ j : Nat, (j : Int) < i → h c j = v) → (∀ k, k ≠ c → h k = h0 k) → m_Z Ω (M_fill Ω) 5 [some (mR c), some (mI v), some (mI i), some (mI (N : Int))] [] h (fun w r h' => w = Ω ∧ fiQ h0 c N v r h')
  | n, i, h, h1, h2, hn, I, F => by
    refine z_iload_n (M := M_fill Ω) 5 dJ7_fill_53178_5 rfl ?_
    refine z_iload_n (M := M_fill Ω) 6 dJ7_fill_53178_6 rfl ?_
    refine z_icmp_ge (M := M_fill Ω) 7 dJ7_fill_53178_7 20 rfl (fun q => ?_) (fun q => ?_)
    · exact z_vret (M := M_fill Ω) 20 dJ7_fill_53178_20 rfl ⟨rfl, rfl, fun j hj => I j (by omega), F⟩
    · match n, hn with
      | 0, hn => omega
      | n + 1, hn =>
        refine z_aload_n (M := M_fill Ω) 10 dJ7_fill_53178_10 rfl ?_
        refine z_iload_n (M := M_fill Ω) 11 dJ7_fill_53178_11 rfl ?_
        refine z_iload_n (M := M_fill Ω) 12 dJ7_fill_53178_12 rfl ?_
        refine z_iast (M := M_fill Ω) 13 dJ7_fill_53178_13 hk h1 (by omega) ?_
        refine z_iinc (M := M_fill Ω) 14 dJ7_fill_53178_14 (ls' := [some (mR c), some (mI v), some (mI (i + 1)), some (mI (N : Int))]) (show 2 < 4 by decide) rfl (by (unfold m_32; decide)) (by rw [m_w_id (by omega) (by omega)]; rfl) ?_
        refine z_goto (M := M_fill Ω) 17 dJ7_fill_53178_17 5 rfl ?_
        refine s_fill hk hN n (i + 1) _ (by omega) (by omega) (by omega) (fun j hj => ?_) (fun k hk2 => (m_up_row hk2).trans (F k hk2))
        by_cases e : j = i.toNat
        · rw [e, m_up_eq]
        · rw [m_up_ne (fun z => e z.2)]; exact I j (by omega)
theorem c_fill {Ω : m_W} (c N : Nat) (v : Int) (h : m_H) (hk : Ω[c]? = some (0, N)) (hN : N ≤ 1000) : m_C (M_fill Ω) Ω Ω [mR c, mI v] h (fiQ h c N v) := by
  refine m_C_of (show plainName RJ7 = true by decide) rfl (by show 2 ≤ 4; decide) ⟨⟨Nat.le_refl _, Nat.le_refl _⟩, by show Ω.length - Ω.length ≤ 0; omega, by show m_sz Ω - m_sz Ω ≤ 0; omega⟩ ⟨rfl, rfl⟩ ⟨Nat.sub_self _, Nat.sub_self _⟩ ?_
  show m_Z Ω (M_fill Ω) 0 [some (mR c), some (mI v), none, none] [] h _
  refine z_iconst (M := M_fill Ω) 0 dJ7_fill_53178_0 ?_
  refine z_istore_n (M := M_fill Ω) 1 dJ7_fill_53178_1 (ls' := [some (mR c), some (mI v), some (mI 0), none]) (show 2 < 4 by decide) rfl ?_
  refine z_aload_n (M := M_fill Ω) 2 dJ7_fill_53178_2 rfl ?_
  refine z_alen (M := M_fill Ω) 3 dJ7_fill_53178_3 hk (by decide) (by omega) ?_
  refine z_istore_n (M := M_fill Ω) 4 dJ7_fill_53178_4 (ls' := [some (mR c), some (mI v), some (mI 0), some (mI (N : Int))]) (show 3 < 4 by decide) rfl ?_
  exact s_fill hk hN N 0 h (by omega) (by omega) (by omega) (fun j hj => by omega) (fun _ _ => rfl)
/-! a bound's constructor: nothing is written -/
abbrev M_X2i (n : Nat) : m_M := mkM RX2 yX2_init cX2_init 1 1 20 n n none
theorem ow2 : Cond.instanceMethod Lib.objectInit ∈ m_G := m_inG 123 (by decide +kernel) rfl
theorem ow3 : Cond.code Lib.objectInit ⟨#[0xb1]⟩ 1 none ∈ m_G := m_inG 124 (by decide +kernel) rfl
theorem acI : Cond.arrayClass .int ∈ m_G := m_inG 188 (by decide +kernel) rfl
theorem acJ : Cond.arrayClass .long ∈ m_G := m_inG 324 (by decide +kernel) rfl
theorem acZ : Cond.arrayClass .boolean ∈ m_G := m_inG 207 (by decide +kernel) rfl
theorem nwI {h h' : m_H} {n N : Nat} (E : h' = m_nw h n (0, N)) (j : Nat) : h' n j = 0 := by rw [m_nw_at E]; rfl
theorem nwJ {h h' : m_H} {n N : Nat} (E : h' = m_nw h n (1, N)) (j : Nat) : h' n j = 0 := by rw [m_nw_at E]; rfl
theorem nwZ {h h' : m_H} {n N : Nat} (E : h' = m_nw h n (2, N)) (j : Nat) : h' n j = 0 := by rw [m_nw_at E]; rfl
theorem bn_ok {h h' : m_H} {n : Nat} (E : h' = m_nw h n (2 + 5, 3)) (o : isB n) : gC n (h' n) := by
  refine gC_of (bB_all n o) (fun j hj => ?_)
  have q : j = 0 ∨ j = 1 ∨ j = 2 := by omega
  rcases q with rfl | rfl | rfl
  · exact trivial
  · exact trivial
  · show 0 ≤ h' n 2 ∧ h' n 2 ≤ 1
    rw [m_nw_at E]; decide
theorem rfp_o {C : String} : ∀ q : Nat, narrow (.object C) (.ref q) = .ref q ∧ fits (.object C) (.ref q) = true := fun _ => ⟨rfl, rfl⟩
theorem rfp_a {t : FieldType} : ∀ q : Nat, narrow (.array t) (.ref q) = .ref q ∧ fits (.array t) (.ref q) = true := fun _ => ⟨rfl, rfl⟩
theorem t_X11_init {n0 n1 f l : Nat} : m_mI (mkM RX11 yX11_init cX11_init 2 f l n0 n1 none) 0 := ⟨⟨(m_inG 120 (by decide +kernel) rfl : Cond.instanceMethod yX11_init ∈ m_G), rfl, rfl⟩, ⟨(m_inG 95 (by decide +kernel) rfl : Cond.initialized RX11 ∈ m_G), (m_inG 121 (by decide +kernel) rfl : Cond.code yX11_init cX11_init 2 none ∈ m_G)⟩, ⟨(by decide +kernel : RX11 ≠ "java/lang/invoke/MethodHandle"), (by decide +kernel : RX11 ≠ "java/lang/invoke/VarHandle"), (by decide +kernel : (parseMethodDescriptor yX11_init.desc).map (fun d => d.parameters.length) = some 0)⟩⟩
theorem ol_X11 : Cond.methodLink RX11 3 Lib.objectInit ∈ m_G := m_inG 122 (by decide +kernel) rfl
theorem n_X11_9 : m_nf RX11 9 4 10 := ⟨_, _, cf4, ⟨m_inG 125 (by decide +kernel) rfl, m_inG 126 (by decide +kernel) rfl, m_inG 96 (by decide +kernel) rfl⟩, by decide +kernel⟩
theorem t_X4_init {n0 n1 f l : Nat} : m_mI (mkM RX4 yX4_init cX4_init 1 f l n0 n1 none) 0 := ⟨⟨(m_inG 128 (by decide +kernel) rfl : Cond.instanceMethod yX4_init ∈ m_G), rfl, rfl⟩, ⟨(m_inG 96 (by decide +kernel) rfl : Cond.initialized RX4 ∈ m_G), (m_inG 129 (by decide +kernel) rfl : Cond.code yX4_init cX4_init 1 none ∈ m_G)⟩, ⟨(by decide +kernel : RX4 ≠ "java/lang/invoke/MethodHandle"), (by decide +kernel : RX4 ≠ "java/lang/invoke/VarHandle"), (by decide +kernel : (parseMethodDescriptor yX4_init.desc).map (fun d => d.parameters.length) = some 0)⟩⟩
theorem ol_X4 : Cond.methodLink RX4 3 Lib.objectInit ∈ m_G := m_inG 130 (by decide +kernel) rfl
theorem bt_2 : g_bt[2]? = some (32, g_p2) := rfl
theorem ff_X4_9 : m_ff RX4 9 4 10 0 := ⟨_, _, cf4, by decide, m_inG 134 (by decide +kernel) rfl, rfl, rfl⟩
theorem bt_3 : g_bt[3]? = some (6, g_p3) := rfl
theorem ff_X4_15 : m_ff RX4 15 4 10 1 := ⟨_, _, cf4, by decide, m_inG 138 (by decide +kernel) rfl, rfl, rfl⟩
theorem bt_4 : g_bt[4]? = some (24, g_p4) := rfl
theorem ff_X4_18 : m_ff RX4 18 4 10 2 := ⟨_, _, cf4, by decide, m_inG 143 (by decide +kernel) rfl, rfl, rfl⟩
theorem bt_5 : g_bt[5]? = some (24, g_p5) := rfl
theorem ff_X4_21 : m_ff RX4 21 4 10 3 := ⟨_, _, cf4, by decide, m_inG 145 (by decide +kernel) rfl, rfl, rfl⟩
theorem bt_6 : g_bt[6]? = some (24, g_p6) := rfl
theorem ff_X4_24 : m_ff RX4 24 4 10 4 := ⟨_, _, cf4, by decide, m_inG 148 (by decide +kernel) rfl, rfl, rfl⟩
theorem bt_7 : g_bt[7]? = some (24, g_p7) := rfl
theorem ff_X4_27 : m_ff RX4 27 4 10 5 := ⟨_, _, cf4, by decide, m_inG 150 (by decide +kernel) rfl, rfl, rfl⟩
theorem ff_X4_30 : m_ff RX4 30 4 10 6 := ⟨_, _, cf4, by decide, m_inG 153 (by decide +kernel) rfl, rfl, rfl⟩
theorem bt_8 : g_bt[8]? = some (16, g_p8) := rfl
theorem bt_1 : g_bt[1]? = some (10, g_p1) := rfl
theorem il_X11_11 : Cond.methodLink RX11 11 yX4_init ∈ m_G := m_inG 127 (by decide +kernel) rfl
theorem ff_X11_12 : m_ff RX11 12 11 17 0 := ⟨_, _, cf11, by decide, m_inG 403 (by decide +kernel) rfl, rfl, rfl⟩
theorem bt_10 : g_bt[10]? = some (32, g_p10) := rfl
theorem bt_11 : g_bt[11]? = some (6, g_p11) := rfl
theorem bt_12 : g_bt[12]? = some (24, g_p12) := rfl
theorem bt_13 : g_bt[13]? = some (24, g_p13) := rfl
theorem bt_14 : g_bt[14]? = some (24, g_p14) := rfl
theorem bt_15 : g_bt[15]? = some (24, g_p15) := rfl
theorem bt_16 : g_bt[16]? = some (16, g_p16) := rfl
theorem bt_9 : g_bt[9]? = some (10, g_p9) := rfl
theorem ff_X11_16 : m_ff RX11 16 11 17 1 := ⟨_, _, cf11, by decide, m_inG 404 (by decide +kernel) rfl, rfl, rfl⟩
theorem cl_X11_9 : Cond.classLink RX11 9 "WeekFoot$Ledger" ∈ m_G := m_inG 125 (by decide +kernel) rfl
theorem ff_X11_19 : m_ff RX11 19 11 17 2 := ⟨_, _, cf11, by decide, m_inG 405 (by decide +kernel) rfl, rfl, rfl⟩
theorem bt_19 : g_bt[19]? = some (32, g_p19) := rfl
theorem bt_20 : g_bt[20]? = some (6, g_p20) := rfl
theorem bt_21 : g_bt[21]? = some (24, g_p21) := rfl
theorem bt_22 : g_bt[22]? = some (24, g_p22) := rfl
theorem bt_23 : g_bt[23]? = some (24, g_p23) := rfl
theorem bt_24 : g_bt[24]? = some (24, g_p24) := rfl
theorem bt_25 : g_bt[25]? = some (16, g_p25) := rfl
theorem bt_18 : g_bt[18]? = some (10, g_p18) := rfl
theorem cl_4 : vwCl[4]? = some (RX4, TX4, 10) := rfl
theorem bt_27 : g_bt[27]? = some (32, g_p27) := rfl
theorem bt_28 : g_bt[28]? = some (6, g_p28) := rfl
theorem bt_29 : g_bt[29]? = some (24, g_p29) := rfl
theorem bt_30 : g_bt[30]? = some (24, g_p30) := rfl
theorem bt_31 : g_bt[31]? = some (24, g_p31) := rfl
theorem bt_32 : g_bt[32]? = some (24, g_p32) := rfl
theorem bt_33 : g_bt[33]? = some (16, g_p33) := rfl
theorem bt_26 : g_bt[26]? = some (10, g_p26) := rfl
theorem bt_17 : g_bt[17]? = some (2, g_p17) := rfl
theorem bt_34 : g_bt[34]? = some (2, g_p34) := rfl
theorem ff_X11_23 : m_ff RX11 23 11 17 3 := ⟨_, _, cf11, by decide, m_inG 406 (by decide +kernel) rfl, rfl, rfl⟩
theorem n_X11_27 : m_nf RX11 27 8 2 := ⟨_, _, cf8, ⟨m_inG 190 (by decide +kernel) rfl, m_inG 191 (by decide +kernel) rfl, m_inG 98 (by decide +kernel) rfl⟩, by decide +kernel⟩
theorem t_X8_init {n0 n1 f l : Nat} : m_mI (mkM RX8 yX8_init cX8_init 1 f l n0 n1 none) 0 := ⟨⟨(m_inG 193 (by decide +kernel) rfl : Cond.instanceMethod yX8_init ∈ m_G), rfl, rfl⟩, ⟨(m_inG 98 (by decide +kernel) rfl : Cond.initialized RX8 ∈ m_G), (m_inG 194 (by decide +kernel) rfl : Cond.code yX8_init cX8_init 1 none ∈ m_G)⟩, ⟨(by decide +kernel : RX8 ≠ "java/lang/invoke/MethodHandle"), (by decide +kernel : RX8 ≠ "java/lang/invoke/VarHandle"), (by decide +kernel : (parseMethodDescriptor yX8_init.desc).map (fun d => d.parameters.length) = some 0)⟩⟩
theorem ol_X8 : Cond.methodLink RX8 3 Lib.objectInit ∈ m_G := m_inG 195 (by decide +kernel) rfl
theorem bt_36 : g_bt[36]? = some (400, g_p36) := rfl
theorem ff_X8_9 : m_ff RX8 9 8 2 0 := ⟨_, _, cf8, by decide, m_inG 196 (by decide +kernel) rfl, rfl, rfl⟩
theorem bt_35 : g_bt[35]? = some (2, g_p35) := rfl
theorem il_X11_29 : Cond.methodLinkNest RX11 29 yX8_init "WeekFoot" ∈ m_N := m_inN 192 (by decide +kernel) rfl
theorem ff_X11_30 : m_ff RX11 30 11 17 4 := ⟨_, _, cf11, by decide, m_inG 407 (by decide +kernel) rfl, rfl, rfl⟩
theorem n_X11_34 : m_nf RX11 34 1 4 := ⟨_, _, cf1, ⟨m_inG 208 (by decide +kernel) rfl, m_inG 209 (by decide +kernel) rfl, m_inG 99 (by decide +kernel) rfl⟩, by decide +kernel⟩
theorem t_X1_init {n0 n1 f l : Nat} : m_mI (mkM RX1 yX1_init cX1_init 2 f l n0 n1 none) 1 := ⟨⟨(m_inG 211 (by decide +kernel) rfl : Cond.instanceMethod yX1_init ∈ m_G), rfl, rfl⟩, ⟨(m_inG 99 (by decide +kernel) rfl : Cond.initialized RX1 ∈ m_G), (m_inG 212 (by decide +kernel) rfl : Cond.code yX1_init cX1_init 2 none ∈ m_G)⟩, ⟨(by decide +kernel : RX1 ≠ "java/lang/invoke/MethodHandle"), (by decide +kernel : RX1 ≠ "java/lang/invoke/VarHandle"), (by decide +kernel : (parseMethodDescriptor yX1_init.desc).map (fun d => d.parameters.length) = some 1)⟩⟩
theorem ol_X1 : Cond.methodLink RX1 3 Lib.objectInit ∈ m_G := m_inG 213 (by decide +kernel) rfl
theorem ff_X1_9 : m_ff RX1 9 1 4 0 := ⟨_, _, cf1, by decide, m_inG 214 (by decide +kernel) rfl, rfl, rfl⟩
theorem bt_37 : g_bt[37]? = some (4, g_p37) := rfl
theorem il_X11_36 : Cond.methodLink RX11 36 yX1_init ∈ m_G := m_inG 210 (by decide +kernel) rfl
theorem ff_X11_39 : m_ff RX11 39 11 17 5 := ⟨_, _, cf11, by decide, m_inG 408 (by decide +kernel) rfl, rfl, rfl⟩
theorem n_X11_43 : m_nf RX11 43 9 6 := ⟨_, _, cf9, ⟨m_inG 228 (by decide +kernel) rfl, m_inG 229 (by decide +kernel) rfl, m_inG 100 (by decide +kernel) rfl⟩, by decide +kernel⟩
theorem t_X9_init {n0 n1 f l : Nat} : m_mI (mkM RX9 yX9_init cX9_init 1 f l n0 n1 none) 0 := ⟨⟨(m_inG 231 (by decide +kernel) rfl : Cond.instanceMethod yX9_init ∈ m_G), rfl, rfl⟩, ⟨(m_inG 100 (by decide +kernel) rfl : Cond.initialized RX9 ∈ m_G), (m_inG 232 (by decide +kernel) rfl : Cond.code yX9_init cX9_init 1 none ∈ m_G)⟩, ⟨(by decide +kernel : RX9 ≠ "java/lang/invoke/MethodHandle"), (by decide +kernel : RX9 ≠ "java/lang/invoke/VarHandle"), (by decide +kernel : (parseMethodDescriptor yX9_init.desc).map (fun d => d.parameters.length) = some 0)⟩⟩
theorem ol_X9 : Cond.methodLink RX9 3 Lib.objectInit ∈ m_G := m_inG 233 (by decide +kernel) rfl
theorem bt_39 : g_bt[39]? = some (48, g_p39) := rfl
theorem ff_X9_9 : m_ff RX9 9 9 6 0 := ⟨_, _, cf9, by decide, m_inG 266 (by decide +kernel) rfl, rfl, rfl⟩
theorem bt_40 : g_bt[40]? = some (48, g_p40) := rfl
theorem ff_X9_15 : m_ff RX9 15 9 6 1 := ⟨_, _, cf9, by decide, m_inG 267 (by decide +kernel) rfl, rfl, rfl⟩
theorem bt_41 : g_bt[41]? = some (48, g_p41) := rfl
theorem ff_X9_19 : m_ff RX9 19 9 6 2 := ⟨_, _, cf9, by decide, m_inG 268 (by decide +kernel) rfl, rfl, rfl⟩
theorem t_X11_newBounds {n0 n1 f l : Nat} : m_mS (mkM RX11 yX11_newBounds cX11_newBounds 3 f l n0 n1 (some (.array (.object "WeekFoot$Bound")))) 1 := ⟨(m_inG 235 (by decide +kernel) rfl : Cond.static yX11_newBounds ∈ m_G), ⟨(m_inG 95 (by decide +kernel) rfl : Cond.initialized RX11 ∈ m_G), (m_inG 236 (by decide +kernel) rfl : Cond.code yX11_newBounds cX11_newBounds 3 (some (.array (.object "WeekFoot$Bound"))) ∈ m_G)⟩, ⟨(by decide +kernel : RX11 ≠ "java/lang/invoke/MethodHandle"), (by decide +kernel : RX11 ≠ "java/lang/invoke/VarHandle"), (by decide +kernel : (parseMethodDescriptor yX11_newBounds.desc).map (fun d => d.parameters.length) = some 1)⟩⟩
theorem cl_X11_232 : Cond.classLink RX11 232 "WeekFoot$Bound" ∈ m_G := m_inG 240 (by decide +kernel) rfl
theorem n_X11_232 : m_nf RX11 232 2 3 := ⟨_, _, cf2, ⟨m_inG 240 (by decide +kernel) rfl, m_inG 242 (by decide +kernel) rfl, m_inG 102 (by decide +kernel) rfl⟩, by decide +kernel⟩
theorem t_X2_init {n0 n1 f l : Nat} : m_mI (mkM RX2 yX2_init cX2_init 1 f l n0 n1 none) 0 := ⟨⟨(m_inG 244 (by decide +kernel) rfl : Cond.instanceMethod yX2_init ∈ m_G), rfl, rfl⟩, ⟨(m_inG 102 (by decide +kernel) rfl : Cond.initialized RX2 ∈ m_G), (m_inG 245 (by decide +kernel) rfl : Cond.code yX2_init cX2_init 1 none ∈ m_G)⟩, ⟨(by decide +kernel : RX2 ≠ "java/lang/invoke/MethodHandle"), (by decide +kernel : RX2 ≠ "java/lang/invoke/VarHandle"), (by decide +kernel : (parseMethodDescriptor yX2_init.desc).map (fun d => d.parameters.length) = some 0)⟩⟩
theorem ol_X2 : Cond.methodLink RX2 1 Lib.objectInit ∈ m_G := m_inG 246 (by decide +kernel) rfl
theorem il_X11_450 : Cond.methodLinkNest RX11 450 yX2_init "WeekFoot" ∈ m_N := m_inN 243 (by decide +kernel) rfl
theorem cl_2 : vwCl[2]? = some (RX2, TX2, 3) := rfl
theorem bt_42 : g_bt[42]? = some (16, g_p42) := rfl
theorem il_X9_22 : Cond.methodLinkNest RX9 22 yX11_newBounds "WeekFoot" ∈ m_N := m_inN 234 (by decide +kernel) rfl
theorem ff_X9_26 : m_ff RX9 26 9 6 3 := ⟨_, _, cf9, by decide, m_inG 269 (by decide +kernel) rfl, rfl, rfl⟩
theorem bt_59 : g_bt[59]? = some (16, g_p59) := rfl
theorem ff_X9_30 : m_ff RX9 30 9 6 4 := ⟨_, _, cf9, by decide, m_inG 270 (by decide +kernel) rfl, rfl, rfl⟩
theorem bt_76 : g_bt[76]? = some (16, g_p76) := rfl
theorem ff_X9_33 : m_ff RX9 33 9 6 5 := ⟨_, _, cf9, by decide, m_inG 271 (by decide +kernel) rfl, rfl, rfl⟩
theorem bt_38 : g_bt[38]? = some (6, g_p38) := rfl
theorem il_X11_45 : Cond.methodLinkNest RX11 45 yX9_init "WeekFoot" ∈ m_N := m_inN 230 (by decide +kernel) rfl
theorem ff_X11_46 : m_ff RX11 46 11 17 6 := ⟨_, _, cf11, by decide, m_inG 409 (by decide +kernel) rfl, rfl, rfl⟩
theorem n_X11_50 : m_nf RX11 50 7 2 := ⟨_, _, cf7, ⟨m_inG 285 (by decide +kernel) rfl, m_inG 286 (by decide +kernel) rfl, m_inG 103 (by decide +kernel) rfl⟩, by decide +kernel⟩
theorem t_X7_init {n0 n1 f l : Nat} : m_mI (mkM RX7 yX7_init cX7_init 1 f l n0 n1 none) 0 := ⟨⟨(m_inG 288 (by decide +kernel) rfl : Cond.instanceMethod yX7_init ∈ m_G), rfl, rfl⟩, ⟨(m_inG 103 (by decide +kernel) rfl : Cond.initialized RX7 ∈ m_G), (m_inG 289 (by decide +kernel) rfl : Cond.code yX7_init cX7_init 1 none ∈ m_G)⟩, ⟨(by decide +kernel : RX7 ≠ "java/lang/invoke/MethodHandle"), (by decide +kernel : RX7 ≠ "java/lang/invoke/VarHandle"), (by decide +kernel : (parseMethodDescriptor yX7_init.desc).map (fun d => d.parameters.length) = some 0)⟩⟩
theorem ol_X7 : Cond.methodLink RX7 3 Lib.objectInit ∈ m_G := m_inG 290 (by decide +kernel) rfl
theorem n_X7_9 : m_nf RX7 9 2 3 := ⟨_, _, cf2, ⟨m_inG 291 (by decide +kernel) rfl, m_inG 242 (by decide +kernel) rfl, m_inG 102 (by decide +kernel) rfl⟩, by decide +kernel⟩
theorem il_X7_11 : Cond.methodLinkNest RX7 11 yX2_init "WeekFoot" ∈ m_N := m_inN 292 (by decide +kernel) rfl
theorem ff_X7_12 : m_ff RX7 12 7 2 0 := ⟨_, _, cf7, by decide, m_inG 293 (by decide +kernel) rfl, rfl, rfl⟩
theorem ff_X7_18 : m_ff RX7 18 7 2 1 := ⟨_, _, cf7, by decide, m_inG 295 (by decide +kernel) rfl, rfl, rfl⟩
theorem bt_93 : g_bt[93]? = some (2, g_p93) := rfl
theorem il_X11_52 : Cond.methodLinkNest RX11 52 yX7_init "WeekFoot" ∈ m_N := m_inN 287 (by decide +kernel) rfl
theorem ff_X11_53 : m_ff RX11 53 11 17 7 := ⟨_, _, cf11, by decide, m_inG 410 (by decide +kernel) rfl, rfl, rfl⟩
theorem n_X11_57 : m_nf RX11 57 10 5 := ⟨_, _, cf10, ⟨m_inG 302 (by decide +kernel) rfl, m_inG 303 (by decide +kernel) rfl, m_inG 104 (by decide +kernel) rfl⟩, by decide +kernel⟩
theorem t_X10_init {n0 n1 f l : Nat} : m_mI (mkM RX10 yX10_init cX10_init 1 f l n0 n1 none) 0 := ⟨⟨(m_inG 305 (by decide +kernel) rfl : Cond.instanceMethod yX10_init ∈ m_G), rfl, rfl⟩, ⟨(m_inG 104 (by decide +kernel) rfl : Cond.initialized RX10 ∈ m_G), (m_inG 306 (by decide +kernel) rfl : Cond.code yX10_init cX10_init 1 none ∈ m_G)⟩, ⟨(by decide +kernel : RX10 ≠ "java/lang/invoke/MethodHandle"), (by decide +kernel : RX10 ≠ "java/lang/invoke/VarHandle"), (by decide +kernel : (parseMethodDescriptor yX10_init.desc).map (fun d => d.parameters.length) = some 0)⟩⟩
theorem ol_X10 : Cond.methodLink RX10 3 Lib.objectInit ∈ m_G := m_inG 307 (by decide +kernel) rfl
theorem bt_97 : g_bt[97]? = some (3, g_p97) := rfl
theorem ff_X10_9 : m_ff RX10 9 10 5 0 := ⟨_, _, cf10, by decide, m_inG 308 (by decide +kernel) rfl, rfl, rfl⟩
theorem bt_98 : g_bt[98]? = some (3, g_p98) := rfl
theorem ff_X10_15 : m_ff RX10 15 10 5 1 := ⟨_, _, cf10, by decide, m_inG 309 (by decide +kernel) rfl, rfl, rfl⟩
theorem bt_96 : g_bt[96]? = some (5, g_p96) := rfl
theorem il_X11_59 : Cond.methodLinkNest RX11 59 yX10_init "WeekFoot" ∈ m_N := m_inN 304 (by decide +kernel) rfl
theorem ff_X11_60 : m_ff RX11 60 11 17 8 := ⟨_, _, cf11, by decide, m_inG 411 (by decide +kernel) rfl, rfl, rfl⟩
theorem n_X11_64 : m_nf RX11 64 0 1 := ⟨_, _, cf0, ⟨m_inG 325 (by decide +kernel) rfl, m_inG 326 (by decide +kernel) rfl, m_inG 105 (by decide +kernel) rfl⟩, by decide +kernel⟩
theorem t_X0_init {n0 n1 f l : Nat} : m_mI (mkM RX0 yX0_init cX0_init 1 f l n0 n1 none) 0 := ⟨⟨(m_inG 328 (by decide +kernel) rfl : Cond.instanceMethod yX0_init ∈ m_G), rfl, rfl⟩, ⟨(m_inG 105 (by decide +kernel) rfl : Cond.initialized RX0 ∈ m_G), (m_inG 329 (by decide +kernel) rfl : Cond.code yX0_init cX0_init 1 none ∈ m_G)⟩, ⟨(by decide +kernel : RX0 ≠ "java/lang/invoke/MethodHandle"), (by decide +kernel : RX0 ≠ "java/lang/invoke/VarHandle"), (by decide +kernel : (parseMethodDescriptor yX0_init.desc).map (fun d => d.parameters.length) = some 0)⟩⟩
theorem ol_X0 : Cond.methodLink RX0 3 Lib.objectInit ∈ m_G := m_inG 330 (by decide +kernel) rfl
theorem bt_100 : g_bt[100]? = some (16, g_p100) := rfl
theorem ff_X0_9 : m_ff RX0 9 0 1 0 := ⟨_, _, cf0, by decide, m_inG 331 (by decide +kernel) rfl, rfl, rfl⟩
theorem bt_99 : g_bt[99]? = some (1, g_p99) := rfl
theorem il_X11_66 : Cond.methodLinkNest RX11 66 yX0_init "WeekFoot" ∈ m_N := m_inN 327 (by decide +kernel) rfl
theorem ff_X11_67 : m_ff RX11 67 11 17 9 := ⟨_, _, cf11, by decide, m_inG 412 (by decide +kernel) rfl, rfl, rfl⟩
theorem n_X11_71 : m_nf RX11 71 3 4 := ⟨_, _, cf3, ⟨m_inG 335 (by decide +kernel) rfl, m_inG 336 (by decide +kernel) rfl, m_inG 106 (by decide +kernel) rfl⟩, by decide +kernel⟩
theorem t_X3_init {n0 n1 f l : Nat} : m_mI (mkM RX3 yX3_init cX3_init 2 f l n0 n1 none) 1 := ⟨⟨(m_inG 338 (by decide +kernel) rfl : Cond.instanceMethod yX3_init ∈ m_G), rfl, rfl⟩, ⟨(m_inG 106 (by decide +kernel) rfl : Cond.initialized RX3 ∈ m_G), (m_inG 339 (by decide +kernel) rfl : Cond.code yX3_init cX3_init 2 none ∈ m_G)⟩, ⟨(by decide +kernel : RX3 ≠ "java/lang/invoke/MethodHandle"), (by decide +kernel : RX3 ≠ "java/lang/invoke/VarHandle"), (by decide +kernel : (parseMethodDescriptor yX3_init.desc).map (fun d => d.parameters.length) = some 1)⟩⟩
theorem ol_X3 : Cond.methodLink RX3 3 Lib.objectInit ∈ m_G := m_inG 340 (by decide +kernel) rfl
theorem ff_X3_9 : m_ff RX3 9 3 4 0 := ⟨_, _, cf3, by decide, m_inG 341 (by decide +kernel) rfl, rfl, rfl⟩
theorem bt_101 : g_bt[101]? = some (4, g_p101) := rfl
theorem il_X11_73 : Cond.methodLink RX11 73 yX3_init ∈ m_G := m_inG 337 (by decide +kernel) rfl
theorem ff_X11_76 : m_ff RX11 76 11 17 10 := ⟨_, _, cf11, by decide, m_inG 413 (by decide +kernel) rfl, rfl, rfl⟩
theorem n_X11_80 : m_nf RX11 80 6 5 := ⟨_, _, cf6, ⟨m_inG 357 (by decide +kernel) rfl, m_inG 358 (by decide +kernel) rfl, m_inG 107 (by decide +kernel) rfl⟩, by decide +kernel⟩
theorem t_X6_init {n0 n1 f l : Nat} : m_mI (mkM RX6 yX6_init cX6_init 2 f l n0 n1 none) 1 := ⟨⟨(m_inG 360 (by decide +kernel) rfl : Cond.instanceMethod yX6_init ∈ m_G), rfl, rfl⟩, ⟨(m_inG 107 (by decide +kernel) rfl : Cond.initialized RX6 ∈ m_G), (m_inG 361 (by decide +kernel) rfl : Cond.code yX6_init cX6_init 2 none ∈ m_G)⟩, ⟨(by decide +kernel : RX6 ≠ "java/lang/invoke/MethodHandle"), (by decide +kernel : RX6 ≠ "java/lang/invoke/VarHandle"), (by decide +kernel : (parseMethodDescriptor yX6_init.desc).map (fun d => d.parameters.length) = some 1)⟩⟩
theorem ol_X6 : Cond.methodLink RX6 3 Lib.objectInit ∈ m_G := m_inG 362 (by decide +kernel) rfl
theorem bt_103 : g_bt[103]? = some (3, g_p103) := rfl
theorem ff_X6_9 : m_ff RX6 9 6 5 1 := ⟨_, _, cf6, by decide, m_inG 364 (by decide +kernel) rfl, rfl, rfl⟩
theorem bt_104 : g_bt[104]? = some (12, g_p104) := rfl
theorem ff_X6_15 : m_ff RX6 15 6 5 2 := ⟨_, _, cf6, by decide, m_inG 365 (by decide +kernel) rfl, rfl, rfl⟩
theorem ff_X6_18 : m_ff RX6 18 6 5 0 := ⟨_, _, cf6, by decide, m_inG 363 (by decide +kernel) rfl, rfl, rfl⟩
theorem bt_102 : g_bt[102]? = some (5, g_p102) := rfl
theorem il_X11_82 : Cond.methodLink RX11 82 yX6_init ∈ m_G := m_inG 359 (by decide +kernel) rfl
theorem ff_X11_83 : m_ff RX11 83 11 17 11 := ⟨_, _, cf11, by decide, m_inG 414 (by decide +kernel) rfl, rfl, rfl⟩
theorem n_X11_87 : m_nf RX11 87 5 4 := ⟨_, _, cf5, ⟨m_inG 380 (by decide +kernel) rfl, m_inG 381 (by decide +kernel) rfl, m_inG 108 (by decide +kernel) rfl⟩, by decide +kernel⟩
theorem t_X5_init {n0 n1 f l : Nat} : m_mI (mkM RX5 yX5_init cX5_init 1 f l n0 n1 none) 0 := ⟨⟨(m_inG 383 (by decide +kernel) rfl : Cond.instanceMethod yX5_init ∈ m_G), rfl, rfl⟩, ⟨(m_inG 108 (by decide +kernel) rfl : Cond.initialized RX5 ∈ m_G), (m_inG 384 (by decide +kernel) rfl : Cond.code yX5_init cX5_init 1 none ∈ m_G)⟩, ⟨(by decide +kernel : RX5 ≠ "java/lang/invoke/MethodHandle"), (by decide +kernel : RX5 ≠ "java/lang/invoke/VarHandle"), (by decide +kernel : (parseMethodDescriptor yX5_init.desc).map (fun d => d.parameters.length) = some 0)⟩⟩
theorem ol_X5 : Cond.methodLink RX5 3 Lib.objectInit ∈ m_G := m_inG 385 (by decide +kernel) rfl
theorem bt_106 : g_bt[106]? = some (32, g_p106) := rfl
theorem ff_X5_9 : m_ff RX5 9 5 4 0 := ⟨_, _, cf5, by decide, m_inG 386 (by decide +kernel) rfl, rfl, rfl⟩
theorem bt_105 : g_bt[105]? = some (4, g_p105) := rfl
theorem il_X11_89 : Cond.methodLinkNest RX11 89 yX5_init "WeekFoot" ∈ m_N := m_inN 382 (by decide +kernel) rfl
theorem ff_X11_90 : m_ff RX11 90 11 17 12 := ⟨_, _, cf11, by decide, m_inG 415 (by decide +kernel) rfl, rfl, rfl⟩
theorem bt_107 : g_bt[107]? = some (5, g_p107) := rfl
theorem ff_X11_94 : m_ff RX11 94 11 17 13 := ⟨_, _, cf11, by decide, m_inG 416 (by decide +kernel) rfl, rfl, rfl⟩
theorem bt_0 : g_bt[0]? = some (17, g_p0) := rfl
