abbrev P_X1_familyOf (h0 : m_H) (a0 : Int) : Int → m_H → Prop := fun x h' => GI h' ∧ FR [] [] h0 h' ∧ 0 ≤ x ∧ x ≤ 2
set_option maxHeartbeats 4000000 in
set_option maxRecDepth 100000 in
theorem c_X1_familyOf (h0 : m_H) (a0 : Int) (G0 : GI h0) : m_CI M_X1_familyOf [mI a0] h0 (P_X1_familyOf h0 a0) := by
  refine m_CI_of ⟨by decide, rfl, by simp [m_arg, m_isL, M_X1_familyOf], ⟨rfl, rfl⟩, rfl, rfl⟩ (ls := [some (mI a0)]) rfl ?_
  refine z_ok (fun _ _ ok => ?_)
  have oa0 : m_32 a0 := ok 0 _ rfl
  unfold m_32 at oa0
  refine z_iload_n (M := M_X1_familyOf) 0 dX1_familyOf_0 rfl ?_
  refine z_bipush (M := M_X1_familyOf) 1 dX1_familyOf_1 ?_
  refine z_icmp_lt (M := M_X1_familyOf) 3 dX1_familyOf_3 14 rfl (fun c1 => ?_) (fun c1 => ?_)
  · refine z_iload_n (M := M_X1_familyOf) 14 dX1_familyOf_14 rfl ?_
    refine z_bipush (M := M_X1_familyOf) 15 dX1_familyOf_15 ?_
    refine z_icmp_lt (M := M_X1_familyOf) 17 dX1_familyOf_17 30 rfl (fun c2 => ?_) (fun c2 => ?_)
    · refine z_iconst (M := M_X1_familyOf) 30 dX1_familyOf_30 ?_
      exact z_retI (M := M_X1_familyOf) 31 dX1_familyOf_31 rfl ⟨G0, (FR.rf (cs := []) (ss := []) (h := h0)), by omega, by omega⟩
    · refine z_iload_n (M := M_X1_familyOf) 20 dX1_familyOf_20 rfl ?_
      refine z_bipush (M := M_X1_familyOf) 21 dX1_familyOf_21 ?_
      refine z_icmp_gt (M := M_X1_familyOf) 23 dX1_familyOf_23 30 rfl (fun c3 => ?_) (fun c3 => ?_)
      · refine z_iconst (M := M_X1_familyOf) 30 dX1_familyOf_30 ?_
        exact z_retI (M := M_X1_familyOf) 31 dX1_familyOf_31 rfl ⟨G0, (FR.rf (cs := []) (ss := []) (h := h0)), by omega, by omega⟩
      · refine z_iconst (M := M_X1_familyOf) 26 dX1_familyOf_26 ?_
        refine z_goto (M := M_X1_familyOf) 27 dX1_familyOf_27 31 rfl ?_
        exact z_retI (M := M_X1_familyOf) 31 dX1_familyOf_31 rfl ⟨G0, (FR.rf (cs := []) (ss := []) (h := h0)), by omega, by omega⟩
  · refine z_iload_n (M := M_X1_familyOf) 6 dX1_familyOf_6 rfl ?_
    refine z_bipush (M := M_X1_familyOf) 7 dX1_familyOf_7 ?_
    refine z_icmp_gt (M := M_X1_familyOf) 9 dX1_familyOf_9 14 rfl (fun c4 => ?_) (fun c4 => ?_)
    · refine z_iload_n (M := M_X1_familyOf) 14 dX1_familyOf_14 rfl ?_
      refine z_bipush (M := M_X1_familyOf) 15 dX1_familyOf_15 ?_
      refine z_icmp_lt_F (M := M_X1_familyOf) 17 dX1_familyOf_17 30 rfl (by omega) ?_
      refine z_iload_n (M := M_X1_familyOf) 20 dX1_familyOf_20 rfl ?_
      refine z_bipush (M := M_X1_familyOf) 21 dX1_familyOf_21 ?_
      refine z_icmp_gt_T (M := M_X1_familyOf) 23 dX1_familyOf_23 30 rfl (by omega) ?_
      refine z_iconst (M := M_X1_familyOf) 30 dX1_familyOf_30 ?_
      exact z_retI (M := M_X1_familyOf) 31 dX1_familyOf_31 rfl ⟨G0, (FR.rf (cs := []) (ss := []) (h := h0)), by omega, by omega⟩
    · refine z_iconst (M := M_X1_familyOf) 12 dX1_familyOf_12 ?_
      exact z_retI (M := M_X1_familyOf) 13 dX1_familyOf_13 rfl ⟨G0, (FR.rf (cs := []) (ss := []) (h := h0)), by omega, by omega⟩
abbrev P_X1_advance (h0 : m_H) : m_H → Prop := fun h' => GI h' ∧ FR [] [(37, 1), (37, 2)] h0 h'
def q_X1_advance (h0 : m_H) (n : Nat) : Prop := (∀ (y_37_1 : Int) (h : m_H), GI h → FR [] [(37, 1), (37, 2)] h0 h → 0 ≤ y_37_1 → y_37_1 ≤ 400 → (h 37 1 = y_37_1) → 2 * (400 - y_37_1) + (804) ≤ (n : Int) → m_Z oF M_X1_advance 8 [some (mR 37), none] [] h (m_QV (P_X1_advance h0))) ∧ (∀ (l1 y_37_2 : Int) (h : m_H), GI h → FR [] [(37, 1), (37, 2)] h0 h → 0 ≤ l1 → l1 ≤ 2 → 1 ≤ y_37_2 → y_37_2 ≤ 400 → (h 37 2 = y_37_2) → 2 * (400 - y_37_2) + (1) ≤ (n : Int) → m_Z oF M_X1_advance 101 [some (mR 37), some (mI l1)] [] h (m_QV (P_X1_advance h0)))
set_option maxHeartbeats 4000000 in
set_option maxRecDepth 100000 in
theorem s_X1_advance_8 (h0 : m_H) (G0 : GI h0) (n : Nat) (ih : q_X1_advance h0 n) : ∀ (y_37_1 : Int) (h : m_H), GI h → FR [] [(37, 1), (37, 2)] h0 h → 0 ≤ y_37_1 → y_37_1 ≤ 400 → (h 37 1 = y_37_1) → 2 * (400 - y_37_1) + (804) ≤ ((n + 1 : Nat) : Int) → m_Z oF M_X1_advance 8 [some (mR 37), none] [] h (m_QV (P_X1_advance h0)) := by
  intro y_37_1 h G R v0 v1 t_37_1 hr
  refine z_aload_n (M := M_X1_advance) 8 dX1_advance_8 rfl ?_
  refine z_getIE (M := M_X1_advance) 9 dX1_advance_9 f_X1_43 o_37 (by decide) t_37_1 ?_
  refine z_aload_n (M := M_X1_advance) 12 dX1_advance_12 rfl ?_
  refine z_getR (M := M_X1_advance) 13 dX1_advance_13 f_X1_9 o_37 rfl (g_37_0 G) ?_
  refine z_getIG (M := M_X1_advance) 16 dX1_advance_16 f_X1_46 o_35 (by decide) (g_35_1 G) (fun x1 ex1 ax1 bx1 => ?_)
  refine z_icmp_ge (M := M_X1_advance) 19 dX1_advance_19 52 rfl (fun c2 => ?_) (fun c2 => ?_)
  · refine z_aload_n (M := M_X1_advance) 52 dX1_advance_52 rfl ?_
    refine z_aload_n (M := M_X1_advance) 53 dX1_advance_53 rfl ?_
    refine z_getIE (M := M_X1_advance) 54 dX1_advance_54 f_X1_43 o_37 (by decide) t_37_1 ?_
    refine z_putIH (M := M_X1_advance) 57 dX1_advance_57 p_X1_19 o_37 rfl (u_37_2 G (by omega) (by omega)) (R.up rfl) (fun h1 E1 G1 R1 => ?_)
    refine z_aload_n (M := M_X1_advance) 60 dX1_advance_60 rfl ?_
    refine z_getIE (M := M_X1_advance) 61 dX1_advance_61 f_X1_43 o_37 (by decide) ((upN E1 (fun q => absurd q.2 (by decide))).trans t_37_1) ?_
    refine z_aload_n (M := M_X1_advance) 64 dX1_advance_64 rfl ?_
    refine z_getR (M := M_X1_advance) 65 dX1_advance_65 f_X1_9 o_37 rfl (g_37_0 G1) ?_
    refine z_getIE (M := M_X1_advance) 68 dX1_advance_68 f_X1_46 o_35 (by decide) ((upN E1 (fun q => absurd q.1 (by decide))).trans ex1) ?_
    refine z_icmp_lt (M := M_X1_advance) 71 dX1_advance_71 75 rfl (fun c3 => ?_) (fun c3 => ?_)
    · refine z_aload_n (M := M_X1_advance) 75 dX1_advance_75 rfl ?_
      refine z_getR (M := M_X1_advance) 76 dX1_advance_76 f_X1_9 o_37 rfl (g_37_0 G1) ?_
      refine z_getR (M := M_X1_advance) 79 dX1_advance_79 f_X1_128 o_35 rfl (g_35_0 G1) ?_
      refine z_aload_n (M := M_X1_advance) 82 dX1_advance_82 rfl ?_
      refine z_getIE (M := M_X1_advance) 83 dX1_advance_83 f_X1_43 o_37 (by decide) ((upN E1 (fun q => absurd q.2 (by decide))).trans t_37_1) ?_
      refine z_ialdG (M := M_X1_advance) 86 dX1_advance_86 o_36 (by omega) (by omega) (g_36 G1 (by omega)) (fun x4 ex4 ax4 bx4 => ?_)
      refine z_sI (M := M_X1_advance) 87 dX1_advance_87 t_X1_familyOf l_X1_139 (m_rr_of rfl) (rest := []) (c_X1_familyOf h1 x4 G1) rfl rfl (Nat.le_of_ble_eq_true rfl) ⟨rfl, rfl⟩ (fun x5 h2 qx5 => ?_)
      obtain ⟨G2, S2, ax5, bx5⟩ := qx5
      have R2 := R1.call S2 (by decide +kernel)
      refine z_istore_n (M := M_X1_advance) 90 dX1_advance_90 (ls' := [some (mR 37), some (mI x5)]) (by decide) rfl ?_
      refine z_aload_n (M := M_X1_advance) 91 dX1_advance_91 rfl ?_
      refine z_dup (M := M_X1_advance) 92 dX1_advance_92 rfl ?_
      refine z_getIE (M := M_X1_advance) 93 dX1_advance_93 f_X1_19 o_37 (by decide) ((S2 37 2 rfl).trans (upE E1)) ?_
      refine z_iconst (M := M_X1_advance) 96 dX1_advance_96 ?_
      refine z_iaddN (M := M_X1_advance) 97 dX1_advance_97 (by omega) (by omega) ?_
      refine z_putIH (M := M_X1_advance) 98 dX1_advance_98 p_X1_19 o_37 rfl (u_37_2 G2 (by omega) (by omega)) (R2.up rfl) (fun h3 E3 G3 R3 => ?_)
      exact z_mask [true, true] rfl (ih.2 x5 (y_37_1 + 1) h3 G3 R3 (by omega) (by omega) (by omega) (by omega) (upE E3) (by omega))
    · exact z_retV (M := M_X1_advance) 74 dX1_advance_74 rfl ⟨G1, R1⟩
  · refine z_aload_n (M := M_X1_advance) 22 dX1_advance_22 rfl ?_
    refine z_getR (M := M_X1_advance) 23 dX1_advance_23 f_X1_9 o_37 rfl (g_37_0 G) ?_
    refine z_getR (M := M_X1_advance) 26 dX1_advance_26 f_X1_128 o_35 rfl (g_35_0 G) ?_
    refine z_aload_n (M := M_X1_advance) 29 dX1_advance_29 rfl ?_
    refine z_getIE (M := M_X1_advance) 30 dX1_advance_30 f_X1_43 o_37 (by decide) t_37_1 ?_
    refine z_ialdG (M := M_X1_advance) 33 dX1_advance_33 o_36 (by omega) (by omega) (g_36 G (by omega)) (fun x6 ex6 ax6 bx6 => ?_)
    refine z_bipush (M := M_X1_advance) 34 dX1_advance_34 ?_
    refine z_icmp_ne (M := M_X1_advance) 36 dX1_advance_36 52 rfl (fun c7 => ?_) (fun c7 => ?_)
    · refine z_aload_n (M := M_X1_advance) 52 dX1_advance_52 rfl ?_
      refine z_aload_n (M := M_X1_advance) 53 dX1_advance_53 rfl ?_
      refine z_getIE (M := M_X1_advance) 54 dX1_advance_54 f_X1_43 o_37 (by decide) t_37_1 ?_
      refine z_putIH (M := M_X1_advance) 57 dX1_advance_57 p_X1_19 o_37 rfl (u_37_2 G (by omega) (by omega)) (R.up rfl) (fun h4 E4 G4 R4 => ?_)
      refine z_aload_n (M := M_X1_advance) 60 dX1_advance_60 rfl ?_
      refine z_getIE (M := M_X1_advance) 61 dX1_advance_61 f_X1_43 o_37 (by decide) ((upN E4 (fun q => absurd q.2 (by decide))).trans t_37_1) ?_
      refine z_aload_n (M := M_X1_advance) 64 dX1_advance_64 rfl ?_
      refine z_getR (M := M_X1_advance) 65 dX1_advance_65 f_X1_9 o_37 rfl (g_37_0 G4) ?_
      refine z_getIE (M := M_X1_advance) 68 dX1_advance_68 f_X1_46 o_35 (by decide) ((upN E4 (fun q => absurd q.1 (by decide))).trans ex1) ?_
      refine z_icmp_lt (M := M_X1_advance) 71 dX1_advance_71 75 rfl (fun c8 => ?_) (fun c8 => ?_)
      · refine z_aload_n (M := M_X1_advance) 75 dX1_advance_75 rfl ?_
        refine z_getR (M := M_X1_advance) 76 dX1_advance_76 f_X1_9 o_37 rfl (g_37_0 G4) ?_
        refine z_getR (M := M_X1_advance) 79 dX1_advance_79 f_X1_128 o_35 rfl (g_35_0 G4) ?_
        refine z_aload_n (M := M_X1_advance) 82 dX1_advance_82 rfl ?_
        refine z_getIE (M := M_X1_advance) 83 dX1_advance_83 f_X1_43 o_37 (by decide) ((upN E4 (fun q => absurd q.2 (by decide))).trans t_37_1) ?_
        refine z_ialdG (M := M_X1_advance) 86 dX1_advance_86 o_36 (by omega) (by omega) (g_36 G4 (by omega)) (fun x9 ex9 ax9 bx9 => ?_)
        refine z_sI (M := M_X1_advance) 87 dX1_advance_87 t_X1_familyOf l_X1_139 (m_rr_of rfl) (rest := []) (c_X1_familyOf h4 x9 G4) rfl rfl (Nat.le_of_ble_eq_true rfl) ⟨rfl, rfl⟩ (fun x10 h5 qx10 => ?_)
        obtain ⟨G5, S5, ax10, bx10⟩ := qx10
        have R5 := R4.call S5 (by decide +kernel)
        refine z_istore_n (M := M_X1_advance) 90 dX1_advance_90 (ls' := [some (mR 37), some (mI x10)]) (by decide) rfl ?_
        refine z_aload_n (M := M_X1_advance) 91 dX1_advance_91 rfl ?_
        refine z_dup (M := M_X1_advance) 92 dX1_advance_92 rfl ?_
        refine z_getIE (M := M_X1_advance) 93 dX1_advance_93 f_X1_19 o_37 (by decide) ((S5 37 2 rfl).trans (upE E4)) ?_
        refine z_iconst (M := M_X1_advance) 96 dX1_advance_96 ?_
        refine z_iaddN (M := M_X1_advance) 97 dX1_advance_97 (by omega) (by omega) ?_
        refine z_putIH (M := M_X1_advance) 98 dX1_advance_98 p_X1_19 o_37 rfl (u_37_2 G5 (by omega) (by omega)) (R5.up rfl) (fun h6 E6 G6 R6 => ?_)
        exact z_mask [true, true] rfl (ih.2 x10 (y_37_1 + 1) h6 G6 R6 (by omega) (by omega) (by omega) (by omega) (upE E6) (by omega))
      · exact z_retV (M := M_X1_advance) 74 dX1_advance_74 rfl ⟨G4, R4⟩
    · refine z_aload_n (M := M_X1_advance) 39 dX1_advance_39 rfl ?_
      refine z_dup (M := M_X1_advance) 40 dX1_advance_40 rfl ?_
      refine z_getIE (M := M_X1_advance) 41 dX1_advance_41 f_X1_43 o_37 (by decide) t_37_1 ?_
      refine z_iconst (M := M_X1_advance) 44 dX1_advance_44 ?_
      refine z_iaddN (M := M_X1_advance) 45 dX1_advance_45 (by omega) (by omega) ?_
      refine z_putIH (M := M_X1_advance) 46 dX1_advance_46 p_X1_43 o_37 rfl (u_37_1 G (by omega) (by omega)) (R.up rfl) (fun h7 E7 G7 R7 => ?_)
      refine z_goto (M := M_X1_advance) 49 dX1_advance_49 8 rfl ?_
      exact z_mask [true, false] rfl (ih.1 (y_37_1 + 1) h7 G7 R7 (by omega) (by omega) (upE E7) (by omega))
set_option maxHeartbeats 4000000 in
set_option maxRecDepth 100000 in
theorem s_X1_advance_101 (h0 : m_H) (G0 : GI h0) (n : Nat) (ih : q_X1_advance h0 n) : ∀ (l1 y_37_2 : Int) (h : m_H), GI h → FR [] [(37, 1), (37, 2)] h0 h → 0 ≤ l1 → l1 ≤ 2 → 1 ≤ y_37_2 → y_37_2 ≤ 400 → (h 37 2 = y_37_2) → 2 * (400 - y_37_2) + (1) ≤ ((n + 1 : Nat) : Int) → m_Z oF M_X1_advance 101 [some (mR 37), some (mI l1)] [] h (m_QV (P_X1_advance h0)) := by
  intro l1 y_37_2 h G R v0 v1 v2 v3 t_37_2 hr
  refine z_iload_n (M := M_X1_advance) 101 dX1_advance_101 rfl ?_
  refine z_if_eq (M := M_X1_advance) 102 dX1_advance_102 151 rfl (fun c1 => ?_) (fun c1 => ?_)
  · exact z_retV (M := M_X1_advance) 151 dX1_advance_151 rfl ⟨G, R⟩
  · refine z_aload_n (M := M_X1_advance) 105 dX1_advance_105 rfl ?_
    refine z_getIE (M := M_X1_advance) 106 dX1_advance_106 f_X1_19 o_37 (by decide) t_37_2 ?_
    refine z_aload_n (M := M_X1_advance) 109 dX1_advance_109 rfl ?_
    refine z_getR (M := M_X1_advance) 110 dX1_advance_110 f_X1_9 o_37 rfl (g_37_0 G) ?_
    refine z_getIG (M := M_X1_advance) 113 dX1_advance_113 f_X1_46 o_35 (by decide) (g_35_1 G) (fun x2 ex2 ax2 bx2 => ?_)
    refine z_icmp_ge (M := M_X1_advance) 116 dX1_advance_116 151 rfl (fun c3 => ?_) (fun c3 => ?_)
    · exact z_retV (M := M_X1_advance) 151 dX1_advance_151 rfl ⟨G, R⟩
    · refine z_aload_n (M := M_X1_advance) 119 dX1_advance_119 rfl ?_
      refine z_getR (M := M_X1_advance) 120 dX1_advance_120 f_X1_9 o_37 rfl (g_37_0 G) ?_
      refine z_getR (M := M_X1_advance) 123 dX1_advance_123 f_X1_128 o_35 rfl (g_35_0 G) ?_
      refine z_aload_n (M := M_X1_advance) 126 dX1_advance_126 rfl ?_
      refine z_getIE (M := M_X1_advance) 127 dX1_advance_127 f_X1_19 o_37 (by decide) t_37_2 ?_
      refine z_ialdG (M := M_X1_advance) 130 dX1_advance_130 o_36 (by omega) (by omega) (g_36 G (by omega)) (fun x4 ex4 ax4 bx4 => ?_)
      refine z_sI (M := M_X1_advance) 131 dX1_advance_131 t_X1_familyOf l_X1_139 (m_rr_of rfl) (rest := []) (c_X1_familyOf h x4 G) rfl rfl (Nat.le_of_ble_eq_true rfl) ⟨rfl, rfl⟩ (fun x5 h1 qx5 => ?_)
      obtain ⟨G1, S1, ax5, bx5⟩ := qx5
      have R1 := R.call S1 (by decide +kernel)
      refine z_iload_n (M := M_X1_advance) 134 dX1_advance_134 rfl ?_
      refine z_icmp_ne (M := M_X1_advance) 135 dX1_advance_135 151 rfl (fun c6 => ?_) (fun c6 => ?_)
      · exact z_retV (M := M_X1_advance) 151 dX1_advance_151 rfl ⟨G1, R1⟩
      · refine z_aload_n (M := M_X1_advance) 138 dX1_advance_138 rfl ?_
        refine z_dup (M := M_X1_advance) 139 dX1_advance_139 rfl ?_
        refine z_getIE (M := M_X1_advance) 140 dX1_advance_140 f_X1_19 o_37 (by decide) ((S1 37 2 rfl).trans t_37_2) ?_
        refine z_iconst (M := M_X1_advance) 143 dX1_advance_143 ?_
        refine z_iaddN (M := M_X1_advance) 144 dX1_advance_144 (by omega) (by omega) ?_
        refine z_putIH (M := M_X1_advance) 145 dX1_advance_145 p_X1_19 o_37 rfl (u_37_2 G1 (by omega) (by omega)) (R1.up rfl) (fun h2 E2 G2 R2 => ?_)
        refine z_goto (M := M_X1_advance) 148 dX1_advance_148 101 rfl ?_
        exact z_mask [true, true] rfl (ih.2 l1 (y_37_2 + 1) h2 G2 R2 (by omega) (by omega) (by omega) (by omega) (upE E2) (by omega))
theorem a_X1_advance (h0 : m_H) (G0 : GI h0) : ∀ n, q_X1_advance h0 n := by
  intro n
  induction n with
  | zero => unfold q_X1_advance; refine ⟨?_, ?_⟩ <;> (intros; omega)
  | succ n ih => exact ⟨s_X1_advance_8 h0 G0 n ih, s_X1_advance_101 h0 G0 n ih⟩
set_option maxHeartbeats 4000000 in
set_option maxRecDepth 100000 in
theorem c_X1_advance (h0 : m_H) (G0 : GI h0) : m_CV M_X1_advance [mR 37] h0 (P_X1_advance h0) := by
  refine m_CV_of ⟨by decide, rfl, by simp [m_arg, m_isL, M_X1_advance], ⟨rfl, rfl⟩, rfl, rfl⟩ (ls := [some (mR 37), none]) rfl ?_
  have ih := a_X1_advance h0 G0 1611
  refine z_aload_n (M := M_X1_advance) 0 dX1_advance_0 rfl ?_
  refine z_aload_n (M := M_X1_advance) 1 dX1_advance_1 rfl ?_
  refine z_getIG (M := M_X1_advance) 2 dX1_advance_2 f_X1_19 o_37 (by decide) (g_37_2 G0) (fun x1 ex1 ax1 bx1 => ?_)
  refine z_putIH (M := M_X1_advance) 5 dX1_advance_5 p_X1_43 o_37 rfl (u_37_1 G0 (by omega) (by omega)) ((FR.rf (cs := []) (ss := [(37, 1), (37, 2)]) (h := h0)).up rfl) (fun h1 E1 G1 R1 => ?_)
  exact z_mask [true, false] rfl (ih.1 x1 h1 G1 R1 (by omega) (by omega) (upE E1) (by omega))
abbrev P_X1_value (h0 : m_H) : Int → m_H → Prop := fun x h' => GI h' ∧ FR [] [] h0 h' ∧ (-2147483648) ≤ x ∧ x ≤ 1000
def q_X1_value (h0 : m_H) (n : Nat) : Prop := (∀ (l1 l2 : Int) (h : m_H), GI h → FR [] [] h0 h → (-2147483648) ≤ l1 → l1 ≤ 1000 → 0 ≤ l2 → l2 ≤ 400 → 2 * (400 - l2) + (1) ≤ (n : Int) → m_Z oF M_X1_value 42 [some (mR 37), some (mI l1), some (mI l2)] [] h (m_QI (P_X1_value h0)))
set_option maxHeartbeats 4000000 in
set_option maxRecDepth 100000 in
theorem s_X1_value_42 (h0 : m_H) (G0 : GI h0) (n : Nat) (ih : q_X1_value h0 n) : ∀ (l1 l2 : Int) (h : m_H), GI h → FR [] [] h0 h → (-2147483648) ≤ l1 → l1 ≤ 1000 → 0 ≤ l2 → l2 ≤ 400 → 2 * (400 - l2) + (1) ≤ ((n + 1 : Nat) : Int) → m_Z oF M_X1_value 42 [some (mR 37), some (mI l1), some (mI l2)] [] h (m_QI (P_X1_value h0)) := by
  intro l1 l2 h G R v0 v1 v2 v3 hr
  refine z_iload_n (M := M_X1_value) 42 dX1_value_42 rfl ?_
  refine z_aload_n (M := M_X1_value) 43 dX1_value_43 rfl ?_
  refine z_getIG (M := M_X1_value) 44 dX1_value_44 f_X1_19 o_37 (by decide) (g_37_2 G) (fun x1 ex1 ax1 bx1 => ?_)
  refine z_icmp_ge (M := M_X1_value) 47 dX1_value_47 80 rfl (fun c2 => ?_) (fun c2 => ?_)
  · refine z_iload_n (M := M_X1_value) 80 dX1_value_80 rfl ?_
    exact z_retI (M := M_X1_value) 81 dX1_value_81 rfl ⟨G, R, by omega, by omega⟩
  · refine z_sipush (M := M_X1_value) 50 dX1_value_50 ?_
    refine z_bipush (M := M_X1_value) 53 dX1_value_53 ?_
    refine z_iload_n (M := M_X1_value) 55 dX1_value_55 rfl ?_
    refine z_imul (M := M_X1_value) 56 dX1_value_56 ?_
    refine z_topm (fun x3 ex3 ox3 => ?_)
    unfold m_32 at ox3
    refine z_aload_n (M := M_X1_value) 57 dX1_value_57 rfl ?_
    refine z_getR (M := M_X1_value) 58 dX1_value_58 f_X1_9 o_37 rfl (g_37_0 G) ?_
    refine z_getR (M := M_X1_value) 61 dX1_value_61 f_X1_128 o_35 rfl (g_35_0 G) ?_
    refine z_iload_n (M := M_X1_value) 64 dX1_value_64 rfl ?_
    refine z_ialdG (M := M_X1_value) 65 dX1_value_65 o_36 (by omega) (by omega) (g_36 G (by omega)) (fun x4 ex4 ax4 bx4 => ?_)
    refine z_iadd (M := M_X1_value) 66 dX1_value_66 ?_
    refine z_topm (fun x5 ex5 ox5 => ?_)
    unfold m_32 at ox5
    refine z_bipush (M := M_X1_value) 67 dX1_value_67 ?_
    refine z_isub (M := M_X1_value) 69 dX1_value_69 ?_
    refine z_topm (fun x6 ex6 ox6 => ?_)
    unfold m_32 at ox6
    refine z_minI (M := M_X1_value) 70 dX1_value_70 ml_X1_143 (rest := []) (Nat.le_of_ble_eq_true rfl) (Nat.le_of_ble_eq_true rfl) ?_
    refine z_topBI (lo := (-2147483648)) (hi := 1000) ⟨by split <;> omega, by split <;> omega⟩ (fun x7 ex7 ax7 bx7 => ?_)
    refine z_istore_n (M := M_X1_value) 73 dX1_value_73 (ls' := [some (mR 37), some (mI x7), some (mI l2)]) (by decide) rfl ?_
    refine z_iincN (M := M_X1_value) 74 dX1_value_74 (ls' := [some (mR 37), some (mI x7), some (mI (l2 + 1))]) (by decide) rfl (by (unfold m_32; decide)) (by omega) (by omega) rfl ?_
    refine z_goto (M := M_X1_value) 77 dX1_value_77 42 rfl ?_
    exact z_mask [true, true, true] rfl (ih x7 (l2 + 1) h G R (by omega) (by omega) (by omega) (by omega) (by omega))
theorem a_X1_value (h0 : m_H) (G0 : GI h0) : ∀ n, q_X1_value h0 n := by
  intro n
  induction n with
  | zero => unfold q_X1_value; intros; omega
  | succ n ih => exact s_X1_value_42 h0 G0 n ih
set_option maxHeartbeats 4000000 in
set_option maxRecDepth 100000 in
theorem c_X1_value (h0 : m_H) (G0 : GI h0) : m_CI M_X1_value [mR 37] h0 (P_X1_value h0) := by
  refine m_CI_of ⟨by decide, rfl, by simp [m_arg, m_isL, M_X1_value], ⟨rfl, rfl⟩, rfl, rfl⟩ (ls := [some (mR 37), none, none]) rfl ?_
  have ih := a_X1_value h0 G0 808
  refine z_aload_n (M := M_X1_value) 0 dX1_value_0 rfl ?_
  refine z_getIG (M := M_X1_value) 1 dX1_value_1 f_X1_43 o_37 (by decide) (g_37_1 G0) (fun x1 ex1 ax1 bx1 => ?_)
  refine z_aload_n (M := M_X1_value) 4 dX1_value_4 rfl ?_
  refine z_getR (M := M_X1_value) 5 dX1_value_5 f_X1_9 o_37 rfl (g_37_0 G0) ?_
  refine z_getIG (M := M_X1_value) 8 dX1_value_8 f_X1_46 o_35 (by decide) (g_35_1 G0) (fun x2 ex2 ax2 bx2 => ?_)
  refine z_icmp_ge (M := M_X1_value) 11 dX1_value_11 33 rfl (fun c3 => ?_) (fun c3 => ?_)
  · refine z_iconst (M := M_X1_value) 33 dX1_value_33 ?_
    exact z_retI (M := M_X1_value) 34 dX1_value_34 rfl ⟨G0, (FR.rf (cs := []) (ss := []) (h := h0)), by omega, by omega⟩
  · refine z_aload_n (M := M_X1_value) 14 dX1_value_14 rfl ?_
    refine z_getR (M := M_X1_value) 15 dX1_value_15 f_X1_9 o_37 rfl (g_37_0 G0) ?_
    refine z_getR (M := M_X1_value) 18 dX1_value_18 f_X1_128 o_35 rfl (g_35_0 G0) ?_
    refine z_aload_n (M := M_X1_value) 21 dX1_value_21 rfl ?_
    refine z_getIE (M := M_X1_value) 22 dX1_value_22 f_X1_43 o_37 (by decide) ex1 ?_
    refine z_ialdG (M := M_X1_value) 25 dX1_value_25 o_36 (by omega) (by omega) (g_36 G0 (by omega)) (fun x4 ex4 ax4 bx4 => ?_)
    refine z_sI (M := M_X1_value) 26 dX1_value_26 t_X1_familyOf l_X1_139 (m_rr_of rfl) (rest := []) (c_X1_familyOf h0 x4 G0) rfl rfl (Nat.le_of_ble_eq_true rfl) ⟨rfl, rfl⟩ (fun x5 h1 qx5 => ?_)
    obtain ⟨G1, S1, ax5, bx5⟩ := qx5
    have R1 := (FR.rf (cs := []) (ss := []) (h := h0)).call S1 (by decide +kernel)
    refine z_iconst (M := M_X1_value) 29 dX1_value_29 ?_
    refine z_icmp_eq (M := M_X1_value) 30 dX1_value_30 35 rfl (fun c6 => ?_) (fun c6 => ?_)
    · refine z_iconst (M := M_X1_value) 35 dX1_value_35 ?_
      refine z_istore_n (M := M_X1_value) 36 dX1_value_36 (ls' := [some (mR 37), some (mI 0), none]) (by decide) rfl ?_
      refine z_aload_n (M := M_X1_value) 37 dX1_value_37 rfl ?_
      refine z_getIE (M := M_X1_value) 38 dX1_value_38 f_X1_43 o_37 (by decide) ((S1 37 1 rfl).trans ex1) ?_
      refine z_istore_n (M := M_X1_value) 41 dX1_value_41 (ls' := [some (mR 37), some (mI 0), some (mI x1)]) (by decide) rfl ?_
      exact z_mask [true, true, true] rfl (ih 0 x1 h1 G1 R1 (by omega) (by omega) (by omega) (by omega) (by omega))
    · refine z_iconst (M := M_X1_value) 33 dX1_value_33 ?_
      exact z_retI (M := M_X1_value) 34 dX1_value_34 rfl ⟨G1, R1, by omega, by omega⟩
abbrev P_X1_takeNumber (h0 : m_H) (a1 a2 : Int) : Int → m_H → Prop := fun x h' => GI h' ∧ FR [] [(37, 1), (37, 2)] h0 h' ∧ -1 ≤ x ∧ x ≤ a2 ∧ (x = -1 ∨ a1 ≤ x)
set_option maxHeartbeats 4000000 in
set_option maxRecDepth 100000 in
theorem c_X1_takeNumber (h0 : m_H) (a1 a2 : Int) (G0 : GI h0) (pa1 : 0 ≤ a1 ∧ a1 ≤ 31) (pa2 : 0 ≤ a2 ∧ a2 ≤ 99) : m_CI M_X1_takeNumber [mR 37, mI a1, mI a2] h0 (P_X1_takeNumber h0 a1 a2) := by
  refine m_CI_of ⟨by decide, rfl, by simp [m_arg, m_isL, M_X1_takeNumber], ⟨rfl, rfl⟩, rfl, rfl⟩ (ls := [some (mR 37), some (mI a1), some (mI a2), none]) rfl ?_
  refine z_aload_n (M := M_X1_takeNumber) 0 dX1_takeNumber_0 rfl ?_
  refine z_vI (M := M_X1_takeNumber) 1 dX1_takeNumber_1 t_X1_value l_X1_72 (m_rr_of rfl) (rest := []) (c_X1_value h0 G0) o_37 rfl rfl rfl (Nat.le_of_ble_eq_true rfl) ⟨rfl, rfl⟩ (fun x1 h1 qx1 => ?_)
  obtain ⟨G1, S1, ax1, bx1⟩ := qx1
  have R1 := (FR.rf (cs := []) (ss := [(37, 1), (37, 2)]) (h := h0)).call S1 (by decide +kernel)
  refine z_istore_n (M := M_X1_takeNumber) 4 dX1_takeNumber_4 (ls' := [some (mR 37), some (mI a1), some (mI a2), some (mI x1)]) (by decide) rfl ?_
  refine z_iload_n (M := M_X1_takeNumber) 5 dX1_takeNumber_5 rfl ?_
  refine z_iload_n (M := M_X1_takeNumber) 6 dX1_takeNumber_6 rfl ?_
  refine z_iload_n (M := M_X1_takeNumber) 7 dX1_takeNumber_7 rfl ?_
  refine z_nI (M := M_X1_takeNumber) 8 dX1_takeNumber_8 t_X11_within l_X1_135 (m_rr_of rfl) (rest := []) (c_X11_within h1 x1 a1 a2 G1) rfl rfl (Nat.le_of_ble_eq_true rfl) ⟨rfl, rfl⟩ (fun x2 h2 qx2 => ?_)
  obtain ⟨rfl, ⟨rfl, cx2⟩ | ⟨rfl, cx2⟩⟩ := qx2
  · refine z_if_ne_T (M := M_X1_takeNumber) 11 dX1_takeNumber_11 16 rfl (by omega) ?_
    refine z_aload_n (M := M_X1_takeNumber) 16 dX1_takeNumber_16 rfl ?_
    refine z_vV (M := M_X1_takeNumber) 17 dX1_takeNumber_17 t_X1_advance l_X1_22 (m_rr_of rfl) (rest := []) (c_X1_advance h1 G1) o_37 rfl rfl rfl (Nat.le_of_ble_eq_true rfl) ⟨rfl, rfl⟩ (fun h3 qx3 => ?_)
    obtain ⟨G3, S3⟩ := qx3
    have R3 := R1.call S3 (by decide +kernel)
    refine z_iload_n (M := M_X1_takeNumber) 20 dX1_takeNumber_20 rfl ?_
    exact z_retI (M := M_X1_takeNumber) 21 dX1_takeNumber_21 rfl ⟨G3, R3, by omega, by omega, by omega⟩
  · refine z_if_ne_F (M := M_X1_takeNumber) 11 dX1_takeNumber_11 16 rfl (by omega) ?_
    refine z_iconst (M := M_X1_takeNumber) 14 dX1_takeNumber_14 ?_
    exact z_retI (M := M_X1_takeNumber) 15 dX1_takeNumber_15 rfl ⟨G1, R1, by omega, by omega, by omega⟩
