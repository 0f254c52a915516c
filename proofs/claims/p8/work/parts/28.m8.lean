abbrev P_X12_edge (h0 : m_H) (a1 a2 a3 a4 a5 : Int) : m_H → Prop := fun h' => GI h' ∧ FR [117, 118, 119, 120, 121] [(108, 21)] h0 h' ∧ h' 108 21 = h0 108 21 + 1
set_option maxHeartbeats 4000000 in
set_option maxRecDepth 100000 in
theorem c_X12_edge (h0 : m_H) (a1 a2 a3 a4 a5 : Int) (G0 : GI h0) (pa1 : 0 ≤ a1 ∧ a1 ≤ 15) (pa2 : 0 ≤ a2 ∧ a2 ≤ 15) (pa3 : 0 ≤ a3 ∧ a3 ≤ 199) (pa4 : 0 ≤ a4 ∧ a4 ≤ 199) (pa5 : 0 ≤ a5 ∧ a5 ≤ 1) (he : h0 108 21 ≤ 59) : m_CV M_X12_edge [mR 108, mI a1, mI a2, mI a3, mI a4, mI a5] h0 (P_X12_edge h0 a1 a2 a3 a4 a5) := by
  refine m_CV_of ⟨by decide, rfl, by simp [m_arg, m_isL, M_X12_edge], ⟨rfl, rfl⟩, rfl, rfl⟩ (ls := [some (mR 108), some (mI a1), some (mI a2), some (mI a3), some (mI a4), some (mI a5)]) rfl ?_
  obtain ⟨x1, ex1⟩ : ∃ y : Int, h0 108 21 = y := ⟨_, rfl⟩
  have bx1 : 0 ≤ x1 ∧ x1 ≤ 60 := ex1 ▸ g_108_21 G0
  refine z_aload_n (M := M_X12_edge) 0 dX12_edge_0 rfl ?_
  refine z_getR (M := M_X12_edge) 1 dX12_edge_1 f_X12_40 o_108 rfl (g_108_22 G0) ?_
  refine z_aload_n (M := M_X12_edge) 4 dX12_edge_4 rfl ?_
  refine z_getIE (M := M_X12_edge) 5 dX12_edge_5 f_X12_333 o_108 (by decide) ex1 ?_
  refine z_iload_n (M := M_X12_edge) 8 dX12_edge_8 rfl ?_
  refine z_iastH (M := M_X12_edge) 9 dX12_edge_9 o_117 (by omega) (by omega) (u_117 G0 (by omega) (by omega)) ((FR.rf (cs := [117, 118, 119, 120, 121]) (ss := [(108, 21)]) (h := h0)).up rfl) (fun h1 E1 G1 R1 => ?_)
  refine z_aload_n (M := M_X12_edge) 10 dX12_edge_10 rfl ?_
  refine z_getR (M := M_X12_edge) 11 dX12_edge_11 f_X12_43 o_108 rfl (g_108_23 G1) ?_
  refine z_aload_n (M := M_X12_edge) 14 dX12_edge_14 rfl ?_
  refine z_getIE (M := M_X12_edge) 15 dX12_edge_15 f_X12_333 o_108 (by decide) ((upN E1 (fun q => absurd q.1 (by decide))).trans ex1) ?_
  refine z_iload_n (M := M_X12_edge) 18 dX12_edge_18 rfl ?_
  refine z_iastH (M := M_X12_edge) 19 dX12_edge_19 o_118 (by omega) (by omega) (u_118 G1 (by omega) (by omega)) (R1.up rfl) (fun h2 E2 G2 R2 => ?_)
  refine z_aload_n (M := M_X12_edge) 20 dX12_edge_20 rfl ?_
  refine z_getR (M := M_X12_edge) 21 dX12_edge_21 f_X12_46 o_108 rfl (g_108_24 G2) ?_
  refine z_aload_n (M := M_X12_edge) 24 dX12_edge_24 rfl ?_
  refine z_getIE (M := M_X12_edge) 25 dX12_edge_25 f_X12_333 o_108 (by decide) ((upN E2 (fun q => absurd q.1 (by decide))).trans ((upN E1 (fun q => absurd q.1 (by decide))).trans ex1)) ?_
  refine z_iload_n (M := M_X12_edge) 28 dX12_edge_28 rfl ?_
  refine z_iastH (M := M_X12_edge) 29 dX12_edge_29 o_119 (by omega) (by omega) (u_119 G2 (by omega) (by omega)) (R2.up rfl) (fun h3 E3 G3 R3 => ?_)
  refine z_aload_n (M := M_X12_edge) 30 dX12_edge_30 rfl ?_
  refine z_getR (M := M_X12_edge) 31 dX12_edge_31 f_X12_49 o_108 rfl (g_108_25 G3) ?_
  refine z_aload_n (M := M_X12_edge) 34 dX12_edge_34 rfl ?_
  refine z_getIE (M := M_X12_edge) 35 dX12_edge_35 f_X12_333 o_108 (by decide) ((upN E3 (fun q => absurd q.1 (by decide))).trans ((upN E2 (fun q => absurd q.1 (by decide))).trans ((upN E1 (fun q => absurd q.1 (by decide))).trans ex1))) ?_
  refine z_iload (M := M_X12_edge) 38 dX12_edge_38 rfl ?_
  refine z_iastH (M := M_X12_edge) 40 dX12_edge_40 o_120 (by omega) (by omega) (u_120 G3 (by omega) (by omega)) (R3.up rfl) (fun h4 E4 G4 R4 => ?_)
  refine z_aload_n (M := M_X12_edge) 41 dX12_edge_41 rfl ?_
  refine z_getR (M := M_X12_edge) 42 dX12_edge_42 f_X12_52 o_108 rfl (g_108_26 G4) ?_
  refine z_aload_n (M := M_X12_edge) 45 dX12_edge_45 rfl ?_
  refine z_getIE (M := M_X12_edge) 46 dX12_edge_46 f_X12_333 o_108 (by decide) ((upN E4 (fun q => absurd q.1 (by decide))).trans ((upN E3 (fun q => absurd q.1 (by decide))).trans ((upN E2 (fun q => absurd q.1 (by decide))).trans ((upN E1 (fun q => absurd q.1 (by decide))).trans ex1)))) ?_
  refine z_iload (M := M_X12_edge) 49 dX12_edge_49 rfl ?_
  refine z_zastH (M := M_X12_edge) 51 dX12_edge_51 o_121 (by omega) (by omega) (by omega) (u_121 G4 (by omega) (by omega)) (R4.up rfl) (fun h5 E5 G5 R5 => ?_)
  refine z_aload_n (M := M_X12_edge) 52 dX12_edge_52 rfl ?_
  refine z_dup (M := M_X12_edge) 53 dX12_edge_53 rfl ?_
  refine z_getIE (M := M_X12_edge) 54 dX12_edge_54 f_X12_333 o_108 (by decide) ((upN E5 (fun q => absurd q.1 (by decide))).trans ((upN E4 (fun q => absurd q.1 (by decide))).trans ((upN E3 (fun q => absurd q.1 (by decide))).trans ((upN E2 (fun q => absurd q.1 (by decide))).trans ((upN E1 (fun q => absurd q.1 (by decide))).trans ex1))))) ?_
  refine z_iconst (M := M_X12_edge) 57 dX12_edge_57 ?_
  refine z_iaddN (M := M_X12_edge) 58 dX12_edge_58 (by omega) (by omega) ?_
  refine z_putIH (M := M_X12_edge) 59 dX12_edge_59 p_X12_333 o_108 rfl (u_108_21 G5 (by omega) (by omega)) (R5.up rfl) (fun h6 E6 G6 R6 => ?_)
  have ze : h6 108 21 = (x1 + 1) := (upE E6)
  exact z_retV (M := M_X12_edge) 62 dX12_edge_62 rfl ⟨G6, R6, by omega⟩
abbrev P_X12_startAt (h0 : m_H) (a1 : Int) : m_H → Prop := fun h' => GI h' ∧ FR [124, 125, 126, 127] [] h0 h'
def q_X12_startAt (h0 : m_H) (a1 : Int) (n : Nat) : Prop := (∀ (l2 : Int) (h : m_H), GI h → FR [124, 125, 126, 127] [] h0 h → 0 ≤ l2 → l2 ≤ 16 → (-2147483648) ≤ a1 → a1 ≤ 2147483647 → 15 * (16 - l2) + (14) ≤ (n : Int) → m_Z oF M_X12_startAt 2 [some (mR 108), some (mI a1), some (mI l2), none] [] h (m_QV (P_X12_startAt h0 a1))) ∧ (∀ (l2 l3 : Int) (h : m_H), GI h → FR [124, 125, 126, 127] [] h0 h → 0 ≤ l2 → l2 ≤ 15 → 0 ≤ l3 → l3 ≤ 5 → (-2147483648) ≤ a1 → a1 ≤ 2147483647 → 15 * (16 - l2) + 2 * (5 - l3) + (1) ≤ (n : Int) → m_Z oF M_X12_startAt 10 [some (mR 108), some (mI a1), some (mI l2), some (mI l3)] [] h (m_QV (P_X12_startAt h0 a1)))
set_option maxHeartbeats 4000000 in
set_option maxRecDepth 100000 in
theorem s_X12_startAt_2 (h0 : m_H) (a1 : Int) (G0 : GI h0) (n : Nat) (ih : q_X12_startAt h0 a1 n) : ∀ (l2 : Int) (h : m_H), GI h → FR [124, 125, 126, 127] [] h0 h → 0 ≤ l2 → l2 ≤ 16 → (-2147483648) ≤ a1 → a1 ≤ 2147483647 → 15 * (16 - l2) + (14) ≤ ((n + 1 : Nat) : Int) → m_Z oF M_X12_startAt 2 [some (mR 108), some (mI a1), some (mI l2), none] [] h (m_QV (P_X12_startAt h0 a1)) := by
  intro l2 h G R v0 v1 v2 v3 hr
  refine z_iload_n (M := M_X12_startAt) 2 dX12_startAt_2 rfl ?_
  refine z_bipush (M := M_X12_startAt) 3 dX12_startAt_3 ?_
  refine z_icmp_ge (M := M_X12_startAt) 5 dX12_startAt_5 93 rfl (fun c1 => ?_) (fun c1 => ?_)
  · exact z_retV (M := M_X12_startAt) 93 dX12_startAt_93 rfl ⟨G, R⟩
  · refine z_iconst (M := M_X12_startAt) 8 dX12_startAt_8 ?_
    refine z_istore_n (M := M_X12_startAt) 9 dX12_startAt_9 (ls' := [some (mR 108), some (mI a1), some (mI l2), some (mI 0)]) (by decide) rfl ?_
    exact z_mask [true, true, true, true] rfl (ih.2 l2 0 h G R (by omega) (by omega) (by omega) (by omega) (by omega) (by omega) (by omega))
set_option maxHeartbeats 4000000 in
set_option maxRecDepth 100000 in
theorem s_X12_startAt_10 (h0 : m_H) (a1 : Int) (G0 : GI h0) (n : Nat) (ih : q_X12_startAt h0 a1 n) : ∀ (l2 l3 : Int) (h : m_H), GI h → FR [124, 125, 126, 127] [] h0 h → 0 ≤ l2 → l2 ≤ 15 → 0 ≤ l3 → l3 ≤ 5 → (-2147483648) ≤ a1 → a1 ≤ 2147483647 → 15 * (16 - l2) + 2 * (5 - l3) + (1) ≤ ((n + 1 : Nat) : Int) → m_Z oF M_X12_startAt 10 [some (mR 108), some (mI a1), some (mI l2), some (mI l3)] [] h (m_QV (P_X12_startAt h0 a1)) := by
  intro l2 l3 h G R v0 v1 v2 v3 v4 v5 hr
  refine z_iload_n (M := M_X12_startAt) 10 dX12_startAt_10 rfl ?_
  refine z_iconst (M := M_X12_startAt) 11 dX12_startAt_11 ?_
  refine z_icmp_ge (M := M_X12_startAt) 12 dX12_startAt_12 59 rfl (fun c1 => ?_) (fun c1 => ?_)
  · refine z_aload_n (M := M_X12_startAt) 59 dX12_startAt_59 rfl ?_
    refine z_getR (M := M_X12_startAt) 60 dX12_startAt_60 f_X12_67 o_108 rfl (g_108_31 G) ?_
    refine z_iload_n (M := M_X12_startAt) 63 dX12_startAt_63 rfl ?_
    refine z_iconst (M := M_X12_startAt) 64 dX12_startAt_64 ?_
    refine z_zastH (M := M_X12_startAt) 65 dX12_startAt_65 o_126 (by omega) (by omega) (by omega) (u_126 G (by omega) (by omega)) (R.up rfl) (fun h1 E1 G1 R1 => ?_)
    refine z_aload_n (M := M_X12_startAt) 66 dX12_startAt_66 rfl ?_
    refine z_getR (M := M_X12_startAt) 67 dX12_startAt_67 f_X12_70 o_108 rfl (g_108_32 G1) ?_
    refine z_iload_n (M := M_X12_startAt) 70 dX12_startAt_70 rfl ?_
    refine z_iload_n (M := M_X12_startAt) 71 dX12_startAt_71 rfl ?_
    refine z_iconst (M := M_X12_startAt) 72 dX12_startAt_72 ?_
    refine z_icmp_eq (M := M_X12_startAt) 73 dX12_startAt_73 81 rfl (fun c2 => ?_) (fun c2 => ?_)
    · refine z_iconst (M := M_X12_startAt) 81 dX12_startAt_81 ?_
      refine z_goto (M := M_X12_startAt) 82 dX12_startAt_82 86 rfl ?_
      refine z_zastH (M := M_X12_startAt) 86 dX12_startAt_86 o_127 (by omega) (by omega) (by omega) (u_127 G1 (by omega) (by omega)) (R1.up rfl) (fun h2 E2 G2 R2 => ?_)
      refine z_iincN (M := M_X12_startAt) 87 dX12_startAt_87 (ls' := [some (mR 108), some (mI a1), some (mI (l2 + 1)), some (mI l3)]) (by decide) rfl (by (unfold m_32; decide)) (by omega) (by omega) rfl ?_
      refine z_goto (M := M_X12_startAt) 90 dX12_startAt_90 2 rfl ?_
      exact z_mask [true, true, true, false] rfl (ih.1 (l2 + 1) h2 G2 R2 (by omega) (by omega) (by omega) (by omega) (by omega))
    · refine z_iload_n (M := M_X12_startAt) 76 dX12_startAt_76 rfl ?_
      refine z_iload_n (M := M_X12_startAt) 77 dX12_startAt_77 rfl ?_
      refine z_icmp_ne (M := M_X12_startAt) 78 dX12_startAt_78 85 rfl (fun c3 => ?_) (fun c3 => ?_)
      · refine z_iconst (M := M_X12_startAt) 85 dX12_startAt_85 ?_
        refine z_zastH (M := M_X12_startAt) 86 dX12_startAt_86 o_127 (by omega) (by omega) (by omega) (u_127 G1 (by omega) (by omega)) (R1.up rfl) (fun h3 E3 G3 R3 => ?_)
        refine z_iincN (M := M_X12_startAt) 87 dX12_startAt_87 (ls' := [some (mR 108), some (mI a1), some (mI (l2 + 1)), some (mI l3)]) (by decide) rfl (by (unfold m_32; decide)) (by omega) (by omega) rfl ?_
        refine z_goto (M := M_X12_startAt) 90 dX12_startAt_90 2 rfl ?_
        exact z_mask [true, true, true, false] rfl (ih.1 (l2 + 1) h3 G3 R3 (by omega) (by omega) (by omega) (by omega) (by omega))
      · refine z_iconst (M := M_X12_startAt) 81 dX12_startAt_81 ?_
        refine z_goto (M := M_X12_startAt) 82 dX12_startAt_82 86 rfl ?_
        refine z_zastH (M := M_X12_startAt) 86 dX12_startAt_86 o_127 (by omega) (by omega) (by omega) (u_127 G1 (by omega) (by omega)) (R1.up rfl) (fun h4 E4 G4 R4 => ?_)
        refine z_iincN (M := M_X12_startAt) 87 dX12_startAt_87 (ls' := [some (mR 108), some (mI a1), some (mI (l2 + 1)), some (mI l3)]) (by decide) rfl (by (unfold m_32; decide)) (by omega) (by omega) rfl ?_
        refine z_goto (M := M_X12_startAt) 90 dX12_startAt_90 2 rfl ?_
        exact z_mask [true, true, true, false] rfl (ih.1 (l2 + 1) h4 G4 R4 (by omega) (by omega) (by omega) (by omega) (by omega))
  · refine z_aload_n (M := M_X12_startAt) 15 dX12_startAt_15 rfl ?_
    refine z_getR (M := M_X12_startAt) 16 dX12_startAt_16 f_X12_61 o_108 rfl (g_108_29 G) ?_
    refine z_iconst (M := M_X12_startAt) 19 dX12_startAt_19 ?_
    refine z_iload_n (M := M_X12_startAt) 20 dX12_startAt_20 rfl ?_
    refine z_imulN (M := M_X12_startAt) 21 dX12_startAt_21 (by omega) (by omega) ?_
    refine z_iload_n (M := M_X12_startAt) 22 dX12_startAt_22 rfl ?_
    refine z_iaddN (M := M_X12_startAt) 23 dX12_startAt_23 (by omega) (by omega) ?_
    refine z_iload_n (M := M_X12_startAt) 24 dX12_startAt_24 rfl ?_
    refine z_if_ne (M := M_X12_startAt) 25 dX12_startAt_25 32 rfl (fun c4 => ?_) (fun c4 => ?_)
    · refine z_lconst (M := M_X12_startAt) 32 dX12_startAt_32 (v := 0) ?_
      refine z_lastH (M := M_X12_startAt) 33 dX12_startAt_33 o_124 (by omega) (by omega) (u_124 G (by omega) (by omega)) (R.up rfl) (fun h5 E5 G5 R5 => ?_)
      refine z_aload_n (M := M_X12_startAt) 34 dX12_startAt_34 rfl ?_
      refine z_getR (M := M_X12_startAt) 35 dX12_startAt_35 f_X12_64 o_108 rfl (g_108_30 G5) ?_
      refine z_iconst (M := M_X12_startAt) 38 dX12_startAt_38 ?_
      refine z_iload_n (M := M_X12_startAt) 39 dX12_startAt_39 rfl ?_
      refine z_imulN (M := M_X12_startAt) 40 dX12_startAt_40 (by omega) (by omega) ?_
      refine z_iload_n (M := M_X12_startAt) 41 dX12_startAt_41 rfl ?_
      refine z_iaddN (M := M_X12_startAt) 42 dX12_startAt_42 (by omega) (by omega) ?_
      refine z_iload_n (M := M_X12_startAt) 43 dX12_startAt_43 rfl ?_
      refine z_if_ne_T (M := M_X12_startAt) 44 dX12_startAt_44 51 rfl (by omega) ?_
      refine z_lconst (M := M_X12_startAt) 51 dX12_startAt_51 (v := 0) ?_
      refine z_lastH (M := M_X12_startAt) 52 dX12_startAt_52 o_125 (by omega) (by omega) (u_125 G5 (by omega) (by omega)) (R5.up rfl) (fun h6 E6 G6 R6 => ?_)
      refine z_iincN (M := M_X12_startAt) 53 dX12_startAt_53 (ls' := [some (mR 108), some (mI a1), some (mI l2), some (mI (l3 + 1))]) (by decide) rfl (by (unfold m_32; decide)) (by omega) (by omega) rfl ?_
      refine z_goto (M := M_X12_startAt) 56 dX12_startAt_56 10 rfl ?_
      exact z_mask [true, true, true, true] rfl (ih.2 l2 (l3 + 1) h6 G6 R6 (by omega) (by omega) (by omega) (by omega) (by omega) (by omega) (by omega))
    · refine z_lconst (M := M_X12_startAt) 28 dX12_startAt_28 (v := 1) ?_
      refine z_goto (M := M_X12_startAt) 29 dX12_startAt_29 33 rfl ?_
      refine z_lastH (M := M_X12_startAt) 33 dX12_startAt_33 o_124 (by omega) (by omega) (u_124 G (by omega) (by omega)) (R.up rfl) (fun h7 E7 G7 R7 => ?_)
      refine z_aload_n (M := M_X12_startAt) 34 dX12_startAt_34 rfl ?_
      refine z_getR (M := M_X12_startAt) 35 dX12_startAt_35 f_X12_64 o_108 rfl (g_108_30 G7) ?_
      refine z_iconst (M := M_X12_startAt) 38 dX12_startAt_38 ?_
      refine z_iload_n (M := M_X12_startAt) 39 dX12_startAt_39 rfl ?_
      refine z_imulN (M := M_X12_startAt) 40 dX12_startAt_40 (by omega) (by omega) ?_
      refine z_iload_n (M := M_X12_startAt) 41 dX12_startAt_41 rfl ?_
      refine z_iaddN (M := M_X12_startAt) 42 dX12_startAt_42 (by omega) (by omega) ?_
      refine z_iload_n (M := M_X12_startAt) 43 dX12_startAt_43 rfl ?_
      refine z_if_ne_F (M := M_X12_startAt) 44 dX12_startAt_44 51 rfl (by omega) ?_
      refine z_lconst (M := M_X12_startAt) 47 dX12_startAt_47 (v := 1) ?_
      refine z_goto (M := M_X12_startAt) 48 dX12_startAt_48 52 rfl ?_
      refine z_lastH (M := M_X12_startAt) 52 dX12_startAt_52 o_125 (by omega) (by omega) (u_125 G7 (by omega) (by omega)) (R7.up rfl) (fun h8 E8 G8 R8 => ?_)
      refine z_iincN (M := M_X12_startAt) 53 dX12_startAt_53 (ls' := [some (mR 108), some (mI a1), some (mI l2), some (mI (l3 + 1))]) (by decide) rfl (by (unfold m_32; decide)) (by omega) (by omega) rfl ?_
      refine z_goto (M := M_X12_startAt) 56 dX12_startAt_56 10 rfl ?_
      exact z_mask [true, true, true, true] rfl (ih.2 l2 (l3 + 1) h8 G8 R8 (by omega) (by omega) (by omega) (by omega) (by omega) (by omega) (by omega))
theorem a_X12_startAt (h0 : m_H) (a1 : Int) (G0 : GI h0) : ∀ n, q_X12_startAt h0 a1 n := by
  intro n
  induction n with
  | zero => unfold q_X12_startAt; refine ⟨?_, ?_⟩ <;> (intros; omega)
  | succ n ih => exact ⟨s_X12_startAt_2 h0 a1 G0 n ih, s_X12_startAt_10 h0 a1 G0 n ih⟩
set_option maxHeartbeats 4000000 in
set_option maxRecDepth 100000 in
theorem c_X12_startAt (h0 : m_H) (a1 : Int) (G0 : GI h0) : m_CV M_X12_startAt [mR 108, mI a1] h0 (P_X12_startAt h0 a1) := by
  refine m_CV_of ⟨by decide, rfl, by simp [m_arg, m_isL, M_X12_startAt], ⟨rfl, rfl⟩, rfl, rfl⟩ (ls := [some (mR 108), some (mI a1), none, none]) rfl ?_
  have ih := a_X12_startAt h0 a1 G0 261
  refine z_ok (fun _ _ ok => ?_)
  have oa1 : m_32 a1 := ok 1 _ rfl
  unfold m_32 at oa1
  refine z_iconst (M := M_X12_startAt) 0 dX12_startAt_0 ?_
  refine z_istore_n (M := M_X12_startAt) 1 dX12_startAt_1 (ls' := [some (mR 108), some (mI a1), some (mI 0), none]) (by decide) rfl ?_
  exact z_mask [true, true, true, false] rfl (ih.1 0 h0 G0 (FR.rf (cs := [124, 125, 126, 127]) (ss := []) (h := h0)) (by omega) (by omega) (by omega) (by omega) (by omega))
abbrev P_X12_keep (h0 : m_H) (a1 : Int) : m_H → Prop := fun h' => GI h' ∧ FR [124, 125, 126, 127, 128, 129, 130, 131] [] h0 h'
def q_X12_keep (h0 : m_H) (a1 : Int) (n : Nat) : Prop := (∀ (l2 : Int) (h : m_H), GI h → FR [124, 125, 126, 127, 128, 129, 130, 131] [] h0 h → 0 ≤ l2 → l2 ≤ 80 → 2 * (80 - l2) + (36) ≤ (n : Int) → m_Z oF M_X12_keep 2 [some (mR 108), some (mI a1), some (mI l2)] [] h (m_QV (P_X12_keep h0 a1))) ∧ (∀ (l2 : Int) (h : m_H), GI h → FR [124, 125, 126, 127, 128, 129, 130, 131] [] h0 h → 0 ≤ l2 → l2 ≤ 16 → 2 * (16 - l2) + (1) ≤ (n : Int) → m_Z oF M_X12_keep 116 [some (mR 108), some (mI a1), some (mI l2)] [] h (m_QV (P_X12_keep h0 a1)))
set_option maxHeartbeats 4000000 in
set_option maxRecDepth 100000 in
theorem s_X12_keep_2 (h0 : m_H) (a1 : Int) (G0 : GI h0) (pa1 : 0 ≤ a1 ∧ a1 ≤ 1) (n : Nat) (ih : q_X12_keep h0 a1 n) : ∀ (l2 : Int) (h : m_H), GI h → FR [124, 125, 126, 127, 128, 129, 130, 131] [] h0 h → 0 ≤ l2 → l2 ≤ 80 → 2 * (80 - l2) + (36) ≤ ((n + 1 : Nat) : Int) → m_Z oF M_X12_keep 2 [some (mR 108), some (mI a1), some (mI l2)] [] h (m_QV (P_X12_keep h0 a1)) := by
  intro l2 h G R v0 v1 hr
  refine z_iload_n (M := M_X12_keep) 2 dX12_keep_2 rfl ?_
  refine z_bipush (M := M_X12_keep) 3 dX12_keep_3 ?_
  refine z_icmp_ge (M := M_X12_keep) 5 dX12_keep_5 114 rfl (fun c1 => ?_) (fun c1 => ?_)
  · refine z_iconst (M := M_X12_keep) 114 dX12_keep_114 ?_
    refine z_istore_n (M := M_X12_keep) 115 dX12_keep_115 (ls' := [some (mR 108), some (mI a1), some (mI 0)]) (by decide) rfl ?_
    exact z_mask [true, true, true] rfl (ih.2 0 h G R (by omega) (by omega) (by omega))
  · refine z_aload_n (M := M_X12_keep) 8 dX12_keep_8 rfl ?_
    refine z_getR (M := M_X12_keep) 9 dX12_keep_9 f_X12_73 o_108 rfl (g_108_33 G) ?_
    refine z_iload_n (M := M_X12_keep) 12 dX12_keep_12 rfl ?_
    refine z_iload_n (M := M_X12_keep) 13 dX12_keep_13 rfl ?_
    refine z_if_eq (M := M_X12_keep) 14 dX12_keep_14 26 rfl (fun c2 => ?_) (fun c2 => ?_)
    · refine z_aload_n (M := M_X12_keep) 26 dX12_keep_26 rfl ?_
      refine z_getR (M := M_X12_keep) 27 dX12_keep_27 f_X12_61 o_108 rfl (g_108_29 G) ?_
      refine z_iload_n (M := M_X12_keep) 30 dX12_keep_30 rfl ?_
      refine z_laldG (M := M_X12_keep) 31 dX12_keep_31 o_124 (by omega) (by omega) (g_124 G (by omega)) (fun x3 ex3 ax3 bx3 => ?_)
      refine z_lastH (M := M_X12_keep) 32 dX12_keep_32 o_128 (by omega) (by omega) (u_128 G (by omega) (by omega)) (R.up rfl) (fun h1 E1 G1 R1 => ?_)
      refine z_aload_n (M := M_X12_keep) 33 dX12_keep_33 rfl ?_
      refine z_getR (M := M_X12_keep) 34 dX12_keep_34 f_X12_76 o_108 rfl (g_108_34 G1) ?_
      refine z_iload_n (M := M_X12_keep) 37 dX12_keep_37 rfl ?_
      refine z_iload_n (M := M_X12_keep) 38 dX12_keep_38 rfl ?_
      refine z_if_eq_T (M := M_X12_keep) 39 dX12_keep_39 51 rfl (by omega) ?_
      refine z_aload_n (M := M_X12_keep) 51 dX12_keep_51 rfl ?_
      refine z_getR (M := M_X12_keep) 52 dX12_keep_52 f_X12_64 o_108 rfl (g_108_30 G1) ?_
      refine z_iload_n (M := M_X12_keep) 55 dX12_keep_55 rfl ?_
      refine z_laldG (M := M_X12_keep) 56 dX12_keep_56 o_125 (by omega) (by omega) (g_125 G1 (by omega)) (fun x4 ex4 ax4 bx4 => ?_)
      refine z_lastH (M := M_X12_keep) 57 dX12_keep_57 o_129 (by omega) (by omega) (u_129 G1 (by omega) (by omega)) (R1.up rfl) (fun h2 E2 G2 R2 => ?_)
      refine z_aload_n (M := M_X12_keep) 58 dX12_keep_58 rfl ?_
      refine z_getR (M := M_X12_keep) 59 dX12_keep_59 f_X12_61 o_108 rfl (g_108_29 G2) ?_
      refine z_iload_n (M := M_X12_keep) 62 dX12_keep_62 rfl ?_
      refine z_iload_n (M := M_X12_keep) 63 dX12_keep_63 rfl ?_
      refine z_if_eq_T (M := M_X12_keep) 64 dX12_keep_64 76 rfl (by omega) ?_
      refine z_aload_n (M := M_X12_keep) 76 dX12_keep_76 rfl ?_
      refine z_getR (M := M_X12_keep) 77 dX12_keep_77 f_X12_61 o_108 rfl (g_108_29 G2) ?_
      refine z_iload_n (M := M_X12_keep) 80 dX12_keep_80 rfl ?_
      refine z_laldG (M := M_X12_keep) 81 dX12_keep_81 o_124 (by omega) (by omega) (g_124 G2 (by omega)) (fun x5 ex5 ax5 bx5 => ?_)
      refine z_lastH (M := M_X12_keep) 82 dX12_keep_82 o_124 (by omega) (by omega) (u_124 G2 (by omega) (by omega)) (R2.up rfl) (fun h3 E3 G3 R3 => ?_)
      refine z_aload_n (M := M_X12_keep) 83 dX12_keep_83 rfl ?_
      refine z_getR (M := M_X12_keep) 84 dX12_keep_84 f_X12_64 o_108 rfl (g_108_30 G3) ?_
      refine z_iload_n (M := M_X12_keep) 87 dX12_keep_87 rfl ?_
      refine z_iload_n (M := M_X12_keep) 88 dX12_keep_88 rfl ?_
      refine z_if_eq_T (M := M_X12_keep) 89 dX12_keep_89 101 rfl (by omega) ?_
      refine z_aload_n (M := M_X12_keep) 101 dX12_keep_101 rfl ?_
      refine z_getR (M := M_X12_keep) 102 dX12_keep_102 f_X12_64 o_108 rfl (g_108_30 G3) ?_
      refine z_iload_n (M := M_X12_keep) 105 dX12_keep_105 rfl ?_
      refine z_laldG (M := M_X12_keep) 106 dX12_keep_106 o_125 (by omega) (by omega) (g_125 G3 (by omega)) (fun x6 ex6 ax6 bx6 => ?_)
      refine z_lastH (M := M_X12_keep) 107 dX12_keep_107 o_125 (by omega) (by omega) (u_125 G3 (by omega) (by omega)) (R3.up rfl) (fun h4 E4 G4 R4 => ?_)
      refine z_iincN (M := M_X12_keep) 108 dX12_keep_108 (ls' := [some (mR 108), some (mI a1), some (mI (l2 + 1))]) (by decide) rfl (by (unfold m_32; decide)) (by omega) (by omega) rfl ?_
      refine z_goto (M := M_X12_keep) 111 dX12_keep_111 2 rfl ?_
      exact z_mask [true, true, true] rfl (ih.1 (l2 + 1) h4 G4 R4 (by omega) (by omega) (by omega))
    · refine z_aload_n (M := M_X12_keep) 17 dX12_keep_17 rfl ?_
      refine z_getR (M := M_X12_keep) 18 dX12_keep_18 f_X12_73 o_108 rfl (g_108_33 G) ?_
      refine z_iload_n (M := M_X12_keep) 21 dX12_keep_21 rfl ?_
      refine z_laldG (M := M_X12_keep) 22 dX12_keep_22 o_128 (by omega) (by omega) (g_128 G (by omega)) (fun x7 ex7 ax7 bx7 => ?_)
      refine z_goto (M := M_X12_keep) 23 dX12_keep_23 32 rfl ?_
      refine z_lastH (M := M_X12_keep) 32 dX12_keep_32 o_128 (by omega) (by omega) (u_128 G (by omega) (by omega)) (R.up rfl) (fun h5 E5 G5 R5 => ?_)
      refine z_aload_n (M := M_X12_keep) 33 dX12_keep_33 rfl ?_
      refine z_getR (M := M_X12_keep) 34 dX12_keep_34 f_X12_76 o_108 rfl (g_108_34 G5) ?_
      refine z_iload_n (M := M_X12_keep) 37 dX12_keep_37 rfl ?_
      refine z_iload_n (M := M_X12_keep) 38 dX12_keep_38 rfl ?_
      refine z_if_eq_F (M := M_X12_keep) 39 dX12_keep_39 51 rfl (by omega) ?_
      refine z_aload_n (M := M_X12_keep) 42 dX12_keep_42 rfl ?_
      refine z_getR (M := M_X12_keep) 43 dX12_keep_43 f_X12_76 o_108 rfl (g_108_34 G5) ?_
      refine z_iload_n (M := M_X12_keep) 46 dX12_keep_46 rfl ?_
      refine z_laldG (M := M_X12_keep) 47 dX12_keep_47 o_129 (by omega) (by omega) (g_129 G5 (by omega)) (fun x8 ex8 ax8 bx8 => ?_)
      refine z_goto (M := M_X12_keep) 48 dX12_keep_48 57 rfl ?_
      refine z_lastH (M := M_X12_keep) 57 dX12_keep_57 o_129 (by omega) (by omega) (u_129 G5 (by omega) (by omega)) (R5.up rfl) (fun h6 E6 G6 R6 => ?_)
      refine z_aload_n (M := M_X12_keep) 58 dX12_keep_58 rfl ?_
      refine z_getR (M := M_X12_keep) 59 dX12_keep_59 f_X12_61 o_108 rfl (g_108_29 G6) ?_
      refine z_iload_n (M := M_X12_keep) 62 dX12_keep_62 rfl ?_
      refine z_iload_n (M := M_X12_keep) 63 dX12_keep_63 rfl ?_
      refine z_if_eq_F (M := M_X12_keep) 64 dX12_keep_64 76 rfl (by omega) ?_
      refine z_aload_n (M := M_X12_keep) 67 dX12_keep_67 rfl ?_
      refine z_getR (M := M_X12_keep) 68 dX12_keep_68 f_X12_73 o_108 rfl (g_108_33 G6) ?_
      refine z_iload_n (M := M_X12_keep) 71 dX12_keep_71 rfl ?_
      refine z_laldG (M := M_X12_keep) 72 dX12_keep_72 o_128 (by omega) (by omega) (g_128 G6 (by omega)) (fun x9 ex9 ax9 bx9 => ?_)
      refine z_goto (M := M_X12_keep) 73 dX12_keep_73 82 rfl ?_
      refine z_lastH (M := M_X12_keep) 82 dX12_keep_82 o_124 (by omega) (by omega) (u_124 G6 (by omega) (by omega)) (R6.up rfl) (fun h7 E7 G7 R7 => ?_)
      refine z_aload_n (M := M_X12_keep) 83 dX12_keep_83 rfl ?_
      refine z_getR (M := M_X12_keep) 84 dX12_keep_84 f_X12_64 o_108 rfl (g_108_30 G7) ?_
      refine z_iload_n (M := M_X12_keep) 87 dX12_keep_87 rfl ?_
      refine z_iload_n (M := M_X12_keep) 88 dX12_keep_88 rfl ?_
      refine z_if_eq_F (M := M_X12_keep) 89 dX12_keep_89 101 rfl (by omega) ?_
      refine z_aload_n (M := M_X12_keep) 92 dX12_keep_92 rfl ?_
      refine z_getR (M := M_X12_keep) 93 dX12_keep_93 f_X12_76 o_108 rfl (g_108_34 G7) ?_
      refine z_iload_n (M := M_X12_keep) 96 dX12_keep_96 rfl ?_
      refine z_laldG (M := M_X12_keep) 97 dX12_keep_97 o_129 (by omega) (by omega) (g_129 G7 (by omega)) (fun x10 ex10 ax10 bx10 => ?_)
      refine z_goto (M := M_X12_keep) 98 dX12_keep_98 107 rfl ?_
      refine z_lastH (M := M_X12_keep) 107 dX12_keep_107 o_125 (by omega) (by omega) (u_125 G7 (by omega) (by omega)) (R7.up rfl) (fun h8 E8 G8 R8 => ?_)
      refine z_iincN (M := M_X12_keep) 108 dX12_keep_108 (ls' := [some (mR 108), some (mI a1), some (mI (l2 + 1))]) (by decide) rfl (by (unfold m_32; decide)) (by omega) (by omega) rfl ?_
      refine z_goto (M := M_X12_keep) 111 dX12_keep_111 2 rfl ?_
      exact z_mask [true, true, true] rfl (ih.1 (l2 + 1) h8 G8 R8 (by omega) (by omega) (by omega))
set_option maxHeartbeats 4000000 in
set_option maxRecDepth 100000 in
theorem s_X12_keep_116 (h0 : m_H) (a1 : Int) (G0 : GI h0) (pa1 : 0 ≤ a1 ∧ a1 ≤ 1) (n : Nat) (ih : q_X12_keep h0 a1 n) : ∀ (l2 : Int) (h : m_H), GI h → FR [124, 125, 126, 127, 128, 129, 130, 131] [] h0 h → 0 ≤ l2 → l2 ≤ 16 → 2 * (16 - l2) + (1) ≤ ((n + 1 : Nat) : Int) → m_Z oF M_X12_keep 116 [some (mR 108), some (mI a1), some (mI l2)] [] h (m_QV (P_X12_keep h0 a1)) := by
  intro l2 h G R v0 v1 hr
  refine z_iload_n (M := M_X12_keep) 116 dX12_keep_116 rfl ?_
  refine z_bipush (M := M_X12_keep) 117 dX12_keep_117 ?_
  refine z_icmp_ge (M := M_X12_keep) 119 dX12_keep_119 228 rfl (fun c1 => ?_) (fun c1 => ?_)
  · exact z_retV (M := M_X12_keep) 228 dX12_keep_228 rfl ⟨G, R⟩
  · refine z_aload_n (M := M_X12_keep) 122 dX12_keep_122 rfl ?_
    refine z_getR (M := M_X12_keep) 123 dX12_keep_123 f_X12_79 o_108 rfl (g_108_35 G) ?_
    refine z_iload_n (M := M_X12_keep) 126 dX12_keep_126 rfl ?_
    refine z_iload_n (M := M_X12_keep) 127 dX12_keep_127 rfl ?_
    refine z_if_eq (M := M_X12_keep) 128 dX12_keep_128 140 rfl (fun c2 => ?_) (fun c2 => ?_)
    · refine z_aload_n (M := M_X12_keep) 140 dX12_keep_140 rfl ?_
      refine z_getR (M := M_X12_keep) 141 dX12_keep_141 f_X12_67 o_108 rfl (g_108_31 G) ?_
      refine z_iload_n (M := M_X12_keep) 144 dX12_keep_144 rfl ?_
      refine z_zaldG (M := M_X12_keep) 145 dX12_keep_145 o_126 (by omega) (by omega) (g_126 G (by omega)) (fun x3 ex3 ax3 bx3 => ?_)
      refine z_zastH (M := M_X12_keep) 146 dX12_keep_146 o_130 (by omega) (by omega) (by omega) (u_130 G (by omega) (by omega)) (R.up rfl) (fun h1 E1 G1 R1 => ?_)
      refine z_aload_n (M := M_X12_keep) 147 dX12_keep_147 rfl ?_
      refine z_getR (M := M_X12_keep) 148 dX12_keep_148 f_X12_82 o_108 rfl (g_108_36 G1) ?_
      refine z_iload_n (M := M_X12_keep) 151 dX12_keep_151 rfl ?_
      refine z_iload_n (M := M_X12_keep) 152 dX12_keep_152 rfl ?_
      refine z_if_eq_T (M := M_X12_keep) 153 dX12_keep_153 165 rfl (by omega) ?_
      refine z_aload_n (M := M_X12_keep) 165 dX12_keep_165 rfl ?_
      refine z_getR (M := M_X12_keep) 166 dX12_keep_166 f_X12_70 o_108 rfl (g_108_32 G1) ?_
      refine z_iload_n (M := M_X12_keep) 169 dX12_keep_169 rfl ?_
      refine z_zaldG (M := M_X12_keep) 170 dX12_keep_170 o_127 (by omega) (by omega) (g_127 G1 (by omega)) (fun x4 ex4 ax4 bx4 => ?_)
      refine z_zastH (M := M_X12_keep) 171 dX12_keep_171 o_131 (by omega) (by omega) (by omega) (u_131 G1 (by omega) (by omega)) (R1.up rfl) (fun h2 E2 G2 R2 => ?_)
      refine z_aload_n (M := M_X12_keep) 172 dX12_keep_172 rfl ?_
      refine z_getR (M := M_X12_keep) 173 dX12_keep_173 f_X12_67 o_108 rfl (g_108_31 G2) ?_
      refine z_iload_n (M := M_X12_keep) 176 dX12_keep_176 rfl ?_
      refine z_iload_n (M := M_X12_keep) 177 dX12_keep_177 rfl ?_
      refine z_if_eq_T (M := M_X12_keep) 178 dX12_keep_178 190 rfl (by omega) ?_
      refine z_aload_n (M := M_X12_keep) 190 dX12_keep_190 rfl ?_
      refine z_getR (M := M_X12_keep) 191 dX12_keep_191 f_X12_67 o_108 rfl (g_108_31 G2) ?_
      refine z_iload_n (M := M_X12_keep) 194 dX12_keep_194 rfl ?_
      refine z_zaldG (M := M_X12_keep) 195 dX12_keep_195 o_126 (by omega) (by omega) (g_126 G2 (by omega)) (fun x5 ex5 ax5 bx5 => ?_)
      refine z_zastH (M := M_X12_keep) 196 dX12_keep_196 o_126 (by omega) (by omega) (by omega) (u_126 G2 (by omega) (by omega)) (R2.up rfl) (fun h3 E3 G3 R3 => ?_)
      refine z_aload_n (M := M_X12_keep) 197 dX12_keep_197 rfl ?_
      refine z_getR (M := M_X12_keep) 198 dX12_keep_198 f_X12_70 o_108 rfl (g_108_32 G3) ?_
      refine z_iload_n (M := M_X12_keep) 201 dX12_keep_201 rfl ?_
      refine z_iload_n (M := M_X12_keep) 202 dX12_keep_202 rfl ?_
      refine z_if_eq_T (M := M_X12_keep) 203 dX12_keep_203 215 rfl (by omega) ?_
      refine z_aload_n (M := M_X12_keep) 215 dX12_keep_215 rfl ?_
      refine z_getR (M := M_X12_keep) 216 dX12_keep_216 f_X12_70 o_108 rfl (g_108_32 G3) ?_
      refine z_iload_n (M := M_X12_keep) 219 dX12_keep_219 rfl ?_
      refine z_zaldG (M := M_X12_keep) 220 dX12_keep_220 o_127 (by omega) (by omega) (g_127 G3 (by omega)) (fun x6 ex6 ax6 bx6 => ?_)
      refine z_zastH (M := M_X12_keep) 221 dX12_keep_221 o_127 (by omega) (by omega) (by omega) (u_127 G3 (by omega) (by omega)) (R3.up rfl) (fun h4 E4 G4 R4 => ?_)
      refine z_iincN (M := M_X12_keep) 222 dX12_keep_222 (ls' := [some (mR 108), some (mI a1), some (mI (l2 + 1))]) (by decide) rfl (by (unfold m_32; decide)) (by omega) (by omega) rfl ?_
      refine z_goto (M := M_X12_keep) 225 dX12_keep_225 116 rfl ?_
      exact z_mask [true, true, true] rfl (ih.2 (l2 + 1) h4 G4 R4 (by omega) (by omega) (by omega))
    · refine z_aload_n (M := M_X12_keep) 131 dX12_keep_131 rfl ?_
      refine z_getR (M := M_X12_keep) 132 dX12_keep_132 f_X12_79 o_108 rfl (g_108_35 G) ?_
      refine z_iload_n (M := M_X12_keep) 135 dX12_keep_135 rfl ?_
      refine z_zaldG (M := M_X12_keep) 136 dX12_keep_136 o_130 (by omega) (by omega) (g_130 G (by omega)) (fun x7 ex7 ax7 bx7 => ?_)
      refine z_goto (M := M_X12_keep) 137 dX12_keep_137 146 rfl ?_
      refine z_zastH (M := M_X12_keep) 146 dX12_keep_146 o_130 (by omega) (by omega) (by omega) (u_130 G (by omega) (by omega)) (R.up rfl) (fun h5 E5 G5 R5 => ?_)
      refine z_aload_n (M := M_X12_keep) 147 dX12_keep_147 rfl ?_
      refine z_getR (M := M_X12_keep) 148 dX12_keep_148 f_X12_82 o_108 rfl (g_108_36 G5) ?_
      refine z_iload_n (M := M_X12_keep) 151 dX12_keep_151 rfl ?_
      refine z_iload_n (M := M_X12_keep) 152 dX12_keep_152 rfl ?_
      refine z_if_eq_F (M := M_X12_keep) 153 dX12_keep_153 165 rfl (by omega) ?_
      refine z_aload_n (M := M_X12_keep) 156 dX12_keep_156 rfl ?_
      refine z_getR (M := M_X12_keep) 157 dX12_keep_157 f_X12_82 o_108 rfl (g_108_36 G5) ?_
      refine z_iload_n (M := M_X12_keep) 160 dX12_keep_160 rfl ?_
      refine z_zaldG (M := M_X12_keep) 161 dX12_keep_161 o_131 (by omega) (by omega) (g_131 G5 (by omega)) (fun x8 ex8 ax8 bx8 => ?_)
      refine z_goto (M := M_X12_keep) 162 dX12_keep_162 171 rfl ?_
      refine z_zastH (M := M_X12_keep) 171 dX12_keep_171 o_131 (by omega) (by omega) (by omega) (u_131 G5 (by omega) (by omega)) (R5.up rfl) (fun h6 E6 G6 R6 => ?_)
      refine z_aload_n (M := M_X12_keep) 172 dX12_keep_172 rfl ?_
      refine z_getR (M := M_X12_keep) 173 dX12_keep_173 f_X12_67 o_108 rfl (g_108_31 G6) ?_
      refine z_iload_n (M := M_X12_keep) 176 dX12_keep_176 rfl ?_
      refine z_iload_n (M := M_X12_keep) 177 dX12_keep_177 rfl ?_
      refine z_if_eq_F (M := M_X12_keep) 178 dX12_keep_178 190 rfl (by omega) ?_
      refine z_aload_n (M := M_X12_keep) 181 dX12_keep_181 rfl ?_
      refine z_getR (M := M_X12_keep) 182 dX12_keep_182 f_X12_79 o_108 rfl (g_108_35 G6) ?_
      refine z_iload_n (M := M_X12_keep) 185 dX12_keep_185 rfl ?_
      refine z_zaldG (M := M_X12_keep) 186 dX12_keep_186 o_130 (by omega) (by omega) (g_130 G6 (by omega)) (fun x9 ex9 ax9 bx9 => ?_)
      refine z_goto (M := M_X12_keep) 187 dX12_keep_187 196 rfl ?_
      refine z_zastH (M := M_X12_keep) 196 dX12_keep_196 o_126 (by omega) (by omega) (by omega) (u_126 G6 (by omega) (by omega)) (R6.up rfl) (fun h7 E7 G7 R7 => ?_)
      refine z_aload_n (M := M_X12_keep) 197 dX12_keep_197 rfl ?_
      refine z_getR (M := M_X12_keep) 198 dX12_keep_198 f_X12_70 o_108 rfl (g_108_32 G7) ?_
      refine z_iload_n (M := M_X12_keep) 201 dX12_keep_201 rfl ?_
      refine z_iload_n (M := M_X12_keep) 202 dX12_keep_202 rfl ?_
      refine z_if_eq_F (M := M_X12_keep) 203 dX12_keep_203 215 rfl (by omega) ?_
      refine z_aload_n (M := M_X12_keep) 206 dX12_keep_206 rfl ?_
      refine z_getR (M := M_X12_keep) 207 dX12_keep_207 f_X12_82 o_108 rfl (g_108_36 G7) ?_
      refine z_iload_n (M := M_X12_keep) 210 dX12_keep_210 rfl ?_
      refine z_zaldG (M := M_X12_keep) 211 dX12_keep_211 o_131 (by omega) (by omega) (g_131 G7 (by omega)) (fun x10 ex10 ax10 bx10 => ?_)
      refine z_goto (M := M_X12_keep) 212 dX12_keep_212 221 rfl ?_
      refine z_zastH (M := M_X12_keep) 221 dX12_keep_221 o_127 (by omega) (by omega) (by omega) (u_127 G7 (by omega) (by omega)) (R7.up rfl) (fun h8 E8 G8 R8 => ?_)
      refine z_iincN (M := M_X12_keep) 222 dX12_keep_222 (ls' := [some (mR 108), some (mI a1), some (mI (l2 + 1))]) (by decide) rfl (by (unfold m_32; decide)) (by omega) (by omega) rfl ?_
      refine z_goto (M := M_X12_keep) 225 dX12_keep_225 116 rfl ?_
      exact z_mask [true, true, true] rfl (ih.2 (l2 + 1) h8 G8 R8 (by omega) (by omega) (by omega))
theorem a_X12_keep (h0 : m_H) (a1 : Int) (G0 : GI h0) (pa1 : 0 ≤ a1 ∧ a1 ≤ 1) : ∀ n, q_X12_keep h0 a1 n := by
  intro n
  induction n with
  | zero => unfold q_X12_keep; refine ⟨?_, ?_⟩ <;> (intros; omega)
  | succ n ih => exact ⟨s_X12_keep_2 h0 a1 G0 pa1 n ih, s_X12_keep_116 h0 a1 G0 pa1 n ih⟩
set_option maxHeartbeats 4000000 in
set_option maxRecDepth 100000 in
theorem c_X12_keep (h0 : m_H) (a1 : Int) (G0 : GI h0) (pa1 : 0 ≤ a1 ∧ a1 ≤ 1) : m_CV M_X12_keep [mR 108, mI a1] h0 (P_X12_keep h0 a1) := by
  refine m_CV_of ⟨by decide, rfl, by simp [m_arg, m_isL, M_X12_keep], ⟨rfl, rfl⟩, rfl, rfl⟩ (ls := [some (mR 108), some (mI a1), none]) rfl ?_
  have ih := a_X12_keep h0 a1 G0 pa1 203
  refine z_iconst (M := M_X12_keep) 0 dX12_keep_0 ?_
  refine z_istore_n (M := M_X12_keep) 1 dX12_keep_1 (ls' := [some (mR 108), some (mI a1), some (mI 0)]) (by decide) rfl ?_
  exact z_mask [true, true, true] rfl (ih.1 0 h0 G0 (FR.rf (cs := [124, 125, 126, 127, 128, 129, 130, 131]) (ss := []) (h := h0)) (by omega) (by omega) (by omega))
