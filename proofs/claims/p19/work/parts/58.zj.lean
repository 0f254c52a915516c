theorem fam_n1 {x y : Int} (e : x = y) (c : ¬ (97 ≤ y ∧ y ≤ 122)) : fam x ≠ 1 := fun z => c (e ▸ fam_l.mp z)
theorem fam_n2 {x y : Int} (e : x = y) (c : ¬ (48 ≤ y ∧ y ≤ 57)) : fam x ≠ 2 := fun z => c (e ▸ fam_d.mp z)
abbrev P_X12_next2 (h0 : m_H) : m_H → Prop := fun h' => GI h' ∧ FR [] [(108, 9), (108, 10), (108, 11), (108, 12)] h0 h' ∧ Tok (h0 113) (h0 108 8) (h0 108 10) (Qm h') ∧ MTk h'
def q_X12_next2 (h0 : m_H) (n : Nat) : Prop := (∀ (y_108_8 y_108_9 : Int) (h : m_H), GI h → FR [] [(108, 9), (108, 10), (108, 11), (108, 12)] h0 h → 0 ≤ y_108_8 → y_108_8 ≤ 400 → 0 ≤ y_108_9 → y_108_9 ≤ 400 → (h 108 8 = y_108_8) → (h 108 9 = y_108_9) → (Sp (h0 113) (h0 108 8) (h0 108 10) y_108_9) → (h0 108 10 ≤ y_108_9 ∧ y_108_9 ≤ y_108_8) → 2 * (400 - y_108_9) + (1607) ≤ (n : Int) → m_Z oF M_X12_next 8 [some (mR 108)] [] h (m_QV (P_X12_next2 h0))) ∧ (∀ (y_108_8 y_108_9 y_108_10 y_108_11 y_108_12 : Int) (h : m_H), GI h → FR [] [(108, 9), (108, 10), (108, 11), (108, 12)] h0 h → 0 ≤ y_108_8 → y_108_8 ≤ 400 → 0 ≤ y_108_9 → y_108_9 ≤ 400 → 0 ≤ y_108_10 → y_108_10 ≤ 400 → 0 ≤ y_108_11 → y_108_11 ≤ 3 → (-1) ≤ y_108_12 → y_108_12 ≤ 1125899906842624 → (h 108 8 = y_108_8) → (h 108 9 = y_108_9) → (h 108 10 = y_108_10) → (h 108 11 = y_108_11) → (h 108 12 = y_108_12) → (Sk (h0 113) (h0 108 8) (h0 108 10) y_108_9) → (M1 (h0 113) (h0 108 8) y_108_9 y_108_10 y_108_11 y_108_12) → (h0 108 10 ≤ y_108_9 ∧ y_108_9 ≤ y_108_10 ∧ y_108_10 ≤ y_108_8) → 2 * (400 - y_108_10) + (804) ≤ (n : Int) → m_Z oF M_X12_next 149 [some (mR 108)] [] h (m_QV (P_X12_next2 h0))) ∧ (∀ (y_108_8 y_108_9 y_108_10 y_108_11 y_108_12 : Int) (h : m_H), GI h → FR [] [(108, 9), (108, 10), (108, 11), (108, 12)] h0 h → 0 ≤ y_108_8 → y_108_8 ≤ 400 → 0 ≤ y_108_9 → y_108_9 ≤ 400 → 0 ≤ y_108_10 → y_108_10 ≤ 400 → 0 ≤ y_108_11 → y_108_11 ≤ 3 → (-1) ≤ y_108_12 → y_108_12 ≤ 1125899906842624 → (h 108 8 = y_108_8) → (h 108 9 = y_108_9) → (h 108 10 = y_108_10) → (h 108 11 = y_108_11) → (h 108 12 = y_108_12) → (Sk (h0 113) (h0 108 8) (h0 108 10) y_108_9) → (M2 (h0 113) (h0 108 8) y_108_9 y_108_10 y_108_11 y_108_12) → (h0 108 10 ≤ y_108_9 ∧ y_108_9 ≤ y_108_10 ∧ y_108_10 ≤ y_108_8) → 2 * (400 - y_108_10) + (1) ≤ (n : Int) → m_Z oF M_X12_next 243 [some (mR 108)] [] h (m_QV (P_X12_next2 h0)))
set_option maxHeartbeats 4000000 in
set_option maxRecDepth 100000 in
theorem s_X12_next2_8 (h0 : m_H) (G0 : GI h0) (ht : h0 108 10 ≤ h0 108 8) (n : Nat) (ih : q_X12_next2 h0 n) : ∀ (y_108_8 y_108_9 : Int) (h : m_H), GI h → FR [] [(108, 9), (108, 10), (108, 11), (108, 12)] h0 h → 0 ≤ y_108_8 → y_108_8 ≤ 400 → 0 ≤ y_108_9 → y_108_9 ≤ 400 → (h 108 8 = y_108_8) → (h 108 9 = y_108_9) → (Sp (h0 113) (h0 108 8) (h0 108 10) y_108_9) → (h0 108 10 ≤ y_108_9 ∧ y_108_9 ≤ y_108_8) → 2 * (400 - y_108_9) + (1607) ≤ ((n + 1 : Nat) : Int) → m_Z oF M_X12_next 8 [some (mR 108)] [] h (m_QV (P_X12_next2 h0)) := by
  intro y_108_8 y_108_9 h G R v0 v1 v2 v3 t_108_8 t_108_9 i0 i1 hr
  refine z_aload_n (M := M_X12_next) 8 dX12_next_8 rfl ?_
  refine z_getIE (M := M_X12_next) 9 dX12_next_9 f_X12_221 o_108 (by decide) t_108_9 ?_
  refine z_aload_n (M := M_X12_next) 12 dX12_next_12 rfl ?_
  refine z_getIE (M := M_X12_next) 13 dX12_next_13 f_X12_201 o_108 (by decide) t_108_8 ?_
  refine z_icmp_ge (M := M_X12_next) 16 dX12_next_16 46 rfl (fun c1 => ?_) (fun c1 => ?_)
  · refine z_aload_n (M := M_X12_next) 46 dX12_next_46 rfl ?_
    refine z_aload_n (M := M_X12_next) 47 dX12_next_47 rfl ?_
    refine z_getIE (M := M_X12_next) 48 dX12_next_48 f_X12_221 o_108 (by decide) t_108_9 ?_
    refine z_putIH (M := M_X12_next) 51 dX12_next_51 p_X12_211 o_108 rfl (u_108_10 G (by omega) (by omega)) (R.up rfl) (fun h1 E1 G1 R1 => ?_)
    refine z_aload_n (M := M_X12_next) 54 dX12_next_54 rfl ?_
    refine z_lconst (M := M_X12_next) 55 dX12_next_55 (v := 0) ?_
    refine z_putJH (M := M_X12_next) 56 dX12_next_56 p_X12_224 o_108 rfl (u_108_12 G1) (R1.up rfl) (fun h2 E2 G2 R2 => ?_)
    refine z_aload_n (M := M_X12_next) 59 dX12_next_59 rfl ?_
    refine z_aload_n (M := M_X12_next) 60 dX12_next_60 rfl ?_
    refine z_getIE (M := M_X12_next) 61 dX12_next_61 f_X12_221 o_108 (by decide) ((upN E2 (fun q => absurd q.2 (by decide))).trans ((upN E1 (fun q => absurd q.2 (by decide))).trans t_108_9)) ?_
    refine z_aload_n (M := M_X12_next) 64 dX12_next_64 rfl ?_
    refine z_getIE (M := M_X12_next) 65 dX12_next_65 f_X12_201 o_108 (by decide) ((upN E2 (fun q => absurd q.2 (by decide))).trans ((upN E1 (fun q => absurd q.2 (by decide))).trans t_108_8)) ?_
    refine z_icmp_ne (M := M_X12_next) 68 dX12_next_68 75 rfl (fun c2 => ?_) (fun c2 => ?_)
    · refine z_aload_n (M := M_X12_next) 75 dX12_next_75 rfl ?_
      refine z_getR (M := M_X12_next) 76 dX12_next_76 f_X12_23 o_108 rfl (g_108_7 G2) ?_
      refine z_aload_n (M := M_X12_next) 79 dX12_next_79 rfl ?_
      refine z_getIE (M := M_X12_next) 80 dX12_next_80 f_X12_221 o_108 (by decide) ((upN E2 (fun q => absurd q.2 (by decide))).trans ((upN E1 (fun q => absurd q.2 (by decide))).trans t_108_9)) ?_
      refine z_ialdG (M := M_X12_next) 83 dX12_next_83 o_113 (by omega) (by omega) (g_113 G2 (by omega)) (fun x3 ex3 ax3 bx3 => ?_)
      refine z_sI (M := M_X12_next) 84 dX12_next_84 t_X12_isSmall l_X12_228 (m_rr_of rfl) (rest := [mR 108]) (c_X12_isSmall h2 x3 G2) rfl rfl (Nat.le_of_ble_eq_true rfl) ⟨rfl, rfl⟩ (fun x4 h3 qx4 => ?_)
      obtain ⟨rfl, ⟨rfl, cx4⟩ | ⟨rfl, cx4⟩⟩ := qx4
      · refine z_if_eq_F (M := M_X12_next) 87 dX12_next_87 94 rfl (by omega) ?_
        refine z_iconst (M := M_X12_next) 90 dX12_next_90 ?_
        refine z_goto (M := M_X12_next) 91 dX12_next_91 114 rfl ?_
        refine z_putIH (M := M_X12_next) 114 dX12_next_114 p_X12_234 o_108 rfl (u_108_11 G2 (by omega) (by omega)) (R2.up rfl) (fun h4 E4 G4 R4 => ?_)
        refine z_aload_n (M := M_X12_next) 117 dX12_next_117 rfl ?_
        refine z_getIE (M := M_X12_next) 118 dX12_next_118 f_X12_234 o_108 (by decide) (upE E4) ?_
        refine z_iconst (M := M_X12_next) 121 dX12_next_121 ?_
        refine z_icmp_ne_T (M := M_X12_next) 122 dX12_next_122 149 rfl (by omega) ?_
        have w5 : h0 108 8 = y_108_8 := (R4 108 8 rfl).symm.trans ((upN E4 (fun q => absurd q.2 (by decide))).trans ((upN E2 (fun q => absurd q.2 (by decide))).trans ((upN E1 (fun q => absurd q.2 (by decide))).trans t_108_8)))
        exact z_mask [true] rfl (ih.2.1 y_108_8 y_108_9 y_108_9 1 0 h4 G4 R4 (by omega) (by omega) (by omega) (by omega) (by omega) (by omega) (by omega) (by omega) (by omega) (by omega) ((upN E4 (fun q => absurd q.2 (by decide))).trans ((upN E2 (fun q => absurd q.2 (by decide))).trans ((upN E1 (fun q => absurd q.2 (by decide))).trans t_108_8))) ((upN E4 (fun q => absurd q.2 (by decide))).trans ((upN E2 (fun q => absurd q.2 (by decide))).trans ((upN E1 (fun q => absurd q.2 (by decide))).trans t_108_9))) ((upN E4 (fun q => absurd q.2 (by decide))).trans ((upN E2 (fun q => absurd q.2 (by decide))).trans (upE E1))) (upE E4) ((upN E4 (fun q => absurd q.2 (by decide))).trans (upE E2)) (by first | exact Sk_of i0 (fun _ => ne_of rfl (by omega)) | exact Sk_of i0 (fun q => absurd q (by omega)) | (exfalso; omega)) (by first | exact M1_1 (by omega) ((R2 113 _ rfl).symm.trans ex3) (by omega) | (exfalso; omega)) (by omega) (by omega))
      · refine z_if_eq_T (M := M_X12_next) 87 dX12_next_87 94 rfl (by omega) ?_
        refine z_aload_n (M := M_X12_next) 94 dX12_next_94 rfl ?_
        refine z_getR (M := M_X12_next) 95 dX12_next_95 f_X12_23 o_108 rfl (g_108_7 G2) ?_
        refine z_aload_n (M := M_X12_next) 98 dX12_next_98 rfl ?_
        refine z_getIE (M := M_X12_next) 99 dX12_next_99 f_X12_221 o_108 (by decide) ((upN E2 (fun q => absurd q.2 (by decide))).trans ((upN E1 (fun q => absurd q.2 (by decide))).trans t_108_9)) ?_
        refine z_ialdE (M := M_X12_next) 102 dX12_next_102 o_113 (by omega) (by omega) ex3 ?_
        refine z_sI (M := M_X12_next) 103 dX12_next_103 t_X12_isDigit l_X12_231 (m_rr_of rfl) (rest := [mR 108]) (c_X12_isDigit h2 x3 G2) rfl rfl (Nat.le_of_ble_eq_true rfl) ⟨rfl, rfl⟩ (fun x6 h5 qx6 => ?_)
        obtain ⟨rfl, ⟨rfl, cx6⟩ | ⟨rfl, cx6⟩⟩ := qx6
        · refine z_if_eq_F (M := M_X12_next) 106 dX12_next_106 113 rfl (by omega) ?_
          refine z_iconst (M := M_X12_next) 109 dX12_next_109 ?_
          refine z_goto (M := M_X12_next) 110 dX12_next_110 114 rfl ?_
          refine z_putIH (M := M_X12_next) 114 dX12_next_114 p_X12_234 o_108 rfl (u_108_11 G2 (by omega) (by omega)) (R2.up rfl) (fun h6 E6 G6 R6 => ?_)
          refine z_aload_n (M := M_X12_next) 117 dX12_next_117 rfl ?_
          refine z_getIE (M := M_X12_next) 118 dX12_next_118 f_X12_234 o_108 (by decide) (upE E6) ?_
          refine z_iconst (M := M_X12_next) 121 dX12_next_121 ?_
          refine z_icmp_ne_T (M := M_X12_next) 122 dX12_next_122 149 rfl (by omega) ?_
          have w7 : h0 108 8 = y_108_8 := (R6 108 8 rfl).symm.trans ((upN E6 (fun q => absurd q.2 (by decide))).trans ((upN E2 (fun q => absurd q.2 (by decide))).trans ((upN E1 (fun q => absurd q.2 (by decide))).trans t_108_8)))
          exact z_mask [true] rfl (ih.2.1 y_108_8 y_108_9 y_108_9 2 0 h6 G6 R6 (by omega) (by omega) (by omega) (by omega) (by omega) (by omega) (by omega) (by omega) (by omega) (by omega) ((upN E6 (fun q => absurd q.2 (by decide))).trans ((upN E2 (fun q => absurd q.2 (by decide))).trans ((upN E1 (fun q => absurd q.2 (by decide))).trans t_108_8))) ((upN E6 (fun q => absurd q.2 (by decide))).trans ((upN E2 (fun q => absurd q.2 (by decide))).trans ((upN E1 (fun q => absurd q.2 (by decide))).trans t_108_9))) ((upN E6 (fun q => absurd q.2 (by decide))).trans ((upN E2 (fun q => absurd q.2 (by decide))).trans (upE E1))) (upE E6) ((upN E6 (fun q => absurd q.2 (by decide))).trans (upE E2)) (by first | exact Sk_of i0 (fun _ => ne_of rfl (by omega)) | exact Sk_of i0 (fun q => absurd q (by omega)) | (exfalso; omega)) (by first | exact M1_2 (by omega) ((R2 113 _ rfl).symm.trans ex3) (by omega) | (exfalso; omega)) (by omega) (by omega))
        · refine z_if_eq_T (M := M_X12_next) 106 dX12_next_106 113 rfl (by omega) ?_
          refine z_iconst (M := M_X12_next) 113 dX12_next_113 ?_
          refine z_putIH (M := M_X12_next) 114 dX12_next_114 p_X12_234 o_108 rfl (u_108_11 G2 (by omega) (by omega)) (R2.up rfl) (fun h7 E7 G7 R7 => ?_)
          refine z_aload_n (M := M_X12_next) 117 dX12_next_117 rfl ?_
          refine z_getIE (M := M_X12_next) 118 dX12_next_118 f_X12_234 o_108 (by decide) (upE E7) ?_
          refine z_iconst (M := M_X12_next) 121 dX12_next_121 ?_
          refine z_icmp_ne_F (M := M_X12_next) 122 dX12_next_122 149 rfl (by omega) ?_
          refine z_aload_n (M := M_X12_next) 125 dX12_next_125 rfl ?_
          refine z_aload_n (M := M_X12_next) 126 dX12_next_126 rfl ?_
          refine z_getR (M := M_X12_next) 127 dX12_next_127 f_X12_23 o_108 rfl (g_108_7 G7) ?_
          refine z_aload_n (M := M_X12_next) 130 dX12_next_130 rfl ?_
          refine z_getIE (M := M_X12_next) 131 dX12_next_131 f_X12_221 o_108 (by decide) ((upN E7 (fun q => absurd q.2 (by decide))).trans ((upN E2 (fun q => absurd q.2 (by decide))).trans ((upN E1 (fun q => absurd q.2 (by decide))).trans t_108_9))) ?_
          refine z_ialdG (M := M_X12_next) 134 dX12_next_134 o_113 (by omega) (by omega) (g_113 G7 (by omega)) (fun x8 ex8 ax8 bx8 => ?_)
          refine z_i2l (M := M_X12_next) 135 dX12_next_135 ?_
          refine z_putJH (M := M_X12_next) 136 dX12_next_136 p_X12_224 o_108 rfl (u_108_12 G7) (R7.up rfl) (fun h8 E8 G8 R8 => ?_)
          refine z_aload_n (M := M_X12_next) 139 dX12_next_139 rfl ?_
          refine z_dup (M := M_X12_next) 140 dX12_next_140 rfl ?_
          refine z_getIE (M := M_X12_next) 141 dX12_next_141 f_X12_211 o_108 (by decide) ((upN E8 (fun q => absurd q.2 (by decide))).trans ((upN E7 (fun q => absurd q.2 (by decide))).trans ((upN E2 (fun q => absurd q.2 (by decide))).trans (upE E1)))) ?_
          refine z_iconst (M := M_X12_next) 144 dX12_next_144 ?_
          refine z_iaddN (M := M_X12_next) 145 dX12_next_145 (by omega) (by omega) ?_
          refine z_putIH (M := M_X12_next) 146 dX12_next_146 p_X12_211 o_108 rfl (u_108_10 G8 (by omega) (by omega)) (R8.up rfl) (fun h9 E9 G9 R9 => ?_)
          have w9 : h0 108 8 = y_108_8 := (R9 108 8 rfl).symm.trans ((upN E9 (fun q => absurd q.2 (by decide))).trans ((upN E8 (fun q => absurd q.2 (by decide))).trans ((upN E7 (fun q => absurd q.2 (by decide))).trans ((upN E2 (fun q => absurd q.2 (by decide))).trans ((upN E1 (fun q => absurd q.2 (by decide))).trans t_108_8)))))
          exact z_mask [true] rfl (ih.2.1 y_108_8 y_108_9 (y_108_9 + 1) 3 x8 h9 G9 R9 (by omega) (by omega) (by omega) (by omega) (by omega) (by omega) (by omega) (by omega) (by omega) (by omega) ((upN E9 (fun q => absurd q.2 (by decide))).trans ((upN E8 (fun q => absurd q.2 (by decide))).trans ((upN E7 (fun q => absurd q.2 (by decide))).trans ((upN E2 (fun q => absurd q.2 (by decide))).trans ((upN E1 (fun q => absurd q.2 (by decide))).trans t_108_8))))) ((upN E9 (fun q => absurd q.2 (by decide))).trans ((upN E8 (fun q => absurd q.2 (by decide))).trans ((upN E7 (fun q => absurd q.2 (by decide))).trans ((upN E2 (fun q => absurd q.2 (by decide))).trans ((upN E1 (fun q => absurd q.2 (by decide))).trans t_108_9))))) (upE E9) ((upN E9 (fun q => absurd q.2 (by decide))).trans ((upN E8 (fun q => absurd q.2 (by decide))).trans (upE E7))) ((upN E9 (fun q => absurd q.2 (by decide))).trans (upE E8)) (by first | exact Sk_of i0 (fun _ => ne_of rfl (by omega)) | exact Sk_of i0 (fun q => absurd q (by omega)) | (exfalso; omega)) (by first | exact M1_3' (by omega) ((R2 113 _ rfl).symm.trans ex3) ((R7 113 _ rfl).symm.trans ex8) (by omega) (by omega) | (exfalso; omega)) (by omega) (by omega))
    · refine z_iconst (M := M_X12_next) 71 dX12_next_71 ?_
      refine z_goto (M := M_X12_next) 72 dX12_next_72 114 rfl ?_
      refine z_putIH (M := M_X12_next) 114 dX12_next_114 p_X12_234 o_108 rfl (u_108_11 G2 (by omega) (by omega)) (R2.up rfl) (fun h10 E10 G10 R10 => ?_)
      refine z_aload_n (M := M_X12_next) 117 dX12_next_117 rfl ?_
      refine z_getIE (M := M_X12_next) 118 dX12_next_118 f_X12_234 o_108 (by decide) (upE E10) ?_
      refine z_iconst (M := M_X12_next) 121 dX12_next_121 ?_
      refine z_icmp_ne_T (M := M_X12_next) 122 dX12_next_122 149 rfl (by omega) ?_
      have w10 : h0 108 8 = y_108_8 := (R10 108 8 rfl).symm.trans ((upN E10 (fun q => absurd q.2 (by decide))).trans ((upN E2 (fun q => absurd q.2 (by decide))).trans ((upN E1 (fun q => absurd q.2 (by decide))).trans t_108_8)))
      exact z_mask [true] rfl (ih.2.1 y_108_8 y_108_9 y_108_9 0 0 h10 G10 R10 (by omega) (by omega) (by omega) (by omega) (by omega) (by omega) (by omega) (by omega) (by omega) (by omega) ((upN E10 (fun q => absurd q.2 (by decide))).trans ((upN E2 (fun q => absurd q.2 (by decide))).trans ((upN E1 (fun q => absurd q.2 (by decide))).trans t_108_8))) ((upN E10 (fun q => absurd q.2 (by decide))).trans ((upN E2 (fun q => absurd q.2 (by decide))).trans ((upN E1 (fun q => absurd q.2 (by decide))).trans t_108_9))) ((upN E10 (fun q => absurd q.2 (by decide))).trans ((upN E2 (fun q => absurd q.2 (by decide))).trans (upE E1))) (upE E10) ((upN E10 (fun q => absurd q.2 (by decide))).trans (upE E2)) (by first | exact Sk_of i0 (fun _ => ne_of rfl (by omega)) | exact Sk_of i0 (fun q => absurd q (by omega)) | (exfalso; omega)) (by first | exact M1_0 (by omega) | (exfalso; omega)) (by omega) (by omega))
  · refine z_aload_n (M := M_X12_next) 19 dX12_next_19 rfl ?_
    refine z_getR (M := M_X12_next) 20 dX12_next_20 f_X12_23 o_108 rfl (g_108_7 G) ?_
    refine z_aload_n (M := M_X12_next) 23 dX12_next_23 rfl ?_
    refine z_getIE (M := M_X12_next) 24 dX12_next_24 f_X12_221 o_108 (by decide) t_108_9 ?_
    refine z_ialdG (M := M_X12_next) 27 dX12_next_27 o_113 (by omega) (by omega) (g_113 G (by omega)) (fun x11 ex11 ax11 bx11 => ?_)
    refine z_bipush (M := M_X12_next) 28 dX12_next_28 ?_
    refine z_icmp_ne (M := M_X12_next) 30 dX12_next_30 46 rfl (fun c12 => ?_) (fun c12 => ?_)
    · refine z_aload_n (M := M_X12_next) 46 dX12_next_46 rfl ?_
      refine z_aload_n (M := M_X12_next) 47 dX12_next_47 rfl ?_
      refine z_getIE (M := M_X12_next) 48 dX12_next_48 f_X12_221 o_108 (by decide) t_108_9 ?_
      refine z_putIH (M := M_X12_next) 51 dX12_next_51 p_X12_211 o_108 rfl (u_108_10 G (by omega) (by omega)) (R.up rfl) (fun h11 E11 G11 R11 => ?_)
      refine z_aload_n (M := M_X12_next) 54 dX12_next_54 rfl ?_
      refine z_lconst (M := M_X12_next) 55 dX12_next_55 (v := 0) ?_
      refine z_putJH (M := M_X12_next) 56 dX12_next_56 p_X12_224 o_108 rfl (u_108_12 G11) (R11.up rfl) (fun h12 E12 G12 R12 => ?_)
      refine z_aload_n (M := M_X12_next) 59 dX12_next_59 rfl ?_
      refine z_aload_n (M := M_X12_next) 60 dX12_next_60 rfl ?_
      refine z_getIE (M := M_X12_next) 61 dX12_next_61 f_X12_221 o_108 (by decide) ((upN E12 (fun q => absurd q.2 (by decide))).trans ((upN E11 (fun q => absurd q.2 (by decide))).trans t_108_9)) ?_
      refine z_aload_n (M := M_X12_next) 64 dX12_next_64 rfl ?_
      refine z_getIE (M := M_X12_next) 65 dX12_next_65 f_X12_201 o_108 (by decide) ((upN E12 (fun q => absurd q.2 (by decide))).trans ((upN E11 (fun q => absurd q.2 (by decide))).trans t_108_8)) ?_
      refine z_icmp_ne (M := M_X12_next) 68 dX12_next_68 75 rfl (fun c13 => ?_) (fun c13 => ?_)
      · refine z_aload_n (M := M_X12_next) 75 dX12_next_75 rfl ?_
        refine z_getR (M := M_X12_next) 76 dX12_next_76 f_X12_23 o_108 rfl (g_108_7 G12) ?_
        refine z_aload_n (M := M_X12_next) 79 dX12_next_79 rfl ?_
        refine z_getIE (M := M_X12_next) 80 dX12_next_80 f_X12_221 o_108 (by decide) ((upN E12 (fun q => absurd q.2 (by decide))).trans ((upN E11 (fun q => absurd q.2 (by decide))).trans t_108_9)) ?_
        refine z_ialdG (M := M_X12_next) 83 dX12_next_83 o_113 (by omega) (by omega) (g_113 G12 (by omega)) (fun x14 ex14 ax14 bx14 => ?_)
        refine z_sI (M := M_X12_next) 84 dX12_next_84 t_X12_isSmall l_X12_228 (m_rr_of rfl) (rest := [mR 108]) (c_X12_isSmall h12 x14 G12) rfl rfl (Nat.le_of_ble_eq_true rfl) ⟨rfl, rfl⟩ (fun x15 h13 qx15 => ?_)
        obtain ⟨rfl, ⟨rfl, cx15⟩ | ⟨rfl, cx15⟩⟩ := qx15
        · refine z_if_eq_F (M := M_X12_next) 87 dX12_next_87 94 rfl (by omega) ?_
          refine z_iconst (M := M_X12_next) 90 dX12_next_90 ?_
          refine z_goto (M := M_X12_next) 91 dX12_next_91 114 rfl ?_
          refine z_putIH (M := M_X12_next) 114 dX12_next_114 p_X12_234 o_108 rfl (u_108_11 G12 (by omega) (by omega)) (R12.up rfl) (fun h14 E14 G14 R14 => ?_)
          refine z_aload_n (M := M_X12_next) 117 dX12_next_117 rfl ?_
          refine z_getIE (M := M_X12_next) 118 dX12_next_118 f_X12_234 o_108 (by decide) (upE E14) ?_
          refine z_iconst (M := M_X12_next) 121 dX12_next_121 ?_
          refine z_icmp_ne_T (M := M_X12_next) 122 dX12_next_122 149 rfl (by omega) ?_
          have w16 : h0 108 8 = y_108_8 := (R14 108 8 rfl).symm.trans ((upN E14 (fun q => absurd q.2 (by decide))).trans ((upN E12 (fun q => absurd q.2 (by decide))).trans ((upN E11 (fun q => absurd q.2 (by decide))).trans t_108_8)))
          exact z_mask [true] rfl (ih.2.1 y_108_8 y_108_9 y_108_9 1 0 h14 G14 R14 (by omega) (by omega) (by omega) (by omega) (by omega) (by omega) (by omega) (by omega) (by omega) (by omega) ((upN E14 (fun q => absurd q.2 (by decide))).trans ((upN E12 (fun q => absurd q.2 (by decide))).trans ((upN E11 (fun q => absurd q.2 (by decide))).trans t_108_8))) ((upN E14 (fun q => absurd q.2 (by decide))).trans ((upN E12 (fun q => absurd q.2 (by decide))).trans ((upN E11 (fun q => absurd q.2 (by decide))).trans t_108_9))) ((upN E14 (fun q => absurd q.2 (by decide))).trans ((upN E12 (fun q => absurd q.2 (by decide))).trans (upE E11))) (upE E14) ((upN E14 (fun q => absurd q.2 (by decide))).trans (upE E12)) (by first | exact Sk_of i0 (fun _ => ne_of ((R 113 _ rfl).symm.trans ex11) (by omega)) | exact Sk_of i0 (fun q => absurd q (by omega)) | (exfalso; omega)) (by first | exact M1_1 (by omega) ((R12 113 _ rfl).symm.trans ex14) (by omega) | (exfalso; omega)) (by omega) (by omega))
        · refine z_if_eq_T (M := M_X12_next) 87 dX12_next_87 94 rfl (by omega) ?_
          refine z_aload_n (M := M_X12_next) 94 dX12_next_94 rfl ?_
          refine z_getR (M := M_X12_next) 95 dX12_next_95 f_X12_23 o_108 rfl (g_108_7 G12) ?_
          refine z_aload_n (M := M_X12_next) 98 dX12_next_98 rfl ?_
          refine z_getIE (M := M_X12_next) 99 dX12_next_99 f_X12_221 o_108 (by decide) ((upN E12 (fun q => absurd q.2 (by decide))).trans ((upN E11 (fun q => absurd q.2 (by decide))).trans t_108_9)) ?_
          refine z_ialdE (M := M_X12_next) 102 dX12_next_102 o_113 (by omega) (by omega) ex14 ?_
          refine z_sI (M := M_X12_next) 103 dX12_next_103 t_X12_isDigit l_X12_231 (m_rr_of rfl) (rest := [mR 108]) (c_X12_isDigit h12 x14 G12) rfl rfl (Nat.le_of_ble_eq_true rfl) ⟨rfl, rfl⟩ (fun x17 h15 qx17 => ?_)
          obtain ⟨rfl, ⟨rfl, cx17⟩ | ⟨rfl, cx17⟩⟩ := qx17
          · refine z_if_eq_F (M := M_X12_next) 106 dX12_next_106 113 rfl (by omega) ?_
            refine z_iconst (M := M_X12_next) 109 dX12_next_109 ?_
            refine z_goto (M := M_X12_next) 110 dX12_next_110 114 rfl ?_
            refine z_putIH (M := M_X12_next) 114 dX12_next_114 p_X12_234 o_108 rfl (u_108_11 G12 (by omega) (by omega)) (R12.up rfl) (fun h16 E16 G16 R16 => ?_)
            refine z_aload_n (M := M_X12_next) 117 dX12_next_117 rfl ?_
            refine z_getIE (M := M_X12_next) 118 dX12_next_118 f_X12_234 o_108 (by decide) (upE E16) ?_
            refine z_iconst (M := M_X12_next) 121 dX12_next_121 ?_
            refine z_icmp_ne_T (M := M_X12_next) 122 dX12_next_122 149 rfl (by omega) ?_
            have w18 : h0 108 8 = y_108_8 := (R16 108 8 rfl).symm.trans ((upN E16 (fun q => absurd q.2 (by decide))).trans ((upN E12 (fun q => absurd q.2 (by decide))).trans ((upN E11 (fun q => absurd q.2 (by decide))).trans t_108_8)))
            exact z_mask [true] rfl (ih.2.1 y_108_8 y_108_9 y_108_9 2 0 h16 G16 R16 (by omega) (by omega) (by omega) (by omega) (by omega) (by omega) (by omega) (by omega) (by omega) (by omega) ((upN E16 (fun q => absurd q.2 (by decide))).trans ((upN E12 (fun q => absurd q.2 (by decide))).trans ((upN E11 (fun q => absurd q.2 (by decide))).trans t_108_8))) ((upN E16 (fun q => absurd q.2 (by decide))).trans ((upN E12 (fun q => absurd q.2 (by decide))).trans ((upN E11 (fun q => absurd q.2 (by decide))).trans t_108_9))) ((upN E16 (fun q => absurd q.2 (by decide))).trans ((upN E12 (fun q => absurd q.2 (by decide))).trans (upE E11))) (upE E16) ((upN E16 (fun q => absurd q.2 (by decide))).trans (upE E12)) (by first | exact Sk_of i0 (fun _ => ne_of ((R 113 _ rfl).symm.trans ex11) (by omega)) | exact Sk_of i0 (fun q => absurd q (by omega)) | (exfalso; omega)) (by first | exact M1_2 (by omega) ((R12 113 _ rfl).symm.trans ex14) (by omega) | (exfalso; omega)) (by omega) (by omega))
          · refine z_if_eq_T (M := M_X12_next) 106 dX12_next_106 113 rfl (by omega) ?_
            refine z_iconst (M := M_X12_next) 113 dX12_next_113 ?_
            refine z_putIH (M := M_X12_next) 114 dX12_next_114 p_X12_234 o_108 rfl (u_108_11 G12 (by omega) (by omega)) (R12.up rfl) (fun h17 E17 G17 R17 => ?_)
            refine z_aload_n (M := M_X12_next) 117 dX12_next_117 rfl ?_
            refine z_getIE (M := M_X12_next) 118 dX12_next_118 f_X12_234 o_108 (by decide) (upE E17) ?_
            refine z_iconst (M := M_X12_next) 121 dX12_next_121 ?_
            refine z_icmp_ne_F (M := M_X12_next) 122 dX12_next_122 149 rfl (by omega) ?_
            refine z_aload_n (M := M_X12_next) 125 dX12_next_125 rfl ?_
            refine z_aload_n (M := M_X12_next) 126 dX12_next_126 rfl ?_
            refine z_getR (M := M_X12_next) 127 dX12_next_127 f_X12_23 o_108 rfl (g_108_7 G17) ?_
            refine z_aload_n (M := M_X12_next) 130 dX12_next_130 rfl ?_
            refine z_getIE (M := M_X12_next) 131 dX12_next_131 f_X12_221 o_108 (by decide) ((upN E17 (fun q => absurd q.2 (by decide))).trans ((upN E12 (fun q => absurd q.2 (by decide))).trans ((upN E11 (fun q => absurd q.2 (by decide))).trans t_108_9))) ?_
            refine z_ialdG (M := M_X12_next) 134 dX12_next_134 o_113 (by omega) (by omega) (g_113 G17 (by omega)) (fun x19 ex19 ax19 bx19 => ?_)
            refine z_i2l (M := M_X12_next) 135 dX12_next_135 ?_
            refine z_putJH (M := M_X12_next) 136 dX12_next_136 p_X12_224 o_108 rfl (u_108_12 G17) (R17.up rfl) (fun h18 E18 G18 R18 => ?_)
            refine z_aload_n (M := M_X12_next) 139 dX12_next_139 rfl ?_
            refine z_dup (M := M_X12_next) 140 dX12_next_140 rfl ?_
            refine z_getIE (M := M_X12_next) 141 dX12_next_141 f_X12_211 o_108 (by decide) ((upN E18 (fun q => absurd q.2 (by decide))).trans ((upN E17 (fun q => absurd q.2 (by decide))).trans ((upN E12 (fun q => absurd q.2 (by decide))).trans (upE E11)))) ?_
            refine z_iconst (M := M_X12_next) 144 dX12_next_144 ?_
            refine z_iaddN (M := M_X12_next) 145 dX12_next_145 (by omega) (by omega) ?_
            refine z_putIH (M := M_X12_next) 146 dX12_next_146 p_X12_211 o_108 rfl (u_108_10 G18 (by omega) (by omega)) (R18.up rfl) (fun h19 E19 G19 R19 => ?_)
            have w20 : h0 108 8 = y_108_8 := (R19 108 8 rfl).symm.trans ((upN E19 (fun q => absurd q.2 (by decide))).trans ((upN E18 (fun q => absurd q.2 (by decide))).trans ((upN E17 (fun q => absurd q.2 (by decide))).trans ((upN E12 (fun q => absurd q.2 (by decide))).trans ((upN E11 (fun q => absurd q.2 (by decide))).trans t_108_8)))))
            exact z_mask [true] rfl (ih.2.1 y_108_8 y_108_9 (y_108_9 + 1) 3 x19 h19 G19 R19 (by omega) (by omega) (by omega) (by omega) (by omega) (by omega) (by omega) (by omega) (by omega) (by omega) ((upN E19 (fun q => absurd q.2 (by decide))).trans ((upN E18 (fun q => absurd q.2 (by decide))).trans ((upN E17 (fun q => absurd q.2 (by decide))).trans ((upN E12 (fun q => absurd q.2 (by decide))).trans ((upN E11 (fun q => absurd q.2 (by decide))).trans t_108_8))))) ((upN E19 (fun q => absurd q.2 (by decide))).trans ((upN E18 (fun q => absurd q.2 (by decide))).trans ((upN E17 (fun q => absurd q.2 (by decide))).trans ((upN E12 (fun q => absurd q.2 (by decide))).trans ((upN E11 (fun q => absurd q.2 (by decide))).trans t_108_9))))) (upE E19) ((upN E19 (fun q => absurd q.2 (by decide))).trans ((upN E18 (fun q => absurd q.2 (by decide))).trans (upE E17))) ((upN E19 (fun q => absurd q.2 (by decide))).trans (upE E18)) (by first | exact Sk_of i0 (fun _ => ne_of ((R 113 _ rfl).symm.trans ex11) (by omega)) | exact Sk_of i0 (fun q => absurd q (by omega)) | (exfalso; omega)) (by first | exact M1_3' (by omega) ((R12 113 _ rfl).symm.trans ex14) ((R17 113 _ rfl).symm.trans ex19) (by omega) (by omega) | (exfalso; omega)) (by omega) (by omega))
      · refine z_iconst (M := M_X12_next) 71 dX12_next_71 ?_
        refine z_goto (M := M_X12_next) 72 dX12_next_72 114 rfl ?_
        refine z_putIH (M := M_X12_next) 114 dX12_next_114 p_X12_234 o_108 rfl (u_108_11 G12 (by omega) (by omega)) (R12.up rfl) (fun h20 E20 G20 R20 => ?_)
        refine z_aload_n (M := M_X12_next) 117 dX12_next_117 rfl ?_
        refine z_getIE (M := M_X12_next) 118 dX12_next_118 f_X12_234 o_108 (by decide) (upE E20) ?_
        refine z_iconst (M := M_X12_next) 121 dX12_next_121 ?_
        refine z_icmp_ne_T (M := M_X12_next) 122 dX12_next_122 149 rfl (by omega) ?_
        have w21 : h0 108 8 = y_108_8 := (R20 108 8 rfl).symm.trans ((upN E20 (fun q => absurd q.2 (by decide))).trans ((upN E12 (fun q => absurd q.2 (by decide))).trans ((upN E11 (fun q => absurd q.2 (by decide))).trans t_108_8)))
        exact z_mask [true] rfl (ih.2.1 y_108_8 y_108_9 y_108_9 0 0 h20 G20 R20 (by omega) (by omega) (by omega) (by omega) (by omega) (by omega) (by omega) (by omega) (by omega) (by omega) ((upN E20 (fun q => absurd q.2 (by decide))).trans ((upN E12 (fun q => absurd q.2 (by decide))).trans ((upN E11 (fun q => absurd q.2 (by decide))).trans t_108_8))) ((upN E20 (fun q => absurd q.2 (by decide))).trans ((upN E12 (fun q => absurd q.2 (by decide))).trans ((upN E11 (fun q => absurd q.2 (by decide))).trans t_108_9))) ((upN E20 (fun q => absurd q.2 (by decide))).trans ((upN E12 (fun q => absurd q.2 (by decide))).trans (upE E11))) (upE E20) ((upN E20 (fun q => absurd q.2 (by decide))).trans (upE E12)) (by first | exact Sk_of i0 (fun _ => ne_of ((R 113 _ rfl).symm.trans ex11) (by omega)) | exact Sk_of i0 (fun q => absurd q (by omega)) | (exfalso; omega)) (by first | exact M1_0 (by omega) | (exfalso; omega)) (by omega) (by omega))
    · refine z_aload_n (M := M_X12_next) 33 dX12_next_33 rfl ?_
      refine z_dup (M := M_X12_next) 34 dX12_next_34 rfl ?_
      refine z_getIE (M := M_X12_next) 35 dX12_next_35 f_X12_221 o_108 (by decide) t_108_9 ?_
      refine z_iconst (M := M_X12_next) 38 dX12_next_38 ?_
      refine z_iaddN (M := M_X12_next) 39 dX12_next_39 (by omega) (by omega) ?_
      refine z_putIH (M := M_X12_next) 40 dX12_next_40 p_X12_221 o_108 rfl (u_108_9 G (by omega) (by omega)) (R.up rfl) (fun h21 E21 G21 R21 => ?_)
      refine z_goto (M := M_X12_next) 43 dX12_next_43 8 rfl ?_
      have w22 : h0 108 8 = y_108_8 := (R21 108 8 rfl).symm.trans ((upN E21 (fun q => absurd q.2 (by decide))).trans t_108_8)
      exact z_mask [true] rfl (ih.1 y_108_8 (y_108_9 + 1) h21 G21 R21 (by omega) (by omega) (by omega) (by omega) ((upN E21 (fun q => absurd q.2 (by decide))).trans t_108_8) (upE E21) (Sp_s i0 (by omega) (by omega) (((R 113 _ rfl).symm.trans ex11).trans (by omega))) (by omega) (by omega))
set_option maxHeartbeats 4000000 in
set_option maxRecDepth 100000 in
theorem s_X12_next2_149 (h0 : m_H) (G0 : GI h0) (ht : h0 108 10 ≤ h0 108 8) (n : Nat) (ih : q_X12_next2 h0 n) : ∀ (y_108_8 y_108_9 y_108_10 y_108_11 y_108_12 : Int) (h : m_H), GI h → FR [] [(108, 9), (108, 10), (108, 11), (108, 12)] h0 h → 0 ≤ y_108_8 → y_108_8 ≤ 400 → 0 ≤ y_108_9 → y_108_9 ≤ 400 → 0 ≤ y_108_10 → y_108_10 ≤ 400 → 0 ≤ y_108_11 → y_108_11 ≤ 3 → (-1) ≤ y_108_12 → y_108_12 ≤ 1125899906842624 → (h 108 8 = y_108_8) → (h 108 9 = y_108_9) → (h 108 10 = y_108_10) → (h 108 11 = y_108_11) → (h 108 12 = y_108_12) → (Sk (h0 113) (h0 108 8) (h0 108 10) y_108_9) → (M1 (h0 113) (h0 108 8) y_108_9 y_108_10 y_108_11 y_108_12) → (h0 108 10 ≤ y_108_9 ∧ y_108_9 ≤ y_108_10 ∧ y_108_10 ≤ y_108_8) → 2 * (400 - y_108_10) + (804) ≤ ((n + 1 : Nat) : Int) → m_Z oF M_X12_next 149 [some (mR 108)] [] h (m_QV (P_X12_next2 h0)) := by
  intro y_108_8 y_108_9 y_108_10 y_108_11 y_108_12 h G R v0 v1 v2 v3 v4 v5 v6 v7 v8 v9 t_108_8 t_108_9 t_108_10 t_108_11 t_108_12 i0 i1 i2 hr
  refine z_aload_n (M := M_X12_next) 149 dX12_next_149 rfl ?_
  refine z_getIE (M := M_X12_next) 150 dX12_next_150 f_X12_234 o_108 (by decide) t_108_11 ?_
  refine z_iconst (M := M_X12_next) 153 dX12_next_153 ?_
  refine z_icmp_ne (M := M_X12_next) 154 dX12_next_154 243 rfl (fun c1 => ?_) (fun c1 => ?_)
  · have w2 : h0 108 8 = y_108_8 := (R 108 8 rfl).symm.trans t_108_8
    exact z_mask [true] rfl (ih.2.2 y_108_8 y_108_9 y_108_10 y_108_11 y_108_12 h G R (by omega) (by omega) (by omega) (by omega) (by omega) (by omega) (by omega) (by omega) (by omega) (by omega) t_108_8 t_108_9 t_108_10 t_108_11 t_108_12 i0 (M1_e i1 (by omega) (fun q => absurd q (by omega))) (by omega) (by omega))
  · refine z_aload_n (M := M_X12_next) 157 dX12_next_157 rfl ?_
    refine z_getIE (M := M_X12_next) 158 dX12_next_158 f_X12_211 o_108 (by decide) t_108_10 ?_
    refine z_aload_n (M := M_X12_next) 161 dX12_next_161 rfl ?_
    refine z_getIE (M := M_X12_next) 162 dX12_next_162 f_X12_201 o_108 (by decide) t_108_8 ?_
    refine z_icmp_ge (M := M_X12_next) 165 dX12_next_165 243 rfl (fun c3 => ?_) (fun c3 => ?_)
    · have w4 : h0 108 8 = y_108_8 := (R 108 8 rfl).symm.trans t_108_8
      exact z_mask [true] rfl (ih.2.2 y_108_8 y_108_9 y_108_10 y_108_11 y_108_12 h G R (by omega) (by omega) (by omega) (by omega) (by omega) (by omega) (by omega) (by omega) (by omega) (by omega) t_108_8 t_108_9 t_108_10 t_108_11 t_108_12 i0 (M1_e i1 (by omega) (fun _ q => absurd q (by omega))) (by omega) (by omega))
    · refine z_aload_n (M := M_X12_next) 168 dX12_next_168 rfl ?_
      refine z_getR (M := M_X12_next) 169 dX12_next_169 f_X12_23 o_108 rfl (g_108_7 G) ?_
      refine z_aload_n (M := M_X12_next) 172 dX12_next_172 rfl ?_
      refine z_getIE (M := M_X12_next) 173 dX12_next_173 f_X12_211 o_108 (by decide) t_108_10 ?_
      refine z_ialdG (M := M_X12_next) 176 dX12_next_176 o_113 (by omega) (by omega) (g_113 G (by omega)) (fun x5 ex5 ax5 bx5 => ?_)
      refine z_sI (M := M_X12_next) 177 dX12_next_177 t_X12_isSmall l_X12_228 (m_rr_of rfl) (rest := []) (c_X12_isSmall h x5 G) rfl rfl (Nat.le_of_ble_eq_true rfl) ⟨rfl, rfl⟩ (fun x6 h1 qx6 => ?_)
      obtain ⟨rfl, ⟨rfl, cx6⟩ | ⟨rfl, cx6⟩⟩ := qx6
      · refine z_if_eq_F (M := M_X12_next) 180 dX12_next_180 243 rfl (by omega) ?_
        refine z_aload_n (M := M_X12_next) 183 dX12_next_183 rfl ?_
        refine z_aload_n (M := M_X12_next) 184 dX12_next_184 rfl ?_
        refine z_getIE (M := M_X12_next) 185 dX12_next_185 f_X12_211 o_108 (by decide) t_108_10 ?_
        refine z_aload_n (M := M_X12_next) 188 dX12_next_188 rfl ?_
        refine z_getIE (M := M_X12_next) 189 dX12_next_189 f_X12_221 o_108 (by decide) t_108_9 ?_
        refine z_isubN (M := M_X12_next) 192 dX12_next_192 (by omega) (by omega) ?_
        refine z_bipush (M := M_X12_next) 193 dX12_next_193 ?_
        refine z_icmp_ge (M := M_X12_next) 195 dX12_next_195 224 rfl (fun c7 => ?_) (fun c7 => ?_)
        · refine z_ldc2 (M := M_X12_next) 224 dX12_next_224 k_X12_160 ?_
          refine z_putJH (M := M_X12_next) 227 dX12_next_227 p_X12_224 o_108 rfl (u_108_12 G) (R.up rfl) (fun h2 E2 G2 R2 => ?_)
          refine z_aload_n (M := M_X12_next) 230 dX12_next_230 rfl ?_
          refine z_dup (M := M_X12_next) 231 dX12_next_231 rfl ?_
          refine z_getIE (M := M_X12_next) 232 dX12_next_232 f_X12_211 o_108 (by decide) ((upN E2 (fun q => absurd q.2 (by decide))).trans t_108_10) ?_
          refine z_iconst (M := M_X12_next) 235 dX12_next_235 ?_
          refine z_iaddN (M := M_X12_next) 236 dX12_next_236 (by omega) (by omega) ?_
          refine z_putIH (M := M_X12_next) 237 dX12_next_237 p_X12_211 o_108 rfl (u_108_10 G2 (by omega) (by omega)) (R2.up rfl) (fun h3 E3 G3 R3 => ?_)
          refine z_goto (M := M_X12_next) 240 dX12_next_240 149 rfl ?_
          have w8 : h0 108 8 = y_108_8 := (R3 108 8 rfl).symm.trans ((upN E3 (fun q => absurd q.2 (by decide))).trans ((upN E2 (fun q => absurd q.2 (by decide))).trans t_108_8))
          have ms := M1_s (w' := (-1)) i1 (by omega) (by omega) (by omega) ((R 113 _ rfl).symm.trans ex5) (by omega) (by first | (left; exact ⟨by omega, by omega⟩) | (right; exact ⟨by omega, by omega⟩))
          exact z_mask [true] rfl (ih.2.1 y_108_8 y_108_9 (y_108_10 + 1) y_108_11 (-1) h3 G3 R3 (by omega) (by omega) (by omega) (by omega) (by omega) (by omega) (by omega) (by omega) (by omega) (by omega) ((upN E3 (fun q => absurd q.2 (by decide))).trans ((upN E2 (fun q => absurd q.2 (by decide))).trans t_108_8)) ((upN E3 (fun q => absurd q.2 (by decide))).trans ((upN E2 (fun q => absurd q.2 (by decide))).trans t_108_9)) (upE E3) ((upN E3 (fun q => absurd q.2 (by decide))).trans ((upN E2 (fun q => absurd q.2 (by decide))).trans t_108_11)) ((upN E3 (fun q => absurd q.2 (by decide))).trans (upE E2)) i0 ms.1 (by omega) (by omega))
        · refine z_aload_n (M := M_X12_next) 198 dX12_next_198 rfl ?_
          refine z_getJE (M := M_X12_next) 199 dX12_next_199 f_X12_224 o_108 rfl t_108_12 ?_
          refine z_ldc2 (M := M_X12_next) 202 dX12_next_202 k_X12_237 ?_
          refine z_lmulN (M := M_X12_next) 205 dX12_next_205 (by omega) (by omega) ?_
          refine z_aload_n (M := M_X12_next) 206 dX12_next_206 rfl ?_
          refine z_getR (M := M_X12_next) 207 dX12_next_207 f_X12_23 o_108 rfl (g_108_7 G) ?_
          refine z_aload_n (M := M_X12_next) 210 dX12_next_210 rfl ?_
          refine z_getIE (M := M_X12_next) 211 dX12_next_211 f_X12_211 o_108 (by decide) t_108_10 ?_
          refine z_ialdE (M := M_X12_next) 214 dX12_next_214 o_113 (by omega) (by omega) ex5 ?_
          refine z_i2l (M := M_X12_next) 215 dX12_next_215 ?_
          refine z_laddN (M := M_X12_next) 216 dX12_next_216 (by omega) (by omega) ?_
          refine z_ldc2 (M := M_X12_next) 217 dX12_next_217 k_X12_239 ?_
          refine z_lsubN (M := M_X12_next) 220 dX12_next_220 (by omega) (by omega) ?_
          refine z_goto (M := M_X12_next) 221 dX12_next_221 227 rfl ?_
          refine z_putJH (M := M_X12_next) 227 dX12_next_227 p_X12_224 o_108 rfl (u_108_12 G) (R.up rfl) (fun h4 E4 G4 R4 => ?_)
          refine z_aload_n (M := M_X12_next) 230 dX12_next_230 rfl ?_
          refine z_dup (M := M_X12_next) 231 dX12_next_231 rfl ?_
          refine z_getIE (M := M_X12_next) 232 dX12_next_232 f_X12_211 o_108 (by decide) ((upN E4 (fun q => absurd q.2 (by decide))).trans t_108_10) ?_
          refine z_iconst (M := M_X12_next) 235 dX12_next_235 ?_
          refine z_iaddN (M := M_X12_next) 236 dX12_next_236 (by omega) (by omega) ?_
          refine z_putIH (M := M_X12_next) 237 dX12_next_237 p_X12_211 o_108 rfl (u_108_10 G4 (by omega) (by omega)) (R4.up rfl) (fun h5 E5 G5 R5 => ?_)
          refine z_goto (M := M_X12_next) 240 dX12_next_240 149 rfl ?_
          have w9 : h0 108 8 = y_108_8 := (R5 108 8 rfl).symm.trans ((upN E5 (fun q => absurd q.2 (by decide))).trans ((upN E4 (fun q => absurd q.2 (by decide))).trans t_108_8))
          have ms := M1_s (w' := (((y_108_12 * 32) + x5) - 96)) i1 (by omega) (by omega) (by omega) ((R 113 _ rfl).symm.trans ex5) (by omega) (by first | (left; exact ⟨by omega, by omega⟩) | (right; exact ⟨by omega, by omega⟩))
          exact z_mask [true] rfl (ih.2.1 y_108_8 y_108_9 (y_108_10 + 1) y_108_11 (((y_108_12 * 32) + x5) - 96) h5 G5 R5 (by omega) (by omega) (by omega) (by omega) (by omega) (by omega) (by omega) (by omega) (by omega) (by omega) ((upN E5 (fun q => absurd q.2 (by decide))).trans ((upN E4 (fun q => absurd q.2 (by decide))).trans t_108_8)) ((upN E5 (fun q => absurd q.2 (by decide))).trans ((upN E4 (fun q => absurd q.2 (by decide))).trans t_108_9)) (upE E5) ((upN E5 (fun q => absurd q.2 (by decide))).trans ((upN E4 (fun q => absurd q.2 (by decide))).trans t_108_11)) ((upN E5 (fun q => absurd q.2 (by decide))).trans (upE E4)) i0 ms.1 (by omega) (by omega))
      · refine z_if_eq_T (M := M_X12_next) 180 dX12_next_180 243 rfl (by omega) ?_
        have w10 : h0 108 8 = y_108_8 := (R 108 8 rfl).symm.trans t_108_8
        exact z_mask [true] rfl (ih.2.2 y_108_8 y_108_9 y_108_10 y_108_11 y_108_12 h G R (by omega) (by omega) (by omega) (by omega) (by omega) (by omega) (by omega) (by omega) (by omega) (by omega) t_108_8 t_108_9 t_108_10 t_108_11 t_108_12 i0 (M1_e i1 (by omega) (fun _ _ => fam_n1 ((R 113 _ rfl).symm.trans ex5) (by omega))) (by omega) (by omega))
set_option maxHeartbeats 4000000 in
set_option maxRecDepth 100000 in
theorem s_X12_next2_243 (h0 : m_H) (G0 : GI h0) (ht : h0 108 10 ≤ h0 108 8) (n : Nat) (ih : q_X12_next2 h0 n) : ∀ (y_108_8 y_108_9 y_108_10 y_108_11 y_108_12 : Int) (h : m_H), GI h → FR [] [(108, 9), (108, 10), (108, 11), (108, 12)] h0 h → 0 ≤ y_108_8 → y_108_8 ≤ 400 → 0 ≤ y_108_9 → y_108_9 ≤ 400 → 0 ≤ y_108_10 → y_108_10 ≤ 400 → 0 ≤ y_108_11 → y_108_11 ≤ 3 → (-1) ≤ y_108_12 → y_108_12 ≤ 1125899906842624 → (h 108 8 = y_108_8) → (h 108 9 = y_108_9) → (h 108 10 = y_108_10) → (h 108 11 = y_108_11) → (h 108 12 = y_108_12) → (Sk (h0 113) (h0 108 8) (h0 108 10) y_108_9) → (M2 (h0 113) (h0 108 8) y_108_9 y_108_10 y_108_11 y_108_12) → (h0 108 10 ≤ y_108_9 ∧ y_108_9 ≤ y_108_10 ∧ y_108_10 ≤ y_108_8) → 2 * (400 - y_108_10) + (1) ≤ ((n + 1 : Nat) : Int) → m_Z oF M_X12_next 243 [some (mR 108)] [] h (m_QV (P_X12_next2 h0)) := by
  intro y_108_8 y_108_9 y_108_10 y_108_11 y_108_12 h G R v0 v1 v2 v3 v4 v5 v6 v7 v8 v9 t_108_8 t_108_9 t_108_10 t_108_11 t_108_12 i0 i1 i2 hr
  refine z_aload_n (M := M_X12_next) 243 dX12_next_243 rfl ?_
  refine z_getIE (M := M_X12_next) 244 dX12_next_244 f_X12_234 o_108 (by decide) t_108_11 ?_
  refine z_iconst (M := M_X12_next) 247 dX12_next_247 ?_
  refine z_icmp_ne (M := M_X12_next) 248 dX12_next_248 335 rfl (fun c1 => ?_) (fun c1 => ?_)
  · have w2 : h0 108 8 = y_108_8 := (R 108 8 rfl).symm.trans t_108_8
    have me := M2_e (h' := h) i0 i1 (by omega) (by omega) (fun q => absurd q (by omega)) (rowz R (fun _ => rfl)) (R 108 8 rfl) t_108_9 t_108_10 t_108_11 t_108_12
    exact z_retV (M := M_X12_next) 335 dX12_next_335 rfl ⟨G, R, me.1, me.2⟩
  · refine z_aload_n (M := M_X12_next) 251 dX12_next_251 rfl ?_
    refine z_getIE (M := M_X12_next) 252 dX12_next_252 f_X12_211 o_108 (by decide) t_108_10 ?_
    refine z_aload_n (M := M_X12_next) 255 dX12_next_255 rfl ?_
    refine z_getIE (M := M_X12_next) 256 dX12_next_256 f_X12_201 o_108 (by decide) t_108_8 ?_
    refine z_icmp_ge (M := M_X12_next) 259 dX12_next_259 335 rfl (fun c3 => ?_) (fun c3 => ?_)
    · have w4 : h0 108 8 = y_108_8 := (R 108 8 rfl).symm.trans t_108_8
      have me := M2_e (h' := h) i0 i1 (by omega) (by omega) (fun _ q => absurd q (by omega)) (rowz R (fun _ => rfl)) (R 108 8 rfl) t_108_9 t_108_10 t_108_11 t_108_12
      exact z_retV (M := M_X12_next) 335 dX12_next_335 rfl ⟨G, R, me.1, me.2⟩
    · refine z_aload_n (M := M_X12_next) 262 dX12_next_262 rfl ?_
      refine z_getR (M := M_X12_next) 263 dX12_next_263 f_X12_23 o_108 rfl (g_108_7 G) ?_
      refine z_aload_n (M := M_X12_next) 266 dX12_next_266 rfl ?_
      refine z_getIE (M := M_X12_next) 267 dX12_next_267 f_X12_211 o_108 (by decide) t_108_10 ?_
      refine z_ialdG (M := M_X12_next) 270 dX12_next_270 o_113 (by omega) (by omega) (g_113 G (by omega)) (fun x5 ex5 ax5 bx5 => ?_)
      refine z_sI (M := M_X12_next) 271 dX12_next_271 t_X12_isDigit l_X12_231 (m_rr_of rfl) (rest := []) (c_X12_isDigit h x5 G) rfl rfl (Nat.le_of_ble_eq_true rfl) ⟨rfl, rfl⟩ (fun x6 h1 qx6 => ?_)
      obtain ⟨rfl, ⟨rfl, cx6⟩ | ⟨rfl, cx6⟩⟩ := qx6
      · refine z_if_eq_F (M := M_X12_next) 274 dX12_next_274 335 rfl (by omega) ?_
        refine z_aload_n (M := M_X12_next) 277 dX12_next_277 rfl ?_
        refine z_aload_n (M := M_X12_next) 278 dX12_next_278 rfl ?_
        refine z_getJE (M := M_X12_next) 279 dX12_next_279 f_X12_224 o_108 rfl t_108_12 ?_
        refine z_ldc2 (M := M_X12_next) 282 dX12_next_282 k_X12_241 ?_
        refine z_lcmp (M := M_X12_next) 285 dX12_next_285 ?_
        refine z_if_le (M := M_X12_next) 286 dX12_next_286 296 rfl (fun c7 => ?_) (fun c7 => ?_)
        · rw [m_cmp_le] at c7
          refine z_aload_n (M := M_X12_next) 296 dX12_next_296 rfl ?_
          refine z_getJE (M := M_X12_next) 297 dX12_next_297 f_X12_224 o_108 rfl t_108_12 ?_
          refine z_ldc2 (M := M_X12_next) 300 dX12_next_300 k_X12_243 ?_
          refine z_lmulN (M := M_X12_next) 303 dX12_next_303 (by omega) (by omega) ?_
          refine z_aload_n (M := M_X12_next) 304 dX12_next_304 rfl ?_
          refine z_getR (M := M_X12_next) 305 dX12_next_305 f_X12_23 o_108 rfl (g_108_7 G) ?_
          refine z_aload_n (M := M_X12_next) 308 dX12_next_308 rfl ?_
          refine z_getIE (M := M_X12_next) 309 dX12_next_309 f_X12_211 o_108 (by decide) t_108_10 ?_
          refine z_ialdE (M := M_X12_next) 312 dX12_next_312 o_113 (by omega) (by omega) ex5 ?_
          refine z_i2l (M := M_X12_next) 313 dX12_next_313 ?_
          refine z_laddN (M := M_X12_next) 314 dX12_next_314 (by omega) (by omega) ?_
          refine z_ldc2 (M := M_X12_next) 315 dX12_next_315 k_X12_245 ?_
          refine z_lsubN (M := M_X12_next) 318 dX12_next_318 (by omega) (by omega) ?_
          refine z_putJH (M := M_X12_next) 319 dX12_next_319 p_X12_224 o_108 rfl (u_108_12 G) (R.up rfl) (fun h2 E2 G2 R2 => ?_)
          refine z_aload_n (M := M_X12_next) 322 dX12_next_322 rfl ?_
          refine z_dup (M := M_X12_next) 323 dX12_next_323 rfl ?_
          refine z_getIE (M := M_X12_next) 324 dX12_next_324 f_X12_211 o_108 (by decide) ((upN E2 (fun q => absurd q.2 (by decide))).trans t_108_10) ?_
          refine z_iconst (M := M_X12_next) 327 dX12_next_327 ?_
          refine z_iaddN (M := M_X12_next) 328 dX12_next_328 (by omega) (by omega) ?_
          refine z_putIH (M := M_X12_next) 329 dX12_next_329 p_X12_211 o_108 rfl (u_108_10 G2 (by omega) (by omega)) (R2.up rfl) (fun h3 E3 G3 R3 => ?_)
          refine z_goto (M := M_X12_next) 332 dX12_next_332 243 rfl ?_
          have w8 : h0 108 8 = y_108_8 := (R3 108 8 rfl).symm.trans ((upN E3 (fun q => absurd q.2 (by decide))).trans ((upN E2 (fun q => absurd q.2 (by decide))).trans t_108_8))
          have ms := M2_s (w' := (((y_108_12 * 10) + x5) - 48)) i1 (by omega) (by omega) (by omega) ((R 113 _ rfl).symm.trans ex5) (by omega) (by first | (left; exact ⟨by omega, rfl⟩) | (right; exact ⟨by omega, by omega⟩))
          exact z_mask [true] rfl (ih.2.2 y_108_8 y_108_9 (y_108_10 + 1) y_108_11 (((y_108_12 * 10) + x5) - 48) h3 G3 R3 (by omega) (by omega) (by omega) (by omega) (by omega) (by omega) (by omega) (by omega) (by omega) (by omega) ((upN E3 (fun q => absurd q.2 (by decide))).trans ((upN E2 (fun q => absurd q.2 (by decide))).trans t_108_8)) ((upN E3 (fun q => absurd q.2 (by decide))).trans ((upN E2 (fun q => absurd q.2 (by decide))).trans t_108_9)) (upE E3) ((upN E3 (fun q => absurd q.2 (by decide))).trans ((upN E2 (fun q => absurd q.2 (by decide))).trans t_108_11)) ((upN E3 (fun q => absurd q.2 (by decide))).trans (upE E2)) i0 ms.1 (by omega) (by omega))
        · rw [m_cmp_le] at c7
          refine z_aload_n (M := M_X12_next) 289 dX12_next_289 rfl ?_
          refine z_getJE (M := M_X12_next) 290 dX12_next_290 f_X12_224 o_108 rfl t_108_12 ?_
          refine z_goto (M := M_X12_next) 293 dX12_next_293 319 rfl ?_
          refine z_putJH (M := M_X12_next) 319 dX12_next_319 p_X12_224 o_108 rfl (u_108_12 G) (R.up rfl) (fun h4 E4 G4 R4 => ?_)
          refine z_aload_n (M := M_X12_next) 322 dX12_next_322 rfl ?_
          refine z_dup (M := M_X12_next) 323 dX12_next_323 rfl ?_
          refine z_getIE (M := M_X12_next) 324 dX12_next_324 f_X12_211 o_108 (by decide) ((upN E4 (fun q => absurd q.2 (by decide))).trans t_108_10) ?_
          refine z_iconst (M := M_X12_next) 327 dX12_next_327 ?_
          refine z_iaddN (M := M_X12_next) 328 dX12_next_328 (by omega) (by omega) ?_
          refine z_putIH (M := M_X12_next) 329 dX12_next_329 p_X12_211 o_108 rfl (u_108_10 G4 (by omega) (by omega)) (R4.up rfl) (fun h5 E5 G5 R5 => ?_)
          refine z_goto (M := M_X12_next) 332 dX12_next_332 243 rfl ?_
          have w9 : h0 108 8 = y_108_8 := (R5 108 8 rfl).symm.trans ((upN E5 (fun q => absurd q.2 (by decide))).trans ((upN E4 (fun q => absurd q.2 (by decide))).trans t_108_8))
          have ms := M2_s (w' := y_108_12) i1 (by omega) (by omega) (by omega) ((R 113 _ rfl).symm.trans ex5) (by omega) (by first | (left; exact ⟨by omega, rfl⟩) | (right; exact ⟨by omega, by omega⟩))
          exact z_mask [true] rfl (ih.2.2 y_108_8 y_108_9 (y_108_10 + 1) y_108_11 y_108_12 h5 G5 R5 (by omega) (by omega) (by omega) (by omega) (by omega) (by omega) (by omega) (by omega) (by omega) (by omega) ((upN E5 (fun q => absurd q.2 (by decide))).trans ((upN E4 (fun q => absurd q.2 (by decide))).trans t_108_8)) ((upN E5 (fun q => absurd q.2 (by decide))).trans ((upN E4 (fun q => absurd q.2 (by decide))).trans t_108_9)) (upE E5) ((upN E5 (fun q => absurd q.2 (by decide))).trans ((upN E4 (fun q => absurd q.2 (by decide))).trans t_108_11)) ((upN E5 (fun q => absurd q.2 (by decide))).trans (upE E4)) i0 ms.1 (by omega) (by omega))
      · refine z_if_eq_T (M := M_X12_next) 274 dX12_next_274 335 rfl (by omega) ?_
        have w10 : h0 108 8 = y_108_8 := (R 108 8 rfl).symm.trans t_108_8
        have me := M2_e (h' := h) i0 i1 (by omega) (by omega) (fun _ _ => fam_n2 ((R 113 _ rfl).symm.trans ex5) (by omega)) (rowz R (fun _ => rfl)) (R 108 8 rfl) t_108_9 t_108_10 t_108_11 t_108_12
        exact z_retV (M := M_X12_next) 335 dX12_next_335 rfl ⟨G, R, me.1, me.2⟩
theorem a_X12_next2 (h0 : m_H) (G0 : GI h0) (ht : h0 108 10 ≤ h0 108 8) : ∀ n, q_X12_next2 h0 n := by
  intro n
  induction n with
  | zero => unfold q_X12_next2; refine ⟨?_, ?_, ?_⟩ <;> (intros; omega)
  | succ n ih => exact ⟨s_X12_next2_8 h0 G0 ht n ih, s_X12_next2_149 h0 G0 ht n ih, s_X12_next2_243 h0 G0 ht n ih⟩
set_option maxHeartbeats 4000000 in
set_option maxRecDepth 100000 in
theorem c_X12_next2 (h0 : m_H) (G0 : GI h0) (ht : h0 108 10 ≤ h0 108 8) : m_CV M_X12_next [mR 108] h0 (P_X12_next2 h0) := by
  refine m_CV_of ⟨by decide, rfl, by simp [m_arg, m_isL, M_X12_next], ⟨rfl, rfl⟩, rfl, rfl⟩ (ls := [some (mR 108)]) rfl ?_
  have ih := a_X12_next2 h0 G0 ht 2414
  obtain ⟨x1, ex1⟩ : ∃ y : Int, h0 108 10 = y := ⟨_, rfl⟩
  have bx1 : 0 ≤ x1 ∧ x1 ≤ 400 := ex1 ▸ g_108_10 G0
  obtain ⟨x2, ex2⟩ : ∃ y : Int, h0 108 8 = y := ⟨_, rfl⟩
  have bx2 : 0 ≤ x2 ∧ x2 ≤ 400 := ex2 ▸ g_108_8 G0
  refine z_aload_n (M := M_X12_next) 0 dX12_next_0 rfl ?_
  refine z_aload_n (M := M_X12_next) 1 dX12_next_1 rfl ?_
  refine z_getIE (M := M_X12_next) 2 dX12_next_2 f_X12_211 o_108 (by decide) ex1 ?_
  refine z_putIH (M := M_X12_next) 5 dX12_next_5 p_X12_221 o_108 rfl (u_108_9 G0 (by omega) (by omega)) ((FR.rf (cs := []) (ss := [(108, 9), (108, 10), (108, 11), (108, 12)]) (h := h0)).up rfl) (fun h1 E1 G1 R1 => ?_)
  have w3 : h0 108 8 = x2 := (R1 108 8 rfl).symm.trans ((upN E1 (fun q => absurd q.2 (by decide))).trans ex2)
  exact z_mask [true] rfl (ih.1 x2 x1 h1 G1 R1 (by omega) (by omega) (by omega) (by omega) ((upN E1 (fun q => absurd q.2 (by decide))).trans ex2) (upE E1) (Sp_0 ex1) (by omega) (by omega))
