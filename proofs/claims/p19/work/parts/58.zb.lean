abbrev P_X1_familyOf2 (h0 : m_H) (a0 : Int) : Int → m_H → Prop := fun x h' => h0 = h' ∧ fam a0 = x
set_option maxHeartbeats 4000000 in
set_option maxRecDepth 100000 in
theorem c_X1_familyOf2 (h0 : m_H) (a0 : Int) (G0 : GI h0) : m_CI M_X1_familyOf [mI a0] h0 (P_X1_familyOf2 h0 a0) := by
  refine m_CI_of ⟨by decide, rfl, by simp [m_arg, m_isL, M_X1_familyOf], ⟨rfl, rfl⟩, rfl, rfl⟩ (ls := [some (mI a0)]) rfl ?_
  refine z_ok (fun _ _ ok => ?_)
  have oa0 : m_32 a0 := ok 0 _ rfl
  unfold m_32 at oa0
  refine z_iload_n (M := M_X1_familyOf) 0 dX1_familyOf_0 rfl ?_
  refine z_bipush (M := M_X1_familyOf) 1 dX1_familyOf_1 ?_
  refine z_icmp_lt (M := M_X1_familyOf) 3 dX1_familyOf_3 14 rfl (fun c1 => ?_) (fun c1 => ?_)
  · refine z_iload_n (M := M_X1_familyOf) 14 dX1_familyOf_14 rfl ?_
    refine z_bipush (M := M_X1_familyOf) 15 dX1_familyOf_15 ?_
    refine z_icmp_lt (M := M_X1_familyOf) 17 dX1_familyOf_17 30 rfl (fun c2 => ?_) (fun c2 => ?_)
    · refine z_iconst (M := M_X1_familyOf) 30 dX1_familyOf_30 ?_
      exact z_retI (M := M_X1_familyOf) 31 dX1_familyOf_31 rfl ⟨rfl, fam_0 (by omega) (by omega)⟩
    · refine z_iload_n (M := M_X1_familyOf) 20 dX1_familyOf_20 rfl ?_
      refine z_bipush (M := M_X1_familyOf) 21 dX1_familyOf_21 ?_
      refine z_icmp_gt (M := M_X1_familyOf) 23 dX1_familyOf_23 30 rfl (fun c3 => ?_) (fun c3 => ?_)
      · refine z_iconst (M := M_X1_familyOf) 30 dX1_familyOf_30 ?_
        exact z_retI (M := M_X1_familyOf) 31 dX1_familyOf_31 rfl ⟨rfl, fam_0 (by omega) (by omega)⟩
      · refine z_iconst (M := M_X1_familyOf) 26 dX1_familyOf_26 ?_
        refine z_goto (M := M_X1_familyOf) 27 dX1_familyOf_27 31 rfl ?_
        exact z_retI (M := M_X1_familyOf) 31 dX1_familyOf_31 rfl ⟨rfl, fam_2 (by omega) (by omega)⟩
  · refine z_iload_n (M := M_X1_familyOf) 6 dX1_familyOf_6 rfl ?_
    refine z_bipush (M := M_X1_familyOf) 7 dX1_familyOf_7 ?_
    refine z_icmp_gt (M := M_X1_familyOf) 9 dX1_familyOf_9 14 rfl (fun c4 => ?_) (fun c4 => ?_)
    · refine z_iload_n (M := M_X1_familyOf) 14 dX1_familyOf_14 rfl ?_
      refine z_bipush (M := M_X1_familyOf) 15 dX1_familyOf_15 ?_
      refine z_icmp_lt_F (M := M_X1_familyOf) 17 dX1_familyOf_17 30 rfl (by omega) ?_
      refine z_iload_n (M := M_X1_familyOf) 20 dX1_familyOf_20 rfl ?_
      refine z_bipush (M := M_X1_familyOf) 21 dX1_familyOf_21 ?_
      refine z_icmp_gt_T (M := M_X1_familyOf) 23 dX1_familyOf_23 30 rfl (by omega) ?_
      refine z_iconst (M := M_X1_familyOf) 30 dX1_familyOf_30 ?_
      exact z_retI (M := M_X1_familyOf) 31 dX1_familyOf_31 rfl ⟨rfl, fam_0 (by omega) (by omega)⟩
    · refine z_iconst (M := M_X1_familyOf) 12 dX1_familyOf_12 ?_
      exact z_retI (M := M_X1_familyOf) 13 dX1_familyOf_13 rfl ⟨rfl, fam_1 (by omega) (by omega)⟩
abbrev P_X1_advance2 (h0 : m_H) : m_H → Prop := fun h' => GI h' ∧ FR [] [(37, 1), (37, 2)] h0 h' ∧ Tok (h0 36) (h0 35 1) (h0 37 2) (h' 37 1, h' 37 2)
def q_X1_advance2 (h0 : m_H) (n : Nat) : Prop := (∀ (y_37_1 y_37_2 : Int) (h : m_H), GI h → FR [] [(37, 1), (37, 2)] h0 h → 0 ≤ y_37_1 → y_37_1 ≤ 400 → 0 ≤ y_37_2 → y_37_2 ≤ 400 → (h 37 1 = y_37_1) → (h 37 2 = y_37_2) → (Sp (h0 36) (h0 35 1) (h0 37 2) y_37_1) → 2 * (400 - y_37_1) + (804) ≤ (n : Int) → m_Z oF M_X1_advance 8 [some (mR 37), none] [] h (m_QV (P_X1_advance2 h0))) ∧ (∀ (l1 y_37_1 y_37_2 : Int) (h : m_H), GI h → FR [] [(37, 1), (37, 2)] h0 h → 0 ≤ l1 → l1 ≤ 2 → 0 ≤ y_37_1 → y_37_1 ≤ 400 → 1 ≤ y_37_2 → y_37_2 ≤ 400 → (h 37 1 = y_37_1) → (h 37 2 = y_37_2) → (Sk (h0 36) (h0 35 1) (h0 37 2) y_37_1) → (Ep (h0 36) (h0 35 1) y_37_1 y_37_2 l1) → 2 * (400 - y_37_2) + (1) ≤ (n : Int) → m_Z oF M_X1_advance 101 [some (mR 37), some (mI l1)] [] h (m_QV (P_X1_advance2 h0)))
set_option maxHeartbeats 4000000 in
set_option maxRecDepth 100000 in
theorem s_X1_advance2_8 (h0 : m_H) (G0 : GI h0) (n : Nat) (ih : q_X1_advance2 h0 n) : ∀ (y_37_1 y_37_2 : Int) (h : m_H), GI h → FR [] [(37, 1), (37, 2)] h0 h → 0 ≤ y_37_1 → y_37_1 ≤ 400 → 0 ≤ y_37_2 → y_37_2 ≤ 400 → (h 37 1 = y_37_1) → (h 37 2 = y_37_2) → (Sp (h0 36) (h0 35 1) (h0 37 2) y_37_1) → 2 * (400 - y_37_1) + (804) ≤ ((n + 1 : Nat) : Int) → m_Z oF M_X1_advance 8 [some (mR 37), none] [] h (m_QV (P_X1_advance2 h0)) := by
  intro y_37_1 y_37_2 h G R v0 v1 v2 v3 t_37_1 t_37_2 i0 hr
  refine z_aload_n (M := M_X1_advance) 8 dX1_advance_8 rfl ?_
  refine z_getIE (M := M_X1_advance) 9 dX1_advance_9 f_X1_43 o_37 (by decide) t_37_1 ?_
  refine z_aload_n (M := M_X1_advance) 12 dX1_advance_12 rfl ?_
  refine z_getR (M := M_X1_advance) 13 dX1_advance_13 f_X1_9 o_37 rfl (g_37_0 G) ?_
  refine z_getIG (M := M_X1_advance) 16 dX1_advance_16 f_X1_46 o_35 (by decide) (g_35_1 G) (fun x1 ex1 ax1 bx1 => ?_)
  refine z_icmp_ge (M := M_X1_advance) 19 dX1_advance_19 52 rfl (fun c2 => ?_) (fun c2 => ?_)
  · refine z_aload_n (M := M_X1_advance) 52 dX1_advance_52 rfl ?_
    refine z_aload_n (M := M_X1_advance) 53 dX1_advance_53 rfl ?_
    refine z_getIE (M := M_X1_advance) 54 dX1_advance_54 f_X1_43 o_37 (by decide) t_37_1 ?_
    refine z_putIH (M := M_X1_advance) 57 dX1_advance_57 p_X1_19 o_37 rfl (u_37_2 G (by omega) (by omega)) (R.up rfl) (fun h1 E1 G1 R1 => ?_)
    refine z_aload_n (M := M_X1_advance) 60 dX1_advance_60 rfl ?_
    refine z_getIE (M := M_X1_advance) 61 dX1_advance_61 f_X1_43 o_37 (by decide) ((upN E1 (fun q => absurd q.2 (by decide))).trans t_37_1) ?_
    refine z_aload_n (M := M_X1_advance) 64 dX1_advance_64 rfl ?_
    refine z_getR (M := M_X1_advance) 65 dX1_advance_65 f_X1_9 o_37 rfl (g_37_0 G1) ?_
    refine z_getIE (M := M_X1_advance) 68 dX1_advance_68 f_X1_46 o_35 (by decide) ((upN E1 (fun q => absurd q.1 (by decide))).trans ex1) ?_
    refine z_icmp_lt (M := M_X1_advance) 71 dX1_advance_71 75 rfl (fun c3 => ?_) (fun c3 => ?_)
    · refine z_aload_n (M := M_X1_advance) 75 dX1_advance_75 rfl ?_
      refine z_getR (M := M_X1_advance) 76 dX1_advance_76 f_X1_9 o_37 rfl (g_37_0 G1) ?_
      refine z_getR (M := M_X1_advance) 79 dX1_advance_79 f_X1_128 o_35 rfl (g_35_0 G1) ?_
      refine z_aload_n (M := M_X1_advance) 82 dX1_advance_82 rfl ?_
      refine z_getIE (M := M_X1_advance) 83 dX1_advance_83 f_X1_43 o_37 (by decide) ((upN E1 (fun q => absurd q.2 (by decide))).trans t_37_1) ?_
      refine z_ialdG (M := M_X1_advance) 86 dX1_advance_86 o_36 (by omega) (by omega) (g_36 G1 (by omega)) (fun x4 ex4 ax4 bx4 => ?_)
      refine z_sI (M := M_X1_advance) 87 dX1_advance_87 t_X1_familyOf l_X1_139 (m_rr_of rfl) (rest := []) (c_X1_familyOf2 h1 x4 G1) rfl rfl (Nat.le_of_ble_eq_true rfl) ⟨rfl, rfl⟩ (fun x5 h2 qx5 => ?_)
      obtain ⟨rfl, fx5⟩ := qx5
      have bx5 : 0 ≤ x5 ∧ x5 ≤ 2 := fx5 ▸ fam_r _
      refine z_istore_n (M := M_X1_advance) 90 dX1_advance_90 (ls' := [some (mR 37), some (mI x5)]) (by decide) rfl ?_
      refine z_aload_n (M := M_X1_advance) 91 dX1_advance_91 rfl ?_
      refine z_dup (M := M_X1_advance) 92 dX1_advance_92 rfl ?_
      refine z_getIE (M := M_X1_advance) 93 dX1_advance_93 f_X1_19 o_37 (by decide) (upE E1) ?_
      refine z_iconst (M := M_X1_advance) 96 dX1_advance_96 ?_
      refine z_iaddN (M := M_X1_advance) 97 dX1_advance_97 (by omega) (by omega) ?_
      refine z_putIH (M := M_X1_advance) 98 dX1_advance_98 p_X1_19 o_37 rfl (u_37_2 G1 (by omega) (by omega)) (R1.up rfl) (fun h3 E3 G3 R3 => ?_)
      have w6 : h0 35 1 = x1 := (R3 35 1 rfl).symm.trans ((upN E3 (fun q => absurd q.1 (by decide))).trans ((upN E1 (fun q => absurd q.1 (by decide))).trans ex1))
      exact z_mask [true, true] rfl (ih.2 x5 y_37_1 (y_37_1 + 1) h3 G3 R3 (by omega) (by omega) (by omega) (by omega) (by omega) (by omega) ((upN E3 (fun q => absurd q.2 (by decide))).trans ((upN E1 (fun q => absurd q.2 (by decide))).trans t_37_1)) (upE E3) (by first | exact trivial | (exfalso; omega)) (by first | exact Ep_1 (by omega) (by omega) ((R1 36 _ rfl).symm.trans ex4) fx5 | (exfalso; omega)) (by omega))
    · have w7 : h0 35 1 = x1 := (R1 35 1 rfl).symm.trans ((upN E1 (fun q => absurd q.1 (by decide))).trans ex1)
      exact z_retV (M := M_X1_advance) 74 dX1_advance_74 rfl ⟨G1, R1, Tok_of ((upN E1 (fun q => absurd q.2 (by decide))).trans t_37_1) (upE E1) (Sk_of i0 (fun q => absurd q (by omega))) (En_0 (by omega))⟩
  · refine z_aload_n (M := M_X1_advance) 22 dX1_advance_22 rfl ?_
    refine z_getR (M := M_X1_advance) 23 dX1_advance_23 f_X1_9 o_37 rfl (g_37_0 G) ?_
    refine z_getR (M := M_X1_advance) 26 dX1_advance_26 f_X1_128 o_35 rfl (g_35_0 G) ?_
    refine z_aload_n (M := M_X1_advance) 29 dX1_advance_29 rfl ?_
    refine z_getIE (M := M_X1_advance) 30 dX1_advance_30 f_X1_43 o_37 (by decide) t_37_1 ?_
    refine z_ialdG (M := M_X1_advance) 33 dX1_advance_33 o_36 (by omega) (by omega) (g_36 G (by omega)) (fun x8 ex8 ax8 bx8 => ?_)
    refine z_bipush (M := M_X1_advance) 34 dX1_advance_34 ?_
    refine z_icmp_ne (M := M_X1_advance) 36 dX1_advance_36 52 rfl (fun c9 => ?_) (fun c9 => ?_)
    · refine z_aload_n (M := M_X1_advance) 52 dX1_advance_52 rfl ?_
      refine z_aload_n (M := M_X1_advance) 53 dX1_advance_53 rfl ?_
      refine z_getIE (M := M_X1_advance) 54 dX1_advance_54 f_X1_43 o_37 (by decide) t_37_1 ?_
      refine z_putIH (M := M_X1_advance) 57 dX1_advance_57 p_X1_19 o_37 rfl (u_37_2 G (by omega) (by omega)) (R.up rfl) (fun h4 E4 G4 R4 => ?_)
      refine z_aload_n (M := M_X1_advance) 60 dX1_advance_60 rfl ?_
      refine z_getIE (M := M_X1_advance) 61 dX1_advance_61 f_X1_43 o_37 (by decide) ((upN E4 (fun q => absurd q.2 (by decide))).trans t_37_1) ?_
      refine z_aload_n (M := M_X1_advance) 64 dX1_advance_64 rfl ?_
      refine z_getR (M := M_X1_advance) 65 dX1_advance_65 f_X1_9 o_37 rfl (g_37_0 G4) ?_
      refine z_getIE (M := M_X1_advance) 68 dX1_advance_68 f_X1_46 o_35 (by decide) ((upN E4 (fun q => absurd q.1 (by decide))).trans ex1) ?_
      refine z_icmp_lt (M := M_X1_advance) 71 dX1_advance_71 75 rfl (fun c10 => ?_) (fun c10 => ?_)
      · refine z_aload_n (M := M_X1_advance) 75 dX1_advance_75 rfl ?_
        refine z_getR (M := M_X1_advance) 76 dX1_advance_76 f_X1_9 o_37 rfl (g_37_0 G4) ?_
        refine z_getR (M := M_X1_advance) 79 dX1_advance_79 f_X1_128 o_35 rfl (g_35_0 G4) ?_
        refine z_aload_n (M := M_X1_advance) 82 dX1_advance_82 rfl ?_
        refine z_getIE (M := M_X1_advance) 83 dX1_advance_83 f_X1_43 o_37 (by decide) ((upN E4 (fun q => absurd q.2 (by decide))).trans t_37_1) ?_
        refine z_ialdG (M := M_X1_advance) 86 dX1_advance_86 o_36 (by omega) (by omega) (g_36 G4 (by omega)) (fun x11 ex11 ax11 bx11 => ?_)
        refine z_sI (M := M_X1_advance) 87 dX1_advance_87 t_X1_familyOf l_X1_139 (m_rr_of rfl) (rest := []) (c_X1_familyOf2 h4 x11 G4) rfl rfl (Nat.le_of_ble_eq_true rfl) ⟨rfl, rfl⟩ (fun x12 h5 qx12 => ?_)
        obtain ⟨rfl, fx12⟩ := qx12
        have bx12 : 0 ≤ x12 ∧ x12 ≤ 2 := fx12 ▸ fam_r _
        refine z_istore_n (M := M_X1_advance) 90 dX1_advance_90 (ls' := [some (mR 37), some (mI x12)]) (by decide) rfl ?_
        refine z_aload_n (M := M_X1_advance) 91 dX1_advance_91 rfl ?_
        refine z_dup (M := M_X1_advance) 92 dX1_advance_92 rfl ?_
        refine z_getIE (M := M_X1_advance) 93 dX1_advance_93 f_X1_19 o_37 (by decide) (upE E4) ?_
        refine z_iconst (M := M_X1_advance) 96 dX1_advance_96 ?_
        refine z_iaddN (M := M_X1_advance) 97 dX1_advance_97 (by omega) (by omega) ?_
        refine z_putIH (M := M_X1_advance) 98 dX1_advance_98 p_X1_19 o_37 rfl (u_37_2 G4 (by omega) (by omega)) (R4.up rfl) (fun h6 E6 G6 R6 => ?_)
        have w13 : h0 35 1 = x1 := (R6 35 1 rfl).symm.trans ((upN E6 (fun q => absurd q.1 (by decide))).trans ((upN E4 (fun q => absurd q.1 (by decide))).trans ex1))
        exact z_mask [true, true] rfl (ih.2 x12 y_37_1 (y_37_1 + 1) h6 G6 R6 (by omega) (by omega) (by omega) (by omega) (by omega) (by omega) ((upN E6 (fun q => absurd q.2 (by decide))).trans ((upN E4 (fun q => absurd q.2 (by decide))).trans t_37_1)) (upE E6) (by first | exact Sk_of i0 (fun _ => ne_of ((R 36 _ rfl).symm.trans ex8) (by omega)) | (exfalso; omega)) (by first | exact Ep_1 (by omega) (by omega) ((R4 36 _ rfl).symm.trans ex11) fx12 | (exfalso; omega)) (by omega))
      · have w14 : h0 35 1 = x1 := (R4 35 1 rfl).symm.trans ((upN E4 (fun q => absurd q.1 (by decide))).trans ex1)
        exact z_retV (M := M_X1_advance) 74 dX1_advance_74 rfl ⟨G4, R4, Tok_of ((upN E4 (fun q => absurd q.2 (by decide))).trans t_37_1) (upE E4) (Sk_of i0 (fun q => ne_of ((R 36 _ rfl).symm.trans ex8) (by omega))) (En_0 (by omega))⟩
    · refine z_aload_n (M := M_X1_advance) 39 dX1_advance_39 rfl ?_
      refine z_dup (M := M_X1_advance) 40 dX1_advance_40 rfl ?_
      refine z_getIE (M := M_X1_advance) 41 dX1_advance_41 f_X1_43 o_37 (by decide) t_37_1 ?_
      refine z_iconst (M := M_X1_advance) 44 dX1_advance_44 ?_
      refine z_iaddN (M := M_X1_advance) 45 dX1_advance_45 (by omega) (by omega) ?_
      refine z_putIH (M := M_X1_advance) 46 dX1_advance_46 p_X1_43 o_37 rfl (u_37_1 G (by omega) (by omega)) (R.up rfl) (fun h7 E7 G7 R7 => ?_)
      refine z_goto (M := M_X1_advance) 49 dX1_advance_49 8 rfl ?_
      have w15 : h0 35 1 = x1 := (R7 35 1 rfl).symm.trans ((upN E7 (fun q => absurd q.1 (by decide))).trans ex1)
      exact z_mask [true, false] rfl (ih.1 (y_37_1 + 1) y_37_2 h7 G7 R7 (by omega) (by omega) (by omega) (by omega) (upE E7) ((upN E7 (fun q => absurd q.2 (by decide))).trans t_37_2) (Sp_s i0 (by omega) (by omega) (((R 36 _ rfl).symm.trans ex8).trans (by omega))) (by omega))
set_option maxHeartbeats 4000000 in
set_option maxRecDepth 100000 in
theorem s_X1_advance2_101 (h0 : m_H) (G0 : GI h0) (n : Nat) (ih : q_X1_advance2 h0 n) : ∀ (l1 y_37_1 y_37_2 : Int) (h : m_H), GI h → FR [] [(37, 1), (37, 2)] h0 h → 0 ≤ l1 → l1 ≤ 2 → 0 ≤ y_37_1 → y_37_1 ≤ 400 → 1 ≤ y_37_2 → y_37_2 ≤ 400 → (h 37 1 = y_37_1) → (h 37 2 = y_37_2) → (Sk (h0 36) (h0 35 1) (h0 37 2) y_37_1) → (Ep (h0 36) (h0 35 1) y_37_1 y_37_2 l1) → 2 * (400 - y_37_2) + (1) ≤ ((n + 1 : Nat) : Int) → m_Z oF M_X1_advance 101 [some (mR 37), some (mI l1)] [] h (m_QV (P_X1_advance2 h0)) := by
  intro l1 y_37_1 y_37_2 h G R v0 v1 v2 v3 v4 v5 t_37_1 t_37_2 i0 i1 hr
  refine z_iload_n (M := M_X1_advance) 101 dX1_advance_101 rfl ?_
  refine z_if_eq (M := M_X1_advance) 102 dX1_advance_102 151 rfl (fun c1 => ?_) (fun c1 => ?_)
  · obtain ⟨x2, ex2⟩ : ∃ y : Int, h 35 1 = y := ⟨_, rfl⟩
    have bx2 : 0 ≤ x2 ∧ x2 ≤ 400 := ex2 ▸ g_35_1 G
    have w3 : h0 35 1 = x2 := (R 35 1 rfl).symm.trans ex2
    exact z_retV (M := M_X1_advance) 151 dX1_advance_151 rfl ⟨G, R, Tok_of t_37_1 t_37_2 i0 (En_1 i1 (by omega))⟩
  · refine z_aload_n (M := M_X1_advance) 105 dX1_advance_105 rfl ?_
    refine z_getIE (M := M_X1_advance) 106 dX1_advance_106 f_X1_19 o_37 (by decide) t_37_2 ?_
    refine z_aload_n (M := M_X1_advance) 109 dX1_advance_109 rfl ?_
    refine z_getR (M := M_X1_advance) 110 dX1_advance_110 f_X1_9 o_37 rfl (g_37_0 G) ?_
    refine z_getIG (M := M_X1_advance) 113 dX1_advance_113 f_X1_46 o_35 (by decide) (g_35_1 G) (fun x4 ex4 ax4 bx4 => ?_)
    refine z_icmp_ge (M := M_X1_advance) 116 dX1_advance_116 151 rfl (fun c5 => ?_) (fun c5 => ?_)
    · have w6 : h0 35 1 = x4 := (R 35 1 rfl).symm.trans ex4
      exact z_retV (M := M_X1_advance) 151 dX1_advance_151 rfl ⟨G, R, Tok_of t_37_1 t_37_2 i0 (En_2 i1 (by omega) (fun q => absurd q (by omega)))⟩
    · refine z_aload_n (M := M_X1_advance) 119 dX1_advance_119 rfl ?_
      refine z_getR (M := M_X1_advance) 120 dX1_advance_120 f_X1_9 o_37 rfl (g_37_0 G) ?_
      refine z_getR (M := M_X1_advance) 123 dX1_advance_123 f_X1_128 o_35 rfl (g_35_0 G) ?_
      refine z_aload_n (M := M_X1_advance) 126 dX1_advance_126 rfl ?_
      refine z_getIE (M := M_X1_advance) 127 dX1_advance_127 f_X1_19 o_37 (by decide) t_37_2 ?_
      refine z_ialdG (M := M_X1_advance) 130 dX1_advance_130 o_36 (by omega) (by omega) (g_36 G (by omega)) (fun x7 ex7 ax7 bx7 => ?_)
      refine z_sI (M := M_X1_advance) 131 dX1_advance_131 t_X1_familyOf l_X1_139 (m_rr_of rfl) (rest := []) (c_X1_familyOf2 h x7 G) rfl rfl (Nat.le_of_ble_eq_true rfl) ⟨rfl, rfl⟩ (fun x8 h1 qx8 => ?_)
      obtain ⟨rfl, fx8⟩ := qx8
      have bx8 : 0 ≤ x8 ∧ x8 ≤ 2 := fx8 ▸ fam_r _
      refine z_iload_n (M := M_X1_advance) 134 dX1_advance_134 rfl ?_
      refine z_icmp_ne (M := M_X1_advance) 135 dX1_advance_135 151 rfl (fun c9 => ?_) (fun c9 => ?_)
      · have w10 : h0 35 1 = x4 := (R 35 1 rfl).symm.trans ex4
        exact z_retV (M := M_X1_advance) 151 dX1_advance_151 rfl ⟨G, R, Tok_of t_37_1 t_37_2 i0 (En_2 i1 (by omega) (fun _ => ne_of ((congrArg fam ((R 36 _ rfl).symm.trans ex7)).trans fx8) (by omega)))⟩
      · refine z_aload_n (M := M_X1_advance) 138 dX1_advance_138 rfl ?_
        refine z_dup (M := M_X1_advance) 139 dX1_advance_139 rfl ?_
        refine z_getIE (M := M_X1_advance) 140 dX1_advance_140 f_X1_19 o_37 (by decide) t_37_2 ?_
        refine z_iconst (M := M_X1_advance) 143 dX1_advance_143 ?_
        refine z_iaddN (M := M_X1_advance) 144 dX1_advance_144 (by omega) (by omega) ?_
        refine z_putIH (M := M_X1_advance) 145 dX1_advance_145 p_X1_19 o_37 rfl (u_37_2 G (by omega) (by omega)) (R.up rfl) (fun h2 E2 G2 R2 => ?_)
        refine z_goto (M := M_X1_advance) 148 dX1_advance_148 101 rfl ?_
        have w11 : h0 35 1 = x4 := (R2 35 1 rfl).symm.trans ((upN E2 (fun q => absurd q.1 (by decide))).trans ex4)
        exact z_mask [true, true] rfl (ih.2 l1 y_37_1 (y_37_2 + 1) h2 G2 R2 (by omega) (by omega) (by omega) (by omega) (by omega) (by omega) ((upN E2 (fun q => absurd q.2 (by decide))).trans t_37_1) (upE E2) i0 (Ep_s i1 (by omega) (by omega) (by omega) ((R 36 _ rfl).symm.trans ex7) (fx8.trans (by omega))) (by omega))
theorem a_X1_advance2 (h0 : m_H) (G0 : GI h0) : ∀ n, q_X1_advance2 h0 n := by
  intro n
  induction n with
  | zero => unfold q_X1_advance2; refine ⟨?_, ?_⟩ <;> (intros; omega)
  | succ n ih => exact ⟨s_X1_advance2_8 h0 G0 n ih, s_X1_advance2_101 h0 G0 n ih⟩
set_option maxHeartbeats 4000000 in
set_option maxRecDepth 100000 in
theorem c_X1_advance2 (h0 : m_H) (G0 : GI h0) : m_CV M_X1_advance [mR 37] h0 (P_X1_advance2 h0) := by
  refine m_CV_of ⟨by decide, rfl, by simp [m_arg, m_isL, M_X1_advance], ⟨rfl, rfl⟩, rfl, rfl⟩ (ls := [some (mR 37), none]) rfl ?_
  have ih := a_X1_advance2 h0 G0 1611
  obtain ⟨x1, ex1⟩ : ∃ y : Int, h0 37 2 = y := ⟨_, rfl⟩
  have bx1 : 0 ≤ x1 ∧ x1 ≤ 400 := ex1 ▸ g_37_2 G0
  refine z_aload_n (M := M_X1_advance) 0 dX1_advance_0 rfl ?_
  refine z_aload_n (M := M_X1_advance) 1 dX1_advance_1 rfl ?_
  refine z_getIE (M := M_X1_advance) 2 dX1_advance_2 f_X1_19 o_37 (by decide) ex1 ?_
  refine z_putIH (M := M_X1_advance) 5 dX1_advance_5 p_X1_43 o_37 rfl (u_37_1 G0 (by omega) (by omega)) ((FR.rf (cs := []) (ss := [(37, 1), (37, 2)]) (h := h0)).up rfl) (fun h1 E1 G1 R1 => ?_)
  obtain ⟨x2, ex2⟩ : ∃ y : Int, h1 35 1 = y := ⟨_, rfl⟩
  have bx2 : 0 ≤ x2 ∧ x2 ≤ 400 := ex2 ▸ g_35_1 G1
  have w3 : h0 35 1 = x2 := (R1 35 1 rfl).symm.trans ex2
  exact z_mask [true, false] rfl (ih.1 x1 x1 h1 G1 R1 (by omega) (by omega) (by omega) (by omega) (upE E1) ((upN E1 (fun q => absurd q.2 (by decide))).trans ex1) (Sp_0 ex1) (by omega))
abbrev P_X1_value2 (h0 : m_H) : Int → m_H → Prop := fun x h' => GI h' ∧ FR [] [] h0 h' ∧ vlQ (h0 36) (h0 35 1) (Qc h0) x
def q_X1_value2 (h0 : m_H) (n : Nat) : Prop := (∀ (l1 l2 : Int) (h : m_H), GI h → FR [] [] h0 h → 0 ≤ l1 → l1 ≤ 1000 → 0 ≤ l2 → l2 ≤ 400 → (l1 = dC (h0 36) (h0 37 1) (l2 - h0 37 1).toNat) → (h0 37 1 < h0 35 1 ∧ fam (h0 36 (h0 37 1).toNat) = 2) → (h0 37 1 ≤ l2 ∧ l2 ≤ h0 37 2) → 2 * (400 - l2) + (1) ≤ (n : Int) → m_Z oF M_X1_value 42 [some (mR 37), some (mI l1), some (mI l2)] [] h (m_QI (P_X1_value2 h0)))
set_option maxHeartbeats 4000000 in
set_option maxRecDepth 100000 in
theorem s_X1_value2_42 (h0 : m_H) (G0 : GI h0) (hE : EnS h0) (n : Nat) (ih : q_X1_value2 h0 n) : ∀ (l1 l2 : Int) (h : m_H), GI h → FR [] [] h0 h → 0 ≤ l1 → l1 ≤ 1000 → 0 ≤ l2 → l2 ≤ 400 → (l1 = dC (h0 36) (h0 37 1) (l2 - h0 37 1).toNat) → (h0 37 1 < h0 35 1 ∧ fam (h0 36 (h0 37 1).toNat) = 2) → (h0 37 1 ≤ l2 ∧ l2 ≤ h0 37 2) → 2 * (400 - l2) + (1) ≤ ((n + 1 : Nat) : Int) → m_Z oF M_X1_value 42 [some (mR 37), some (mI l1), some (mI l2)] [] h (m_QI (P_X1_value2 h0)) := by
  intro l1 l2 h G R v0 v1 v2 v3 i0 i1 i2 hr
  refine z_iload_n (M := M_X1_value) 42 dX1_value_42 rfl ?_
  refine z_aload_n (M := M_X1_value) 43 dX1_value_43 rfl ?_
  refine z_getIG (M := M_X1_value) 44 dX1_value_44 f_X1_19 o_37 (by decide) (g_37_2 G) (fun x1 ex1 ax1 bx1 => ?_)
  refine z_icmp_ge (M := M_X1_value) 47 dX1_value_47 80 rfl (fun c2 => ?_) (fun c2 => ?_)
  · refine z_iload_n (M := M_X1_value) 80 dX1_value_80 rfl ?_
    exact z_retI (M := M_X1_value) 81 dX1_value_81 rfl ⟨G, R, vl_end i0 i1 (by have w_ : h0 37 2 = x1 := (R 37 2 rfl).symm.trans ex1; omega)⟩
  · have w_ : h0 37 2 = x1 := (R 37 2 rfl).symm.trans ex1
    refine z_sipush (M := M_X1_value) 50 dX1_value_50 ?_
    refine z_bipush (M := M_X1_value) 53 dX1_value_53 ?_
    refine z_iload_n (M := M_X1_value) 55 dX1_value_55 rfl ?_
    refine z_imulN (M := M_X1_value) 56 dX1_value_56 (by omega) (by omega) ?_
    refine z_aload_n (M := M_X1_value) 57 dX1_value_57 rfl ?_
    refine z_getR (M := M_X1_value) 58 dX1_value_58 f_X1_9 o_37 rfl (g_37_0 G) ?_
    refine z_getR (M := M_X1_value) 61 dX1_value_61 f_X1_128 o_35 rfl (g_35_0 G) ?_
    refine z_iload_n (M := M_X1_value) 64 dX1_value_64 rfl ?_
    refine z_ialdG (M := M_X1_value) 65 dX1_value_65 o_36 (by omega) (by omega) (dig_h hE (fun _ => R 36 _ rfl) i1 (by omega) i2.1 (by omega)) (fun x3 ex3 ax3 bx3 => ?_)
    refine z_iaddN (M := M_X1_value) 66 dX1_value_66 (by omega) (by omega) ?_
    refine z_bipush (M := M_X1_value) 67 dX1_value_67 ?_
    refine z_isubN (M := M_X1_value) 69 dX1_value_69 (by omega) (by omega) ?_
    refine z_minI (M := M_X1_value) 70 dX1_value_70 ml_X1_143 (rest := []) (Nat.le_of_ble_eq_true rfl) (Nat.le_of_ble_eq_true rfl) ?_
    refine z_topBI (lo := 0) (hi := 1000) ⟨by split <;> omega, by split <;> omega⟩ (fun x4 ex4 ax4 bx4 => ?_)
    refine z_istore_n (M := M_X1_value) 73 dX1_value_73 (ls' := [some (mR 37), some (mI x4), some (mI l2)]) (by decide) rfl ?_
    refine z_iincN (M := M_X1_value) 74 dX1_value_74 (ls' := [some (mR 37), some (mI x4), some (mI (l2 + 1))]) (by decide) rfl (by (unfold m_32; decide)) (by omega) (by omega) rfl ?_
    refine z_goto (M := M_X1_value) 77 dX1_value_77 42 rfl ?_
    exact z_mask [true, true, true] rfl (ih x4 (l2 + 1) h G R (by omega) (by omega) (by omega) (by omega) (dC_st i0 (by have := g_37_1 G0; omega) i2.1 ((R 36 _ rfl).symm.trans ex3) ex4) i1 ⟨by omega, by omega⟩ (by omega))
theorem a_X1_value2 (h0 : m_H) (G0 : GI h0) (hE : EnS h0) : ∀ n, q_X1_value2 h0 n := by
  intro n
  induction n with
  | zero => unfold q_X1_value2; intros; omega
  | succ n ih => exact s_X1_value2_42 h0 G0 hE n ih
set_option maxHeartbeats 4000000 in
set_option maxRecDepth 100000 in
theorem c_X1_value2 (h0 : m_H) (G0 : GI h0) (hE : EnS h0) : m_CI M_X1_value [mR 37] h0 (P_X1_value2 h0) := by
  refine m_CI_of ⟨by decide, rfl, by simp [m_arg, m_isL, M_X1_value], ⟨rfl, rfl⟩, rfl, rfl⟩ (ls := [some (mR 37), none, none]) rfl ?_
  have ih := a_X1_value2 h0 G0 hE 808
  refine z_aload_n (M := M_X1_value) 0 dX1_value_0 rfl ?_
  refine z_getIG (M := M_X1_value) 1 dX1_value_1 f_X1_43 o_37 (by decide) (g_37_1 G0) (fun x1 ex1 ax1 bx1 => ?_)
  refine z_aload_n (M := M_X1_value) 4 dX1_value_4 rfl ?_
  refine z_getR (M := M_X1_value) 5 dX1_value_5 f_X1_9 o_37 rfl (g_37_0 G0) ?_
  refine z_getIG (M := M_X1_value) 8 dX1_value_8 f_X1_46 o_35 (by decide) (g_35_1 G0) (fun x2 ex2 ax2 bx2 => ?_)
  refine z_icmp_ge (M := M_X1_value) 11 dX1_value_11 33 rfl (fun c3 => ?_) (fun c3 => ?_)
  · refine z_iconst (M := M_X1_value) 33 dX1_value_33 ?_
    exact z_retI (M := M_X1_value) 34 dX1_value_34 rfl ⟨G0, (FR.rf (cs := []) (ss := []) (h := h0)), Or.inl ⟨fun q => by have z := q.1; rw [show (Qc h0).1 = h0 37 1 from rfl, ex1, ex2] at z; omega, rfl⟩⟩
  · refine z_aload_n (M := M_X1_value) 14 dX1_value_14 rfl ?_
    refine z_getR (M := M_X1_value) 15 dX1_value_15 f_X1_9 o_37 rfl (g_37_0 G0) ?_
    refine z_getR (M := M_X1_value) 18 dX1_value_18 f_X1_128 o_35 rfl (g_35_0 G0) ?_
    refine z_aload_n (M := M_X1_value) 21 dX1_value_21 rfl ?_
    refine z_getIE (M := M_X1_value) 22 dX1_value_22 f_X1_43 o_37 (by decide) ex1 ?_
    refine z_ialdG (M := M_X1_value) 25 dX1_value_25 o_36 (by omega) (by omega) (g_36 G0 (by omega)) (fun x4 ex4 ax4 bx4 => ?_)
    refine z_sI (M := M_X1_value) 26 dX1_value_26 t_X1_familyOf l_X1_139 (m_rr_of rfl) (rest := []) (c_X1_familyOf2 h0 x4 G0) rfl rfl (Nat.le_of_ble_eq_true rfl) ⟨rfl, rfl⟩ (fun x5 h1 qx5 => ?_)
    obtain ⟨rfl, fx5⟩ := qx5
    have bx5 : 0 ≤ x5 ∧ x5 ≤ 2 := fx5 ▸ fam_r _
    refine z_iconst (M := M_X1_value) 29 dX1_value_29 ?_
    refine z_icmp_eq (M := M_X1_value) 30 dX1_value_30 35 rfl (fun c6 => ?_) (fun c6 => ?_)
    · refine z_iconst (M := M_X1_value) 35 dX1_value_35 ?_
      refine z_istore_n (M := M_X1_value) 36 dX1_value_36 (ls' := [some (mR 37), some (mI 0), none]) (by decide) rfl ?_
      refine z_aload_n (M := M_X1_value) 37 dX1_value_37 rfl ?_
      refine z_getIE (M := M_X1_value) 38 dX1_value_38 f_X1_43 o_37 (by decide) ex1 ?_
      refine z_istore_n (M := M_X1_value) 41 dX1_value_41 (ls' := [some (mR 37), some (mI 0), some (mI x1)]) (by decide) rfl ?_
      have w1_ : h0 37 1 = x1 := ex1
      exact z_mask [true, true, true] rfl (ih 0 x1 h0 G0 (FR.rf (cs := []) (ss := []) (h := h0)) (by omega) (by omega) (by omega) (by omega) (by rw [ex1, Int.sub_self]; rfl) ⟨by rw [ex1, ex2]; omega, by rw [ex1, ex4]; exact fx5.trans (by omega)⟩ ⟨by omega, by have := hE.le; omega⟩ (by omega))
    · refine z_iconst (M := M_X1_value) 33 dX1_value_33 ?_
      exact z_retI (M := M_X1_value) 34 dX1_value_34 rfl ⟨G0, (FR.rf (cs := []) (ss := []) (h := h0)), Or.inl ⟨fun q => by have z := q.2; rw [show (Qc h0).1 = h0 37 1 from rfl, ex1, ex4, fx5] at z; omega, rfl⟩⟩
abbrev P_X1_stands2 (h0 : m_H) (w : Nat) : Int → m_H → Prop := fun x h' => GI h' ∧ FR [] [] h0 h' ∧ 0 ≤ x ∧ x ≤ 1 ∧ sdQ w x h0
def q_X1_stands2 (h0 : m_H) (w : Nat) (n : Nat) : Prop := (∀ (l2 y_37_1 y_37_2 : Int) (h : m_H), GI h → FR [] [] h0 h → 0 ≤ l2 → l2 ≤ 6 → 0 ≤ y_37_1 → y_37_1 ≤ 400 → 0 ≤ y_37_2 → y_37_2 ≤ 400 → (h 37 1 = y_37_1) → (h 37 2 = y_37_2) → (y_37_2 - y_37_1 = slen w) → (∀ i : Nat, (i : Int) < l2 → h0 36 (h0 37 1 + i).toNat = sch w i) → 2 * (6 - l2) + (1) ≤ (n : Int) → m_Z oF M_X1_stands 20 [some (mR 37), some (mO w), some (mI l2)] [] h (m_QI (P_X1_stands2 h0 w)))
set_option maxHeartbeats 4000000 in
set_option maxRecDepth 100000 in
theorem s_X1_stands2_20 (h0 : m_H) (w : Nat) (hw : w < 16) (G0 : GI h0) (n : Nat) (ih : q_X1_stands2 h0 w n) : ∀ (l2 y_37_1 y_37_2 : Int) (h : m_H), GI h → FR [] [] h0 h → 0 ≤ l2 → l2 ≤ 6 → 0 ≤ y_37_1 → y_37_1 ≤ 400 → 0 ≤ y_37_2 → y_37_2 ≤ 400 → (h 37 1 = y_37_1) → (h 37 2 = y_37_2) → (y_37_2 - y_37_1 = slen w) → (∀ i : Nat, (i : Int) < l2 → h0 36 (h0 37 1 + i).toNat = sch w i) → 2 * (6 - l2) + (1) ≤ ((n + 1 : Nat) : Int) → m_Z oF M_X1_stands 20 [some (mR 37), some (mO w), some (mI l2)] [] h (m_QI (P_X1_stands2 h0 w)) := by
  intro l2 y_37_1 y_37_2 h G R v0 v1 v2 v3 v4 v5 t_37_1 t_37_2 i0 i1 hr
  refine z_iload_n (M := M_X1_stands) 20 dX1_stands_20 rfl ?_
  refine z_aload_nO (M := M_X1_stands) 21 dX1_stands_21 rfl ?_
  refine z_vIO (M := M_X1_stands) 22 dX1_stands_22 t_J0_length_8abf5 l_X1_124 (m_rr_of rfl) (rest := [mI l2]) (c_J0_length_8abf5 h w hw) hw rfl rfl rfl (Nat.le_of_ble_eq_true rfl) ⟨rfl, rfl⟩ (fun x1 h1 qx1 => ?_)
  obtain ⟨rfl, ex1⟩ := qx1
  have bx1 := slen_b w
  refine z_icmp_ge (M := M_X1_stands) 25 dX1_stands_25 58 rfl (fun c2 => ?_) (fun c2 => ?_)
  · refine z_iconst (M := M_X1_stands) 58 dX1_stands_58 ?_
    have u1 : h0 37 1 = y_37_1 := (R 37 1 rfl).symm.trans t_37_1
    have u2 : h0 37 2 = y_37_2 := (R 37 2 rfl).symm.trans t_37_2
    exact z_retZ (M := M_X1_stands) 59 dX1_stands_59 rfl (by omega) ⟨G, R, by omega, by omega, sd_1 (by omega) i1 (by omega)⟩
  · refine z_aload_n (M := M_X1_stands) 28 dX1_stands_28 rfl ?_
    refine z_getR (M := M_X1_stands) 29 dX1_stands_29 f_X1_9 o_37 rfl (g_37_0 G) ?_
    refine z_getR (M := M_X1_stands) 32 dX1_stands_32 f_X1_128 o_35 rfl (g_35_0 G) ?_
    refine z_aload_n (M := M_X1_stands) 35 dX1_stands_35 rfl ?_
    refine z_getIE (M := M_X1_stands) 36 dX1_stands_36 f_X1_43 o_37 (by decide) t_37_1 ?_
    refine z_iload_n (M := M_X1_stands) 39 dX1_stands_39 rfl ?_
    refine z_iaddN (M := M_X1_stands) 40 dX1_stands_40 (by omega) (by omega) ?_
    refine z_ialdG (M := M_X1_stands) 41 dX1_stands_41 o_36 (by omega) (by omega) (g_36 G (by omega)) (fun x3 ex3 ax3 bx3 => ?_)
    refine z_aload_nO (M := M_X1_stands) 42 dX1_stands_42 rfl ?_
    refine z_iload_n (M := M_X1_stands) 43 dX1_stands_43 rfl ?_
    refine z_vIO (M := M_X1_stands) 44 dX1_stands_44 t_J0_charAt_5068e l_X1_131 (m_rr_of rfl) (rest := [mI x3]) (c_J0_charAt_5068e h w l2 hw (by omega) (by omega)) hw rfl rfl rfl (Nat.le_of_ble_eq_true rfl) ⟨rfl, rfl⟩ (fun x4 h2 qx4 => ?_)
    obtain ⟨rfl, ex4⟩ := qx4
    have bx4 := (sch_ok (i := w) (a := l2) hw (by omega) (by omega)).1
    refine z_icmp_eq (M := M_X1_stands) 47 dX1_stands_47 52 rfl (fun c5 => ?_) (fun c5 => ?_)
    · refine z_iincN (M := M_X1_stands) 52 dX1_stands_52 (ls' := [some (mR 37), some (mO w), some (mI (l2 + 1))]) (by decide) rfl (by (unfold m_32; decide)) (by omega) (by omega) rfl ?_
      refine z_goto (M := M_X1_stands) 55 dX1_stands_55 20 rfl ?_
      exact z_mask [true, true, true] rfl (ih (l2 + 1) y_37_1 y_37_2 h G R (by omega) (by omega) (by omega) (by omega) (by omega) (by omega) t_37_1 t_37_2 (by omega) (sd_st i1 (by omega) (by rw [(R 37 1 rfl).symm.trans t_37_1, ← R 36 _ rfl, ex3]; omega)) (by omega))
    · refine z_iconst (M := M_X1_stands) 50 dX1_stands_50 ?_
      have u1 : h0 37 1 = y_37_1 := (R 37 1 rfl).symm.trans t_37_1
      have u2 : h0 37 2 = y_37_2 := (R 37 2 rfl).symm.trans t_37_2
      exact z_retZ (M := M_X1_stands) 51 dX1_stands_51 rfl (by omega) ⟨G, R, by omega, by omega, sd_2 (l := l2) (by omega) (by omega) (by rw [u1, ← R 36 _ rfl, ex3]; omega)⟩
theorem a_X1_stands2 (h0 : m_H) (w : Nat) (hw : w < 16) (G0 : GI h0) : ∀ n, q_X1_stands2 h0 w n := by
  intro n
  induction n with
  | zero => unfold q_X1_stands2; intros; omega
  | succ n ih => exact s_X1_stands2_20 h0 w hw G0 n ih
set_option maxHeartbeats 4000000 in
set_option maxRecDepth 100000 in
theorem c_X1_stands2 (h0 : m_H) (w : Nat) (hw : w < 16) (G0 : GI h0) : m_CI M_X1_stands [mR 37, mO w] h0 (P_X1_stands2 h0 w) := by
  refine m_CI_of ⟨by decide, rfl, by simp [m_arg, m_isL, M_X1_stands], ⟨rfl, rfl⟩, rfl, rfl⟩ (ls := [some (mR 37), some (mO w), none]) rfl ?_
  have ih := a_X1_stands2 h0 w hw G0 20
  obtain ⟨x1, ex1⟩ : ∃ y : Int, h0 37 1 = y := ⟨_, rfl⟩
  have bx1 : 0 ≤ x1 ∧ x1 ≤ 400 := ex1 ▸ g_37_1 G0
  obtain ⟨x2, ex2⟩ : ∃ y : Int, h0 37 2 = y := ⟨_, rfl⟩
  have bx2 : 0 ≤ x2 ∧ x2 ≤ 400 := ex2 ▸ g_37_2 G0
  refine z_aload_n (M := M_X1_stands) 0 dX1_stands_0 rfl ?_
  refine z_getIE (M := M_X1_stands) 1 dX1_stands_1 f_X1_19 o_37 (by decide) ex2 ?_
  refine z_aload_n (M := M_X1_stands) 4 dX1_stands_4 rfl ?_
  refine z_getIE (M := M_X1_stands) 5 dX1_stands_5 f_X1_43 o_37 (by decide) ex1 ?_
  refine z_isubN (M := M_X1_stands) 8 dX1_stands_8 (by omega) (by omega) ?_
  refine z_aload_nO (M := M_X1_stands) 9 dX1_stands_9 rfl ?_
  refine z_vIO (M := M_X1_stands) 10 dX1_stands_10 t_J0_length_8abf5 l_X1_124 (m_rr_of rfl) (rest := [mI (x2 - x1)]) (c_J0_length_8abf5 h0 w hw) hw rfl rfl rfl (Nat.le_of_ble_eq_true rfl) ⟨rfl, rfl⟩ (fun x3 h1 qx3 => ?_)
  obtain ⟨rfl, ex3⟩ := qx3
  have bx3 := slen_b w
  refine z_icmp_eq (M := M_X1_stands) 13 dX1_stands_13 18 rfl (fun c4 => ?_) (fun c4 => ?_)
  · refine z_iconst (M := M_X1_stands) 18 dX1_stands_18 ?_
    refine z_istore_n (M := M_X1_stands) 19 dX1_stands_19 (ls' := [some (mR 37), some (mO w), some (mI 0)]) (by decide) rfl ?_
    exact z_mask [true, true, true] rfl (ih 0 x1 x2 h0 G0 (FR.rf (cs := []) (ss := []) (h := h0)) (by omega) (by omega) (by omega) (by omega) (by omega) (by omega) ex1 ex2 (by omega) (fun i hi => by omega) (by omega))
  · refine z_iconst (M := M_X1_stands) 16 dX1_stands_16 ?_
    exact z_retZ (M := M_X1_stands) 17 dX1_stands_17 rfl (by omega) ⟨G0, (FR.rf (cs := []) (ss := []) (h := h0)), by omega, by omega, sd_0 (by rw [ex2, ex1]; omega)⟩
abbrev P_X1_takeNumber2 (h0 : m_H) (a1 a2 : Int) : Int → m_H → Prop := fun x h' => GI h' ∧ FR [] [(37, 1), (37, 2)] h0 h' ∧ -1 ≤ x ∧ x ≤ a2 ∧ (x = -1 ∨ a1 ≤ x) ∧ EnS h' ∧ tnQ a1 a2 x h0 h'
set_option maxHeartbeats 4000000 in
set_option maxRecDepth 100000 in
theorem c_X1_takeNumber2 (h0 : m_H) (a1 a2 : Int) (G0 : GI h0) (hE : EnS h0) (pa1 : 0 ≤ a1 ∧ a1 ≤ 31) (pa2 : 0 ≤ a2 ∧ a2 ≤ 99) : m_CI M_X1_takeNumber [mR 37, mI a1, mI a2] h0 (P_X1_takeNumber2 h0 a1 a2) := by
  refine m_CI_of ⟨by decide, rfl, by simp [m_arg, m_isL, M_X1_takeNumber], ⟨rfl, rfl⟩, rfl, rfl⟩ (ls := [some (mR 37), some (mI a1), some (mI a2), none]) rfl ?_
  refine z_aload_n (M := M_X1_takeNumber) 0 dX1_takeNumber_0 rfl ?_
  refine z_vI (M := M_X1_takeNumber) 1 dX1_takeNumber_1 t_X1_value l_X1_72 (m_rr_of rfl) (rest := []) (c_X1_value2 h0 G0 hE) o_37 rfl rfl rfl (Nat.le_of_ble_eq_true rfl) ⟨rfl, rfl⟩ (fun x1 h1 qx1 => ?_)
  obtain ⟨G1, S1, V1⟩ := qx1
  have R1 := (FR.rf (cs := []) (ss := [(37, 1), (37, 2)]) (h := h0)).call S1 (by decide +kernel)
  refine z_istore_n (M := M_X1_takeNumber) 4 dX1_takeNumber_4 (ls' := [some (mR 37), some (mI a1), some (mI a2), some (mI x1)]) (by decide) rfl ?_
  refine z_iload_n (M := M_X1_takeNumber) 5 dX1_takeNumber_5 rfl ?_
  refine z_iload_n (M := M_X1_takeNumber) 6 dX1_takeNumber_6 rfl ?_
  refine z_iload_n (M := M_X1_takeNumber) 7 dX1_takeNumber_7 rfl ?_
  refine z_nI (M := M_X1_takeNumber) 8 dX1_takeNumber_8 t_X11_within l_X1_135 (m_rr_of rfl) (rest := []) (c_X11_within h1 x1 a1 a2 G1) rfl rfl (Nat.le_of_ble_eq_true rfl) ⟨rfl, rfl⟩ (fun x2 h2 qx2 => ?_)
  obtain ⟨rfl, ⟨rfl, cx2⟩ | ⟨rfl, cx2⟩⟩ := qx2
  · refine z_if_ne_T (M := M_X1_takeNumber) 11 dX1_takeNumber_11 16 rfl (by omega) ?_
    refine z_aload_n (M := M_X1_takeNumber) 16 dX1_takeNumber_16 rfl ?_
    refine z_vV (M := M_X1_takeNumber) 17 dX1_takeNumber_17 t_X1_advance l_X1_22 (m_rr_of rfl) (rest := []) (c_X1_advance2 h1 G1) o_37 rfl rfl rfl (Nat.le_of_ble_eq_true rfl) ⟨rfl, rfl⟩ (fun h3 qx3 => ?_)
    obtain ⟨G3, S3, T3⟩ := qx3
    have tn := tn_ok (lo := a1) (hi := a2) (g_37_2 G0).1 V1 S1 S3 T3 (by omega) cx2
    have R3 := R1.call S3 (by decide +kernel)
    refine z_iload_n (M := M_X1_takeNumber) 20 dX1_takeNumber_20 rfl ?_
    exact z_retI (M := M_X1_takeNumber) 21 dX1_takeNumber_21 rfl ⟨G3, R3, by omega, by omega, by omega, tn.1, tn.2⟩
  · refine z_if_ne_F (M := M_X1_takeNumber) 11 dX1_takeNumber_11 16 rfl (by omega) ?_
    refine z_iconst (M := M_X1_takeNumber) 14 dX1_takeNumber_14 ?_
    exact z_retI (M := M_X1_takeNumber) 15 dX1_takeNumber_15 rfl ⟨G1, R1, by omega, by omega, by omega, (tn_no hE V1 S1 (by omega) cx2).1, (tn_no hE V1 S1 (by omega) cx2).2⟩
abbrev P_X1_take2 (h0 : m_H) (w : Nat) : Int → m_H → Prop := fun x h' => GI h' ∧ FR [] [(37, 1), (37, 2)] h0 h' ∧ EnS h' ∧ tkQ w x h0 h'
set_option maxHeartbeats 4000000 in
set_option maxRecDepth 100000 in
theorem c_X1_take2 (h0 : m_H) (w : Nat) (hw : w < 16) (G0 : GI h0) (hE : EnS h0) : m_CI M_X1_take [mR 37, mO w] h0 (P_X1_take2 h0 w) := by
  refine m_CI_of ⟨by decide, rfl, by simp [m_arg, m_isL, M_X1_take], ⟨rfl, rfl⟩, rfl, rfl⟩ (ls := [some (mR 37), some (mO w)]) rfl ?_
  refine z_aload_n (M := M_X1_take) 0 dX1_take_0 rfl ?_
  refine z_aload_nO (M := M_X1_take) 1 dX1_take_1 rfl ?_
  refine z_vI (M := M_X1_take) 2 dX1_take_2 t_X1_stands l_X1_121 (m_rr_of rfl) (rest := []) (c_X1_stands2 h0 w hw G0) o_37 rfl rfl rfl (Nat.le_of_ble_eq_true rfl) ⟨rfl, rfl⟩ (fun x1 h1 qx1 => ?_)
  obtain ⟨G1, S1, ax1, bx1, D1⟩ := qx1
  have R1 := (FR.rf (cs := []) (ss := [(37, 1), (37, 2)]) (h := h0)).call S1 (by decide +kernel)
  refine z_if_ne (M := M_X1_take) 5 dX1_take_5 10 rfl (fun c2 => ?_) (fun c2 => ?_)
  · refine z_aload_n (M := M_X1_take) 10 dX1_take_10 rfl ?_
    refine z_vV (M := M_X1_take) 11 dX1_take_11 t_X1_advance l_X1_22 (m_rr_of rfl) (rest := []) (c_X1_advance2 h1 G1) o_37 rfl rfl rfl (Nat.le_of_ble_eq_true rfl) ⟨rfl, rfl⟩ (fun h2 qx3 => ?_)
    obtain ⟨G2, S2, T2⟩ := qx3
    have tk := tk_ok (g_37_2 G0).1 (D1.resolve_right (fun z => by omega)).2 S1 S2 T2
    have R2 := R1.call S2 (by decide +kernel)
    refine z_iconst (M := M_X1_take) 14 dX1_take_14 ?_
    exact z_retZ (M := M_X1_take) 15 dX1_take_15 rfl (by omega) ⟨G2, R2, tk.1, tk.2⟩
  · refine z_iconst (M := M_X1_take) 8 dX1_take_8 ?_
    exact z_retZ (M := M_X1_take) 9 dX1_take_9 rfl (by omega) ⟨G1, R1, (tk_no hE (D1.resolve_left (fun z => by omega)).2 S1).1, (tk_no hE (D1.resolve_left (fun z => by omega)).2 S1).2⟩
