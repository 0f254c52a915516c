abbrev P_X11_quotient2 (h0 : m_H) (a0 a1 : Int) : Int → m_H → Prop := fun x h' => GI h' ∧ FR [] [] h0 h' ∧ a0 / a1 = x
set_option maxHeartbeats 4000000 in
set_option maxRecDepth 100000 in
theorem c_X11_quotient2 (h0 : m_H) (a0 a1 : Int) (G0 : GI h0) (p0 : 0 ≤ a0) (p1 : 0 < a1) : m_CJ M_X11_quotient [mJ a0, mJ a1] h0 (P_X11_quotient2 h0 a0 a1) := by
  refine m_CJ_of ⟨by decide, rfl, by simp [m_arg, m_isL, M_X11_quotient], ⟨rfl, rfl⟩, rfl, rfl⟩ (ls := [some (mJ a0), none, some (mJ a1), none]) rfl ?_
  refine z_lload_n (M := M_X11_quotient) 0 dX11_quotient_0 rfl ?_
  refine z_lconst (M := M_X11_quotient) 1 dX11_quotient_1 (v := 0) ?_
  refine z_lcmp (M := M_X11_quotient) 2 dX11_quotient_2 ?_
  refine z_if_ne_T (M := M_X11_quotient) 3 dX11_quotient_3 10 rfl (fun z => absurd (m_cmp_eq.mp z) (by omega)) ?_
  refine z_lload_n (M := M_X11_quotient) 10 dX11_quotient_10 rfl ?_
  refine z_lload_n (M := M_X11_quotient) 11 dX11_quotient_11 rfl ?_
  refine z_ldivN (M := M_X11_quotient) 12 dX11_quotient_12 p0 p1 ?_
  exact z_retJ (M := M_X11_quotient) 13 dX11_quotient_13 rfl ⟨G0, (FR.rf (cs := []) (ss := []) (h := h0)), rfl⟩
abbrev P_X11_tell2 (h0 : m_H) (a1 a2 : Int) : Int → m_H → Prop := fun x h' => GI h' ∧ FR [8, 107] [(0, 14)] h0 h' ∧ tlQ 8 a1.toNat a1 a2 x h0 h'
set_option maxHeartbeats 4000000 in
set_option maxRecDepth 100000 in
theorem c_X11_tell2 (h0 : m_H) (a1 a2 : Int) (G0 : GI h0) : m_CI M_X11_tell [mR 0, mI a1, mI a2] h0 (P_X11_tell2 h0 a1 a2) := by
  refine m_CI_of ⟨by decide, rfl, by simp [m_arg, m_isL, M_X11_tell], ⟨rfl, rfl⟩, rfl, rfl⟩ (ls := [some (mR 0), some (mI a1), some (mI a2), none]) rfl ?_
  refine z_ok (fun _ _ ok => ?_)
  have oa1 : m_32 a1 := ok 1 _ rfl
  unfold m_32 at oa1
  have oa2 : m_32 a2 := ok 2 _ rfl
  unfold m_32 at oa2
  refine z_iload_n (M := M_X11_tell) 0 dX11_tell_0 rfl ?_
  refine z_iconst (M := M_X11_tell) 1 dX11_tell_1 ?_
  refine z_bipush (M := M_X11_tell) 2 dX11_tell_2 ?_
  refine z_sI (M := M_X11_tell) 4 dX11_tell_4 t_X11_within l_X11_112 (m_rr_of rfl) (rest := []) (c_X11_within h0 a1 0 15 G0) rfl rfl (Nat.le_of_ble_eq_true rfl) ⟨rfl, rfl⟩ (fun x1 h1 qx1 => ?_)
  obtain ⟨rfl, ⟨rfl, cx1⟩ | ⟨rfl, cx1⟩⟩ := qx1
  · refine z_if_eq_F (M := M_X11_tell) 7 dX11_tell_7 21 rfl (by omega) ?_
    refine z_iload_n (M := M_X11_tell) 10 dX11_tell_10 rfl ?_
    refine z_iconst (M := M_X11_tell) 11 dX11_tell_11 ?_
    refine z_sipush (M := M_X11_tell) 12 dX11_tell_12 ?_
    refine z_sI (M := M_X11_tell) 15 dX11_tell_15 t_X11_within l_X11_112 (m_rr_of rfl) (rest := []) (c_X11_within h0 a2 1 9999 G0) rfl rfl (Nat.le_of_ble_eq_true rfl) ⟨rfl, rfl⟩ (fun x2 h2 qx2 => ?_)
    obtain ⟨rfl, ⟨rfl, cx2⟩ | ⟨rfl, cx2⟩⟩ := qx2
    · refine z_if_ne_T (M := M_X11_tell) 18 dX11_tell_18 27 rfl (by omega) ?_
      refine z_aload_n (M := M_X11_tell) 27 dX11_tell_27 rfl ?_
      refine z_getR (M := M_X11_tell) 28 dX11_tell_28 f_X11_12 o_0 rfl (g_0_0 G0) ?_
      refine z_getR (M := M_X11_tell) 31 dX11_tell_31 f_X11_376 o_1 rfl (g_1_6 G0) ?_
      refine z_iload_n (M := M_X11_tell) 34 dX11_tell_34 rfl ?_
      refine z_ialdG (M := M_X11_tell) 35 dX11_tell_35 o_8 (by omega) (by omega) (g_8 G0 (by omega)) (fun x3 ex3 ax3 bx3 => ?_)
      refine z_istore_n (M := M_X11_tell) 36 dX11_tell_36 (ls' := [some (mR 0), some (mI a1), some (mI a2), some (mI x3)]) (by decide) rfl ?_
      refine z_aload_n (M := M_X11_tell) 37 dX11_tell_37 rfl ?_
      refine z_getR (M := M_X11_tell) 38 dX11_tell_38 f_X11_12 o_0 rfl (g_0_0 G0) ?_
      refine z_getR (M := M_X11_tell) 41 dX11_tell_41 f_X11_376 o_1 rfl (g_1_6 G0) ?_
      refine z_iload_n (M := M_X11_tell) 44 dX11_tell_44 rfl ?_
      refine z_iload_n (M := M_X11_tell) 45 dX11_tell_45 rfl ?_
      refine z_iastH (M := M_X11_tell) 46 dX11_tell_46 o_8 (by omega) (by omega) (u_8 G0 (by omega) (by omega)) ((FR.rf (cs := [8, 107]) (ss := [(0, 14)]) (h := h0)).up rfl) (fun h3 E3 G3 R3 => ?_)
      refine z_aload_n (M := M_X11_tell) 47 dX11_tell_47 rfl ?_
      refine z_iload_n (M := M_X11_tell) 48 dX11_tell_48 rfl ?_
      refine z_vI (M := M_X11_tell) 49 dX11_tell_49 t_X11_accept l_X11_123 (m_rr_of rfl) (rest := []) (c_X11_accept h3 x3 G3) o_0 rfl rfl rfl (Nat.le_of_ble_eq_true rfl) ⟨rfl, rfl⟩ (fun x4 h4 qx4 => ?_)
      obtain ⟨G4, S4, rfl⟩ := qx4
      have R4 := R3.call S4 (by decide +kernel)
      exact z_retI (M := M_X11_tell) 52 dX11_tell_52 rfl ⟨G4, R4, Or.inr ⟨by omega, by omega, by omega, by omega, ex3, (S4 8 _ rfl).trans (upE E3), fun j hj => (S4 8 j rfl).trans (upN E3 (fun q => hj q.2))⟩⟩
    · refine z_if_ne_F (M := M_X11_tell) 18 dX11_tell_18 27 rfl (by omega) ?_
      refine z_aload_n (M := M_X11_tell) 21 dX11_tell_21 rfl ?_
      refine z_iconst (M := M_X11_tell) 22 dX11_tell_22 ?_
      refine z_vI (M := M_X11_tell) 23 dX11_tell_23 t_X11_refuse l_X11_116 (m_rr_of rfl) (rest := []) (c_X11_refuse h0 (-1) G0 ⟨by omega, by omega⟩) o_0 rfl rfl rfl (Nat.le_of_ble_eq_true rfl) ⟨rfl, rfl⟩ (fun x5 h5 qx5 => ?_)
      obtain ⟨G5, S5, rfl⟩ := qx5
      have R5 := (FR.rf (cs := [8, 107]) (ss := [(0, 14)]) (h := h0)).call S5 (by decide +kernel)
      exact z_retI (M := M_X11_tell) 26 dX11_tell_26 rfl ⟨G5, R5, Or.inl ⟨by omega, rfl, fun j => S5 8 j rfl⟩⟩
  · refine z_if_eq_T (M := M_X11_tell) 7 dX11_tell_7 21 rfl (by omega) ?_
    refine z_aload_n (M := M_X11_tell) 21 dX11_tell_21 rfl ?_
    refine z_iconst (M := M_X11_tell) 22 dX11_tell_22 ?_
    refine z_vI (M := M_X11_tell) 23 dX11_tell_23 t_X11_refuse l_X11_116 (m_rr_of rfl) (rest := []) (c_X11_refuse h0 (-1) G0 ⟨by omega, by omega⟩) o_0 rfl rfl rfl (Nat.le_of_ble_eq_true rfl) ⟨rfl, rfl⟩ (fun x6 h6 qx6 => ?_)
    obtain ⟨G6, S6, rfl⟩ := qx6
    have R6 := (FR.rf (cs := [8, 107]) (ss := [(0, 14)]) (h := h0)).call S6 (by decide +kernel)
    exact z_retI (M := M_X11_tell) 26 dX11_tell_26 rfl ⟨G6, R6, Or.inl ⟨by omega, rfl, fun j => S6 8 j rfl⟩⟩
def syV (l f k : Int) : Int := if k = 0 then 100 * l / f else if k = 1 then l / f else (2 * l + f) / (2 * f)
def syQ (c i1 i2 : Nat) (a1 a2 a3 x : Int) (h0 : m_H) : Prop := ((a1 < 0 ∨ 11 < a1 ∨ a2 < 0 ∨ 3 < a2 ∨ a3 < 0 ∨ 2 < a3) ∧ x = -1) ∨ (0 ≤ a1 ∧ a1 ≤ 11 ∧ 0 ≤ a2 ∧ a2 ≤ 3 ∧ 0 ≤ a3 ∧ a3 ≤ 2 ∧ x = syV (h0 c i1) (h0 c i2) a3)
theorem sy_0 {l f k x y : Int} (ex : x = l) (ey : y = f) (hk : k = 0) : 100 * l / f = syV x y k := by subst ex ey hk; rfl
theorem sy_1 {l f k x y : Int} (ex : x = l) (ey : y = f) (hk : k = 1) : l / f = syV x y k := by subst ex ey hk; rfl
theorem sy_2 {l f k x y : Int} (ex : x = l) (ey : y = f) (h0 : k ≠ 0) (h1 : k ≠ 1) : (2 * l + f) / (2 * f) = syV x y k := by subst ex ey; unfold syV; rw [if_neg h0, if_neg h1]
abbrev P_X11_says2 (h0 : m_H) (a1 a2 a3 : Int) : Int → m_H → Prop := fun x h' => GI h' ∧ FR [] [] h0 h' ∧ syQ 8 a1.toNat (12 + a2).toNat a1 a2 a3 x h0
set_option maxHeartbeats 4000000 in
set_option maxRecDepth 100000 in
theorem c_X11_says2 (h0 : m_H) (a1 a2 a3 : Int) (G0 : GI h0) : m_CI M_X11_says [mR 0, mI a1, mI a2, mI a3] h0 (P_X11_says2 h0 a1 a2 a3) := by
  refine m_CI_of ⟨by decide, rfl, by simp [m_arg, m_isL, M_X11_says], ⟨rfl, rfl⟩, rfl, rfl⟩ (ls := [some (mR 0), some (mI a1), some (mI a2), some (mI a3), none, none]) rfl ?_
  refine z_ok (fun _ _ ok => ?_)
  have oa1 : m_32 a1 := ok 1 _ rfl
  unfold m_32 at oa1
  have oa2 : m_32 a2 := ok 2 _ rfl
  unfold m_32 at oa2
  have oa3 : m_32 a3 := ok 3 _ rfl
  unfold m_32 at oa3
  refine z_iload_n (M := M_X11_says) 0 dX11_says_0 rfl ?_
  refine z_iconst (M := M_X11_says) 1 dX11_says_1 ?_
  refine z_bipush (M := M_X11_says) 2 dX11_says_2 ?_
  refine z_sI (M := M_X11_says) 4 dX11_says_4 t_X11_within l_X11_112 (m_rr_of rfl) (rest := []) (c_X11_within h0 a1 0 11 G0) rfl rfl (Nat.le_of_ble_eq_true rfl) ⟨rfl, rfl⟩ (fun x1 h1 qx1 => ?_)
  obtain ⟨rfl, ⟨rfl, cx1⟩ | ⟨rfl, cx1⟩⟩ := qx1
  · refine z_if_eq_F (M := M_X11_says) 7 dX11_says_7 24 rfl (by omega) ?_
    refine z_iload_n (M := M_X11_says) 10 dX11_says_10 rfl ?_
    refine z_sI (M := M_X11_says) 11 dX11_says_11 t_X11_isKeeper l_X11_132 (m_rr_of rfl) (rest := []) (c_X11_isKeeper h0 a2 G0) rfl rfl (Nat.le_of_ble_eq_true rfl) ⟨rfl, rfl⟩ (fun x2 h2 qx2 => ?_)
    obtain ⟨rfl, ⟨rfl, cx2⟩ | ⟨rfl, cx2⟩⟩ := qx2
    · refine z_if_eq_F (M := M_X11_says) 14 dX11_says_14 24 rfl (by omega) ?_
      refine z_iload_n (M := M_X11_says) 17 dX11_says_17 rfl ?_
      refine z_sI (M := M_X11_says) 18 dX11_says_18 t_X11_isKind l_X11_301 (m_rr_of rfl) (rest := []) (c_X11_isKind h0 a3 G0) rfl rfl (Nat.le_of_ble_eq_true rfl) ⟨rfl, rfl⟩ (fun x3 h3 qx3 => ?_)
      obtain ⟨rfl, ⟨rfl, cx3⟩ | ⟨rfl, cx3⟩⟩ := qx3
      · refine z_if_ne_T (M := M_X11_says) 21 dX11_says_21 26 rfl (by omega) ?_
        refine z_aload_n (M := M_X11_says) 26 dX11_says_26 rfl ?_
        refine z_getR (M := M_X11_says) 27 dX11_says_27 f_X11_12 o_0 rfl (g_0_0 G0) ?_
        refine z_getR (M := M_X11_says) 30 dX11_says_30 f_X11_376 o_1 rfl (g_1_6 G0) ?_
        refine z_bipush (M := M_X11_says) 33 dX11_says_33 ?_
        refine z_iload_n (M := M_X11_says) 35 dX11_says_35 rfl ?_
        refine z_iaddN (M := M_X11_says) 36 dX11_says_36 (by omega) (by omega) ?_
        refine z_ialdG (M := M_X11_says) 37 dX11_says_37 o_8 (by omega) (by omega) (g_8 G0 (by omega)) (fun x4 ex4 ax4 bx4 => ?_)
        refine z_istore (M := M_X11_says) 38 dX11_says_38 (ls' := [some (mR 0), some (mI a1), some (mI a2), some (mI a3), some (mI x4), none]) (by decide) rfl ?_
        refine z_aload_n (M := M_X11_says) 40 dX11_says_40 rfl ?_
        refine z_getR (M := M_X11_says) 41 dX11_says_41 f_X11_12 o_0 rfl (g_0_0 G0) ?_
        refine z_getR (M := M_X11_says) 44 dX11_says_44 f_X11_376 o_1 rfl (g_1_6 G0) ?_
        refine z_iload_n (M := M_X11_says) 47 dX11_says_47 rfl ?_
        refine z_ialdG (M := M_X11_says) 48 dX11_says_48 o_8 (by omega) (by omega) (g_8 G0 (by omega)) (fun x5 ex5 ax5 bx5 => ?_)
        refine z_istore (M := M_X11_says) 49 dX11_says_49 (ls' := [some (mR 0), some (mI a1), some (mI a2), some (mI a3), some (mI x4), some (mI x5)]) (by decide) rfl ?_
        refine z_iload_n (M := M_X11_says) 51 dX11_says_51 rfl ?_
        by_cases c6 : a3 = 0 ∨ a3 = 1
        · rcases c6 with c6_0 | c6_1
          · refine z_lookup (M := M_X11_says) 52 dX11_says_52 (off := 28) 80 (by decide) (by rw [c6_0]; rfl) rfl ?_
            refine z_ldc2 (M := M_X11_says) 80 dX11_says_80 k_X11_379 ?_
            refine z_iload (M := M_X11_says) 83 dX11_says_83 rfl ?_
            refine z_i2l (M := M_X11_says) 85 dX11_says_85 ?_
            refine z_lmulN (M := M_X11_says) 86 dX11_says_86 (by omega) (by omega) ?_
            refine z_iload (M := M_X11_says) 87 dX11_says_87 rfl ?_
            refine z_i2l (M := M_X11_says) 89 dX11_says_89 ?_
            refine z_sJ (M := M_X11_says) 90 dX11_says_90 t_X11_quotient l_X11_275 (m_rr_of rfl) (rest := []) (c_X11_quotient2 h0 (100 * x5) x4 G0 (by omega) (by omega)) rfl rfl (Nat.le_of_ble_eq_true rfl) ⟨rfl, rfl⟩ (fun x7 h4 qx7 => ?_)
            obtain ⟨G4, S4, rfl⟩ := qx7
            have bq := ediv_bd (x := 100 * x5) (y := x4) (hi := 999900) (by omega) (by omega) (by omega)
            have R4 := (FR.rf (cs := []) (ss := []) (h := h0)).call S4 (by decide +kernel)
            refine z_l2iN (M := M_X11_says) 93 dX11_says_93 (by omega) (by omega) ?_
            exact z_retI (M := M_X11_says) 94 dX11_says_94 rfl ⟨G4, R4, Or.inr ⟨by omega, by omega, by omega, by omega, by omega, by omega, sy_0 ex5 ex4 c6_0⟩⟩
          · refine z_lookup (M := M_X11_says) 52 dX11_says_52 (off := 43) 95 (by decide) (by rw [c6_1]; rfl) rfl ?_
            refine z_iload (M := M_X11_says) 95 dX11_says_95 rfl ?_
            refine z_i2l (M := M_X11_says) 97 dX11_says_97 ?_
            refine z_iload (M := M_X11_says) 98 dX11_says_98 rfl ?_
            refine z_i2l (M := M_X11_says) 100 dX11_says_100 ?_
            refine z_sJ (M := M_X11_says) 101 dX11_says_101 t_X11_quotient l_X11_275 (m_rr_of rfl) (rest := []) (c_X11_quotient2 h0 x5 x4 G0 (by omega) (by omega)) rfl rfl (Nat.le_of_ble_eq_true rfl) ⟨rfl, rfl⟩ (fun x9 h5 qx9 => ?_)
            obtain ⟨G5, S5, rfl⟩ := qx9
            have bq := ediv_bd (x := x5) (y := x4) (hi := 999900) (by omega) (by omega) (by omega)
            have R5 := (FR.rf (cs := []) (ss := []) (h := h0)).call S5 (by decide +kernel)
            refine z_l2iN (M := M_X11_says) 104 dX11_says_104 (by omega) (by omega) ?_
            exact z_retI (M := M_X11_says) 105 dX11_says_105 rfl ⟨G5, R5, Or.inr ⟨by omega, by omega, by omega, by omega, by omega, by omega, sy_1 ex5 ex4 c6_1⟩⟩
        · refine z_lookup (M := M_X11_says) 52 dX11_says_52 (off := 54) 106 (by decide) (by simp only [Op.lookupswitch.offset]; split <;> (try omega) <;> (split <;> omega)) rfl ?_
          refine z_ldc2 (M := M_X11_says) 106 dX11_says_106 k_X11_381 ?_
          refine z_iload (M := M_X11_says) 109 dX11_says_109 rfl ?_
          refine z_i2l (M := M_X11_says) 111 dX11_says_111 ?_
          refine z_lmulN (M := M_X11_says) 112 dX11_says_112 (by omega) (by omega) ?_
          refine z_iload (M := M_X11_says) 113 dX11_says_113 rfl ?_
          refine z_i2l (M := M_X11_says) 115 dX11_says_115 ?_
          refine z_laddN (M := M_X11_says) 116 dX11_says_116 (by omega) (by omega) ?_
          refine z_ldc2 (M := M_X11_says) 117 dX11_says_117 k_X11_381 ?_
          refine z_iload (M := M_X11_says) 120 dX11_says_120 rfl ?_
          refine z_i2l (M := M_X11_says) 122 dX11_says_122 ?_
          refine z_lmulN (M := M_X11_says) 123 dX11_says_123 (by omega) (by omega) ?_
          refine z_sJ (M := M_X11_says) 124 dX11_says_124 t_X11_quotient l_X11_275 (m_rr_of rfl) (rest := []) (c_X11_quotient2 h0 ((2 * x5) + x4) (2 * x4) G0 (by omega) (by omega)) rfl rfl (Nat.le_of_ble_eq_true rfl) ⟨rfl, rfl⟩ (fun x11 h6 qx11 => ?_)
          obtain ⟨G6, S6, rfl⟩ := qx11
          have bq := ediv_bd (x := (2 * x5) + x4) (y := 2 * x4) (hi := 999900) (by omega) (by omega) (by omega)
          have R6 := (FR.rf (cs := []) (ss := []) (h := h0)).call S6 (by decide +kernel)
          refine z_l2iN (M := M_X11_says) 127 dX11_says_127 (by omega) (by omega) ?_
          exact z_retI (M := M_X11_says) 128 dX11_says_128 rfl ⟨G6, R6, Or.inr ⟨by omega, by omega, by omega, by omega, by omega, by omega, sy_2 ex5 ex4 (fun q => c6 (Or.inl q)) (fun q => c6 (Or.inr q))⟩⟩
      · refine z_if_ne_F (M := M_X11_says) 21 dX11_says_21 26 rfl (by omega) ?_
        refine z_iconst (M := M_X11_says) 24 dX11_says_24 ?_
        exact z_retI (M := M_X11_says) 25 dX11_says_25 rfl ⟨G0, (FR.rf (cs := []) (ss := []) (h := h0)), Or.inl ⟨by omega, rfl⟩⟩
    · refine z_if_eq_T (M := M_X11_says) 14 dX11_says_14 24 rfl (by omega) ?_
      refine z_iconst (M := M_X11_says) 24 dX11_says_24 ?_
      exact z_retI (M := M_X11_says) 25 dX11_says_25 rfl ⟨G0, (FR.rf (cs := []) (ss := []) (h := h0)), Or.inl ⟨by omega, rfl⟩⟩
  · refine z_if_eq_T (M := M_X11_says) 7 dX11_says_7 24 rfl (by omega) ?_
    refine z_iconst (M := M_X11_says) 24 dX11_says_24 ?_
    exact z_retI (M := M_X11_says) 25 dX11_says_25 rfl ⟨G0, (FR.rf (cs := []) (ss := []) (h := h0)), Or.inl ⟨by omega, rfl⟩⟩
abbrev P_X12_says2 (h0 : m_H) (a1 a2 a3 : Int) : Int → m_H → Prop := fun x h' => GI h' ∧ FR [] [(108, 0)] h0 h' ∧ syQ 110 (60 + a1).toNat (72 + a2).toNat a1 a2 a3 x h0
set_option maxHeartbeats 4000000 in
set_option maxRecDepth 100000 in
theorem c_X12_says2 (h0 : m_H) (a1 a2 a3 : Int) (G0 : GI h0) : m_CI M_X12_says [mR 108, mI a1, mI a2, mI a3] h0 (P_X12_says2 h0 a1 a2 a3) := by
  refine m_CI_of ⟨by decide, rfl, by simp [m_arg, m_isL, M_X12_says], ⟨rfl, rfl⟩, rfl, rfl⟩ (ls := [some (mR 108), some (mI a1), some (mI a2), some (mI a3), none, none]) rfl ?_
  refine z_ok (fun _ _ ok => ?_)
  have oa1 : m_32 a1 := ok 1 _ rfl
  unfold m_32 at oa1
  have oa2 : m_32 a2 := ok 2 _ rfl
  unfold m_32 at oa2
  have oa3 : m_32 a3 := ok 3 _ rfl
  unfold m_32 at oa3
  refine z_aload_n (M := M_X12_says) 0 dX12_says_0 rfl ?_
  refine z_iconst (M := M_X12_says) 1 dX12_says_1 ?_
  refine z_putIH (M := M_X12_says) 2 dX12_says_2 p_X12_133 o_108 rfl (u_108_0 G0) ((FR.rf (cs := []) (ss := [(108, 0)]) (h := h0)).up rfl) (fun h1 E1 G1 R1 => ?_)
  refine z_iload_n (M := M_X12_says) 5 dX12_says_5 rfl ?_
  refine z_i2l (M := M_X12_says) 6 dX12_says_6 ?_
  refine z_lconst (M := M_X12_says) 7 dX12_says_7 (v := 0) ?_
  refine z_ldc2 (M := M_X12_says) 8 dX12_says_8 k_X12_385 ?_
  refine z_sI (M := M_X12_says) 11 dX12_says_11 t_X12_in l_X12_143 (m_rr_of rfl) (rest := []) (c_X12_in h1 a1 0 11 G1) rfl rfl (Nat.le_of_ble_eq_true rfl) ⟨rfl, rfl⟩ (fun x1 h2 qx1 => ?_)
  obtain ⟨rfl, ⟨rfl, cx1⟩ | ⟨rfl, cx1⟩⟩ := qx1
  · refine z_if_eq_F (M := M_X12_says) 14 dX12_says_14 36 rfl (by omega) ?_
    refine z_iload_n (M := M_X12_says) 17 dX12_says_17 rfl ?_
    refine z_sI (M := M_X12_says) 18 dX12_says_18 t_X12_isKeeper l_X12_169 (m_rr_of rfl) (rest := []) (c_X12_isKeeper h1 a2 G1) rfl rfl (Nat.le_of_ble_eq_true rfl) ⟨rfl, rfl⟩ (fun x2 h3 qx2 => ?_)
    obtain ⟨rfl, ⟨rfl, cx2⟩ | ⟨rfl, cx2⟩⟩ := qx2
    · refine z_if_eq_F (M := M_X12_says) 21 dX12_says_21 36 rfl (by omega) ?_
      refine z_iload_n (M := M_X12_says) 24 dX12_says_24 rfl ?_
      refine z_i2l (M := M_X12_says) 25 dX12_says_25 ?_
      refine z_lconst (M := M_X12_says) 26 dX12_says_26 (v := 0) ?_
      refine z_ldc2 (M := M_X12_says) 27 dX12_says_27 k_X12_182 ?_
      refine z_sI (M := M_X12_says) 30 dX12_says_30 t_X12_in l_X12_143 (m_rr_of rfl) (rest := []) (c_X12_in h1 a3 0 2 G1) rfl rfl (Nat.le_of_ble_eq_true rfl) ⟨rfl, rfl⟩ (fun x3 h4 qx3 => ?_)
      obtain ⟨rfl, ⟨rfl, cx3⟩ | ⟨rfl, cx3⟩⟩ := qx3
      · refine z_if_ne_T (M := M_X12_says) 33 dX12_says_33 38 rfl (by omega) ?_
        refine z_aload_n (M := M_X12_says) 38 dX12_says_38 rfl ?_
        refine z_getR (M := M_X12_says) 39 dX12_says_39 f_X12_13 o_108 rfl (g_108_3 G1) ?_
        refine z_bipush (M := M_X12_says) 42 dX12_says_42 ?_
        refine z_iload_n (M := M_X12_says) 44 dX12_says_44 rfl ?_
        refine z_iaddN (M := M_X12_says) 45 dX12_says_45 (by omega) (by omega) ?_
        refine z_ialdG (M := M_X12_says) 46 dX12_says_46 o_110 (by omega) (by omega) (gw_l G1 (by omega) (by omega)) (fun x4 ex4 ax4 bx4 => ?_)
        refine z_istore (M := M_X12_says) 47 dX12_says_47 (ls' := [some (mR 108), some (mI a1), some (mI a2), some (mI a3), some (mI x4), none]) (by decide) rfl ?_
        refine z_aload_n (M := M_X12_says) 49 dX12_says_49 rfl ?_
        refine z_getR (M := M_X12_says) 50 dX12_says_50 f_X12_13 o_108 rfl (g_108_3 G1) ?_
        refine z_bipush (M := M_X12_says) 53 dX12_says_53 ?_
        refine z_iload_n (M := M_X12_says) 55 dX12_says_55 rfl ?_
        refine z_iaddN (M := M_X12_says) 56 dX12_says_56 (by omega) (by omega) ?_
        refine z_ialdG (M := M_X12_says) 57 dX12_says_57 o_110 (by omega) (by omega) (gw_l G1 (by omega) (by omega)) (fun x5 ex5 ax5 bx5 => ?_)
        refine z_istore (M := M_X12_says) 58 dX12_says_58 (ls' := [some (mR 108), some (mI a1), some (mI a2), some (mI a3), some (mI x4), some (mI x5)]) (by decide) rfl ?_
        refine z_iload_n (M := M_X12_says) 60 dX12_says_60 rfl ?_
        refine z_if_ne (M := M_X12_says) 61 dX12_says_61 75 rfl (fun c6 => ?_) (fun c6 => ?_)
        · refine z_iload_n (M := M_X12_says) 75 dX12_says_75 rfl ?_
          refine z_iconst (M := M_X12_says) 76 dX12_says_76 ?_
          refine z_icmp_ne (M := M_X12_says) 77 dX12_says_77 88 rfl (fun c7 => ?_) (fun c7 => ?_)
          · refine z_iconst (M := M_X12_says) 88 dX12_says_88 ?_
            refine z_iload (M := M_X12_says) 89 dX12_says_89 rfl ?_
            refine z_imulN (M := M_X12_says) 91 dX12_says_91 (by omega) (by omega) ?_
            refine z_iload (M := M_X12_says) 92 dX12_says_92 rfl ?_
            refine z_iaddN (M := M_X12_says) 94 dX12_says_94 (by omega) (by omega) ?_
            refine z_iconst (M := M_X12_says) 95 dX12_says_95 ?_
            refine z_iload (M := M_X12_says) 96 dX12_says_96 rfl ?_
            refine z_imulN (M := M_X12_says) 98 dX12_says_98 (by omega) (by omega) ?_
            refine z_idivN (M := M_X12_says) 99 dX12_says_99 (by omega) (by omega) ?_
            refine z_topBI (lo := 0) (hi := 29997) (ediv_bd (by omega) (by omega) (by omega)) (fun x8 ex8 ax8 bx8 => ?_)
            exact z_retI (M := M_X12_says) 100 dX12_says_100 rfl ⟨G1, R1, Or.inr ⟨by omega, by omega, by omega, by omega, by omega, by omega, ex8.symm.trans (sy_2 ((tl_o E1 (by decide) _).symm.trans ex4) ((tl_o E1 (by decide) _).symm.trans ex5) c6 c7)⟩⟩
          · refine z_iload (M := M_X12_says) 80 dX12_says_80 rfl ?_
            refine z_iload (M := M_X12_says) 82 dX12_says_82 rfl ?_
            refine z_idivN (M := M_X12_says) 84 dX12_says_84 (by omega) (by omega) ?_
            refine z_topBI (lo := 0) (hi := 9999) (ediv_bd (by omega) (by omega) (by omega)) (fun x9 ex9 ax9 bx9 => ?_)
            refine z_goto (M := M_X12_says) 85 dX12_says_85 100 rfl ?_
            exact z_retI (M := M_X12_says) 100 dX12_says_100 rfl ⟨G1, R1, Or.inr ⟨by omega, by omega, by omega, by omega, by omega, by omega, ex9.symm.trans (sy_1 ((tl_o E1 (by decide) _).symm.trans ex4) ((tl_o E1 (by decide) _).symm.trans ex5) (by omega))⟩⟩
        · refine z_bipush (M := M_X12_says) 64 dX12_says_64 ?_
          refine z_iload (M := M_X12_says) 66 dX12_says_66 rfl ?_
          refine z_imulN (M := M_X12_says) 68 dX12_says_68 (by omega) (by omega) ?_
          refine z_iload (M := M_X12_says) 69 dX12_says_69 rfl ?_
          refine z_idivN (M := M_X12_says) 71 dX12_says_71 (by omega) (by omega) ?_
          refine z_topBI (lo := 0) (hi := 999900) (ediv_bd (by omega) (by omega) (by omega)) (fun x10 ex10 ax10 bx10 => ?_)
          refine z_goto (M := M_X12_says) 72 dX12_says_72 100 rfl ?_
          exact z_retI (M := M_X12_says) 100 dX12_says_100 rfl ⟨G1, R1, Or.inr ⟨by omega, by omega, by omega, by omega, by omega, by omega, ex10.symm.trans (sy_0 ((tl_o E1 (by decide) _).symm.trans ex4) ((tl_o E1 (by decide) _).symm.trans ex5) (by omega))⟩⟩
      · refine z_if_ne_F (M := M_X12_says) 33 dX12_says_33 38 rfl (by omega) ?_
        refine z_iconst (M := M_X12_says) 36 dX12_says_36 ?_
        exact z_retI (M := M_X12_says) 37 dX12_says_37 rfl ⟨G1, R1, Or.inl ⟨by omega, rfl⟩⟩
    · refine z_if_eq_T (M := M_X12_says) 21 dX12_says_21 36 rfl (by omega) ?_
      refine z_iconst (M := M_X12_says) 36 dX12_says_36 ?_
      exact z_retI (M := M_X12_says) 37 dX12_says_37 rfl ⟨G1, R1, Or.inl ⟨by omega, rfl⟩⟩
  · refine z_if_eq_T (M := M_X12_says) 14 dX12_says_14 36 rfl (by omega) ?_
    refine z_iconst (M := M_X12_says) 36 dX12_says_36 ?_
    exact z_retI (M := M_X12_says) 37 dX12_says_37 rfl ⟨G1, R1, Or.inl ⟨by omega, rfl⟩⟩
abbrev P_X11_book2 (h0 : m_H) : Int → m_H → Prop := fun x h' => GI h' ∧ FR [2, 3, 4, 5, 6, 7, 8, 10, 11, 12, 13, 14, 15, 16, 107] [(0, 14), (0, 16), (1, 7), (1, 8), (1, 9), (9, 7), (9, 8), (9, 9), (35, 1), (37, 1), (37, 2), (37, 3)] h0 h' ∧ (-6) ≤ x ∧ x ≤ 400 ∧ h' 35 1 = 0 ∧ (∀ j, j < 16 → h' 8 j = h0 8 j)
set_option maxHeartbeats 4000000 in
set_option maxRecDepth 100000 in
theorem c_X11_book2 (h0 : m_H) (G0 : GI h0) : m_CI M_X11_book [mR 0] h0 (P_X11_book2 h0) := by
  refine m_CI_of ⟨by decide, rfl, by simp [m_arg, m_isL, M_X11_book], ⟨rfl, rfl⟩, rfl, rfl⟩ (ls := [some (mR 0), none]) rfl ?_
  obtain ⟨x1, ex1⟩ : ∃ y : Int, h0 35 1 = y := ⟨_, rfl⟩
  have bx1 : 0 ≤ x1 ∧ x1 ≤ 400 := ex1 ▸ g_35_1 G0
  refine z_aload_n (M := M_X11_book) 0 dX11_book_0 rfl ?_
  refine z_getR (M := M_X11_book) 1 dX11_book_1 f_X11_16 o_0 rfl (g_0_1 G0) ?_
  refine z_aload_n (M := M_X11_book) 4 dX11_book_4 rfl ?_
  refine z_getR (M := M_X11_book) 5 dX11_book_5 f_X11_12 o_0 rfl (g_0_0 G0) ?_
  refine z_vV (M := M_X11_book) 8 dX11_book_8 t_X4_copyFrom l_X11_197 (m_rr_of rfl) (rest := []) (c_X4_copyFrom2 h0 9 1 (Or.inr (Or.inl rfl)) (Or.inl rfl) G0) o_9 rfl rfl rfl (Nat.le_of_ble_eq_true rfl) ⟨rfl, rfl⟩ (fun h1 qx2 => ?_)
  obtain ⟨G1, S1, C1⟩ := qx2
  have R1 := (FR.rf (cs := [2, 3, 4, 5, 6, 7, 8, 10, 11, 12, 13, 14, 15, 16, 107]) (ss := [(0, 14), (0, 16), (1, 7), (1, 8), (1, 9), (9, 7), (9, 8), (9, 9), (35, 1), (37, 1), (37, 2), (37, 3)]) (h := h0)).call S1 (by decide +kernel)
  refine z_aload_n (M := M_X11_book) 11 dX11_book_11 rfl ?_
  refine z_getR (M := M_X11_book) 12 dX11_book_12 f_X11_39 o_0 rfl (g_0_5 G1) ?_
  refine z_aload_n (M := M_X11_book) 15 dX11_book_15 rfl ?_
  refine z_getR (M := M_X11_book) 16 dX11_book_16 f_X11_16 o_0 rfl (g_0_1 G1) ?_
  refine z_vI (M := M_X11_book) 19 dX11_book_19 t_X1_readOnto l_X11_201 (m_rr_of rfl) (rest := []) (c_X1_readOnto h1 9 (Or.inr (Or.inl rfl)) G1) o_37 rfl rfl rfl (Nat.le_of_ble_eq_true rfl) ⟨rfl, rfl⟩ (fun x3 h2 qx3 => ?_)
  obtain ⟨G2, S2, ax3, bx3⟩ := qx3
  have R2 := R1.call S2 (by decide +kernel)
  refine z_istore_n (M := M_X11_book) 22 dX11_book_22 (ls' := [some (mR 0), some (mI x3)]) (by decide) rfl ?_
  refine z_aload_n (M := M_X11_book) 23 dX11_book_23 rfl ?_
  refine z_aload_n (M := M_X11_book) 24 dX11_book_24 rfl ?_
  refine z_getR (M := M_X11_book) 25 dX11_book_25 f_X11_39 o_0 rfl (g_0_5 G2) ?_
  refine z_getIV (M := M_X11_book) 28 dX11_book_28 f_X11_205 o_37 (by decide) (fun x4 ex4 => ?_)
  refine z_ok (fun ox4 _ _ => ?_)
  have ox4 := ox4.1; unfold m_ok m_32 at ox4
  refine z_putIH (M := M_X11_book) 31 dX11_book_31 p_X11_105 o_0 rfl (u_0_16 G2) (R2.up rfl) (fun h3 E3 G3 R3 => ?_)
  refine z_aload_n (M := M_X11_book) 34 dX11_book_34 rfl ?_
  refine z_getR (M := M_X11_book) 35 dX11_book_35 f_X11_30 o_0 rfl (g_0_4 G3) ?_
  refine z_iconst (M := M_X11_book) 38 dX11_book_38 ?_
  refine z_putIH (M := M_X11_book) 39 dX11_book_39 p_X11_187 o_35 rfl (u_35_1 G3 (by omega) (by omega)) (R3.up rfl) (fun h4 E4 G4 R4 => ?_)
  refine z_iload_n (M := M_X11_book) 42 dX11_book_42 rfl ?_
  refine z_iconst (M := M_X11_book) 43 dX11_book_43 ?_
  refine z_icmp_ne (M := M_X11_book) 44 dX11_book_44 54 rfl (fun c5 => ?_) (fun c5 => ?_)
  · refine z_aload_n (M := M_X11_book) 54 dX11_book_54 rfl ?_
    refine z_getR (M := M_X11_book) 55 dX11_book_55 f_X11_12 o_0 rfl (g_0_0 G4) ?_
    refine z_aload_n (M := M_X11_book) 58 dX11_book_58 rfl ?_
    refine z_getR (M := M_X11_book) 59 dX11_book_59 f_X11_16 o_0 rfl (g_0_1 G4) ?_
    refine z_vV (M := M_X11_book) 62 dX11_book_62 t_X4_copyFrom l_X11_197 (m_rr_of rfl) (rest := []) (c_X4_copyFrom2 h4 1 9 (Or.inl rfl) (Or.inr (Or.inl rfl)) G4) o_1 rfl rfl rfl (Nat.le_of_ble_eq_true rfl) ⟨rfl, rfl⟩ (fun h5 qx6 => ?_)
    obtain ⟨G5, S5, C5⟩ := qx6
    have R5 := R4.call S5 (by decide +kernel)
    refine z_aload_n (M := M_X11_book) 65 dX11_book_65 rfl ?_
    refine z_iload_n (M := M_X11_book) 66 dX11_book_66 rfl ?_
    refine z_vI (M := M_X11_book) 67 dX11_book_67 t_X11_accept l_X11_123 (m_rr_of rfl) (rest := []) (c_X11_accept h5 x3 G5) o_0 rfl rfl rfl (Nat.le_of_ble_eq_true rfl) ⟨rfl, rfl⟩ (fun x7 h6 qx7 => ?_)
    obtain ⟨G6, S6, rfl⟩ := qx7
    have R6 := R5.call S6 (by decide +kernel)
    have z8 : h6 35 1 = 0 := ((S6 35 1 rfl).trans ((S5 35 1 rfl).trans (upE E4)))
    exact z_retI (M := M_X11_book) 70 dX11_book_70 rfl ⟨G6, R6, by omega, by omega, by omega, fun j hj => (S6 8 j rfl).trans ((C5.2.2.2.2.2.2.1 j hj).trans ((tl_o E4 (by decide) j).trans ((tl_o E3 (by decide) j).trans ((S2 16 j rfl).trans (C1.2.2.2.2.2.2.1 j hj)))))⟩
  · refine z_aload_n (M := M_X11_book) 47 dX11_book_47 rfl ?_
    refine z_bipush (M := M_X11_book) 48 dX11_book_48 ?_
    refine z_vI (M := M_X11_book) 50 dX11_book_50 t_X11_refuse l_X11_116 (m_rr_of rfl) (rest := []) (c_X11_refuse h4 (-6) G4 ⟨by omega, by omega⟩) o_0 rfl rfl rfl (Nat.le_of_ble_eq_true rfl) ⟨rfl, rfl⟩ (fun x8 h7 qx8 => ?_)
    obtain ⟨G7, S7, rfl⟩ := qx8
    have R7 := R4.call S7 (by decide +kernel)
    have z8 : h7 35 1 = 0 := ((S7 35 1 rfl).trans (upE E4))
    exact z_retI (M := M_X11_book) 53 dX11_book_53 rfl ⟨G7, R7, by omega, by omega, by omega, fun j _ => (S7 8 j rfl).trans ((tl_o E4 (by decide) j).trans ((tl_o E3 (by decide) j).trans ((S2 8 j rfl).trans (S1 8 j rfl))))⟩
/-- a ledger's world is a row's -/
def LW (L : Nat) (h : m_H) (r : Nat → Int) : Prop := ∀ j, j < 16 → h (L + 7) j = r (60 + j)
theorem LW.same {L : Nat} {h h' : m_H} {r r' : Nat → Int} (W : LW L h r) (e : ∀ j, j < 16 → h' (L + 7) j = h (L + 7) j) (e2 : ∀ j, 60 ≤ j → j ≤ 75 → r' j = r j) : LW L h' r' := fun j hj => by rw [e j hj, e2 _ (by omega) (by omega)]; exact W j hj
theorem LW.copy {L K : Nat} {h0 h h' : m_H} {r r' : Nat → Int} (W : LW K h r) (e : ∀ j, j < 16 → h0 (K + 7) j = h (K + 7) j) (C : LC L K h0 h') (e2 : ∀ j, 60 ≤ j → j ≤ 75 → r' j = r j) : LW L h' r' := fun j hj => by rw [C.2.2.2.2.2.2.1 j hj, e j hj, e2 _ (by omega) (by omega)]; exact W j hj
def RW (h : m_H) : Prop := KP h ∧ LW 1 h (h 110) ∧ ∀ k, k < 2 → h 34 k ≠ 0 → LW (18 + 8 * k) h (fun j => h 111 (200 * k + j))
theorem RW.gen {h h' : m_H} (R : RW h) (e8 : ∀ j, j < 16 → h' 8 j = h 8 j) (e25 : ∀ k, k < 2 → ∀ j, h' (25 + 8 * k) j = h (25 + 8 * k) j) (e34 : ∀ j, h' 34 j = h 34 j) (e0 : ∀ j, 60 ≤ j → j ≤ 75 → h' 110 j = h 110 j) (e1 : ∀ j, h' 111 j = h 111 j) (e2 : ∀ j, h' 112 j = h 112 j) : RW h' := by
  obtain ⟨a, b, c⟩ := R
  refine ⟨a.call e34 e2, b.same e8 e0, fun k hk hn => ?_⟩
  rw [e34] at hn
  refine (c k hk hn).same (fun j _ => ?_) (fun j _ _ => e1 _)
  have q : 18 + 8 * k + 7 = 25 + 8 * k := by omega
  rw [q]; exact e25 k hk j
theorem RW.cls {h h' : m_H} {cs : List Nat} {ss : List (Nat × Nat)} (R : RW h) (S : FR cs ss h h') (o1 : out 8 8 cs ss = true) (o2 : out 18 34 cs ss = true) (o3 : out 110 112 cs ss = true) : RW h' :=
  R.gen (fun j _ => S _ _ (fr_out o1 (by decide) (by decide) j)) (fun k hk j => S _ _ (fr_out o2 (by omega) (by omega) j)) (fun j => S _ _ (fr_out o2 (by decide) (by decide) j)) (fun j _ _ => S _ _ (fr_out o3 (by decide) (by decide) j)) (fun j => S _ _ (fr_out o3 (by decide) (by decide) j)) (fun j => S _ _ (fr_out o3 (by decide) (by decide) j))
theorem RW.mod {h h' : m_H} {cs : List Nat} {ss : List (Nat × Nat)} (R : RW h) (S : FR cs ss h h') (W : NPi h h') (o1 : out 8 8 cs ss = true) (o2 : out 18 34 cs ss = true) (o3 : out 111 112 cs ss = true) : RW h' :=
  R.gen (fun j _ => S _ _ (fr_out o1 (by decide) (by decide) j)) (fun k hk j => S _ _ (fr_out o2 (by omega) (by omega) j)) (fun j => S _ _ (fr_out o2 (by decide) (by decide) j)) W.2 (fun j => S _ _ (fr_out o3 (by decide) (by decide) j)) (fun j => S _ _ (fr_out o3 (by decide) (by decide) j))
theorem RW.book {h h' : m_H} {cs : List Nat} {ss : List (Nat × Nat)} (R : RW h) (S : FR cs ss h h') (W : ∀ j, j < 16 → h' 8 j = h 8 j) (o2 : out 18 34 cs ss = true) (o3 : out 110 112 cs ss = true) : RW h' :=
  R.gen W (fun k hk j => S _ _ (fr_out o2 (by omega) (by omega) j)) (fun j => S _ _ (fr_out o2 (by decide) (by decide) j)) (fun j _ _ => S _ _ (fr_out o3 (by decide) (by decide) j)) (fun j => S _ _ (fr_out o3 (by decide) (by decide) j)) (fun j => S _ _ (fr_out o3 (by decide) (by decide) j))
theorem RW.tell {h h1 h2 : m_H} {cs cs' : List Nat} {ss ss' : List (Nat × Nat)} {a1 a2 x y : Int} (R : RW h) (S1 : FR cs ss h h1) (S2 : FR cs' ss' h1 h2) (A : tlQ 8 a1.toNat a1 a2 x h h1) (B : tlQ 110 (60 + a1).toNat a1 a2 y h1 h2) (o2 : out 18 34 cs ss = true) (o3 : out 110 112 cs ss = true) (q1 : out 8 8 cs' ss' = true) (q2 : out 18 34 cs' ss' = true) (q3 : out 111 112 cs' ss' = true) : RW h2 ∧ x = y := by
  have f25 : ∀ c, 18 ≤ c → c ≤ 34 → ∀ j, h2 c j = h c j := fun c u v j => (S2 _ _ (fr_out q2 u v j)).trans (S1 _ _ (fr_out o2 u v j))
  have f111 : ∀ c, 111 ≤ c → c ≤ 112 → ∀ j, h2 c j = h c j := fun c u v j => (S2 _ _ (fr_out q3 u v j)).trans (S1 _ _ (fr_out o3 (by omega) v j))
  have f8 : ∀ j, h2 8 j = h1 8 j := fun j => S2 _ _ (fr_out q1 (by decide) (by decide) j)
  have f110 : ∀ j, h1 110 j = h 110 j := fun j => S1 _ _ (fr_out o3 (by decide) (by decide) j)
  by_cases g : a1 < 0 ∨ 15 < a1 ∨ a2 < 1 ∨ 9999 < a2
  · rcases A with ⟨_, ax, a⟩ | ⟨a, b, c, d, _⟩
    · rcases B with ⟨_, bx, b⟩ | ⟨b, c, d, e, _⟩
      · refine ⟨R.gen (fun j _ => (f8 j).trans (a j)) (fun k hk j => f25 _ (by omega) (by omega) j) (f25 34 (by decide) (by decide)) (fun j _ _ => (b j).trans (f110 j)) (f111 111 (by decide) (by decide)) (f111 112 (by decide) (by decide)), by omega⟩
      · omega
    · omega
  · rcases A with ⟨a, _, _⟩ | ⟨a, b, c, d, ax, av, ao⟩
    · exact absurd a g
    rcases B with ⟨b, _, _⟩ | ⟨_, _, _, _, bx, bv, bo⟩
    · exact absurd b g
    have i1 : (60 + a1).toNat = 60 + a1.toNat := by omega
    obtain ⟨r1, r2, r3⟩ := R
    have e := r2 a1.toNat (by omega)
    rw [i1] at bx bv bo
    refine ⟨⟨r1.call (f25 34 (by decide) (by decide)) (f111 112 (by decide) (by decide)), fun j hj => ?_, fun k hk hn => ?_⟩, ?_⟩
    · show h2 8 j = h2 110 (60 + j)
      rw [f8]
      by_cases w : j = a1.toNat
      · rw [w, av, bv]
      · rw [ao j w, bo _ (by omega), f110]; exact r2 j hj
    · rw [f25 34 (by decide) (by decide)] at hn
      exact (r3 k hk hn).same (fun j _ => f25 _ (by omega) (by omega) j) (fun j _ _ => f111 111 (by decide) (by decide) _)
    · rw [← ax, ← bx, f110]; exact e
theorem RW.image {h h1 h2 : m_H} {cs cs' : List Nat} {ss ss' : List (Nat × Nat)} {a1 x y : Int} (R : RW h) (S1 : FR cs ss h h1) (S2 : FR cs' ss' h1 h2) (A : imQ 34 a1 x h h1) (A2 : imC a1 h h1) (B : imQ 112 a1 y h1 h2) (B2 : imM a1 h1 h2) (o1 : out 1 8 cs ss = true) (o3 : out 110 112 cs ss = true) (q1 : out 1 8 cs' ss' = true) (q2 : out 18 34 cs' ss' = true) (q3 : out 110 110 cs' ss' = true) : RW h2 ∧ x = y := by
  obtain ⟨r1, r2, r3⟩ := R
  have f34 : ∀ c, 18 ≤ c → c ≤ 34 → ∀ j, h2 c j = h1 c j := fun c u v j => S2 _ _ (fr_out q2 u v j)
  have k2 := imKP r1 A B (fun j => S1 _ _ (fr_out o3 (by decide) (by decide) j)) (f34 34 (by decide) (by decide))
  have f8 : ∀ j, h2 8 j = h 8 j := fun j => (S2 _ _ (fr_out q1 (by decide) (by decide) j)).trans (S1 _ _ (fr_out o1 (by decide) (by decide) j))
  have f110 : ∀ j, h2 110 j = h 110 j := fun j => (S2 _ _ (fr_out q3 (by decide) (by decide) j)).trans (S1 _ _ (fr_out o3 (by decide) (by decide) j))
  have g110 : ∀ j, h1 110 j = h 110 j := fun j => S1 _ _ (fr_out o3 (by decide) (by decide) j)
  have g111 : ∀ j, h1 111 j = h 111 j := fun j => S1 _ _ (fr_out o3 (by decide) (by decide) j)
  refine ⟨⟨k2.1, LW.same r2 (fun j _ => f8 j) (fun j _ _ => f110 j), fun k hk hn => ?_⟩, k2.2⟩
  by_cases w : (k : Int) = a1
  · have hk2 : a1.toNat = k := by omega
    have l := A2.1 (by omega) (by omega)
    have m := B2.1 (by omega) (by omega)
    rw [hk2] at l m
    refine LW.same (LW.copy (r' := h 110) r2 (fun _ _ => rfl) l (fun _ _ _ => rfl)) (fun j _ => f34 _ (by omega) (by omega) j) (fun j _ hj => ?_)
    rw [m j (by omega), g110]
  · have l := A2.2 k hk w
    have m := B2.2 k hk w
    have hn1 : h 34 k ≠ 0 := by
      rw [f34 34 (by decide) (by decide)] at hn
      rcases A with ⟨_, _, e⟩ | ⟨_, _, _, _, e⟩
      · rw [e] at hn; exact hn
      · rw [e k (by omega)] at hn; exact hn
    refine LW.same (r3 k hk hn1) (fun j _ => (f34 _ (by omega) (by omega) j).trans (l 7 (by decide) j)) (fun j _ hj => ?_)
    show h2 111 _ = _
    rw [m j (by omega), g111]
theorem RW.back {h h1 h2 : m_H} {cs cs' : List Nat} {ss ss' : List (Nat × Nat)} {a1 x y : Int} (R : RW h) (S1 : FR cs ss h h1) (S2 : FR cs' ss' h1 h2) (A : bkQ 34 a1 x h) (A2 : bkC a1 x h h1) (B : bkQ 112 a1 y h1) (B2 : bkM a1 y h1 h2) (o2 : out 18 34 cs ss = true) (o3 : out 110 112 cs ss = true) (q1 : out 1 8 cs' ss' = true) (q2 : out 18 34 cs' ss' = true) (q3 : out 111 112 cs' ss' = true) : RW h2 ∧ x = y := by
  obtain ⟨r1, r2, r3⟩ := R
  have e := bkE r1 A B (fun j => S1 _ _ (fr_out o3 (by decide) (by decide) j))
  have f34 : ∀ c, 18 ≤ c → c ≤ 34 → ∀ j, h2 c j = h c j := fun c u v j => (S2 _ _ (fr_out q2 u v j)).trans (S1 _ _ (fr_out o2 u v j))
  have f111 : ∀ c, 111 ≤ c → c ≤ 112 → ∀ j, h2 c j = h c j := fun c u v j => (S2 _ _ (fr_out q3 u v j)).trans (S1 _ _ (fr_out o3 (by omega) v j))
  have g8 : ∀ c, 1 ≤ c → c ≤ 8 → ∀ j, h2 c j = h1 c j := fun c u v j => S2 _ _ (fr_out q1 u v j)
  have g110 : ∀ c, 110 ≤ c → c ≤ 112 → ∀ j, h1 c j = h c j := fun c u v j => S1 _ _ (fr_out o3 u v j)
  refine ⟨⟨r1.call (f34 34 (by decide) (by decide)) (f111 112 (by decide) (by decide)), ?_, fun k hk hn => ?_⟩, e⟩
  · by_cases w : x = 0
    · obtain ⟨a, b, c⟩ := A2.1 w
      obtain ⟨_, _, d⟩ := B2.1 (by omega)
      have hn : h 34 a1.toNat ≠ 0 := by
        rcases A with ⟨_, q⟩ | ⟨_, _, _, q⟩ | ⟨_, _, q, _⟩
        · omega
        · omega
        · exact q
      refine LW.same (LW.copy (r' := fun j => h 111 (200 * a1.toNat + j)) (r3 a1.toNat (by omega) hn) (fun _ _ => rfl) c (fun _ _ _ => rfl)) (fun j _ => g8 _ (by decide) (by decide) j) (fun j _ hj => ?_)
      rw [d j (by omega), g110 111 (by decide) (by decide)]
    · refine LW.same r2 (fun j _ => (g8 _ (by decide) (by decide) j).trans (A2.2 w 7 (by decide) j)) (fun j _ _ => ?_)
      rw [B2.2 (by omega), g110 110 (by decide) (by decide)]
  · rw [f34 34 (by decide) (by decide)] at hn
    exact LW.same (r3 k hk hn) (fun j _ => f34 _ (by omega) (by omega) j) (fun j _ _ => f111 111 (by decide) (by decide) _)
theorem RW.says {h h1 : m_H} {cs : List Nat} {ss : List (Nat × Nat)} {a1 a2 a3 x y : Int} (R : RW h) (S1 : FR cs ss h h1) (A : syQ 8 a1.toNat (12 + a2).toNat a1 a2 a3 x h) (B : syQ 110 (60 + a1).toNat (72 + a2).toNat a1 a2 a3 y h1) (o3 : out 110 112 cs ss = true) : x = y := by
  have f110 : ∀ j, h1 110 j = h 110 j := fun j => S1 _ _ (fr_out o3 (by decide) (by decide) j)
  by_cases g : a1 < 0 ∨ 11 < a1 ∨ a2 < 0 ∨ 3 < a2 ∨ a3 < 0 ∨ 2 < a3
  · rcases A with ⟨_, ax⟩ | ⟨a, b, c, d, e, f, _⟩
    · rcases B with ⟨_, bx⟩ | ⟨a, b, c, d, e, f, _⟩
      · omega
      · omega
    · omega
  · rcases A with ⟨a, _⟩ | ⟨a, b, c, d, _, _, ax⟩
    · exact absurd a g
    rcases B with ⟨b, _⟩ | ⟨_, _, _, _, _, _, bx⟩
    · exact absurd b g
    have e1 := R.2.1 a1.toNat (by omega)
    have e2 := R.2.1 (12 + a2).toNat (by omega)
    have i1 : (60 + a1).toNat = 60 + a1.toNat := by omega
    have i2 : (72 + a2).toNat = 60 + (12 + a2).toNat := by omega
    rw [i1, i2, f110, f110, ← e1, ← e2] at bx
    exact ax.trans bx.symm
