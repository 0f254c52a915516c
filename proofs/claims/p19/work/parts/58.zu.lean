/-! of, exact in both -/
def lnV (c t w : Int) : Int := if c = -1 ∨ w < c then t else t + 6
abbrev P_X4_lengthIn2 (h0 : m_H) (L : Nat) (a1 a2 : Int) : Int → m_H → Prop := fun x h' => GI h' ∧ FR [] [] h0 h' ∧ 0 ≤ x ∧ x ≤ 11 ∧ lnV (h0 (L + 2) a1.toNat) a1 a2 = x
set_option maxHeartbeats 4000000 in
set_option maxRecDepth 100000 in
theorem c_X4_lengthIn2 (h0 : m_H) (L : Nat) (a1 a2 : Int) (hL : isL L) (G0 : GI h0) (pa1 : 0 ≤ a1 ∧ a1 ≤ 5) : m_CI M_X4_lengthIn [mR L, mI a1, mI a2] h0 (P_X4_lengthIn2 h0 L a1 a2) := by
  refine m_CI_of ⟨by decide, rfl, by simp [m_arg, m_isL, M_X4_lengthIn], ⟨rfl, rfl⟩, rfl, rfl⟩ (ls := [some (mR L), some (mI a1), some (mI a2), none]) rfl ?_
  refine z_ok (fun _ _ ok => ?_)
  have oa2 : m_32 a2 := ok 2 _ rfl
  unfold m_32 at oa2
  refine z_aload_n (M := M_X4_lengthIn) 0 dX4_lengthIn_0 rfl ?_
  refine z_getR (M := M_X4_lengthIn) 1 dX4_lengthIn_1 f_X4_15 (oL hL) rfl (rL_1 hL G0) ?_
  refine z_iload_n (M := M_X4_lengthIn) 4 dX4_lengthIn_4 rfl ?_
  refine z_ialdG (M := M_X4_lengthIn) 5 dX4_lengthIn_5 (oL_2 hL) (by omega) (by omega) (gL_2 hL G0 (by omega)) (fun x1 ex1 ax1 bx1 => ?_)
  refine z_istore_n (M := M_X4_lengthIn) 6 dX4_lengthIn_6 (ls' := [some (mR L), some (mI a1), some (mI a2), some (mI x1)]) (by decide) rfl ?_
  refine z_iload_n (M := M_X4_lengthIn) 7 dX4_lengthIn_7 rfl ?_
  refine z_iconst (M := M_X4_lengthIn) 8 dX4_lengthIn_8 ?_
  refine z_icmp_eq (M := M_X4_lengthIn) 9 dX4_lengthIn_9 24 rfl (fun c2 => ?_) (fun c2 => ?_)
  · refine z_iload_n (M := M_X4_lengthIn) 24 dX4_lengthIn_24 rfl ?_
    exact z_retI (M := M_X4_lengthIn) 25 dX4_lengthIn_25 rfl ⟨G0, (FR.rf (cs := []) (ss := []) (h := h0)), by omega, by omega, by rw [ex1]; unfold lnV; rw [if_pos (by omega)]⟩
  · refine z_iload_n (M := M_X4_lengthIn) 12 dX4_lengthIn_12 rfl ?_
    refine z_iload_n (M := M_X4_lengthIn) 13 dX4_lengthIn_13 rfl ?_
    refine z_icmp_lt (M := M_X4_lengthIn) 14 dX4_lengthIn_14 24 rfl (fun c3 => ?_) (fun c3 => ?_)
    · refine z_iload_n (M := M_X4_lengthIn) 24 dX4_lengthIn_24 rfl ?_
      exact z_retI (M := M_X4_lengthIn) 25 dX4_lengthIn_25 rfl ⟨G0, (FR.rf (cs := []) (ss := []) (h := h0)), by omega, by omega, by rw [ex1]; unfold lnV; rw [if_pos (by omega)]⟩
    · refine z_iload_n (M := M_X4_lengthIn) 17 dX4_lengthIn_17 rfl ?_
      refine z_bipush (M := M_X4_lengthIn) 18 dX4_lengthIn_18 ?_
      refine z_iaddN (M := M_X4_lengthIn) 20 dX4_lengthIn_20 (by omega) (by omega) ?_
      refine z_goto (M := M_X4_lengthIn) 21 dX4_lengthIn_21 25 rfl ?_
      exact z_retI (M := M_X4_lengthIn) 25 dX4_lengthIn_25 rfl ⟨G0, (FR.rf (cs := []) (ss := []) (h := h0)), by omega, by omega, by rw [ex1]; unfold lnV; rw [if_neg (by omega)]⟩
abbrev P_X4_lengthOf2 (h0 : m_H) (L : Nat) (a1 : Int) : Int → m_H → Prop := fun x h' => GI h' ∧ FR [] [] h0 h' ∧ 0 ≤ x ∧ x ≤ 11 ∧ lnV (h0 (L + 2) (h0 (L + 3) a1.toNat).toNat) (h0 (L + 3) a1.toNat) (h0 (L + 4) a1.toNat) = x
set_option maxHeartbeats 4000000 in
set_option maxRecDepth 100000 in
theorem c_X4_lengthOf2 (h0 : m_H) (L : Nat) (a1 : Int) (hL : isL L) (G0 : GI h0) (pa1 : 0 ≤ a1 ∧ a1 ≤ 23) : m_CI M_X4_lengthOf [mR L, mI a1] h0 (P_X4_lengthOf2 h0 L a1) := by
  refine m_CI_of ⟨by decide, rfl, by simp [m_arg, m_isL, M_X4_lengthOf], ⟨rfl, rfl⟩, rfl, rfl⟩ (ls := [some (mR L), some (mI a1)]) rfl ?_
  refine z_aload_n (M := M_X4_lengthOf) 0 dX4_lengthOf_0 rfl ?_
  refine z_aload_n (M := M_X4_lengthOf) 1 dX4_lengthOf_1 rfl ?_
  refine z_getR (M := M_X4_lengthOf) 2 dX4_lengthOf_2 f_X4_18 (oL hL) rfl (rL_2 hL G0) ?_
  refine z_iload_n (M := M_X4_lengthOf) 5 dX4_lengthOf_5 rfl ?_
  refine z_ialdG (M := M_X4_lengthOf) 6 dX4_lengthOf_6 (oL_3 hL) (by omega) (by omega) (gL_3 hL G0 (by omega)) (fun x1 ex1 ax1 bx1 => ?_)
  refine z_aload_n (M := M_X4_lengthOf) 7 dX4_lengthOf_7 rfl ?_
  refine z_getR (M := M_X4_lengthOf) 8 dX4_lengthOf_8 f_X4_21 (oL hL) rfl (rL_3 hL G0) ?_
  refine z_iload_n (M := M_X4_lengthOf) 11 dX4_lengthOf_11 rfl ?_
  refine z_ialdG (M := M_X4_lengthOf) 12 dX4_lengthOf_12 (oL_4 hL) (by omega) (by omega) (gL_4 hL G0 (by omega)) (fun x2 ex2 ax2 bx2 => ?_)
  refine z_vI (M := M_X4_lengthOf) 13 dX4_lengthOf_13 t_X4_lengthIn l_X4_77 (m_rr_of rfl) (rest := []) (c_X4_lengthIn2 h0 L x1 x2 hL G0 ⟨by omega, by omega⟩) (oL hL) rfl rfl rfl (Nat.le_of_ble_eq_true rfl) ⟨rfl, rfl⟩ (fun x3 h1 qx3 => ?_)
  obtain ⟨G1, S1, ax3, bx3, fx3⟩ := qx3
  have R1 := (FR.rf (cs := []) (ss := []) (h := h0)).call S1 (by decide +kernel)
  exact z_retI (M := M_X4_lengthOf) 16 dX4_lengthOf_16 rfl ⟨G1, R1, by omega, by omega, by rw [ex1, ex2]; exact fx3⟩
abbrev P_X4_isCounting2 (h0 : m_H) (L : Nat) (a1 : Int) : Int → m_H → Prop := fun x h' => GI h' ∧ FR [] [] h0 h' ∧ 0 ≤ x ∧ x ≤ 1 ∧ (x = 1 ↔ m_and (m_shr (h0 L 8) a1) 1 = 1)
set_option maxHeartbeats 4000000 in
set_option maxRecDepth 100000 in
theorem c_X4_isCounting2 (h0 : m_H) (L : Nat) (a1 : Int) (hL : isL L) (G0 : GI h0) : m_CI M_X4_isCounting [mR L, mI a1] h0 (P_X4_isCounting2 h0 L a1) := by
  refine m_CI_of ⟨by decide, rfl, by simp [m_arg, m_isL, M_X4_isCounting], ⟨rfl, rfl⟩, rfl, rfl⟩ (ls := [some (mR L), some (mI a1)]) rfl ?_
  refine z_ok (fun _ _ ok => ?_)
  have oa1 : m_32 a1 := ok 1 _ rfl
  unfold m_32 at oa1
  refine z_aload_n (M := M_X4_isCounting) 0 dX4_isCounting_0 rfl ?_
  refine z_getIV (M := M_X4_isCounting) 1 dX4_isCounting_1 f_X4_49 (oL hL) (by decide) (fun x1 ex1 => ?_)
  refine z_ok (fun ox1 _ _ => ?_)
  have ox1 := ox1.1; unfold m_ok m_32 at ox1
  refine z_iload_n (M := M_X4_isCounting) 4 dX4_isCounting_4 rfl ?_
  refine z_nI (M := M_X4_isCounting) 5 dX4_isCounting_5 t_X11_hasBit l_X4_59 (m_rr_of rfl) (rest := []) (c_X11_hasBit h0 x1 a1 G0) rfl rfl (Nat.le_of_ble_eq_true rfl) ⟨rfl, rfl⟩ (fun x2 h1 qx2 => ?_)
  obtain ⟨rfl, ⟨rfl, cx2⟩ | ⟨rfl, cx2⟩⟩ := qx2
  · exact z_retZ (M := M_X4_isCounting) 8 dX4_isCounting_8 rfl (by omega) ⟨G0, (FR.rf (cs := []) (ss := []) (h := h0)), by omega, by omega, by rw [ex1]; exact ⟨fun _ => cx2, fun _ => rfl⟩⟩
  · exact z_retZ (M := M_X4_isCounting) 8 dX4_isCounting_8 rfl (by omega) ⟨G0, (FR.rf (cs := []) (ss := []) (h := h0)), by omega, by omega, by rw [ex1]; exact ⟨fun z => absurd z (by decide), fun z => absurd z cx2⟩⟩
noncomputable def ofC (h : m_H) (e w : Int) : Int := cif (0 ≤ e ∧ e < h 1 7) (if w = 0 then h 4 e.toNat else if w = 1 then h 5 e.toNat else if w = 2 then h 6 e.toNat else if w = 3 then h 7 e.toNat else if w = 4 then cif (m_and (m_shr (h 1 8) e) 1 = 1) 1 0 else if w = 5 then lnV (h 3 (h 4 e.toNat).toNat) (h 4 e.toNat) (h 5 e.toNat) else -1) (-1)
noncomputable def ofM (r : Nat → Int) (e w : Int) : Int := cif (0 ≤ e ∧ e < r 0) (if w = 5 then lnV (r (42 + r (5 * e.toNat + 80)).toNat) (r (5 * e.toNat + 80)) (r (5 * e.toNat + 81)) else if 0 ≤ w ∧ w ≤ 4 then r (80 + 5 * e + w).toNat else -1) (-1)
abbrev P_X11_of3 (h0 : m_H) (a1 a2 : Int) : Int → m_H → Prop := fun x h' => GI h' ∧ FR [] [] h0 h' ∧ (-1) ≤ x ∧ x ≤ 99 ∧ ofC h0 a1 a2 = x
set_option maxHeartbeats 4000000 in
set_option maxRecDepth 100000 in
theorem c_X11_of3 (h0 : m_H) (a1 a2 : Int) (G0 : GI h0) : m_CI M_X11_of [mR 0, mI a1, mI a2] h0 (P_X11_of3 h0 a1 a2) := by
  refine m_CI_of ⟨by decide, rfl, by simp [m_arg, m_isL, M_X11_of], ⟨rfl, rfl⟩, rfl, rfl⟩ (ls := [some (mR 0), some (mI a1), some (mI a2)]) rfl ?_
  refine z_ok (fun _ _ ok => ?_)
  have oa1 : m_32 a1 := ok 1 _ rfl
  unfold m_32 at oa1
  have oa2 : m_32 a2 := ok 2 _ rfl
  unfold m_32 at oa2
  refine z_iload_n (M := M_X11_of) 0 dX11_of_0 rfl ?_
  refine z_iconst (M := M_X11_of) 1 dX11_of_1 ?_
  refine z_aload_n (M := M_X11_of) 2 dX11_of_2 rfl ?_
  refine z_getR (M := M_X11_of) 3 dX11_of_3 f_X11_12 o_0 rfl (g_0_0 G0) ?_
  refine z_getIG (M := M_X11_of) 6 dX11_of_6 f_X11_162 o_1 (by decide) (g_1_7 G0) (fun x1 ex1 ax1 bx1 => ?_)
  refine z_iconst (M := M_X11_of) 9 dX11_of_9 ?_
  refine z_isubN (M := M_X11_of) 10 dX11_of_10 (by omega) (by omega) ?_
  refine z_sI (M := M_X11_of) 11 dX11_of_11 t_X11_within l_X11_112 (m_rr_of rfl) (rest := []) (c_X11_within h0 a1 0 (x1 - 1) G0) rfl rfl (Nat.le_of_ble_eq_true rfl) ⟨rfl, rfl⟩ (fun x2 h1 qx2 => ?_)
  obtain ⟨rfl, ⟨rfl, cx2⟩ | ⟨rfl, cx2⟩⟩ := qx2
  · refine z_if_ne_T (M := M_X11_of) 14 dX11_of_14 19 rfl (by omega) ?_
    refine z_iload_n (M := M_X11_of) 19 dX11_of_19 rfl ?_
    by_cases c3 : a2 = 0 ∨ a2 = 1 ∨ a2 = 2 ∨ a2 = 3 ∨ a2 = 4 ∨ a2 = 5
    · rcases c3 with c3_0 | c3_1 | c3_2 | c3_3 | c3_4 | c3_5
      · refine z_tabIn (M := M_X11_of) 20 dX11_of_20 (off := 40) 60 (by omega) (by omega) (by rw [c3_0]; rfl) rfl ?_
        refine z_aload_n (M := M_X11_of) 60 dX11_of_60 rfl ?_
        refine z_getR (M := M_X11_of) 61 dX11_of_61 f_X11_12 o_0 rfl (g_0_0 G0) ?_
        refine z_getR (M := M_X11_of) 64 dX11_of_64 f_X11_172 o_1 rfl (g_1_2 G0) ?_
        refine z_iload_n (M := M_X11_of) 67 dX11_of_67 rfl ?_
        refine z_ialdG (M := M_X11_of) 68 dX11_of_68 o_4 (by omega) (by omega) (g_4 G0 (by omega)) (fun x4 ex4 ax4 bx4 => ?_)
        exact z_retI (M := M_X11_of) 69 dX11_of_69 rfl ⟨G0, (FR.rf (cs := []) (ss := []) (h := h0)), by omega, by omega, by unfold ofC; rw [cif_pos (by omega), if_pos c3_0]; exact ex4⟩
      · refine z_tabIn (M := M_X11_of) 20 dX11_of_20 (off := 50) 70 (by omega) (by omega) (by rw [c3_1]; rfl) rfl ?_
        refine z_aload_n (M := M_X11_of) 70 dX11_of_70 rfl ?_
        refine z_getR (M := M_X11_of) 71 dX11_of_71 f_X11_12 o_0 rfl (g_0_0 G0) ?_
        refine z_getR (M := M_X11_of) 74 dX11_of_74 f_X11_175 o_1 rfl (g_1_3 G0) ?_
        refine z_iload_n (M := M_X11_of) 77 dX11_of_77 rfl ?_
        refine z_ialdG (M := M_X11_of) 78 dX11_of_78 o_5 (by omega) (by omega) (g_5 G0 (by omega)) (fun x5 ex5 ax5 bx5 => ?_)
        exact z_retI (M := M_X11_of) 79 dX11_of_79 rfl ⟨G0, (FR.rf (cs := []) (ss := []) (h := h0)), by omega, by omega, by unfold ofC; rw [cif_pos (by omega), if_neg (by omega), if_pos c3_1]; exact ex5⟩
      · refine z_tabIn (M := M_X11_of) 20 dX11_of_20 (off := 60) 80 (by omega) (by omega) (by rw [c3_2]; rfl) rfl ?_
        refine z_aload_n (M := M_X11_of) 80 dX11_of_80 rfl ?_
        refine z_getR (M := M_X11_of) 81 dX11_of_81 f_X11_12 o_0 rfl (g_0_0 G0) ?_
        refine z_getR (M := M_X11_of) 84 dX11_of_84 f_X11_178 o_1 rfl (g_1_4 G0) ?_
        refine z_iload_n (M := M_X11_of) 87 dX11_of_87 rfl ?_
        refine z_ialdG (M := M_X11_of) 88 dX11_of_88 o_6 (by omega) (by omega) (g_6 G0 (by omega)) (fun x6 ex6 ax6 bx6 => ?_)
        exact z_retI (M := M_X11_of) 89 dX11_of_89 rfl ⟨G0, (FR.rf (cs := []) (ss := []) (h := h0)), by omega, by omega, by unfold ofC; rw [cif_pos (by omega), if_neg (by omega), if_neg (by omega), if_pos c3_2]; exact ex6⟩
      · refine z_tabIn (M := M_X11_of) 20 dX11_of_20 (off := 70) 90 (by omega) (by omega) (by rw [c3_3]; rfl) rfl ?_
        refine z_aload_n (M := M_X11_of) 90 dX11_of_90 rfl ?_
        refine z_getR (M := M_X11_of) 91 dX11_of_91 f_X11_12 o_0 rfl (g_0_0 G0) ?_
        refine z_getR (M := M_X11_of) 94 dX11_of_94 f_X11_181 o_1 rfl (g_1_5 G0) ?_
        refine z_iload_n (M := M_X11_of) 97 dX11_of_97 rfl ?_
        refine z_ialdG (M := M_X11_of) 98 dX11_of_98 o_7 (by omega) (by omega) (g_7 G0 (by omega)) (fun x7 ex7 ax7 bx7 => ?_)
        exact z_retI (M := M_X11_of) 99 dX11_of_99 rfl ⟨G0, (FR.rf (cs := []) (ss := []) (h := h0)), by omega, by omega, by unfold ofC; rw [cif_pos (by omega), if_neg (by omega), if_neg (by omega), if_neg (by omega), if_pos c3_3]; exact ex7⟩
      · refine z_tabIn (M := M_X11_of) 20 dX11_of_20 (off := 80) 100 (by omega) (by omega) (by rw [c3_4]; rfl) rfl ?_
        refine z_aload_n (M := M_X11_of) 100 dX11_of_100 rfl ?_
        refine z_getR (M := M_X11_of) 101 dX11_of_101 f_X11_12 o_0 rfl (g_0_0 G0) ?_
        refine z_iload_n (M := M_X11_of) 104 dX11_of_104 rfl ?_
        refine z_vI (M := M_X11_of) 105 dX11_of_105 t_X4_isCounting l_X11_165 (m_rr_of rfl) (rest := []) (c_X4_isCounting2 h0 1 a1 (Or.inl rfl) G0) o_1 rfl rfl rfl (Nat.le_of_ble_eq_true rfl) ⟨rfl, rfl⟩ (fun x8 h2 qx8 => ?_)
        obtain ⟨G2, S2, ax8, bx8, fx8⟩ := qx8
        have R2 := (FR.rf (cs := []) (ss := []) (h := h0)).call S2 (by decide +kernel)
        refine z_if_eq (M := M_X11_of) 108 dX11_of_108 115 rfl (fun c9 => ?_) (fun c9 => ?_)
        · refine z_iconst (M := M_X11_of) 115 dX11_of_115 ?_
          exact z_retI (M := M_X11_of) 116 dX11_of_116 rfl ⟨G2, R2, by omega, by omega, by unfold ofC; rw [cif_pos (by omega), if_neg (by omega), if_neg (by omega), if_neg (by omega), if_neg (by omega), if_pos c3_4, cif_neg (fun z => by have := fx8.mpr z; omega)]⟩
        · refine z_iconst (M := M_X11_of) 111 dX11_of_111 ?_
          refine z_goto (M := M_X11_of) 112 dX11_of_112 116 rfl ?_
          exact z_retI (M := M_X11_of) 116 dX11_of_116 rfl ⟨G2, R2, by omega, by omega, by unfold ofC; rw [cif_pos (by omega), if_neg (by omega), if_neg (by omega), if_neg (by omega), if_neg (by omega), if_pos c3_4, cif_pos (fx8.mp (by omega))]⟩
      · refine z_tabIn (M := M_X11_of) 20 dX11_of_20 (off := 97) 117 (by omega) (by omega) (by rw [c3_5]; rfl) rfl ?_
        refine z_aload_n (M := M_X11_of) 117 dX11_of_117 rfl ?_
        refine z_getR (M := M_X11_of) 118 dX11_of_118 f_X11_12 o_0 rfl (g_0_0 G0) ?_
        refine z_iload_n (M := M_X11_of) 121 dX11_of_121 rfl ?_
        refine z_vI (M := M_X11_of) 122 dX11_of_122 t_X4_lengthOf l_X11_184 (m_rr_of rfl) (rest := []) (c_X4_lengthOf2 h0 1 a1 (Or.inl rfl) G0 ⟨by omega, by omega⟩) o_1 rfl rfl rfl (Nat.le_of_ble_eq_true rfl) ⟨rfl, rfl⟩ (fun x10 h3 qx10 => ?_)
        obtain ⟨G3, S3, ax10, bx10, fx10⟩ := qx10
        have R3 := (FR.rf (cs := []) (ss := []) (h := h0)).call S3 (by decide +kernel)
        exact z_retI (M := M_X11_of) 125 dX11_of_125 rfl ⟨G3, R3, by omega, by omega, by unfold ofC; rw [cif_pos (by omega), if_neg (by omega), if_neg (by omega), if_neg (by omega), if_neg (by omega), if_neg (by omega), if_pos c3_5]; exact fx10⟩
    · refine z_tabOut (M := M_X11_of) 20 dX11_of_20 126 (by omega) rfl ?_
      refine z_iconst (M := M_X11_of) 126 dX11_of_126 ?_
      exact z_retI (M := M_X11_of) 127 dX11_of_127 rfl ⟨G0, (FR.rf (cs := []) (ss := []) (h := h0)), by omega, by omega, by unfold ofC; rw [cif_pos (by omega), if_neg (by omega), if_neg (by omega), if_neg (by omega), if_neg (by omega), if_neg (by omega), if_neg (by omega)]⟩
  · refine z_if_ne_F (M := M_X11_of) 14 dX11_of_14 19 rfl (by omega) ?_
    refine z_iconst (M := M_X11_of) 17 dX11_of_17 ?_
    exact z_retI (M := M_X11_of) 18 dX11_of_18 rfl ⟨G0, (FR.rf (cs := []) (ss := []) (h := h0)), by omega, by omega, by unfold ofC; rw [cif_neg (by omega)]⟩
abbrev P_X12_lengthOf2 (h0 : m_H) (a1 : Int) : Int → m_H → Prop := fun x h' => GI h' ∧ FR [] [] h0 h' ∧ 0 ≤ x ∧ x ≤ 11 ∧ lnV (h0 110 (42 + h0 110 (5 * a1.toNat + 80)).toNat) (h0 110 (5 * a1.toNat + 80)) (h0 110 (5 * a1.toNat + 81)) = x
set_option maxHeartbeats 4000000 in
set_option maxRecDepth 100000 in
theorem c_X12_lengthOf2 (h0 : m_H) (a1 : Int) (G0 : GI h0) (pa1 : 0 ≤ a1 ∧ a1 ≤ 23) : m_CI M_X12_lengthOf [mR 108, mI a1] h0 (P_X12_lengthOf2 h0 a1) := by
  refine m_CI_of ⟨by decide, rfl, by simp [m_arg, m_isL, M_X12_lengthOf], ⟨rfl, rfl⟩, rfl, rfl⟩ (ls := [some (mR 108), some (mI a1), none]) rfl ?_
  refine z_aload_n (M := M_X12_lengthOf) 0 dX12_lengthOf_0 rfl ?_
  refine z_iload_n (M := M_X12_lengthOf) 1 dX12_lengthOf_1 rfl ?_
  refine z_iconst (M := M_X12_lengthOf) 2 dX12_lengthOf_2 ?_
  refine z_vI (M := M_X12_lengthOf) 3 dX12_lengthOf_3 t_X12_ofEntry l_X12_195 (m_rr_of rfl) (rest := []) (c_X12_ofEntry h0 a1 0 G0 ⟨by omega, by omega⟩ ⟨by omega, by omega⟩) o_108 rfl rfl rfl (Nat.le_of_ble_eq_true rfl) ⟨rfl, rfl⟩ (fun x1 h1 qx1 => ?_)
  obtain ⟨rfl, fx1⟩ := qx1
  have gx1 := gw_e0 G0 (i := (80 + 5 * a1 + 0)) (e := a1) (by omega) (by omega) (by omega)
  rw [fx1] at gx1
  have kx1 : h0 110 (5 * a1.toNat + 80) = x1 := by rw [← fx1, show (80 + 5 * a1 + 0).toNat = 5 * a1.toNat + 80 by omega]
  refine z_istore_n (M := M_X12_lengthOf) 6 dX12_lengthOf_6 (ls' := [some (mR 108), some (mI a1), some (mI x1)]) (by decide) rfl ?_
  refine z_aload_n (M := M_X12_lengthOf) 7 dX12_lengthOf_7 rfl ?_
  refine z_getR (M := M_X12_lengthOf) 8 dX12_lengthOf_8 f_X12_13 o_108 rfl (g_108_3 G0) ?_
  refine z_bipush (M := M_X12_lengthOf) 11 dX12_lengthOf_11 ?_
  refine z_iload_n (M := M_X12_lengthOf) 13 dX12_lengthOf_13 rfl ?_
  refine z_iaddN (M := M_X12_lengthOf) 14 dX12_lengthOf_14 (by omega) (by omega) ?_
  refine z_ialdG (M := M_X12_lengthOf) 15 dX12_lengthOf_15 o_110 (by omega) (by omega) (gw_c G0 (by omega) (by omega)) (fun x2 ex2 ax2 bx2 => ?_)
  refine z_iconst (M := M_X12_lengthOf) 16 dX12_lengthOf_16 ?_
  refine z_icmp_eq (M := M_X12_lengthOf) 17 dX12_lengthOf_17 45 rfl (fun c3 => ?_) (fun c3 => ?_)
  · refine z_iload_n (M := M_X12_lengthOf) 45 dX12_lengthOf_45 rfl ?_
    exact z_retI (M := M_X12_lengthOf) 46 dX12_lengthOf_46 rfl ⟨G0, (FR.rf (cs := []) (ss := []) (h := h0)), by omega, by omega, by rw [kx1, ex2]; unfold lnV; rw [if_pos (by omega)]⟩
  · refine z_aload_n (M := M_X12_lengthOf) 20 dX12_lengthOf_20 rfl ?_
    refine z_iload_n (M := M_X12_lengthOf) 21 dX12_lengthOf_21 rfl ?_
    refine z_iconst (M := M_X12_lengthOf) 22 dX12_lengthOf_22 ?_
    refine z_vI (M := M_X12_lengthOf) 23 dX12_lengthOf_23 t_X12_ofEntry l_X12_195 (m_rr_of rfl) (rest := []) (c_X12_ofEntry h0 a1 1 G0 ⟨by omega, by omega⟩ ⟨by omega, by omega⟩) o_108 rfl rfl rfl (Nat.le_of_ble_eq_true rfl) ⟨rfl, rfl⟩ (fun x4 h2 qx4 => ?_)
    obtain ⟨rfl, fx4⟩ := qx4
    have gx4 := gw_e1 G0 (i := (80 + 5 * a1 + 1)) (e := a1) (by omega) (by omega) (by omega)
    rw [fx4] at gx4
    have kx4 : h0 110 (5 * a1.toNat + 81) = x4 := by rw [← fx4, show (80 + 5 * a1 + 1).toNat = 5 * a1.toNat + 81 by omega]
    refine z_aload_n (M := M_X12_lengthOf) 26 dX12_lengthOf_26 rfl ?_
    refine z_getR (M := M_X12_lengthOf) 27 dX12_lengthOf_27 f_X12_13 o_108 rfl (g_108_3 G0) ?_
    refine z_bipush (M := M_X12_lengthOf) 30 dX12_lengthOf_30 ?_
    refine z_iload_n (M := M_X12_lengthOf) 32 dX12_lengthOf_32 rfl ?_
    refine z_iaddN (M := M_X12_lengthOf) 33 dX12_lengthOf_33 (by omega) (by omega) ?_
    refine z_ialdE (M := M_X12_lengthOf) 34 dX12_lengthOf_34 o_110 (by omega) (by omega) ex2 ?_
    refine z_icmp_lt (M := M_X12_lengthOf) 35 dX12_lengthOf_35 45 rfl (fun c5 => ?_) (fun c5 => ?_)
    · refine z_iload_n (M := M_X12_lengthOf) 45 dX12_lengthOf_45 rfl ?_
      exact z_retI (M := M_X12_lengthOf) 46 dX12_lengthOf_46 rfl ⟨G0, (FR.rf (cs := []) (ss := []) (h := h0)), by omega, by omega, by rw [kx1, ex2, kx4]; unfold lnV; rw [if_pos (by omega)]⟩
    · refine z_bipush (M := M_X12_lengthOf) 38 dX12_lengthOf_38 ?_
      refine z_iload_n (M := M_X12_lengthOf) 40 dX12_lengthOf_40 rfl ?_
      refine z_iaddN (M := M_X12_lengthOf) 41 dX12_lengthOf_41 (by omega) (by omega) ?_
      refine z_goto (M := M_X12_lengthOf) 42 dX12_lengthOf_42 46 rfl ?_
      exact z_retI (M := M_X12_lengthOf) 46 dX12_lengthOf_46 rfl ⟨G0, (FR.rf (cs := []) (ss := []) (h := h0)), by omega, by omega, by rw [kx1, ex2, kx4]; unfold lnV; rw [if_neg (by omega)]; omega⟩
abbrev P_X12_of3 (h0 : m_H) (a1 a2 : Int) : Int → m_H → Prop := fun x h' => GI h' ∧ FR [] [(108, 0)] h0 h' ∧ (-1) ≤ x ∧ x ≤ 99 ∧ ofM (h0 110) a1 a2 = x
set_option maxHeartbeats 4000000 in
set_option maxRecDepth 100000 in
theorem c_X12_of3 (h0 : m_H) (a1 a2 : Int) (G0 : GI h0) : m_CI M_X12_of [mR 108, mI a1, mI a2] h0 (P_X12_of3 h0 a1 a2) := by
  refine m_CI_of ⟨by decide, rfl, by simp [m_arg, m_isL, M_X12_of], ⟨rfl, rfl⟩, rfl, rfl⟩ (ls := [some (mR 108), some (mI a1), some (mI a2)]) rfl ?_
  refine z_ok (fun _ _ ok => ?_)
  have oa1 : m_32 a1 := ok 1 _ rfl
  unfold m_32 at oa1
  have oa2 : m_32 a2 := ok 2 _ rfl
  unfold m_32 at oa2
  refine z_aload_n (M := M_X12_of) 0 dX12_of_0 rfl ?_
  refine z_iconst (M := M_X12_of) 1 dX12_of_1 ?_
  refine z_putIH (M := M_X12_of) 2 dX12_of_2 p_X12_133 o_108 rfl (u_108_0 G0) ((FR.rf (cs := []) (ss := [(108, 0)]) (h := h0)).up rfl) (fun h1 E1 G1 R1 => ?_)
  have row_ : h1 110 = h0 110 := tl_r E1 (by decide)
  have q0_ : h1 110 (0 : Int).toNat = h1 110 0 := rfl
  have g0_ := gw_0 G1
  refine z_aload_n (M := M_X12_of) 5 dX12_of_5 rfl ?_
  refine z_iload_n (M := M_X12_of) 6 dX12_of_6 rfl ?_
  refine z_vI (M := M_X12_of) 7 dX12_of_7 t_X12_isEntry l_X12_192 (m_rr_of rfl) (rest := []) (c_X12_isEntry h1 a1 G1) o_108 rfl rfl rfl (Nat.le_of_ble_eq_true rfl) ⟨rfl, rfl⟩ (fun x1 h2 qx1 => ?_)
  obtain ⟨rfl, ⟨rfl, cx1⟩ | ⟨rfl, cx1⟩⟩ := qx1
  · refine z_if_eq_F (M := M_X12_of) 10 dX12_of_10 25 rfl (by omega) ?_
    refine z_iload_n (M := M_X12_of) 13 dX12_of_13 rfl ?_
    refine z_i2l (M := M_X12_of) 14 dX12_of_14 ?_
    refine z_lconst (M := M_X12_of) 15 dX12_of_15 (v := 0) ?_
    refine z_ldc2 (M := M_X12_of) 16 dX12_of_16 k_X12_150 ?_
    refine z_sI (M := M_X12_of) 19 dX12_of_19 t_X12_in l_X12_143 (m_rr_of rfl) (rest := []) (c_X12_in h1 a2 0 5 G1) rfl rfl (Nat.le_of_ble_eq_true rfl) ⟨rfl, rfl⟩ (fun x2 h3 qx2 => ?_)
    obtain ⟨rfl, ⟨rfl, cx2⟩ | ⟨rfl, cx2⟩⟩ := qx2
    · refine z_if_ne_T (M := M_X12_of) 22 dX12_of_22 27 rfl (by omega) ?_
      refine z_iload_n (M := M_X12_of) 27 dX12_of_27 rfl ?_
      refine z_iconst (M := M_X12_of) 28 dX12_of_28 ?_
      refine z_icmp_ne (M := M_X12_of) 29 dX12_of_29 40 rfl (fun c3 => ?_) (fun c3 => ?_)
      · refine z_aload_n (M := M_X12_of) 40 dX12_of_40 rfl ?_
        refine z_iload_n (M := M_X12_of) 41 dX12_of_41 rfl ?_
        refine z_iload_n (M := M_X12_of) 42 dX12_of_42 rfl ?_
        refine z_vI (M := M_X12_of) 43 dX12_of_43 t_X12_ofEntry l_X12_195 (m_rr_of rfl) (rest := []) (c_X12_ofEntry h1 a1 a2 G1 ⟨by omega, by omega⟩ ⟨by omega, by omega⟩) o_108 rfl rfl rfl (Nat.le_of_ble_eq_true rfl) ⟨rfl, rfl⟩ (fun x4 h4 qx4 => ?_)
        obtain ⟨rfl, fx4⟩ := qx4
        have gx4 := gw_e G1 (i := (80 + 5 * a1 + a2)) (by omega) (by omega)
        rw [fx4] at gx4
        exact z_retI (M := M_X12_of) 46 dX12_of_46 rfl ⟨G1, R1, by omega, by omega, by unfold ofM; rw [← row_, cif_pos (by omega), if_neg (by omega), if_pos (by omega)]; exact fx4⟩
      · refine z_aload_n (M := M_X12_of) 32 dX12_of_32 rfl ?_
        refine z_iload_n (M := M_X12_of) 33 dX12_of_33 rfl ?_
        refine z_vI (M := M_X12_of) 34 dX12_of_34 t_X12_lengthOf l_X12_198 (m_rr_of rfl) (rest := []) (c_X12_lengthOf2 h1 a1 G1 ⟨by omega, by omega⟩) o_108 rfl rfl rfl (Nat.le_of_ble_eq_true rfl) ⟨rfl, rfl⟩ (fun x5 h5 qx5 => ?_)
        obtain ⟨G5, S5, ax5, bx5, fx5⟩ := qx5
        have R5 := R1.call S5 (by decide +kernel)
        refine z_goto (M := M_X12_of) 37 dX12_of_37 46 rfl ?_
        exact z_retI (M := M_X12_of) 46 dX12_of_46 rfl ⟨G5, R5, by omega, by omega, by unfold ofM; rw [← row_, cif_pos (by omega), if_pos (by omega)]; exact fx5⟩
    · refine z_if_ne_F (M := M_X12_of) 22 dX12_of_22 27 rfl (by omega) ?_
      refine z_iconst (M := M_X12_of) 25 dX12_of_25 ?_
      exact z_retI (M := M_X12_of) 26 dX12_of_26 rfl ⟨G1, R1, by omega, by omega, by unfold ofM; rw [← row_, cif_pos (by omega), if_neg (by omega), if_neg (by omega)]⟩
  · refine z_if_eq_T (M := M_X12_of) 10 dX12_of_10 25 rfl (by omega) ?_
    refine z_iconst (M := M_X12_of) 25 dX12_of_25 ?_
    exact z_retI (M := M_X12_of) 26 dX12_of_26 rfl ⟨G1, R1, by omega, by omega, by unfold ofM; rw [← row_, cif_neg (by omega)]⟩
theorem of_eq {h : m_H} {e w : Int} (R : LR 1 h (h 110)) (G : GI h) : ofC h e w = ofM (h 110) e w := by
  obtain ⟨b, k, c, wd, n, q, cb, sb⟩ := R
  obtain ⟨b1, b2, b3, b4⟩ := b
  unfold ofC ofM
  by_cases g : 0 ≤ e ∧ e < h 110 0
  · have lt : ((e.toNat : Nat) : Int) < h 110 0 := by omega
    obtain ⟨q1, q2, q3, q4⟩ := q e.toNat lt
    have he : e = ((e.toNat : Nat) : Int) := by omega
    have q1' : h 4 e.toNat = h 110 (5 * e.toNat + 80) := q1
    have q2' : h 5 e.toNat = h 110 (5 * e.toNat + 81) := q2
    have q3' : h 6 e.toNat = h 110 (5 * e.toNat + 82) := q3
    have q4' : h 7 e.toNat = h 110 (5 * e.toNat + 83) := q4
    have gn := gw_n G (e := e.toNat) (by omega)
    have g4 := gw_e4 G (i := 80 + 5 * e + 4) (e := e) rfl (by omega) (by omega)
    have i4 : (80 + 5 * e + 4).toNat = 5 * e.toNat + 84 := by omega
    rw [i4] at g4
    rw [cif_pos (show 0 ≤ e ∧ e < h 1 7 by omega), cif_pos g]
    by_cases w0 : w = 0
    · rw [if_pos w0, if_neg (by omega), if_pos (by omega), q1', show (80 + 5 * e + w).toNat = 5 * e.toNat + 80 by omega]
    by_cases w1 : w = 1
    · rw [if_neg w0, if_pos w1, if_neg (by omega), if_pos (by omega), q2', show (80 + 5 * e + w).toNat = 5 * e.toNat + 81 by omega]
    by_cases w2 : w = 2
    · rw [if_neg w0, if_neg w1, if_pos w2, if_neg (by omega), if_pos (by omega), q3', show (80 + 5 * e + w).toNat = 5 * e.toNat + 82 by omega]
    by_cases w3 : w = 3
    · rw [if_neg w0, if_neg w1, if_neg w2, if_pos w3, if_neg (by omega), if_pos (by omega), q4', show (80 + 5 * e + w).toNat = 5 * e.toNat + 83 by omega]
    by_cases w4 : w = 4
    · rw [if_neg w0, if_neg w1, if_neg w2, if_neg w3, if_pos w4, if_neg (by omega), if_pos (by omega), show (80 + 5 * e + w).toNat = 5 * e.toNat + 84 by omega]
      have z := cb e.toNat (by omega)
      have y : m_and (m_shr (h 1 8) e) 1 = 1 ↔ h 110 (5 * e.toNat + 84) = 1 := by
        rw [he, hasBit_iff (by omega), Int.toNat_natCast, z]
        exact ⟨fun u => u.2, fun u => ⟨lt, u⟩⟩
      by_cases v : h 110 (5 * e.toNat + 84) = 1
      · rw [cif_pos (y.mpr v), v]
      · rw [cif_neg (fun u => v (y.mp u))]; omega
    by_cases w5 : w = 5
    · rw [if_neg w0, if_neg w1, if_neg w2, if_neg w3, if_neg w4, if_pos w5, if_pos w5, q1', q2']
      have cc := c (h 110 (5 * e.toNat + 80)).toNat (by omega)
      have cc' : h 3 (h 110 (5 * e.toNat + 80)).toNat = h 110 (42 + (h 110 (5 * e.toNat + 80)).toNat) := cc
      rw [cc', show (42 + h 110 (5 * e.toNat + 80)).toNat = 42 + (h 110 (5 * e.toNat + 80)).toNat by omega]
    rw [if_neg w0, if_neg w1, if_neg w2, if_neg w3, if_neg w4, if_neg w5, if_neg w5, if_neg (by omega)]
  · rw [cif_neg (by omega), cif_neg g]
theorem LX.of {h h1 : m_H} {e w x y : Int} {cs : List Nat} {ss : List (Nat × Nat)} (R : LX h) (G : GI h) (S1 : FR cs ss h h1) (A : ofC h e w = x) (B : ofM (h1 110) e w = y) (o : out 110 110 cs ss = true) : x = y := by
  rw [rowz S1 (fr_out o (by decide) (by decide))] at B
  rw [← A, ← B]; exact of_eq R.2.1 G
