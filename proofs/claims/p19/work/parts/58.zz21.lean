/-! the class's limits in the heap -/
def bd (h : m_H) (c : Nat) : Int × Int × Int := (h c 0, h c 1, h c 2)
def bN (b : Nat) (v : Int × Int × Int) (h h' : m_H) : Prop := (∀ c, c ≠ b → h' c = h c) ∧ bd h' b = v
theorem bN_put {h h1 h2 h3 : m_H} {b : Nat} {x y z : Int} (E1 : h1 = m_up h b 0 x) (E2 : h2 = m_up h1 b 1 y) (E3 : h3 = m_up h2 b 2 z) : bN b (x, y, z) h h3 := by
  refine ⟨fun c q => ?_, ?_⟩
  · rw [E3, m_up_row q, E2, m_up_row q, E1, m_up_row q]
  · have a0 : h3 b 0 = x := by rw [upN E3 (by simp), upN E2 (by simp), upE E1]
    have a1 : h3 b 1 = y := by rw [upN E3 (by simp), upE E2]
    have a2 : h3 b 2 = z := upE E3
    unfold bd
    rw [a0, a1, a2]
theorem ls_yes {h h' : m_H} {b : Nat} {a1 a2 a3 x1 x2 x3 x4 : Int} (e1 : h b 0 = x1) (e3 : h b 1 = x3) (e2 : x1 * a2 = x2) (e4 : a1 * x3 = x4) (c : x4 < x2 ∨ (x4 = x2 ∧ a3 = 1)) (B : bN b (a1, a2, a3) h h') : bN b (lsB (bd h b) (a1, a2, a3)) h h' := by
  have e : lsB (bd h b) (a1, a2, a3) = (a1, a2, a3) := by
    unfold lsB bd
    refine if_pos ?_
    show a1 * h b 1 < h b 0 * a2 ∨ (a1 * h b 1 = h b 0 * a2 ∧ a3 = 1)
    rw [e1, e3, e2, e4]; exact c
  rw [e]; exact B
theorem ls_no {h : m_H} {b : Nat} {a1 a2 a3 x1 x2 x3 x4 : Int} (e1 : h b 0 = x1) (e3 : h b 1 = x3) (e2 : x1 * a2 = x2) (e4 : a1 * x3 = x4) (c : ¬ (x4 < x2 ∨ (x4 = x2 ∧ a3 = 1))) : bN b (lsB (bd h b) (a1, a2, a3)) h h := by
  have e : lsB (bd h b) (a1, a2, a3) = bd h b := by
    unfold lsB bd
    refine if_neg ?_
    show ¬ (a1 * h b 1 < h b 0 * a2 ∨ (a1 * h b 1 = h b 0 * a2 ∧ a3 = 1))
    rw [e1, e3, e2, e4]; exact c
  rw [e]; exact ⟨fun _ _ => rfl, rfl⟩
def bl1 (v : Int × Int × Int) : Prop := v.2.1 ≠ 0 ∧ (v.1 < v.2.1 ∨ (v.1 = v.2.1 ∧ v.2.2 = 1))
def ctr (u v : Int × Int × Int) : Prop := u.1 * v.1 < u.2.1 * v.2.1 ∨ (u.1 * v.1 = u.2.1 * v.2.1 ∧ (u.2.2 = 1 ∨ v.2.2 = 1))
abbrev P_X2_clear2 (h0 : m_H) (b : Nat) : m_H → Prop := fun h' => GI h' ∧ FR (csB ++ []) [] h0 h' ∧ bN b (1, 0, 1) h0 h'
set_option maxHeartbeats 4000000 in
set_option maxRecDepth 100000 in
theorem c_X2_clear2 (h0 : m_H) (b : Nat) (hb : isB b) (G0 : GI h0) : m_CV M_X2_clear [mR b] h0 (P_X2_clear2 h0 b) := by
  refine m_CV_of ⟨by decide, rfl, by simp [m_arg, m_isL, M_X2_clear], ⟨rfl, rfl⟩, rfl, rfl⟩ (ls := [some (mR b)]) rfl ?_
  refine z_aload_n (M := M_X2_clear) 0 dX2_clear_0 rfl ?_
  refine z_lconst (M := M_X2_clear) 1 dX2_clear_1 (v := 1) ?_
  refine z_putJH (M := M_X2_clear) 2 dX2_clear_2 p_X2_7 (oB hb) rfl (uB0 hb G0) ((FR.rf (cs := (csB ++ [])) (ss := []) (h := h0)).up (frB hb)) (fun h1 E1 G1 R1 => ?_)
  refine z_aload_n (M := M_X2_clear) 5 dX2_clear_5 rfl ?_
  refine z_lconst (M := M_X2_clear) 6 dX2_clear_6 (v := 0) ?_
  refine z_putJH (M := M_X2_clear) 7 dX2_clear_7 p_X2_13 (oB hb) rfl (uB1 hb G1) (R1.up (frB hb)) (fun h2 E2 G2 R2 => ?_)
  refine z_aload_n (M := M_X2_clear) 10 dX2_clear_10 rfl ?_
  refine z_iconst (M := M_X2_clear) 11 dX2_clear_11 ?_
  refine z_putZH (M := M_X2_clear) 12 dX2_clear_12 p_X2_16 (oB hb) rfl (by omega) (uB2 hb G2 (by omega) (by omega)) (R2.up (frB hb)) (fun h3 E3 G3 R3 => ?_)
  exact z_retV (M := M_X2_clear) 15 dX2_clear_15 rfl ⟨G3, R3, bN_put E1 E2 E3⟩
abbrev P_X2_put2 (h0 : m_H) (b : Nat) (a1 a2 a3 : Int) : m_H → Prop := fun h' => GI h' ∧ FR (csB ++ []) [] h0 h' ∧ bN b (a1, a2, a3) h0 h'
set_option maxHeartbeats 4000000 in
set_option maxRecDepth 100000 in
theorem c_X2_put2 (h0 : m_H) (b : Nat) (a1 a2 a3 : Int) (hb : isB b) (G0 : GI h0) (pa3 : 0 ≤ a3 ∧ a3 ≤ 1) : m_CV M_X2_put [mR b, mJ a1, mJ a2, mI a3] h0 (P_X2_put2 h0 b a1 a2 a3) := by
  refine m_CV_of ⟨by decide, rfl, by simp [m_arg, m_isL, M_X2_put], ⟨rfl, rfl⟩, rfl, rfl⟩ (ls := [some (mR b), some (mJ a1), none, some (mJ a2), none, some (mI a3)]) rfl ?_
  refine z_aload_n (M := M_X2_put) 0 dX2_put_0 rfl ?_
  refine z_lload_n (M := M_X2_put) 1 dX2_put_1 rfl ?_
  refine z_putJH (M := M_X2_put) 2 dX2_put_2 p_X2_7 (oB hb) rfl (uB0 hb G0) ((FR.rf (cs := (csB ++ [])) (ss := []) (h := h0)).up (frB hb)) (fun h1 E1 G1 R1 => ?_)
  refine z_aload_n (M := M_X2_put) 5 dX2_put_5 rfl ?_
  refine z_lload_n (M := M_X2_put) 6 dX2_put_6 rfl ?_
  refine z_putJH (M := M_X2_put) 7 dX2_put_7 p_X2_13 (oB hb) rfl (uB1 hb G1) (R1.up (frB hb)) (fun h2 E2 G2 R2 => ?_)
  refine z_aload_n (M := M_X2_put) 10 dX2_put_10 rfl ?_
  refine z_iload (M := M_X2_put) 11 dX2_put_11 rfl ?_
  refine z_putZH (M := M_X2_put) 13 dX2_put_13 p_X2_16 (oB hb) rfl (by omega) (uB2 hb G2 (by omega) (by omega)) (R2.up (frB hb)) (fun h3 E3 G3 R3 => ?_)
  exact z_retV (M := M_X2_put) 16 dX2_put_16 rfl ⟨G3, R3, bN_put E1 E2 E3⟩
abbrev P_X2_lessen2 (h0 : m_H) (b : Nat) (a1 a2 a3 : Int) : m_H → Prop := fun h' => GI h' ∧ FR (csB ++ []) [] h0 h' ∧ bN b (lsB (bd h0 b) (a1, a2, a3)) h0 h'
set_option maxHeartbeats 4000000 in
set_option maxRecDepth 100000 in
theorem c_X2_lessen2 (h0 : m_H) (b : Nat) (a1 a2 a3 : Int) (hb : isB b) (G0 : GI h0) (pa3 : 0 ≤ a3 ∧ a3 ≤ 1) (q1 : 0 ≤ h0 b 0 ∧ h0 b 0 ≤ 3000000000) (q2 : 0 ≤ h0 b 1 ∧ h0 b 1 ≤ 3000000000) (q3 : 0 ≤ a1 ∧ a1 ≤ 3000000000) (q4 : 0 ≤ a2 ∧ a2 ≤ 3000000000) : m_CV M_X2_lessen [mR b, mJ a1, mJ a2, mI a3] h0 (P_X2_lessen2 h0 b a1 a2 a3) := by
  refine m_CV_of ⟨by decide, rfl, by simp [m_arg, m_isL, M_X2_lessen], ⟨rfl, rfl⟩, rfl, rfl⟩ (ls := [some (mR b), some (mJ a1), none, some (mJ a2), none, some (mI a3), none, none, none, none]) rfl ?_
  refine z_aload_n (M := M_X2_lessen) 0 dX2_lessen_0 rfl ?_
  refine z_getJV (M := M_X2_lessen) 1 dX2_lessen_1 f_X2_7 (oB hb) rfl (fun x1 ex1 => ?_)
  rw [ex1] at q1
  refine z_lload_n (M := M_X2_lessen) 4 dX2_lessen_4 rfl ?_
  have mx2 := mul_bd (x := x1) (y := a2) (X := 3000000000) (Y := 3000000000) (by omega) (by omega) (by omega) (by omega)
  refine z_lmulN (M := M_X2_lessen) 5 dX2_lessen_5 (by omega) (by omega) ?_
  refine z_topBJ (lo := 0) (hi := 3000000000 * 3000000000) ⟨by omega, by omega⟩ (fun x2 ex2 ax2 bx2 => ?_)
  refine z_lstore (M := M_X2_lessen) 6 dX2_lessen_6 (ls' := [some (mR b), some (mJ a1), none, some (mJ a2), none, some (mI a3), some (mJ x2), none, none, none]) (by decide) rfl ?_
  refine z_lload_n (M := M_X2_lessen) 8 dX2_lessen_8 rfl ?_
  refine z_aload_n (M := M_X2_lessen) 9 dX2_lessen_9 rfl ?_
  refine z_getJV (M := M_X2_lessen) 10 dX2_lessen_10 f_X2_13 (oB hb) rfl (fun x3 ex3 => ?_)
  rw [ex3] at q2
  have mx4 := mul_bd (x := a1) (y := x3) (X := 3000000000) (Y := 3000000000) (by omega) (by omega) (by omega) (by omega)
  refine z_lmulN (M := M_X2_lessen) 13 dX2_lessen_13 (by omega) (by omega) ?_
  refine z_topBJ (lo := 0) (hi := 3000000000 * 3000000000) ⟨by omega, by omega⟩ (fun x4 ex4 ax4 bx4 => ?_)
  refine z_lstore (M := M_X2_lessen) 14 dX2_lessen_14 (ls' := [some (mR b), some (mJ a1), none, some (mJ a2), none, some (mI a3), some (mJ x2), none, some (mJ x4), none]) (by decide) rfl ?_
  refine z_lload (M := M_X2_lessen) 16 dX2_lessen_16 rfl ?_
  refine z_lload (M := M_X2_lessen) 18 dX2_lessen_18 rfl ?_
  refine z_lcmp (M := M_X2_lessen) 20 dX2_lessen_20 ?_
  refine z_if_lt (M := M_X2_lessen) 21 dX2_lessen_21 37 rfl (fun c5 => ?_) (fun c5 => ?_)
  · rw [m_cmp_lt] at c5
    refine z_aload_n (M := M_X2_lessen) 37 dX2_lessen_37 rfl ?_
    refine z_lload_n (M := M_X2_lessen) 38 dX2_lessen_38 rfl ?_
    refine z_lload_n (M := M_X2_lessen) 39 dX2_lessen_39 rfl ?_
    refine z_iload (M := M_X2_lessen) 40 dX2_lessen_40 rfl ?_
    refine z_vV (M := M_X2_lessen) 42 dX2_lessen_42 t_X2_put l_X2_20 (m_rr_of rfl) (rest := []) (c_X2_put2 h0 b a1 a2 a3 hb G0 ⟨by omega, by omega⟩) (oB hb) rfl rfl rfl (Nat.le_of_ble_eq_true rfl) ⟨rfl, rfl⟩ (fun h1 qx6 => ?_)
    obtain ⟨G1, S1, B1⟩ := qx6
    have R1 := (FR.rf (cs := (csB ++ [])) (ss := []) (h := h0)).call S1 (by decide +kernel)
    exact z_retV (M := M_X2_lessen) 45 dX2_lessen_45 rfl ⟨G1, R1, ls_yes ex1 ex3 ex2 ex4 (Or.inl c5) B1⟩
  · rw [m_cmp_lt] at c5
    refine z_lload (M := M_X2_lessen) 24 dX2_lessen_24 rfl ?_
    refine z_lload (M := M_X2_lessen) 26 dX2_lessen_26 rfl ?_
    refine z_lcmp (M := M_X2_lessen) 28 dX2_lessen_28 ?_
    refine z_if_ne (M := M_X2_lessen) 29 dX2_lessen_29 45 rfl (fun c7 => ?_) (fun c7 => ?_)
    · rw [m_cmp_eq] at c7
      exact z_retV (M := M_X2_lessen) 45 dX2_lessen_45 rfl ⟨G0, (FR.rf (cs := (csB ++ [])) (ss := []) (h := h0)), ls_no ex1 ex3 ex2 ex4 (fun z => by omega)⟩
    · rw [m_cmp_eq] at c7
      refine z_iload (M := M_X2_lessen) 32 dX2_lessen_32 rfl ?_
      refine z_if_eq (M := M_X2_lessen) 34 dX2_lessen_34 45 rfl (fun c8 => ?_) (fun c8 => ?_)
      · exact z_retV (M := M_X2_lessen) 45 dX2_lessen_45 rfl ⟨G0, (FR.rf (cs := (csB ++ [])) (ss := []) (h := h0)), ls_no ex1 ex3 ex2 ex4 (fun z => by omega)⟩
      · refine z_aload_n (M := M_X2_lessen) 37 dX2_lessen_37 rfl ?_
        refine z_lload_n (M := M_X2_lessen) 38 dX2_lessen_38 rfl ?_
        refine z_lload_n (M := M_X2_lessen) 39 dX2_lessen_39 rfl ?_
        refine z_iload (M := M_X2_lessen) 40 dX2_lessen_40 rfl ?_
        refine z_vV (M := M_X2_lessen) 42 dX2_lessen_42 t_X2_put l_X2_20 (m_rr_of rfl) (rest := []) (c_X2_put2 h0 b a1 a2 a3 hb G0 ⟨by omega, by omega⟩) (oB hb) rfl rfl rfl (Nat.le_of_ble_eq_true rfl) ⟨rfl, rfl⟩ (fun h2 qx9 => ?_)
        obtain ⟨G2, S2, B2⟩ := qx9
        have R2 := (FR.rf (cs := (csB ++ [])) (ss := []) (h := h0)).call S2 (by decide +kernel)
        exact z_retV (M := M_X2_lessen) 45 dX2_lessen_45 rfl ⟨G2, R2, ls_yes ex1 ex3 ex2 ex4 (Or.inr ⟨c7, by omega⟩) B2⟩
abbrev P_X2_isBelowOne2 (h0 : m_H) (b : Nat) : Int → m_H → Prop := fun x h' => GI h' ∧ FR [] [] h0 h' ∧ 0 ≤ x ∧ x ≤ 1 ∧ (x = 1 ↔ bl1 (bd h0 b))
set_option maxHeartbeats 4000000 in
set_option maxRecDepth 100000 in
theorem c_X2_isBelowOne2 (h0 : m_H) (b : Nat) (hb : isB b) (G0 : GI h0) : m_CI M_X2_isBelowOne [mR b] h0 (P_X2_isBelowOne2 h0 b) := by
  refine m_CI_of ⟨by decide, rfl, by simp [m_arg, m_isL, M_X2_isBelowOne], ⟨rfl, rfl⟩, rfl, rfl⟩ (ls := [some (mR b)]) rfl ?_
  refine z_aload_n (M := M_X2_isBelowOne) 0 dX2_isBelowOne_0 rfl ?_
  refine z_getJV (M := M_X2_isBelowOne) 1 dX2_isBelowOne_1 f_X2_13 (oB hb) rfl (fun x1 ex1 => ?_)
  refine z_lconst (M := M_X2_isBelowOne) 4 dX2_isBelowOne_4 (v := 0) ?_
  refine z_lcmp (M := M_X2_isBelowOne) 5 dX2_isBelowOne_5 ?_
  refine z_if_eq (M := M_X2_isBelowOne) 6 dX2_isBelowOne_6 44 rfl (fun c2 => ?_) (fun c2 => ?_)
  · rw [m_cmp_eq] at c2
    refine z_iconst (M := M_X2_isBelowOne) 44 dX2_isBelowOne_44 ?_
    exact z_retZ (M := M_X2_isBelowOne) 45 dX2_isBelowOne_45 rfl (by omega) ⟨G0, (FR.rf (cs := []) (ss := []) (h := h0)), by omega, by omega, ⟨fun z => absurd z (by decide), fun z => by unfold bl1 bd at z; simp only [ex1] at z; omega⟩⟩
  · rw [m_cmp_eq] at c2
    refine z_aload_n (M := M_X2_isBelowOne) 9 dX2_isBelowOne_9 rfl ?_
    refine z_getJV (M := M_X2_isBelowOne) 10 dX2_isBelowOne_10 f_X2_7 (oB hb) rfl (fun x3 ex3 => ?_)
    refine z_aload_n (M := M_X2_isBelowOne) 13 dX2_isBelowOne_13 rfl ?_
    refine z_getJE (M := M_X2_isBelowOne) 14 dX2_isBelowOne_14 f_X2_13 (oB hb) rfl ex1 ?_
    refine z_lcmp (M := M_X2_isBelowOne) 17 dX2_isBelowOne_17 ?_
    refine z_if_lt (M := M_X2_isBelowOne) 18 dX2_isBelowOne_18 40 rfl (fun c4 => ?_) (fun c4 => ?_)
    · rw [m_cmp_lt] at c4
      refine z_iconst (M := M_X2_isBelowOne) 40 dX2_isBelowOne_40 ?_
      refine z_goto (M := M_X2_isBelowOne) 41 dX2_isBelowOne_41 45 rfl ?_
      exact z_retZ (M := M_X2_isBelowOne) 45 dX2_isBelowOne_45 rfl (by omega) ⟨G0, (FR.rf (cs := []) (ss := []) (h := h0)), by omega, by omega, ⟨fun _ => by unfold bl1 bd; simp only [ex1, ex3]; omega, fun _ => rfl⟩⟩
    · rw [m_cmp_lt] at c4
      refine z_aload_n (M := M_X2_isBelowOne) 21 dX2_isBelowOne_21 rfl ?_
      refine z_getJE (M := M_X2_isBelowOne) 22 dX2_isBelowOne_22 f_X2_7 (oB hb) rfl ex3 ?_
      refine z_aload_n (M := M_X2_isBelowOne) 25 dX2_isBelowOne_25 rfl ?_
      refine z_getJE (M := M_X2_isBelowOne) 26 dX2_isBelowOne_26 f_X2_13 (oB hb) rfl ex1 ?_
      refine z_lcmp (M := M_X2_isBelowOne) 29 dX2_isBelowOne_29 ?_
      refine z_if_ne (M := M_X2_isBelowOne) 30 dX2_isBelowOne_30 44 rfl (fun c5 => ?_) (fun c5 => ?_)
      · rw [m_cmp_eq] at c5
        refine z_iconst (M := M_X2_isBelowOne) 44 dX2_isBelowOne_44 ?_
        exact z_retZ (M := M_X2_isBelowOne) 45 dX2_isBelowOne_45 rfl (by omega) ⟨G0, (FR.rf (cs := []) (ss := []) (h := h0)), by omega, by omega, ⟨fun z => absurd z (by decide), fun z => by unfold bl1 bd at z; simp only [ex1, ex3] at z; omega⟩⟩
      · rw [m_cmp_eq] at c5
        refine z_aload_n (M := M_X2_isBelowOne) 33 dX2_isBelowOne_33 rfl ?_
        refine z_getIG (M := M_X2_isBelowOne) 34 dX2_isBelowOne_34 f_X2_16 (oB hb) (by decide) (gB hb G0) (fun x6 ex6 ax6 bx6 => ?_)
        refine z_if_eq (M := M_X2_isBelowOne) 37 dX2_isBelowOne_37 44 rfl (fun c7 => ?_) (fun c7 => ?_)
        · refine z_iconst (M := M_X2_isBelowOne) 44 dX2_isBelowOne_44 ?_
          exact z_retZ (M := M_X2_isBelowOne) 45 dX2_isBelowOne_45 rfl (by omega) ⟨G0, (FR.rf (cs := []) (ss := []) (h := h0)), by omega, by omega, ⟨fun z => absurd z (by decide), fun z => by unfold bl1 bd at z; simp only [ex1, ex3, ex6] at z; omega⟩⟩
        · refine z_iconst (M := M_X2_isBelowOne) 40 dX2_isBelowOne_40 ?_
          refine z_goto (M := M_X2_isBelowOne) 41 dX2_isBelowOne_41 45 rfl ?_
          exact z_retZ (M := M_X2_isBelowOne) 45 dX2_isBelowOne_45 rfl (by omega) ⟨G0, (FR.rf (cs := []) (ss := []) (h := h0)), by omega, by omega, ⟨fun _ => by unfold bl1 bd; simp only [ex1, ex3, ex6]; omega, fun _ => rfl⟩⟩
abbrev P_X2_contradicts2 (h0 : m_H) (b : Nat) (c : Nat) : Int → m_H → Prop := fun x h' => GI h' ∧ FR [] [] h0 h' ∧ 0 ≤ x ∧ x ≤ 1 ∧ (x = 1 ↔ ctr (bd h0 b) (bd h0 c))
set_option maxHeartbeats 4000000 in
set_option maxRecDepth 100000 in
theorem c_X2_contradicts2 (h0 : m_H) (b : Nat) (c : Nat) (hb : isB b) (hc : isB c) (G0 : GI h0) (q1 : 0 ≤ h0 b 0 ∧ h0 b 0 ≤ 3000000000) (q2 : 0 ≤ h0 b 1 ∧ h0 b 1 ≤ 3000000000) (q3 : 0 ≤ h0 c 0 ∧ h0 c 0 ≤ 3000000000) (q4 : 0 ≤ h0 c 1 ∧ h0 c 1 ≤ 3000000000) : m_CI M_X2_contradicts [mR b, mR c] h0 (P_X2_contradicts2 h0 b c) := by
  refine m_CI_of ⟨by decide, rfl, by simp [m_arg, m_isL, M_X2_contradicts], ⟨rfl, rfl⟩, rfl, rfl⟩ (ls := [some (mR b), some (mR c), none, none, none, none]) rfl ?_
  refine z_aload_n (M := M_X2_contradicts) 0 dX2_contradicts_0 rfl ?_
  refine z_getJV (M := M_X2_contradicts) 1 dX2_contradicts_1 f_X2_7 (oB hb) rfl (fun x1 ex1 => ?_)
  rw [ex1] at q1
  refine z_aload_n (M := M_X2_contradicts) 4 dX2_contradicts_4 rfl ?_
  refine z_getJV (M := M_X2_contradicts) 5 dX2_contradicts_5 f_X2_7 (oB hc) rfl (fun x2 ex2 => ?_)
  rw [ex2] at q3
  have mx3 := mul_bd (x := x1) (y := x2) (X := 3000000000) (Y := 3000000000) (by omega) (by omega) (by omega) (by omega)
  refine z_lmulN (M := M_X2_contradicts) 8 dX2_contradicts_8 (by omega) (by omega) ?_
  refine z_topBJ (lo := 0) (hi := 3000000000 * 3000000000) ⟨by omega, by omega⟩ (fun x3 ex3 ax3 bx3 => ?_)
  refine z_lstore_n (M := M_X2_contradicts) 9 dX2_contradicts_9 (ls' := [some (mR b), some (mR c), some (mJ x3), none, none, none]) (by decide) rfl ?_
  refine z_aload_n (M := M_X2_contradicts) 10 dX2_contradicts_10 rfl ?_
  refine z_getJV (M := M_X2_contradicts) 11 dX2_contradicts_11 f_X2_13 (oB hb) rfl (fun x4 ex4 => ?_)
  rw [ex4] at q2
  refine z_aload_n (M := M_X2_contradicts) 14 dX2_contradicts_14 rfl ?_
  refine z_getJV (M := M_X2_contradicts) 15 dX2_contradicts_15 f_X2_13 (oB hc) rfl (fun x5 ex5 => ?_)
  rw [ex5] at q4
  have mx6 := mul_bd (x := x4) (y := x5) (X := 3000000000) (Y := 3000000000) (by omega) (by omega) (by omega) (by omega)
  refine z_lmulN (M := M_X2_contradicts) 18 dX2_contradicts_18 (by omega) (by omega) ?_
  refine z_topBJ (lo := 0) (hi := 3000000000 * 3000000000) ⟨by omega, by omega⟩ (fun x6 ex6 ax6 bx6 => ?_)
  refine z_lstore (M := M_X2_contradicts) 19 dX2_contradicts_19 (ls' := [some (mR b), some (mR c), some (mJ x3), none, some (mJ x6), none]) (by decide) rfl ?_
  refine z_lload_n (M := M_X2_contradicts) 21 dX2_contradicts_21 rfl ?_
  refine z_lload (M := M_X2_contradicts) 22 dX2_contradicts_22 rfl ?_
  refine z_lcmp (M := M_X2_contradicts) 24 dX2_contradicts_24 ?_
  refine z_if_lt (M := M_X2_contradicts) 25 dX2_contradicts_25 49 rfl (fun c7 => ?_) (fun c7 => ?_)
  · rw [m_cmp_lt] at c7
    refine z_iconst (M := M_X2_contradicts) 49 dX2_contradicts_49 ?_
    refine z_goto (M := M_X2_contradicts) 50 dX2_contradicts_50 54 rfl ?_
    exact z_retZ (M := M_X2_contradicts) 54 dX2_contradicts_54 rfl (by omega) ⟨G0, (FR.rf (cs := []) (ss := []) (h := h0)), by omega, by omega, ⟨fun _ => by unfold ctr bd; simp only [ex1, ex2, ex4, ex5, ex3, ex6]; omega, fun _ => rfl⟩⟩
  · rw [m_cmp_lt] at c7
    refine z_lload_n (M := M_X2_contradicts) 28 dX2_contradicts_28 rfl ?_
    refine z_lload (M := M_X2_contradicts) 29 dX2_contradicts_29 rfl ?_
    refine z_lcmp (M := M_X2_contradicts) 31 dX2_contradicts_31 ?_
    refine z_if_ne (M := M_X2_contradicts) 32 dX2_contradicts_32 53 rfl (fun c8 => ?_) (fun c8 => ?_)
    · rw [m_cmp_eq] at c8
      refine z_iconst (M := M_X2_contradicts) 53 dX2_contradicts_53 ?_
      exact z_retZ (M := M_X2_contradicts) 54 dX2_contradicts_54 rfl (by omega) ⟨G0, (FR.rf (cs := []) (ss := []) (h := h0)), by omega, by omega, ⟨fun z => absurd z (by decide), fun z => by unfold ctr bd at z; simp only [ex1, ex2, ex4, ex5, ex3, ex6] at z; omega⟩⟩
    · rw [m_cmp_eq] at c8
      refine z_aload_n (M := M_X2_contradicts) 35 dX2_contradicts_35 rfl ?_
      refine z_getIG (M := M_X2_contradicts) 36 dX2_contradicts_36 f_X2_16 (oB hb) (by decide) (gB hb G0) (fun x9 ex9 ax9 bx9 => ?_)
      refine z_if_ne (M := M_X2_contradicts) 39 dX2_contradicts_39 49 rfl (fun c10 => ?_) (fun c10 => ?_)
      · refine z_iconst (M := M_X2_contradicts) 49 dX2_contradicts_49 ?_
        refine z_goto (M := M_X2_contradicts) 50 dX2_contradicts_50 54 rfl ?_
        exact z_retZ (M := M_X2_contradicts) 54 dX2_contradicts_54 rfl (by omega) ⟨G0, (FR.rf (cs := []) (ss := []) (h := h0)), by omega, by omega, ⟨fun _ => by unfold ctr bd; simp only [ex1, ex2, ex4, ex5, ex3, ex6, ex9]; omega, fun _ => rfl⟩⟩
      · refine z_aload_n (M := M_X2_contradicts) 42 dX2_contradicts_42 rfl ?_
        refine z_getIG (M := M_X2_contradicts) 43 dX2_contradicts_43 f_X2_16 (oB hc) (by decide) (gB hc G0) (fun x11 ex11 ax11 bx11 => ?_)
        refine z_if_eq (M := M_X2_contradicts) 46 dX2_contradicts_46 53 rfl (fun c12 => ?_) (fun c12 => ?_)
        · refine z_iconst (M := M_X2_contradicts) 53 dX2_contradicts_53 ?_
          exact z_retZ (M := M_X2_contradicts) 54 dX2_contradicts_54 rfl (by omega) ⟨G0, (FR.rf (cs := []) (ss := []) (h := h0)), by omega, by omega, ⟨fun z => absurd z (by decide), fun z => by unfold ctr bd at z; simp only [ex1, ex2, ex4, ex5, ex3, ex6, ex9, ex11] at z; omega⟩⟩
        · refine z_iconst (M := M_X2_contradicts) 49 dX2_contradicts_49 ?_
          refine z_goto (M := M_X2_contradicts) 50 dX2_contradicts_50 54 rfl ?_
          exact z_retZ (M := M_X2_contradicts) 54 dX2_contradicts_54 rfl (by omega) ⟨G0, (FR.rf (cs := []) (ss := []) (h := h0)), by omega, by omega, ⟨fun _ => by unfold ctr bd; simp only [ex1, ex2, ex4, ex5, ex3, ex6, ex9, ex11]; omega, fun _ => rfl⟩⟩
