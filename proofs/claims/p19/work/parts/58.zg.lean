abbrev P_X1_readCut2 (h0 : m_H) (a2 : Int) (r : Nat → Int) : Int → m_H → Prop := fun x h' => GI h' ∧ FR [11] [(37, 1), (37, 2)] h0 h' ∧ EnS h' ∧ okQ 9 (rdCut (h0 36) (h0 35 1) (Qc h0) r a2) x h0 h'
set_option maxHeartbeats 4000000 in
set_option maxRecDepth 100000 in
theorem c_X1_readCut2 (h0 : m_H) (a2 : Int) (r : Nat → Int) (G0 : GI h0) (pa2 : 0 ≤ a2 ∧ a2 ≤ 5) (hE : EnS h0) (Rr : LR 9 h0 r) : m_CI M_X1_readCut [mR 37, mR 9, mI a2] h0 (P_X1_readCut2 h0 a2 r) := by
  refine m_CI_of ⟨by decide, rfl, by simp [m_arg, m_isL, M_X1_readCut], ⟨rfl, rfl⟩, rfl, rfl⟩ (ls := [some (mR 37), some (mR 9), some (mI a2), none]) rfl ?_
  refine z_aload_n (M := M_X1_readCut) 0 dX1_readCut_0 rfl ?_
  refine z_ldcS (M := M_X1_readCut) 1 dX1_readCut_1 (i := 6) rfl rfl rfl ?_
  refine z_vI (M := M_X1_readCut) 3 dX1_readCut_3 t_X1_take l_X1_27 (m_rr_of rfl) (rest := []) (c_X1_take2 h0 6 (by decide) G0 hE) o_37 rfl rfl rfl (Nat.le_of_ble_eq_true rfl) ⟨rfl, rfl⟩ (fun x1 h1 qx1 => ?_)
  obtain ⟨G1, S1, Ex1, Tx1⟩ := qx1
  have R1 := (FR.rf (cs := [11]) (ss := [(37, 1), (37, 2)]) (h := h0)).call S1 (by decide +kernel)
  rcases tkc_ (rowz (FR.rf (cs := [11]) (ss := [(37, 1), (37, 2)]) (h := h0)) (fun _ => rfl)) ((FR.rf (cs := [11]) (ss := [(37, 1), (37, 2)]) (h := h0)) 35 1 rfl) rfl Tx1 with ⟨rfl, Wx1, Qx1⟩ | ⟨rfl, Wx1, Qx1⟩
  · have LR1 : LR 9 h1 r := Rr.same (fun i hi j => S1 _ j (fr_out (a := 9) (b := 16) (by decide) (by omega) (by omega) j)) (fun _ _ => rfl)
    have u3_1 : h1 37 3 = h0 37 3 := (S1 37 3 rfl).trans rfl
    refine z_if_eq_F (M := M_X1_readCut) 6 dX1_readCut_6 18 rfl (by omega) ?_
    refine z_aload_n (M := M_X1_readCut) 9 dX1_readCut_9 rfl ?_
    refine z_getR (M := M_X1_readCut) 10 dX1_readCut_10 f_X1_101 o_9 rfl (g_9_1 G1) ?_
    refine z_iload_n (M := M_X1_readCut) 13 dX1_readCut_13 rfl ?_
    refine z_iconst (M := M_X1_readCut) 14 dX1_readCut_14 ?_
    refine z_iastH (M := M_X1_readCut) 15 dX1_readCut_15 o_11 (by omega) (by omega) (u_11 G1 (by omega) (by omega)) (R1.up rfl) (fun h2 E2 G2 R2 => ?_)
    have en2 := EnS.fr Ex1 (tl_r E2 (by decide)) (tl_o E2 (by decide) _) (tl_q E2 (by decide))
    have qq2 : Qc h2 = (nxt (h0 36) (h0 35 1) (Qc h0)) := (tl_q E2 (by decide)).trans Qx1
    have u3_2 : h2 37 3 = h0 37 3 := (tl_o E2 (by decide) _).trans u3_1
    refine z_iconst (M := M_X1_readCut) 16 dX1_readCut_16 ?_
    exact z_retZ (M := M_X1_readCut) 17 dX1_readCut_17 rfl (by omega) ⟨G2, R2, en2, ok_of (p := ((nxt (h0 36) (h0 35 1) (Qc h0)), rU r (42 + a2).toNat (-1))) (by unfold rdCut; rw [cif_pos (Wx1)]) qq2 (LR.ct LR1 (by omega) (by omega) E2) u3_2⟩
  · have LR1 : LR 9 h1 r := Rr.same (fun i hi j => S1 _ j (fr_out (a := 9) (b := 16) (by decide) (by omega) (by omega) j)) (fun _ _ => rfl)
    have u3_1 : h1 37 3 = h0 37 3 := (S1 37 3 rfl).trans rfl
    refine z_if_eq_T (M := M_X1_readCut) 6 dX1_readCut_6 18 rfl (by omega) ?_
    refine z_aload_n (M := M_X1_readCut) 18 dX1_readCut_18 rfl ?_
    refine z_ldcS (M := M_X1_readCut) 19 dX1_readCut_19 (i := 7) rfl rfl rfl ?_
    refine z_vI (M := M_X1_readCut) 21 dX1_readCut_21 t_X1_take l_X1_27 (m_rr_of rfl) (rest := []) (c_X1_take2 h1 7 (by decide) G1 Ex1) o_37 rfl rfl rfl (Nat.le_of_ble_eq_true rfl) ⟨rfl, rfl⟩ (fun x2 h3 qx2 => ?_)
    obtain ⟨G3, S3, Ex2, Tx2⟩ := qx2
    have R3 := R1.call S3 (by decide +kernel)
    rcases tkc_ (rowz R1 (fun _ => rfl)) (R1 35 1 rfl) Qx1 Tx2 with ⟨rfl, Wx2, Qx2⟩ | ⟨rfl, Wx2, Qx2⟩
    · have LR3 : LR 9 h3 r := LR1.same (fun i hi j => S3 _ j (fr_out (a := 9) (b := 16) (by decide) (by omega) (by omega) j)) (fun _ _ => rfl)
      have u3_3 : h3 37 3 = h0 37 3 := (S3 37 3 rfl).trans u3_1
      refine z_if_eq_F (M := M_X1_readCut) 24 dX1_readCut_24 37 rfl (by omega) ?_
      refine z_aload_n (M := M_X1_readCut) 27 dX1_readCut_27 rfl ?_
      refine z_iconst (M := M_X1_readCut) 28 dX1_readCut_28 ?_
      refine z_bipush (M := M_X1_readCut) 29 dX1_readCut_29 ?_
      refine z_vI (M := M_X1_readCut) 31 dX1_readCut_31 t_X1_takeNumber l_X1_53 (m_rr_of rfl) (rest := []) (c_X1_takeNumber2 h3 1 31 G3 Ex2 ⟨by omega, by omega⟩ ⟨by omega, by omega⟩) o_37 rfl rfl rfl (Nat.le_of_ble_eq_true rfl) ⟨rfl, rfl⟩ (fun x3 h4 qx3 => ?_)
      obtain ⟨G4, S4, ax3, bx3, cx3, Ex3, Tx3⟩ := qx3
      have R4 := R3.call S4 (by decide +kernel)
      rcases tn_c (rowz R3 (fun _ => rfl)) (R3 35 1 rfl) Qx2 Tx3 with ⟨rfl, Wx3, Qx3⟩ | ⟨Nx3, Wx3, Qx3⟩
      · have LR4 : LR 9 h4 r := LR3.same (fun i hi j => S4 _ j (fr_out (a := 9) (b := 16) (by decide) (by omega) (by omega) j)) (fun _ _ => rfl)
        have u3_4 : h4 37 3 = h0 37 3 := (S4 37 3 rfl).trans u3_3
        refine z_goto (M := M_X1_readCut) 34 dX1_readCut_34 38 rfl ?_
        refine z_istore_n (M := M_X1_readCut) 38 dX1_readCut_38 (ls' := [some (mR 37), some (mR 9), some (mI a2), some (mI (-1))]) (by decide) rfl ?_
        refine z_iload_n (M := M_X1_readCut) 39 dX1_readCut_39 rfl ?_
        refine z_iconst (M := M_X1_readCut) 40 dX1_readCut_40 ?_
        refine z_icmp_ne_F (M := M_X1_readCut) 41 dX1_readCut_41 46 rfl (by omega) ?_
        refine z_iconst (M := M_X1_readCut) 44 dX1_readCut_44 ?_
        exact z_retZ (M := M_X1_readCut) 45 dX1_readCut_45 rfl (by omega) ⟨G4, R4, Ex3, er_of (q := (nxt (h0 36) (h0 35 1) (Qc h0))) (by unfold rdCut; rw [cif_neg (Wx1), cif_pos (Wx2), cif_neg (Wx3)]) Qx3 u3_4⟩
      · have LR4 : LR 9 h4 r := LR3.same (fun i hi j => S4 _ j (fr_out (a := 9) (b := 16) (by decide) (by omega) (by omega) j)) (fun _ _ => rfl)
        have u3_4 : h4 37 3 = h0 37 3 := (S4 37 3 rfl).trans u3_3
        have lx3 : 1 ≤ x3 ∧ x3 ≤ 31 := by rw [Nx3]; exact ⟨Wx3.2.2.1, Wx3.2.2.2⟩
        refine z_goto (M := M_X1_readCut) 34 dX1_readCut_34 38 rfl ?_
        refine z_istore_n (M := M_X1_readCut) 38 dX1_readCut_38 (ls' := [some (mR 37), some (mR 9), some (mI a2), some (mI x3)]) (by decide) rfl ?_
        refine z_iload_n (M := M_X1_readCut) 39 dX1_readCut_39 rfl ?_
        refine z_iconst (M := M_X1_readCut) 40 dX1_readCut_40 ?_
        refine z_icmp_ne_T (M := M_X1_readCut) 41 dX1_readCut_41 46 rfl (by omega) ?_
        refine z_aload_n (M := M_X1_readCut) 46 dX1_readCut_46 rfl ?_
        refine z_getR (M := M_X1_readCut) 47 dX1_readCut_47 f_X1_101 o_9 rfl (g_9_1 G4) ?_
        refine z_iload_n (M := M_X1_readCut) 50 dX1_readCut_50 rfl ?_
        refine z_iload_n (M := M_X1_readCut) 51 dX1_readCut_51 rfl ?_
        refine z_iastH (M := M_X1_readCut) 52 dX1_readCut_52 o_11 (by omega) (by omega) (u_11 G4 (by omega) (by omega)) (R4.up rfl) (fun h5 E5 G5 R5 => ?_)
        have en5 := EnS.fr Ex3 (tl_r E5 (by decide)) (tl_o E5 (by decide) _) (tl_q E5 (by decide))
        have qq5 : Qc h5 = (nxt (h0 36) (h0 35 1) (nxt (h0 36) (h0 35 1) (Qc h0))) := (tl_q E5 (by decide)).trans Qx3
        have u3_5 : h5 37 3 = h0 37 3 := (tl_o E5 (by decide) _).trans u3_4
        refine z_iconst (M := M_X1_readCut) 53 dX1_readCut_53 ?_
        exact z_retZ (M := M_X1_readCut) 54 dX1_readCut_54 rfl (by omega) ⟨G5, R5, en5, ok_of (p := ((nxt (h0 36) (h0 35 1) (nxt (h0 36) (h0 35 1) (Qc h0))), rU r (42 + a2).toNat x3)) (by unfold rdCut; rw [cif_neg (Wx1), cif_pos (Wx2), cif_pos (Wx3)]; rw [Nx3]) qq5 (LR.ct LR4 (by omega) (by omega) E5) u3_5⟩
    · have LR3 : LR 9 h3 r := LR1.same (fun i hi j => S3 _ j (fr_out (a := 9) (b := 16) (by decide) (by omega) (by omega) j)) (fun _ _ => rfl)
      have u3_3 : h3 37 3 = h0 37 3 := (S3 37 3 rfl).trans u3_1
      refine z_if_eq_T (M := M_X1_readCut) 24 dX1_readCut_24 37 rfl (by omega) ?_
      refine z_iconst (M := M_X1_readCut) 37 dX1_readCut_37 ?_
      refine z_istore_n (M := M_X1_readCut) 38 dX1_readCut_38 (ls' := [some (mR 37), some (mR 9), some (mI a2), some (mI (-1))]) (by decide) rfl ?_
      refine z_iload_n (M := M_X1_readCut) 39 dX1_readCut_39 rfl ?_
      refine z_iconst (M := M_X1_readCut) 40 dX1_readCut_40 ?_
      refine z_icmp_ne_F (M := M_X1_readCut) 41 dX1_readCut_41 46 rfl (by omega) ?_
      refine z_iconst (M := M_X1_readCut) 44 dX1_readCut_44 ?_
      exact z_retZ (M := M_X1_readCut) 45 dX1_readCut_45 rfl (by omega) ⟨G3, R3, Ex2, er_of (q := (Qc h0)) (by unfold rdCut; rw [cif_neg (Wx1), cif_neg (Wx2)]) Qx2 u3_3⟩
abbrev P_X1_readWeeks2 (h0 : m_H) (r : Nat → Int) : Int → m_H → Prop := fun x h' => GI h' ∧ FR [10] [(37, 1), (37, 2)] h0 h' ∧ EnS h' ∧ okQ 9 (rdWeeks (h0 36) (h0 35 1) (Qc h0) r) x h0 h'
def q_X1_readWeeks2 (h0 : m_H) (r : Nat → Int) (n : Nat) : Prop := (∀ (l3 l5 l6 : Int) (h : m_H), GI h → FR [10] [(37, 1), (37, 2)] h0 h → 0 ≤ l3 → l3 ≤ 31 → (-1) ≤ l5 → l5 ≤ 3 → 0 ≤ l6 → l6 ≤ 32 → (EnS h) → (∃ f, wkI (rdWeeks (h0 36) (h0 35 1) (Qc h0) r) r f l3 l5 l6 h0 h) → 2 * (32 - l6) + (1) ≤ (n : Int) → m_Z oF M_X1_readWeeks 93 [none, some (mR 9), none, some (mI l3), none, some (mI l5), some (mI l6)] [] h (m_QI (P_X1_readWeeks2 h0 r)))
set_option maxHeartbeats 4000000 in
set_option maxRecDepth 100000 in
theorem s_X1_readWeeks2_93 (h0 : m_H) (r : Nat → Int) (G0 : GI h0) (hE : EnS h0) (Rr : LR 9 h0 r) (n : Nat) (ih : q_X1_readWeeks2 h0 r n) : ∀ (l3 l5 l6 : Int) (h : m_H), GI h → FR [10] [(37, 1), (37, 2)] h0 h → 0 ≤ l3 → l3 ≤ 31 → (-1) ≤ l5 → l5 ≤ 3 → 0 ≤ l6 → l6 ≤ 32 → (EnS h) → (∃ f, wkI (rdWeeks (h0 36) (h0 35 1) (Qc h0) r) r f l3 l5 l6 h0 h) → 2 * (32 - l6) + (1) ≤ ((n + 1 : Nat) : Int) → m_Z oF M_X1_readWeeks 93 [none, some (mR 9), none, some (mI l3), none, some (mI l5), some (mI l6)] [] h (m_QI (P_X1_readWeeks2 h0 r)) := by
  intro l3 l5 l6 h G R v0 v1 v2 v3 v4 v5 i0 i1 hr
  obtain ⟨f, ik⟩ := i1
  refine z_iload (M := M_X1_readWeeks) 93 dX1_readWeeks_93 rfl ?_
  refine z_iload_n (M := M_X1_readWeeks) 95 dX1_readWeeks_95 rfl ?_
  refine z_icmp_gt (M := M_X1_readWeeks) 96 dX1_readWeeks_96 114 rfl (fun c1 => ?_) (fun c1 => ?_)
  · refine z_iconst (M := M_X1_readWeeks) 114 dX1_readWeeks_114 ?_
    exact z_retZ (M := M_X1_readWeeks) 115 dX1_readWeeks_115 rfl (by omega) ⟨G, R, i0, wk_end ik (by omega)⟩
  · refine z_aload_n (M := M_X1_readWeeks) 99 dX1_readWeeks_99 rfl ?_
    refine z_getR (M := M_X1_readWeeks) 100 dX1_readWeeks_100 f_X1_63 o_9 rfl (g_9_0 G) ?_
    refine z_iload (M := M_X1_readWeeks) 103 dX1_readWeeks_103 rfl ?_
    refine z_iload (M := M_X1_readWeeks) 105 dX1_readWeeks_105 rfl ?_
    refine z_iastH (M := M_X1_readWeeks) 107 dX1_readWeeks_107 o_10 (by omega) (by omega) (u_10 G (by omega) (by omega)) (R.up rfl) (fun h1 E1 G1 R1 => ?_)
    refine z_iincN (M := M_X1_readWeeks) 108 dX1_readWeeks_108 (ls' := [none, some (mR 9), none, some (mI l3), none, some (mI l5), some (mI (l6 + 1))]) (by decide) rfl (by (unfold m_32; decide)) (by omega) (by omega) rfl ?_
    refine z_goto (M := M_X1_readWeeks) 111 dX1_readWeeks_111 93 rfl ?_
    exact z_mask [false, true, false, true, false, true, true] rfl (ih l3 l5 (l6 + 1) h1 G1 R1 (by omega) (by omega) (by omega) (by omega) (by omega) (by omega) (EnS.fr i0 (tl_r E1 (by decide)) (tl_o E1 (by decide) _) (tl_q E1 (by decide))) ⟨f, wk_st ik (by omega) E1⟩ (by omega))
theorem a_X1_readWeeks2 (h0 : m_H) (r : Nat → Int) (G0 : GI h0) (hE : EnS h0) (Rr : LR 9 h0 r) : ∀ n, q_X1_readWeeks2 h0 r n := by
  intro n
  induction n with
  | zero => unfold q_X1_readWeeks2; intros; omega
  | succ n ih => exact s_X1_readWeeks2_93 h0 r G0 hE Rr n ih
set_option maxHeartbeats 4000000 in
set_option maxRecDepth 100000 in
theorem c_X1_readWeeks2 (h0 : m_H) (r : Nat → Int) (G0 : GI h0) (hE : EnS h0) (Rr : LR 9 h0 r) : m_CI M_X1_readWeeks [mR 37, mR 9] h0 (P_X1_readWeeks2 h0 r) := by
  refine m_CI_of ⟨by decide, rfl, by simp [m_arg, m_isL, M_X1_readWeeks], ⟨rfl, rfl⟩, rfl, rfl⟩ (ls := [some (mR 37), some (mR 9), none, none, none, none, none]) rfl ?_
  have ih := a_X1_readWeeks2 h0 r G0 hE Rr 72
  refine z_aload_n (M := M_X1_readWeeks) 0 dX1_readWeeks_0 rfl ?_
  refine z_iconst (M := M_X1_readWeeks) 1 dX1_readWeeks_1 ?_
  refine z_bipush (M := M_X1_readWeeks) 2 dX1_readWeeks_2 ?_
  refine z_vI (M := M_X1_readWeeks) 4 dX1_readWeeks_4 t_X1_takeNumber l_X1_53 (m_rr_of rfl) (rest := []) (c_X1_takeNumber2 h0 0 31 G0 hE ⟨by omega, by omega⟩ ⟨by omega, by omega⟩) o_37 rfl rfl rfl (Nat.le_of_ble_eq_true rfl) ⟨rfl, rfl⟩ (fun x1 h1 qx1 => ?_)
  obtain ⟨G1, S1, ax1, bx1, cx1, Ex1, Tx1⟩ := qx1
  have R1 := (FR.rf (cs := [10]) (ss := [(37, 1), (37, 2)]) (h := h0)).call S1 (by decide +kernel)
  rcases tn_c (rowz (FR.rf (cs := [10]) (ss := [(37, 1), (37, 2)]) (h := h0)) (fun _ => rfl)) ((FR.rf (cs := [10]) (ss := [(37, 1), (37, 2)]) (h := h0)) 35 1 rfl) rfl Tx1 with ⟨rfl, Wx1, Qx1⟩ | ⟨Nx1, Wx1, Qx1⟩
  · have LR1 : LR 9 h1 r := Rr.same (fun i hi j => S1 _ j (fr_out (a := 9) (b := 16) (by decide) (by omega) (by omega) j)) (fun _ _ => rfl)
    have u3_1 : h1 37 3 = h0 37 3 := (S1 37 3 rfl).trans rfl
    refine z_istore_n (M := M_X1_readWeeks) 7 dX1_readWeeks_7 (ls' := [some (mR 37), some (mR 9), some (mI (-1)), none, none, none, none]) (by decide) rfl ?_
    refine z_iload_n (M := M_X1_readWeeks) 8 dX1_readWeeks_8 rfl ?_
    refine z_iconst (M := M_X1_readWeeks) 9 dX1_readWeeks_9 ?_
    refine z_icmp_ne_F (M := M_X1_readWeeks) 10 dX1_readWeeks_10 15 rfl (by omega) ?_
    refine z_iconst (M := M_X1_readWeeks) 13 dX1_readWeeks_13 ?_
    exact z_retZ (M := M_X1_readWeeks) 14 dX1_readWeeks_14 rfl (by omega) ⟨G1, R1, Ex1, er_of (q := (Qc h0)) (by unfold rdWeeks rdBy; rw [cif_neg (Wx1)]) Qx1 u3_1⟩
  · have LR1 : LR 9 h1 r := Rr.same (fun i hi j => S1 _ j (fr_out (a := 9) (b := 16) (by decide) (by omega) (by omega) j)) (fun _ _ => rfl)
    have u3_1 : h1 37 3 = h0 37 3 := (S1 37 3 rfl).trans rfl
    have lx1 : 0 ≤ x1 ∧ x1 ≤ 31 := by rw [Nx1]; exact ⟨Wx1.2.2.1, Wx1.2.2.2⟩
    refine z_istore_n (M := M_X1_readWeeks) 7 dX1_readWeeks_7 (ls' := [some (mR 37), some (mR 9), some (mI x1), none, none, none, none]) (by decide) rfl ?_
    refine z_iload_n (M := M_X1_readWeeks) 8 dX1_readWeeks_8 rfl ?_
    refine z_iconst (M := M_X1_readWeeks) 9 dX1_readWeeks_9 ?_
    refine z_icmp_ne_T (M := M_X1_readWeeks) 10 dX1_readWeeks_10 15 rfl (by omega) ?_
    refine z_aload_n (M := M_X1_readWeeks) 15 dX1_readWeeks_15 rfl ?_
    refine z_ldcS (M := M_X1_readWeeks) 16 dX1_readWeeks_16 (i := 1) rfl rfl rfl ?_
    refine z_vI (M := M_X1_readWeeks) 18 dX1_readWeeks_18 t_X1_take l_X1_27 (m_rr_of rfl) (rest := []) (c_X1_take2 h1 1 (by decide) G1 Ex1) o_37 rfl rfl rfl (Nat.le_of_ble_eq_true rfl) ⟨rfl, rfl⟩ (fun x2 h2 qx2 => ?_)
    obtain ⟨G2, S2, Ex2, Tx2⟩ := qx2
    have R2 := R1.call S2 (by decide +kernel)
    rcases tkc_ (rowz R1 (fun _ => rfl)) (R1 35 1 rfl) Qx1 Tx2 with ⟨rfl, Wx2, Qx2⟩ | ⟨rfl, Wx2, Qx2⟩
    · have LR2 : LR 9 h2 r := LR1.same (fun i hi j => S2 _ j (fr_out (a := 9) (b := 16) (by decide) (by omega) (by omega) j)) (fun _ _ => rfl)
      have u3_2 : h2 37 3 = h0 37 3 := (S2 37 3 rfl).trans u3_1
      refine z_if_eq_F (M := M_X1_readWeeks) 21 dX1_readWeeks_21 34 rfl (by omega) ?_
      refine z_aload_n (M := M_X1_readWeeks) 24 dX1_readWeeks_24 rfl ?_
      refine z_iload_n (M := M_X1_readWeeks) 25 dX1_readWeeks_25 rfl ?_
      refine z_bipush (M := M_X1_readWeeks) 26 dX1_readWeeks_26 ?_
      refine z_vI (M := M_X1_readWeeks) 28 dX1_readWeeks_28 t_X1_takeNumber l_X1_53 (m_rr_of rfl) (rest := []) (c_X1_takeNumber2 h2 x1 31 G2 Ex2 ⟨by omega, by omega⟩ ⟨by omega, by omega⟩) o_37 rfl rfl rfl (Nat.le_of_ble_eq_true rfl) ⟨rfl, rfl⟩ (fun x3 h3 qx3 => ?_)
      obtain ⟨G3, S3, ax3, bx3, cx3, Ex3, Tx3⟩ := qx3
      have R3 := R2.call S3 (by decide +kernel)
      rcases tn_c (rowz R2 (fun _ => rfl)) (R2 35 1 rfl) Qx2 Tx3 with ⟨rfl, Wx3, Qx3⟩ | ⟨Nx3, Wx3, Qx3⟩
      · have LR3 : LR 9 h3 r := LR2.same (fun i hi j => S3 _ j (fr_out (a := 9) (b := 16) (by decide) (by omega) (by omega) j)) (fun _ _ => rfl)
        have u3_3 : h3 37 3 = h0 37 3 := (S3 37 3 rfl).trans u3_2
        refine z_goto (M := M_X1_readWeeks) 31 dX1_readWeeks_31 35 rfl ?_
        refine z_istore_n (M := M_X1_readWeeks) 35 dX1_readWeeks_35 (ls' := [some (mR 37), some (mR 9), some (mI x1), some (mI (-1)), none, none, none]) (by decide) rfl ?_
        refine z_iload_n (M := M_X1_readWeeks) 36 dX1_readWeeks_36 rfl ?_
        refine z_iconst (M := M_X1_readWeeks) 37 dX1_readWeeks_37 ?_
        refine z_icmp_eq_T (M := M_X1_readWeeks) 38 dX1_readWeeks_38 50 rfl (by omega) ?_
        refine z_iconst (M := M_X1_readWeeks) 50 dX1_readWeeks_50 ?_
        exact z_retZ (M := M_X1_readWeeks) 51 dX1_readWeeks_51 rfl (by omega) ⟨G3, R3, Ex3, er_of (q := (nxt (h0 36) (h0 35 1) (nxt (h0 36) (h0 35 1) (Qc h0)))) (by unfold rdWeeks rdBy; rw [cif_pos (Wx1), cif_pos (Wx2), cif_neg (Nx1 ▸ Wx3)]) Qx3 u3_3⟩
      · have LR3 : LR 9 h3 r := LR2.same (fun i hi j => S3 _ j (fr_out (a := 9) (b := 16) (by decide) (by omega) (by omega) j)) (fun _ _ => rfl)
        have u3_3 : h3 37 3 = h0 37 3 := (S3 37 3 rfl).trans u3_2
        have lx3 : x1 ≤ x3 ∧ x3 ≤ 31 := by rw [Nx3]; exact ⟨Wx3.2.2.1, Wx3.2.2.2⟩
        refine z_goto (M := M_X1_readWeeks) 31 dX1_readWeeks_31 35 rfl ?_
        refine z_istore_n (M := M_X1_readWeeks) 35 dX1_readWeeks_35 (ls' := [some (mR 37), some (mR 9), some (mI x1), some (mI x3), none, none, none]) (by decide) rfl ?_
        refine z_iload_n (M := M_X1_readWeeks) 36 dX1_readWeeks_36 rfl ?_
        refine z_iconst (M := M_X1_readWeeks) 37 dX1_readWeeks_37 ?_
        refine z_icmp_eq_F (M := M_X1_readWeeks) 38 dX1_readWeeks_38 50 rfl (by omega) ?_
        refine z_aload_n (M := M_X1_readWeeks) 41 dX1_readWeeks_41 rfl ?_
        refine z_ldcS (M := M_X1_readWeeks) 42 dX1_readWeeks_42 (i := 2) rfl rfl rfl ?_
        refine z_vI (M := M_X1_readWeeks) 44 dX1_readWeeks_44 t_X1_take l_X1_27 (m_rr_of rfl) (rest := []) (c_X1_take2 h3 2 (by decide) G3 Ex3) o_37 rfl rfl rfl (Nat.le_of_ble_eq_true rfl) ⟨rfl, rfl⟩ (fun x4 h4 qx4 => ?_)
        obtain ⟨G4, S4, Ex4, Tx4⟩ := qx4
        have R4 := R3.call S4 (by decide +kernel)
        rcases tkc_ (rowz R3 (fun _ => rfl)) (R3 35 1 rfl) Qx3 Tx4 with ⟨rfl, Wx4, Qx4⟩ | ⟨rfl, Wx4, Qx4⟩
        · have LR4 : LR 9 h4 r := LR3.same (fun i hi j => S4 _ j (fr_out (a := 9) (b := 16) (by decide) (by omega) (by omega) j)) (fun _ _ => rfl)
          have u3_4 : h4 37 3 = h0 37 3 := (S4 37 3 rfl).trans u3_3
          refine z_if_ne_T (M := M_X1_readWeeks) 47 dX1_readWeeks_47 52 rfl (by omega) ?_
          refine z_aload_n (M := M_X1_readWeeks) 52 dX1_readWeeks_52 rfl ?_
          refine z_ldcS (M := M_X1_readWeeks) 53 dX1_readWeeks_53 (i := 3) rfl rfl rfl ?_
          refine z_vI (M := M_X1_readWeeks) 55 dX1_readWeeks_55 t_X1_take l_X1_27 (m_rr_of rfl) (rest := []) (c_X1_take2 h4 3 (by decide) G4 Ex4) o_37 rfl rfl rfl (Nat.le_of_ble_eq_true rfl) ⟨rfl, rfl⟩ (fun x5 h5 qx5 => ?_)
          obtain ⟨G5, S5, Ex5, Tx5⟩ := qx5
          have R5 := R4.call S5 (by decide +kernel)
          rcases tkc_ (rowz R4 (fun _ => rfl)) (R4 35 1 rfl) Qx4 Tx5 with ⟨rfl, Wx5, Qx5⟩ | ⟨rfl, Wx5, Qx5⟩
          · have LR5 : LR 9 h5 r := LR4.same (fun i hi j => S5 _ j (fr_out (a := 9) (b := 16) (by decide) (by omega) (by omega) j)) (fun _ _ => rfl)
            have u3_5 : h5 37 3 = h0 37 3 := (S5 37 3 rfl).trans u3_4
            refine z_istore (M := M_X1_readWeeks) 58 dX1_readWeeks_58 (ls' := [some (mR 37), some (mR 9), some (mI x1), some (mI x3), some (mI 1), none, none]) (by decide) rfl ?_
            refine z_iload (M := M_X1_readWeeks) 60 dX1_readWeeks_60 rfl ?_
            refine z_if_eq_F (M := M_X1_readWeeks) 62 dX1_readWeeks_62 69 rfl (by omega) ?_
            refine z_iconst (M := M_X1_readWeeks) 65 dX1_readWeeks_65 ?_
            refine z_goto (M := M_X1_readWeeks) 66 dX1_readWeeks_66 75 rfl ?_
            refine z_istore (M := M_X1_readWeeks) 75 dX1_readWeeks_75 (ls' := [some (mR 37), some (mR 9), some (mI x1), some (mI x3), some (mI 1), some (mI (-1)), none]) (by decide) rfl ?_
            refine z_iload (M := M_X1_readWeeks) 77 dX1_readWeeks_77 rfl ?_
            refine z_iconst (M := M_X1_readWeeks) 79 dX1_readWeeks_79 ?_
            refine z_icmp_ne_F (M := M_X1_readWeeks) 80 dX1_readWeeks_80 90 rfl (by omega) ?_
            refine z_iload (M := M_X1_readWeeks) 83 dX1_readWeeks_83 rfl ?_
            refine z_if_ne_T (M := M_X1_readWeeks) 85 dX1_readWeeks_85 90 rfl (by omega) ?_
            refine z_iload_n (M := M_X1_readWeeks) 90 dX1_readWeeks_90 rfl ?_
            refine z_istore (M := M_X1_readWeeks) 91 dX1_readWeeks_91 (ls' := [some (mR 37), some (mR 9), some (mI x1), some (mI x3), some (mI 1), some (mI (-1)), some (mI x1)]) (by decide) rfl ?_
            exact z_mask [false, true, false, true, false, true, true] rfl (ih x3 (-1) x1 h5 G5 R5 (by omega) (by omega) (by omega) (by omega) (by omega) (by omega) Ex5 ⟨x1, wk_0 (q := (nxt (h0 36) (h0 35 1) (nxt (h0 36) (h0 35 1) (nxt (h0 36) (h0 35 1) (nxt (h0 36) (h0 35 1) (nxt (h0 36) (h0 35 1) (Qc h0))))))) (by unfold rdWeeks rdBy; rw [cif_pos (Wx1), cif_pos (Wx2), cif_pos (Nx1 ▸ Wx3), cif_pos (Wx4), cif_pos (Wx5), Nx1, Nx3]) Qx5 u3_5 LR5 (by omega) (by omega) (by omega)⟩ (by omega))
          · have LR5 : LR 9 h5 r := LR4.same (fun i hi j => S5 _ j (fr_out (a := 9) (b := 16) (by decide) (by omega) (by omega) j)) (fun _ _ => rfl)
            have u3_5 : h5 37 3 = h0 37 3 := (S5 37 3 rfl).trans u3_4
            refine z_istore (M := M_X1_readWeeks) 58 dX1_readWeeks_58 (ls' := [some (mR 37), some (mR 9), some (mI x1), some (mI x3), some (mI 0), none, none]) (by decide) rfl ?_
            refine z_iload (M := M_X1_readWeeks) 60 dX1_readWeeks_60 rfl ?_
            refine z_if_eq_T (M := M_X1_readWeeks) 62 dX1_readWeeks_62 69 rfl (by omega) ?_
            refine z_aload_n (M := M_X1_readWeeks) 69 dX1_readWeeks_69 rfl ?_
            refine z_iconst (M := M_X1_readWeeks) 70 dX1_readWeeks_70 ?_
            refine z_iconst (M := M_X1_readWeeks) 71 dX1_readWeeks_71 ?_
            refine z_vI (M := M_X1_readWeeks) 72 dX1_readWeeks_72 t_X1_takeNumber l_X1_53 (m_rr_of rfl) (rest := []) (c_X1_takeNumber2 h5 0 3 G5 Ex5 ⟨by omega, by omega⟩ ⟨by omega, by omega⟩) o_37 rfl rfl rfl (Nat.le_of_ble_eq_true rfl) ⟨rfl, rfl⟩ (fun x6 h6 qx6 => ?_)
            obtain ⟨G6, S6, ax6, bx6, cx6, Ex6, Tx6⟩ := qx6
            have R6 := R5.call S6 (by decide +kernel)
            rcases tn_c (rowz R5 (fun _ => rfl)) (R5 35 1 rfl) Qx5 Tx6 with ⟨rfl, Wx6, Qx6⟩ | ⟨Nx6, Wx6, Qx6⟩
            · have LR6 : LR 9 h6 r := LR5.same (fun i hi j => S6 _ j (fr_out (a := 9) (b := 16) (by decide) (by omega) (by omega) j)) (fun _ _ => rfl)
              have u3_6 : h6 37 3 = h0 37 3 := (S6 37 3 rfl).trans u3_5
              refine z_istore (M := M_X1_readWeeks) 75 dX1_readWeeks_75 (ls' := [some (mR 37), some (mR 9), some (mI x1), some (mI x3), some (mI 0), some (mI (-1)), none]) (by decide) rfl ?_
              refine z_iload (M := M_X1_readWeeks) 77 dX1_readWeeks_77 rfl ?_
              refine z_iconst (M := M_X1_readWeeks) 79 dX1_readWeeks_79 ?_
              refine z_icmp_ne_F (M := M_X1_readWeeks) 80 dX1_readWeeks_80 90 rfl (by omega) ?_
              refine z_iload (M := M_X1_readWeeks) 83 dX1_readWeeks_83 rfl ?_
              refine z_if_ne_F (M := M_X1_readWeeks) 85 dX1_readWeeks_85 90 rfl (by omega) ?_
              refine z_iconst (M := M_X1_readWeeks) 88 dX1_readWeeks_88 ?_
              exact z_retZ (M := M_X1_readWeeks) 89 dX1_readWeeks_89 rfl (by omega) ⟨G6, R6, Ex6, er_of (q := (nxt (h0 36) (h0 35 1) (nxt (h0 36) (h0 35 1) (nxt (h0 36) (h0 35 1) (nxt (h0 36) (h0 35 1) (Qc h0)))))) (by unfold rdWeeks rdBy; rw [cif_pos (Wx1), cif_pos (Wx2), cif_pos (Nx1 ▸ Wx3), cif_pos (Wx4), cif_neg (Wx5), cif_neg (Wx6)]) Qx6 u3_6⟩
            · have LR6 : LR 9 h6 r := LR5.same (fun i hi j => S6 _ j (fr_out (a := 9) (b := 16) (by decide) (by omega) (by omega) j)) (fun _ _ => rfl)
              have u3_6 : h6 37 3 = h0 37 3 := (S6 37 3 rfl).trans u3_5
              have lx6 : 0 ≤ x6 ∧ x6 ≤ 3 := by rw [Nx6]; exact ⟨Wx6.2.2.1, Wx6.2.2.2⟩
              refine z_istore (M := M_X1_readWeeks) 75 dX1_readWeeks_75 (ls' := [some (mR 37), some (mR 9), some (mI x1), some (mI x3), some (mI 0), some (mI x6), none]) (by decide) rfl ?_
              refine z_iload (M := M_X1_readWeeks) 77 dX1_readWeeks_77 rfl ?_
              refine z_iconst (M := M_X1_readWeeks) 79 dX1_readWeeks_79 ?_
              refine z_icmp_ne_T (M := M_X1_readWeeks) 80 dX1_readWeeks_80 90 rfl (by omega) ?_
              refine z_iload_n (M := M_X1_readWeeks) 90 dX1_readWeeks_90 rfl ?_
              refine z_istore (M := M_X1_readWeeks) 91 dX1_readWeeks_91 (ls' := [some (mR 37), some (mR 9), some (mI x1), some (mI x3), some (mI 0), some (mI x6), some (mI x1)]) (by decide) rfl ?_
              exact z_mask [false, true, false, true, false, true, true] rfl (ih x3 x6 x1 h6 G6 R6 (by omega) (by omega) (by omega) (by omega) (by omega) (by omega) Ex6 ⟨x1, wk_0 (q := (nxt (h0 36) (h0 35 1) (nxt (h0 36) (h0 35 1) (nxt (h0 36) (h0 35 1) (nxt (h0 36) (h0 35 1) (nxt (h0 36) (h0 35 1) (Qc h0))))))) (by unfold rdWeeks rdBy; rw [cif_pos (Wx1), cif_pos (Wx2), cif_pos (Nx1 ▸ Wx3), cif_pos (Wx4), cif_neg (Wx5), cif_pos (Wx6), Nx1, Nx3, Nx6]) Qx6 u3_6 LR6 (by omega) (by omega) (by omega)⟩ (by omega))
        · have LR4 : LR 9 h4 r := LR3.same (fun i hi j => S4 _ j (fr_out (a := 9) (b := 16) (by decide) (by omega) (by omega) j)) (fun _ _ => rfl)
          have u3_4 : h4 37 3 = h0 37 3 := (S4 37 3 rfl).trans u3_3
          refine z_if_ne_F (M := M_X1_readWeeks) 47 dX1_readWeeks_47 52 rfl (by omega) ?_
          refine z_iconst (M := M_X1_readWeeks) 50 dX1_readWeeks_50 ?_
          exact z_retZ (M := M_X1_readWeeks) 51 dX1_readWeeks_51 rfl (by omega) ⟨G4, R4, Ex4, er_of (q := (nxt (h0 36) (h0 35 1) (nxt (h0 36) (h0 35 1) (nxt (h0 36) (h0 35 1) (Qc h0))))) (by unfold rdWeeks rdBy; rw [cif_pos (Wx1), cif_pos (Wx2), cif_pos (Nx1 ▸ Wx3), cif_neg (Wx4)]) Qx4 u3_4⟩
    · have LR2 : LR 9 h2 r := LR1.same (fun i hi j => S2 _ j (fr_out (a := 9) (b := 16) (by decide) (by omega) (by omega) j)) (fun _ _ => rfl)
      have u3_2 : h2 37 3 = h0 37 3 := (S2 37 3 rfl).trans u3_1
      refine z_if_eq_T (M := M_X1_readWeeks) 21 dX1_readWeeks_21 34 rfl (by omega) ?_
      refine z_iload_n (M := M_X1_readWeeks) 34 dX1_readWeeks_34 rfl ?_
      refine z_istore_n (M := M_X1_readWeeks) 35 dX1_readWeeks_35 (ls' := [some (mR 37), some (mR 9), some (mI x1), some (mI x1), none, none, none]) (by decide) rfl ?_
      refine z_iload_n (M := M_X1_readWeeks) 36 dX1_readWeeks_36 rfl ?_
      refine z_iconst (M := M_X1_readWeeks) 37 dX1_readWeeks_37 ?_
      refine z_icmp_eq_F (M := M_X1_readWeeks) 38 dX1_readWeeks_38 50 rfl (by omega) ?_
      refine z_aload_n (M := M_X1_readWeeks) 41 dX1_readWeeks_41 rfl ?_
      refine z_ldcS (M := M_X1_readWeeks) 42 dX1_readWeeks_42 (i := 2) rfl rfl rfl ?_
      refine z_vI (M := M_X1_readWeeks) 44 dX1_readWeeks_44 t_X1_take l_X1_27 (m_rr_of rfl) (rest := []) (c_X1_take2 h2 2 (by decide) G2 Ex2) o_37 rfl rfl rfl (Nat.le_of_ble_eq_true rfl) ⟨rfl, rfl⟩ (fun x7 h7 qx7 => ?_)
      obtain ⟨G7, S7, Ex7, Tx7⟩ := qx7
      have R7 := R2.call S7 (by decide +kernel)
      rcases tkc_ (rowz R2 (fun _ => rfl)) (R2 35 1 rfl) Qx2 Tx7 with ⟨rfl, Wx7, Qx7⟩ | ⟨rfl, Wx7, Qx7⟩
      · have LR7 : LR 9 h7 r := LR2.same (fun i hi j => S7 _ j (fr_out (a := 9) (b := 16) (by decide) (by omega) (by omega) j)) (fun _ _ => rfl)
        have u3_7 : h7 37 3 = h0 37 3 := (S7 37 3 rfl).trans u3_2
        refine z_if_ne_T (M := M_X1_readWeeks) 47 dX1_readWeeks_47 52 rfl (by omega) ?_
        refine z_aload_n (M := M_X1_readWeeks) 52 dX1_readWeeks_52 rfl ?_
        refine z_ldcS (M := M_X1_readWeeks) 53 dX1_readWeeks_53 (i := 3) rfl rfl rfl ?_
        refine z_vI (M := M_X1_readWeeks) 55 dX1_readWeeks_55 t_X1_take l_X1_27 (m_rr_of rfl) (rest := []) (c_X1_take2 h7 3 (by decide) G7 Ex7) o_37 rfl rfl rfl (Nat.le_of_ble_eq_true rfl) ⟨rfl, rfl⟩ (fun x8 h8 qx8 => ?_)
        obtain ⟨G8, S8, Ex8, Tx8⟩ := qx8
        have R8 := R7.call S8 (by decide +kernel)
        rcases tkc_ (rowz R7 (fun _ => rfl)) (R7 35 1 rfl) Qx7 Tx8 with ⟨rfl, Wx8, Qx8⟩ | ⟨rfl, Wx8, Qx8⟩
        · have LR8 : LR 9 h8 r := LR7.same (fun i hi j => S8 _ j (fr_out (a := 9) (b := 16) (by decide) (by omega) (by omega) j)) (fun _ _ => rfl)
          have u3_8 : h8 37 3 = h0 37 3 := (S8 37 3 rfl).trans u3_7
          refine z_istore (M := M_X1_readWeeks) 58 dX1_readWeeks_58 (ls' := [some (mR 37), some (mR 9), some (mI x1), some (mI x1), some (mI 1), none, none]) (by decide) rfl ?_
          refine z_iload (M := M_X1_readWeeks) 60 dX1_readWeeks_60 rfl ?_
          refine z_if_eq_F (M := M_X1_readWeeks) 62 dX1_readWeeks_62 69 rfl (by omega) ?_
          refine z_iconst (M := M_X1_readWeeks) 65 dX1_readWeeks_65 ?_
          refine z_goto (M := M_X1_readWeeks) 66 dX1_readWeeks_66 75 rfl ?_
          refine z_istore (M := M_X1_readWeeks) 75 dX1_readWeeks_75 (ls' := [some (mR 37), some (mR 9), some (mI x1), some (mI x1), some (mI 1), some (mI (-1)), none]) (by decide) rfl ?_
          refine z_iload (M := M_X1_readWeeks) 77 dX1_readWeeks_77 rfl ?_
          refine z_iconst (M := M_X1_readWeeks) 79 dX1_readWeeks_79 ?_
          refine z_icmp_ne_F (M := M_X1_readWeeks) 80 dX1_readWeeks_80 90 rfl (by omega) ?_
          refine z_iload (M := M_X1_readWeeks) 83 dX1_readWeeks_83 rfl ?_
          refine z_if_ne_T (M := M_X1_readWeeks) 85 dX1_readWeeks_85 90 rfl (by omega) ?_
          refine z_iload_n (M := M_X1_readWeeks) 90 dX1_readWeeks_90 rfl ?_
          refine z_istore (M := M_X1_readWeeks) 91 dX1_readWeeks_91 (ls' := [some (mR 37), some (mR 9), some (mI x1), some (mI x1), some (mI 1), some (mI (-1)), some (mI x1)]) (by decide) rfl ?_
          exact z_mask [false, true, false, true, false, true, true] rfl (ih x1 (-1) x1 h8 G8 R8 (by omega) (by omega) (by omega) (by omega) (by omega) (by omega) Ex8 ⟨x1, wk_0 (q := (nxt (h0 36) (h0 35 1) (nxt (h0 36) (h0 35 1) (nxt (h0 36) (h0 35 1) (Qc h0))))) (by unfold rdWeeks rdBy; rw [cif_pos (Wx1), cif_neg (Wx2), cif_pos (Wx7), cif_pos (Wx8), Nx1]) Qx8 u3_8 LR8 (by omega) (by omega) (by omega)⟩ (by omega))
        · have LR8 : LR 9 h8 r := LR7.same (fun i hi j => S8 _ j (fr_out (a := 9) (b := 16) (by decide) (by omega) (by omega) j)) (fun _ _ => rfl)
          have u3_8 : h8 37 3 = h0 37 3 := (S8 37 3 rfl).trans u3_7
          refine z_istore (M := M_X1_readWeeks) 58 dX1_readWeeks_58 (ls' := [some (mR 37), some (mR 9), some (mI x1), some (mI x1), some (mI 0), none, none]) (by decide) rfl ?_
          refine z_iload (M := M_X1_readWeeks) 60 dX1_readWeeks_60 rfl ?_
          refine z_if_eq_T (M := M_X1_readWeeks) 62 dX1_readWeeks_62 69 rfl (by omega) ?_
          refine z_aload_n (M := M_X1_readWeeks) 69 dX1_readWeeks_69 rfl ?_
          refine z_iconst (M := M_X1_readWeeks) 70 dX1_readWeeks_70 ?_
          refine z_iconst (M := M_X1_readWeeks) 71 dX1_readWeeks_71 ?_
          refine z_vI (M := M_X1_readWeeks) 72 dX1_readWeeks_72 t_X1_takeNumber l_X1_53 (m_rr_of rfl) (rest := []) (c_X1_takeNumber2 h8 0 3 G8 Ex8 ⟨by omega, by omega⟩ ⟨by omega, by omega⟩) o_37 rfl rfl rfl (Nat.le_of_ble_eq_true rfl) ⟨rfl, rfl⟩ (fun x9 h9 qx9 => ?_)
          obtain ⟨G9, S9, ax9, bx9, cx9, Ex9, Tx9⟩ := qx9
          have R9 := R8.call S9 (by decide +kernel)
          rcases tn_c (rowz R8 (fun _ => rfl)) (R8 35 1 rfl) Qx8 Tx9 with ⟨rfl, Wx9, Qx9⟩ | ⟨Nx9, Wx9, Qx9⟩
          · have LR9 : LR 9 h9 r := LR8.same (fun i hi j => S9 _ j (fr_out (a := 9) (b := 16) (by decide) (by omega) (by omega) j)) (fun _ _ => rfl)
            have u3_9 : h9 37 3 = h0 37 3 := (S9 37 3 rfl).trans u3_8
            refine z_istore (M := M_X1_readWeeks) 75 dX1_readWeeks_75 (ls' := [some (mR 37), some (mR 9), some (mI x1), some (mI x1), some (mI 0), some (mI (-1)), none]) (by decide) rfl ?_
            refine z_iload (M := M_X1_readWeeks) 77 dX1_readWeeks_77 rfl ?_
            refine z_iconst (M := M_X1_readWeeks) 79 dX1_readWeeks_79 ?_
            refine z_icmp_ne_F (M := M_X1_readWeeks) 80 dX1_readWeeks_80 90 rfl (by omega) ?_
            refine z_iload (M := M_X1_readWeeks) 83 dX1_readWeeks_83 rfl ?_
            refine z_if_ne_F (M := M_X1_readWeeks) 85 dX1_readWeeks_85 90 rfl (by omega) ?_
            refine z_iconst (M := M_X1_readWeeks) 88 dX1_readWeeks_88 ?_
            exact z_retZ (M := M_X1_readWeeks) 89 dX1_readWeeks_89 rfl (by omega) ⟨G9, R9, Ex9, er_of (q := (nxt (h0 36) (h0 35 1) (nxt (h0 36) (h0 35 1) (Qc h0)))) (by unfold rdWeeks rdBy; rw [cif_pos (Wx1), cif_neg (Wx2), cif_pos (Wx7), cif_neg (Wx8), cif_neg (Wx9)]) Qx9 u3_9⟩
          · have LR9 : LR 9 h9 r := LR8.same (fun i hi j => S9 _ j (fr_out (a := 9) (b := 16) (by decide) (by omega) (by omega) j)) (fun _ _ => rfl)
            have u3_9 : h9 37 3 = h0 37 3 := (S9 37 3 rfl).trans u3_8
            have lx9 : 0 ≤ x9 ∧ x9 ≤ 3 := by rw [Nx9]; exact ⟨Wx9.2.2.1, Wx9.2.2.2⟩
            refine z_istore (M := M_X1_readWeeks) 75 dX1_readWeeks_75 (ls' := [some (mR 37), some (mR 9), some (mI x1), some (mI x1), some (mI 0), some (mI x9), none]) (by decide) rfl ?_
            refine z_iload (M := M_X1_readWeeks) 77 dX1_readWeeks_77 rfl ?_
            refine z_iconst (M := M_X1_readWeeks) 79 dX1_readWeeks_79 ?_
            refine z_icmp_ne_T (M := M_X1_readWeeks) 80 dX1_readWeeks_80 90 rfl (by omega) ?_
            refine z_iload_n (M := M_X1_readWeeks) 90 dX1_readWeeks_90 rfl ?_
            refine z_istore (M := M_X1_readWeeks) 91 dX1_readWeeks_91 (ls' := [some (mR 37), some (mR 9), some (mI x1), some (mI x1), some (mI 0), some (mI x9), some (mI x1)]) (by decide) rfl ?_
            exact z_mask [false, true, false, true, false, true, true] rfl (ih x1 x9 x1 h9 G9 R9 (by omega) (by omega) (by omega) (by omega) (by omega) (by omega) Ex9 ⟨x1, wk_0 (q := (nxt (h0 36) (h0 35 1) (nxt (h0 36) (h0 35 1) (nxt (h0 36) (h0 35 1) (Qc h0))))) (by unfold rdWeeks rdBy; rw [cif_pos (Wx1), cif_neg (Wx2), cif_pos (Wx7), cif_neg (Wx8), cif_pos (Wx9), Nx1, Nx9]) Qx9 u3_9 LR9 (by omega) (by omega) (by omega)⟩ (by omega))
      · have LR7 : LR 9 h7 r := LR2.same (fun i hi j => S7 _ j (fr_out (a := 9) (b := 16) (by decide) (by omega) (by omega) j)) (fun _ _ => rfl)
        have u3_7 : h7 37 3 = h0 37 3 := (S7 37 3 rfl).trans u3_2
        refine z_if_ne_F (M := M_X1_readWeeks) 47 dX1_readWeeks_47 52 rfl (by omega) ?_
        refine z_iconst (M := M_X1_readWeeks) 50 dX1_readWeeks_50 ?_
        exact z_retZ (M := M_X1_readWeeks) 51 dX1_readWeeks_51 rfl (by omega) ⟨G7, R7, Ex7, er_of (q := (nxt (h0 36) (h0 35 1) (Qc h0))) (by unfold rdWeeks rdBy; rw [cif_pos (Wx1), cif_neg (Wx2), cif_neg (Wx7)]) Qx7 u3_7⟩
abbrev P_X1_readMeasure2 (h0 : m_H) (a2 : Int) (r : Nat → Int) : Int → m_H → Prop := fun x h' => GI h' ∧ FR [12, 13, 14, 15] [(9, 7), (9, 8), (37, 1), (37, 2)] h0 h' ∧ EnS h' ∧ okQ 9 (rdMeas (h0 36) (h0 35 1) (Qc h0) r a2) x h0 h'
set_option maxHeartbeats 4000000 in
set_option maxRecDepth 100000 in
theorem c_X1_readMeasure2 (h0 : m_H) (a2 : Int) (r : Nat → Int) (G0 : GI h0) (pa2 : 0 ≤ a2 ∧ a2 ≤ 5) (hE : EnS h0) (Rr : LR 9 h0 r) : m_CI M_X1_readMeasure [mR 37, mR 9, mI a2] h0 (P_X1_readMeasure2 h0 a2 r) := by
  refine m_CI_of ⟨by decide, rfl, by simp [m_arg, m_isL, M_X1_readMeasure], ⟨rfl, rfl⟩, rfl, rfl⟩ (ls := [some (mR 37), some (mR 9), some (mI a2), none, none, none]) rfl ?_
  refine z_aload_n (M := M_X1_readMeasure) 0 dX1_readMeasure_0 rfl ?_
  refine z_vI (M := M_X1_readMeasure) 1 dX1_readMeasure_1 t_X4_hasRoom l_X1_106 (m_rr_of rfl) (rest := []) (c_X4_hasRoom h0 9 (Or.inr (Or.inl rfl)) G0) o_9 rfl rfl rfl (Nat.le_of_ble_eq_true rfl) ⟨rfl, rfl⟩ (fun x1 h1 qx1 => ?_)
  obtain ⟨rfl, ⟨rfl, cx1⟩ | ⟨rfl, cx1⟩⟩ := qx1
  · refine z_if_eq_F (M := M_X1_readMeasure) 4 dX1_readMeasure_4 16 rfl (by omega) ?_
    refine z_aload_n (M := M_X1_readMeasure) 7 dX1_readMeasure_7 rfl ?_
    refine z_ldcS (M := M_X1_readMeasure) 8 dX1_readMeasure_8 (i := 7) rfl rfl rfl ?_
    refine z_vI (M := M_X1_readMeasure) 10 dX1_readMeasure_10 t_X1_take l_X1_27 (m_rr_of rfl) (rest := []) (c_X1_take2 h0 7 (by decide) G0 hE) o_37 rfl rfl rfl (Nat.le_of_ble_eq_true rfl) ⟨rfl, rfl⟩ (fun x2 h2 qx2 => ?_)
    obtain ⟨G2, S2, Ex2, Tx2⟩ := qx2
    have R2 := (FR.rf (cs := [12, 13, 14, 15]) (ss := [(9, 7), (9, 8), (37, 1), (37, 2)]) (h := h0)).call S2 (by decide +kernel)
    rcases tkc_ (rowz (FR.rf (cs := [12, 13, 14, 15]) (ss := [(9, 7), (9, 8), (37, 1), (37, 2)]) (h := h0)) (fun _ => rfl)) ((FR.rf (cs := [12, 13, 14, 15]) (ss := [(9, 7), (9, 8), (37, 1), (37, 2)]) (h := h0)) 35 1 rfl) rfl Tx2 with ⟨rfl, Wx2, Qx2⟩ | ⟨rfl, Wx2, Qx2⟩
    · have LR2 : LR 9 h2 r := Rr.same (fun i hi j => S2 _ j (fr_out (a := 9) (b := 16) (by decide) (by omega) (by omega) j)) (fun _ _ => rfl)
      have u3_2 : h2 37 3 = h0 37 3 := (S2 37 3 rfl).trans rfl
      refine z_if_ne_T (M := M_X1_readMeasure) 13 dX1_readMeasure_13 18 rfl (by omega) ?_
      refine z_aload_n (M := M_X1_readMeasure) 18 dX1_readMeasure_18 rfl ?_
      refine z_iconst (M := M_X1_readMeasure) 19 dX1_readMeasure_19 ?_
      refine z_bipush (M := M_X1_readMeasure) 20 dX1_readMeasure_20 ?_
      refine z_vI (M := M_X1_readMeasure) 22 dX1_readMeasure_22 t_X1_takeNumber l_X1_53 (m_rr_of rfl) (rest := []) (c_X1_takeNumber2 h2 0 31 G2 Ex2 ⟨by omega, by omega⟩ ⟨by omega, by omega⟩) o_37 rfl rfl rfl (Nat.le_of_ble_eq_true rfl) ⟨rfl, rfl⟩ (fun x3 h3 qx3 => ?_)
      obtain ⟨G3, S3, ax3, bx3, cx3, Ex3, Tx3⟩ := qx3
      have R3 := R2.call S3 (by decide +kernel)
      rcases tn_c (rowz R2 (fun _ => rfl)) (R2 35 1 rfl) Qx2 Tx3 with ⟨rfl, Wx3, Qx3⟩ | ⟨Nx3, Wx3, Qx3⟩
      · have LR3 : LR 9 h3 r := LR2.same (fun i hi j => S3 _ j (fr_out (a := 9) (b := 16) (by decide) (by omega) (by omega) j)) (fun _ _ => rfl)
        have u3_3 : h3 37 3 = h0 37 3 := (S3 37 3 rfl).trans u3_2
        refine z_istore_n (M := M_X1_readMeasure) 25 dX1_readMeasure_25 (ls' := [some (mR 37), some (mR 9), some (mI a2), some (mI (-1)), none, none]) (by decide) rfl ?_
        refine z_iload_n (M := M_X1_readMeasure) 26 dX1_readMeasure_26 rfl ?_
        refine z_iconst (M := M_X1_readMeasure) 27 dX1_readMeasure_27 ?_
        refine z_icmp_eq_T (M := M_X1_readMeasure) 28 dX1_readMeasure_28 40 rfl (by omega) ?_
        refine z_iconst (M := M_X1_readMeasure) 40 dX1_readMeasure_40 ?_
        exact z_retZ (M := M_X1_readMeasure) 41 dX1_readMeasure_41 rfl (by omega) ⟨G3, R3, Ex3, er_of (q := (nxt (h0 36) (h0 35 1) (Qc h0))) (by unfold rdMeas; rw [cif_pos (⟨by have := Rr.2.2.2.2.1; omega, Wx2⟩), cif_neg (Wx3)]) Qx3 u3_3⟩
      · have LR3 : LR 9 h3 r := LR2.same (fun i hi j => S3 _ j (fr_out (a := 9) (b := 16) (by decide) (by omega) (by omega) j)) (fun _ _ => rfl)
        have u3_3 : h3 37 3 = h0 37 3 := (S3 37 3 rfl).trans u3_2
        have lx3 : 0 ≤ x3 ∧ x3 ≤ 31 := by rw [Nx3]; exact ⟨Wx3.2.2.1, Wx3.2.2.2⟩
        refine z_istore_n (M := M_X1_readMeasure) 25 dX1_readMeasure_25 (ls' := [some (mR 37), some (mR 9), some (mI a2), some (mI x3), none, none]) (by decide) rfl ?_
        refine z_iload_n (M := M_X1_readMeasure) 26 dX1_readMeasure_26 rfl ?_
        refine z_iconst (M := M_X1_readMeasure) 27 dX1_readMeasure_27 ?_
        refine z_icmp_eq_F (M := M_X1_readMeasure) 28 dX1_readMeasure_28 40 rfl (by omega) ?_
        refine z_aload_n (M := M_X1_readMeasure) 31 dX1_readMeasure_31 rfl ?_
        refine z_ldcS (M := M_X1_readMeasure) 32 dX1_readMeasure_32 (i := 8) rfl rfl rfl ?_
        refine z_vI (M := M_X1_readMeasure) 34 dX1_readMeasure_34 t_X1_take l_X1_27 (m_rr_of rfl) (rest := []) (c_X1_take2 h3 8 (by decide) G3 Ex3) o_37 rfl rfl rfl (Nat.le_of_ble_eq_true rfl) ⟨rfl, rfl⟩ (fun x4 h4 qx4 => ?_)
        obtain ⟨G4, S4, Ex4, Tx4⟩ := qx4
        have R4 := R3.call S4 (by decide +kernel)
        rcases tkc_ (rowz R3 (fun _ => rfl)) (R3 35 1 rfl) Qx3 Tx4 with ⟨rfl, Wx4, Qx4⟩ | ⟨rfl, Wx4, Qx4⟩
        · have LR4 : LR 9 h4 r := LR3.same (fun i hi j => S4 _ j (fr_out (a := 9) (b := 16) (by decide) (by omega) (by omega) j)) (fun _ _ => rfl)
          have u3_4 : h4 37 3 = h0 37 3 := (S4 37 3 rfl).trans u3_3
          refine z_if_ne_T (M := M_X1_readMeasure) 37 dX1_readMeasure_37 42 rfl (by omega) ?_
          refine z_aload_n (M := M_X1_readMeasure) 42 dX1_readMeasure_42 rfl ?_
          refine z_iconst (M := M_X1_readMeasure) 43 dX1_readMeasure_43 ?_
          refine z_bipush (M := M_X1_readMeasure) 44 dX1_readMeasure_44 ?_
          refine z_vI (M := M_X1_readMeasure) 46 dX1_readMeasure_46 t_X1_takeNumber l_X1_53 (m_rr_of rfl) (rest := []) (c_X1_takeNumber2 h4 1 99 G4 Ex4 ⟨by omega, by omega⟩ ⟨by omega, by omega⟩) o_37 rfl rfl rfl (Nat.le_of_ble_eq_true rfl) ⟨rfl, rfl⟩ (fun x5 h5 qx5 => ?_)
          obtain ⟨G5, S5, ax5, bx5, cx5, Ex5, Tx5⟩ := qx5
          have R5 := R4.call S5 (by decide +kernel)
          rcases tn_c (rowz R4 (fun _ => rfl)) (R4 35 1 rfl) Qx4 Tx5 with ⟨rfl, Wx5, Qx5⟩ | ⟨Nx5, Wx5, Qx5⟩
          · have LR5 : LR 9 h5 r := LR4.same (fun i hi j => S5 _ j (fr_out (a := 9) (b := 16) (by decide) (by omega) (by omega) j)) (fun _ _ => rfl)
            have u3_5 : h5 37 3 = h0 37 3 := (S5 37 3 rfl).trans u3_4
            refine z_istore (M := M_X1_readMeasure) 49 dX1_readMeasure_49 (ls' := [some (mR 37), some (mR 9), some (mI a2), some (mI x3), some (mI (-1)), none]) (by decide) rfl ?_
            refine z_iload (M := M_X1_readMeasure) 51 dX1_readMeasure_51 rfl ?_
            refine z_iconst (M := M_X1_readMeasure) 53 dX1_readMeasure_53 ?_
            refine z_icmp_ne_F (M := M_X1_readMeasure) 54 dX1_readMeasure_54 59 rfl (by omega) ?_
            refine z_iconst (M := M_X1_readMeasure) 57 dX1_readMeasure_57 ?_
            exact z_retZ (M := M_X1_readMeasure) 58 dX1_readMeasure_58 rfl (by omega) ⟨G5, R5, Ex5, er_of (q := (nxt (h0 36) (h0 35 1) (nxt (h0 36) (h0 35 1) (nxt (h0 36) (h0 35 1) (Qc h0))))) (by unfold rdMeas; rw [cif_pos (⟨by have := Rr.2.2.2.2.1; omega, Wx2⟩), cif_pos (Wx3), cif_pos (Wx4), cif_neg (Wx5)]) Qx5 u3_5⟩
          · have LR5 : LR 9 h5 r := LR4.same (fun i hi j => S5 _ j (fr_out (a := 9) (b := 16) (by decide) (by omega) (by omega) j)) (fun _ _ => rfl)
            have u3_5 : h5 37 3 = h0 37 3 := (S5 37 3 rfl).trans u3_4
            have lx5 : 1 ≤ x5 ∧ x5 ≤ 99 := by rw [Nx5]; exact ⟨Wx5.2.2.1, Wx5.2.2.2⟩
            refine z_istore (M := M_X1_readMeasure) 49 dX1_readMeasure_49 (ls' := [some (mR 37), some (mR 9), some (mI a2), some (mI x3), some (mI x5), none]) (by decide) rfl ?_
            refine z_iload (M := M_X1_readMeasure) 51 dX1_readMeasure_51 rfl ?_
            refine z_iconst (M := M_X1_readMeasure) 53 dX1_readMeasure_53 ?_
            refine z_icmp_ne_T (M := M_X1_readMeasure) 54 dX1_readMeasure_54 59 rfl (by omega) ?_
            refine z_iconst (M := M_X1_readMeasure) 59 dX1_readMeasure_59 ?_
            refine z_istore (M := M_X1_readMeasure) 60 dX1_readMeasure_60 (ls' := [some (mR 37), some (mR 9), some (mI a2), some (mI x3), some (mI x5), some (mI 0)]) (by decide) rfl ?_
            refine z_aload_n (M := M_X1_readMeasure) 62 dX1_readMeasure_62 rfl ?_
            refine z_ldcS (M := M_X1_readMeasure) 63 dX1_readMeasure_63 (i := 9) rfl rfl rfl ?_
            refine z_vI (M := M_X1_readMeasure) 65 dX1_readMeasure_65 t_X1_take l_X1_27 (m_rr_of rfl) (rest := []) (c_X1_take2 h5 9 (by decide) G5 Ex5) o_37 rfl rfl rfl (Nat.le_of_ble_eq_true rfl) ⟨rfl, rfl⟩ (fun x6 h6 qx6 => ?_)
            obtain ⟨G6, S6, Ex6, Tx6⟩ := qx6
            have R6 := R5.call S6 (by decide +kernel)
            rcases tkc_ (rowz R5 (fun _ => rfl)) (R5 35 1 rfl) Qx5 Tx6 with ⟨rfl, Wx6, Qx6⟩ | ⟨rfl, Wx6, Qx6⟩
            · have LR6 : LR 9 h6 r := LR5.same (fun i hi j => S6 _ j (fr_out (a := 9) (b := 16) (by decide) (by omega) (by omega) j)) (fun _ _ => rfl)
              have u3_6 : h6 37 3 = h0 37 3 := (S6 37 3 rfl).trans u3_5
              refine z_if_eq_F (M := M_X1_readMeasure) 68 dX1_readMeasure_68 77 rfl (by omega) ?_
              refine z_iconst (M := M_X1_readMeasure) 71 dX1_readMeasure_71 ?_
              refine z_istore (M := M_X1_readMeasure) 72 dX1_readMeasure_72 (ls' := [some (mR 37), some (mR 9), some (mI a2), some (mI x3), some (mI x5), some (mI 1)]) (by decide) rfl ?_
              refine z_goto (M := M_X1_readMeasure) 74 dX1_readMeasure_74 99 rfl ?_
              refine z_aload_n (M := M_X1_readMeasure) 99 dX1_readMeasure_99 rfl ?_
              refine z_iload_n (M := M_X1_readMeasure) 100 dX1_readMeasure_100 rfl ?_
              refine z_iload_n (M := M_X1_readMeasure) 101 dX1_readMeasure_101 rfl ?_
              refine z_iload (M := M_X1_readMeasure) 102 dX1_readMeasure_102 rfl ?_
              refine z_iload (M := M_X1_readMeasure) 104 dX1_readMeasure_104 rfl ?_
              refine z_vV (M := M_X1_readMeasure) 106 dX1_readMeasure_106 t_X4_addEntry l_X1_117 (m_rr_of rfl) (rest := []) (c_X4_addEntry2 h6 9 a2 x3 x5 1 (Or.inr (Or.inl rfl)) G6 ⟨by omega, by omega⟩ ⟨by omega, by omega⟩ ⟨by omega, by omega⟩ ⟨by omega, by omega⟩) o_9 rfl rfl rfl (Nat.le_of_ble_eq_true rfl) ⟨rfl, rfl⟩ (fun h7 qx7 => ?_)
              obtain ⟨G7, S7, fx7_0⟩ := qx7
              have R7 := R6.call S7 (by decide +kernel)
              have LR7 := fx7_0 r LR6 (by have := LR6.2.2.2.2.1; have := Rr.2.2.2.2.1; omega)
              have u3_7 : h7 37 3 = h0 37 3 := (S7 37 3 rfl).trans u3_6
              have qq7 : Qc h7 = (nxt (h0 36) (h0 35 1) (nxt (h0 36) (h0 35 1) (nxt (h0 36) (h0 35 1) (nxt (h0 36) (h0 35 1) (nxt (h0 36) (h0 35 1) (Qc h0)))))) := (Qc_S S7 rfl rfl).trans Qx6
              have en7 := EnS.fr Ex6 (rowz S7 (fun _ => rfl)) (S7 35 1 rfl) (Qc_S S7 rfl rfl)
              refine z_iconst (M := M_X1_readMeasure) 109 dX1_readMeasure_109 ?_
              exact z_retZ (M := M_X1_readMeasure) 110 dX1_readMeasure_110 rfl (by omega) ⟨G7, R7, en7, ok_of (p := ((nxt (h0 36) (h0 35 1) (nxt (h0 36) (h0 35 1) (nxt (h0 36) (h0 35 1) (nxt (h0 36) (h0 35 1) (nxt (h0 36) (h0 35 1) (Qc h0)))))), (rE r a2 x3 x5 1))) (by unfold rdMeas; rw [cif_pos (⟨by have := Rr.2.2.2.2.1; omega, Wx2⟩), cif_pos (Wx3), cif_pos (Wx4), cif_pos (Wx5), (kq_9 (n := h0 35 1) Wx6).1, (kq_9 (n := h0 35 1) Wx6).2, ← Nx3, ← Nx5]) qq7 LR7 u3_7⟩
            · have LR6 : LR 9 h6 r := LR5.same (fun i hi j => S6 _ j (fr_out (a := 9) (b := 16) (by decide) (by omega) (by omega) j)) (fun _ _ => rfl)
              have u3_6 : h6 37 3 = h0 37 3 := (S6 37 3 rfl).trans u3_5
              refine z_if_eq_T (M := M_X1_readMeasure) 68 dX1_readMeasure_68 77 rfl (by omega) ?_
              refine z_aload_n (M := M_X1_readMeasure) 77 dX1_readMeasure_77 rfl ?_
              refine z_ldcS (M := M_X1_readMeasure) 78 dX1_readMeasure_78 (i := 10) rfl rfl rfl ?_
              refine z_vI (M := M_X1_readMeasure) 80 dX1_readMeasure_80 t_X1_take l_X1_27 (m_rr_of rfl) (rest := []) (c_X1_take2 h6 10 (by decide) G6 Ex6) o_37 rfl rfl rfl (Nat.le_of_ble_eq_true rfl) ⟨rfl, rfl⟩ (fun x8 h8 qx8 => ?_)
              obtain ⟨G8, S8, Ex8, Tx8⟩ := qx8
              have R8 := R6.call S8 (by decide +kernel)
              rcases tkc_ (rowz R6 (fun _ => rfl)) (R6 35 1 rfl) Qx6 Tx8 with ⟨rfl, Wx8, Qx8⟩ | ⟨rfl, Wx8, Qx8⟩
              · have LR8 : LR 9 h8 r := LR6.same (fun i hi j => S8 _ j (fr_out (a := 9) (b := 16) (by decide) (by omega) (by omega) j)) (fun _ _ => rfl)
                have u3_8 : h8 37 3 = h0 37 3 := (S8 37 3 rfl).trans u3_6
                refine z_if_eq_F (M := M_X1_readMeasure) 83 dX1_readMeasure_83 92 rfl (by omega) ?_
                refine z_iconst (M := M_X1_readMeasure) 86 dX1_readMeasure_86 ?_
                refine z_istore (M := M_X1_readMeasure) 87 dX1_readMeasure_87 (ls' := [some (mR 37), some (mR 9), some (mI a2), some (mI x3), some (mI x5), some (mI 2)]) (by decide) rfl ?_
                refine z_goto (M := M_X1_readMeasure) 89 dX1_readMeasure_89 99 rfl ?_
                refine z_aload_n (M := M_X1_readMeasure) 99 dX1_readMeasure_99 rfl ?_
                refine z_iload_n (M := M_X1_readMeasure) 100 dX1_readMeasure_100 rfl ?_
                refine z_iload_n (M := M_X1_readMeasure) 101 dX1_readMeasure_101 rfl ?_
                refine z_iload (M := M_X1_readMeasure) 102 dX1_readMeasure_102 rfl ?_
                refine z_iload (M := M_X1_readMeasure) 104 dX1_readMeasure_104 rfl ?_
                refine z_vV (M := M_X1_readMeasure) 106 dX1_readMeasure_106 t_X4_addEntry l_X1_117 (m_rr_of rfl) (rest := []) (c_X4_addEntry2 h8 9 a2 x3 x5 2 (Or.inr (Or.inl rfl)) G8 ⟨by omega, by omega⟩ ⟨by omega, by omega⟩ ⟨by omega, by omega⟩ ⟨by omega, by omega⟩) o_9 rfl rfl rfl (Nat.le_of_ble_eq_true rfl) ⟨rfl, rfl⟩ (fun h9 qx9 => ?_)
                obtain ⟨G9, S9, fx9_0⟩ := qx9
                have R9 := R8.call S9 (by decide +kernel)
                have LR9 := fx9_0 r LR8 (by have := LR8.2.2.2.2.1; have := Rr.2.2.2.2.1; omega)
                have u3_9 : h9 37 3 = h0 37 3 := (S9 37 3 rfl).trans u3_8
                have qq9 : Qc h9 = (nxt (h0 36) (h0 35 1) (nxt (h0 36) (h0 35 1) (nxt (h0 36) (h0 35 1) (nxt (h0 36) (h0 35 1) (nxt (h0 36) (h0 35 1) (Qc h0)))))) := (Qc_S S9 rfl rfl).trans Qx8
                have en9 := EnS.fr Ex8 (rowz S9 (fun _ => rfl)) (S9 35 1 rfl) (Qc_S S9 rfl rfl)
                refine z_iconst (M := M_X1_readMeasure) 109 dX1_readMeasure_109 ?_
                exact z_retZ (M := M_X1_readMeasure) 110 dX1_readMeasure_110 rfl (by omega) ⟨G9, R9, en9, ok_of (p := ((nxt (h0 36) (h0 35 1) (nxt (h0 36) (h0 35 1) (nxt (h0 36) (h0 35 1) (nxt (h0 36) (h0 35 1) (nxt (h0 36) (h0 35 1) (Qc h0)))))), (rE r a2 x3 x5 2))) (by unfold rdMeas; rw [cif_pos (⟨by have := Rr.2.2.2.2.1; omega, Wx2⟩), cif_pos (Wx3), cif_pos (Wx4), cif_pos (Wx5), (kq_10 (n := h0 35 1) Wx6 Wx8).1, (kq_10 (n := h0 35 1) Wx6 Wx8).2, ← Nx3, ← Nx5]) qq9 LR9 u3_9⟩
              · have LR8 : LR 9 h8 r := LR6.same (fun i hi j => S8 _ j (fr_out (a := 9) (b := 16) (by decide) (by omega) (by omega) j)) (fun _ _ => rfl)
                have u3_8 : h8 37 3 = h0 37 3 := (S8 37 3 rfl).trans u3_6
                refine z_if_eq_T (M := M_X1_readMeasure) 83 dX1_readMeasure_83 92 rfl (by omega) ?_
                refine z_aload_n (M := M_X1_readMeasure) 92 dX1_readMeasure_92 rfl ?_
                refine z_ldcS (M := M_X1_readMeasure) 93 dX1_readMeasure_93 (i := 11) rfl rfl rfl ?_
                refine z_vI (M := M_X1_readMeasure) 95 dX1_readMeasure_95 t_X1_take l_X1_27 (m_rr_of rfl) (rest := []) (c_X1_take2 h8 11 (by decide) G8 Ex8) o_37 rfl rfl rfl (Nat.le_of_ble_eq_true rfl) ⟨rfl, rfl⟩ (fun x10 h10 qx10 => ?_)
                obtain ⟨G10, S10, Ex10, Tx10⟩ := qx10
                have R10 := R8.call S10 (by decide +kernel)
                rcases tkc_ (rowz R8 (fun _ => rfl)) (R8 35 1 rfl) Qx8 Tx10 with ⟨rfl, Wx10, Qx10⟩ | ⟨rfl, Wx10, Qx10⟩
                · have LR10 : LR 9 h10 r := LR8.same (fun i hi j => S10 _ j (fr_out (a := 9) (b := 16) (by decide) (by omega) (by omega) j)) (fun _ _ => rfl)
                  have u3_10 : h10 37 3 = h0 37 3 := (S10 37 3 rfl).trans u3_8
                  refine z_pop (M := M_X1_readMeasure) 98 dX1_readMeasure_98 rfl ?_
                  refine z_aload_n (M := M_X1_readMeasure) 99 dX1_readMeasure_99 rfl ?_
                  refine z_iload_n (M := M_X1_readMeasure) 100 dX1_readMeasure_100 rfl ?_
                  refine z_iload_n (M := M_X1_readMeasure) 101 dX1_readMeasure_101 rfl ?_
                  refine z_iload (M := M_X1_readMeasure) 102 dX1_readMeasure_102 rfl ?_
                  refine z_iload (M := M_X1_readMeasure) 104 dX1_readMeasure_104 rfl ?_
                  refine z_vV (M := M_X1_readMeasure) 106 dX1_readMeasure_106 t_X4_addEntry l_X1_117 (m_rr_of rfl) (rest := []) (c_X4_addEntry2 h10 9 a2 x3 x5 0 (Or.inr (Or.inl rfl)) G10 ⟨by omega, by omega⟩ ⟨by omega, by omega⟩ ⟨by omega, by omega⟩ ⟨by omega, by omega⟩) o_9 rfl rfl rfl (Nat.le_of_ble_eq_true rfl) ⟨rfl, rfl⟩ (fun h11 qx11 => ?_)
                  obtain ⟨G11, S11, fx11_0⟩ := qx11
                  have R11 := R10.call S11 (by decide +kernel)
                  have LR11 := fx11_0 r LR10 (by have := LR10.2.2.2.2.1; have := Rr.2.2.2.2.1; omega)
                  have u3_11 : h11 37 3 = h0 37 3 := (S11 37 3 rfl).trans u3_10
                  have qq11 : Qc h11 = (nxt (h0 36) (h0 35 1) (nxt (h0 36) (h0 35 1) (nxt (h0 36) (h0 35 1) (nxt (h0 36) (h0 35 1) (nxt (h0 36) (h0 35 1) (Qc h0)))))) := (Qc_S S11 rfl rfl).trans Qx10
                  have en11 := EnS.fr Ex10 (rowz S11 (fun _ => rfl)) (S11 35 1 rfl) (Qc_S S11 rfl rfl)
                  refine z_iconst (M := M_X1_readMeasure) 109 dX1_readMeasure_109 ?_
                  exact z_retZ (M := M_X1_readMeasure) 110 dX1_readMeasure_110 rfl (by omega) ⟨G11, R11, en11, ok_of (p := ((nxt (h0 36) (h0 35 1) (nxt (h0 36) (h0 35 1) (nxt (h0 36) (h0 35 1) (nxt (h0 36) (h0 35 1) (nxt (h0 36) (h0 35 1) (Qc h0)))))), (rE r a2 x3 x5 0))) (by unfold rdMeas; rw [cif_pos (⟨by have := Rr.2.2.2.2.1; omega, Wx2⟩), cif_pos (Wx3), cif_pos (Wx4), cif_pos (Wx5), (kq_11 (n := h0 35 1) Wx6 Wx8 Wx10).1, (kq_11 (n := h0 35 1) Wx6 Wx8 Wx10).2, ← Nx3, ← Nx5]) qq11 LR11 u3_11⟩
                · have LR10 : LR 9 h10 r := LR8.same (fun i hi j => S10 _ j (fr_out (a := 9) (b := 16) (by decide) (by omega) (by omega) j)) (fun _ _ => rfl)
                  have u3_10 : h10 37 3 = h0 37 3 := (S10 37 3 rfl).trans u3_8
                  refine z_pop (M := M_X1_readMeasure) 98 dX1_readMeasure_98 rfl ?_
                  refine z_aload_n (M := M_X1_readMeasure) 99 dX1_readMeasure_99 rfl ?_
                  refine z_iload_n (M := M_X1_readMeasure) 100 dX1_readMeasure_100 rfl ?_
                  refine z_iload_n (M := M_X1_readMeasure) 101 dX1_readMeasure_101 rfl ?_
                  refine z_iload (M := M_X1_readMeasure) 102 dX1_readMeasure_102 rfl ?_
                  refine z_iload (M := M_X1_readMeasure) 104 dX1_readMeasure_104 rfl ?_
                  refine z_vV (M := M_X1_readMeasure) 106 dX1_readMeasure_106 t_X4_addEntry l_X1_117 (m_rr_of rfl) (rest := []) (c_X4_addEntry2 h10 9 a2 x3 x5 0 (Or.inr (Or.inl rfl)) G10 ⟨by omega, by omega⟩ ⟨by omega, by omega⟩ ⟨by omega, by omega⟩ ⟨by omega, by omega⟩) o_9 rfl rfl rfl (Nat.le_of_ble_eq_true rfl) ⟨rfl, rfl⟩ (fun h12 qx12 => ?_)
                  obtain ⟨G12, S12, fx12_0⟩ := qx12
                  have R12 := R10.call S12 (by decide +kernel)
                  have LR12 := fx12_0 r LR10 (by have := LR10.2.2.2.2.1; have := Rr.2.2.2.2.1; omega)
                  have u3_12 : h12 37 3 = h0 37 3 := (S12 37 3 rfl).trans u3_10
                  have qq12 : Qc h12 = (nxt (h0 36) (h0 35 1) (nxt (h0 36) (h0 35 1) (nxt (h0 36) (h0 35 1) (nxt (h0 36) (h0 35 1) (Qc h0))))) := (Qc_S S12 rfl rfl).trans Qx10
                  have en12 := EnS.fr Ex10 (rowz S12 (fun _ => rfl)) (S12 35 1 rfl) (Qc_S S12 rfl rfl)
                  refine z_iconst (M := M_X1_readMeasure) 109 dX1_readMeasure_109 ?_
                  exact z_retZ (M := M_X1_readMeasure) 110 dX1_readMeasure_110 rfl (by omega) ⟨G12, R12, en12, ok_of (p := ((nxt (h0 36) (h0 35 1) (nxt (h0 36) (h0 35 1) (nxt (h0 36) (h0 35 1) (nxt (h0 36) (h0 35 1) (Qc h0))))), (rE r a2 x3 x5 0))) (by unfold rdMeas; rw [cif_pos (⟨by have := Rr.2.2.2.2.1; omega, Wx2⟩), cif_pos (Wx3), cif_pos (Wx4), cif_pos (Wx5), (kq_0 (n := h0 35 1) Wx6 Wx8 Wx10).1, (kq_0 (n := h0 35 1) Wx6 Wx8 Wx10).2, ← Nx3, ← Nx5]) qq12 LR12 u3_12⟩
        · have LR4 : LR 9 h4 r := LR3.same (fun i hi j => S4 _ j (fr_out (a := 9) (b := 16) (by decide) (by omega) (by omega) j)) (fun _ _ => rfl)
          have u3_4 : h4 37 3 = h0 37 3 := (S4 37 3 rfl).trans u3_3
          refine z_if_ne_F (M := M_X1_readMeasure) 37 dX1_readMeasure_37 42 rfl (by omega) ?_
          refine z_iconst (M := M_X1_readMeasure) 40 dX1_readMeasure_40 ?_
          exact z_retZ (M := M_X1_readMeasure) 41 dX1_readMeasure_41 rfl (by omega) ⟨G4, R4, Ex4, er_of (q := (nxt (h0 36) (h0 35 1) (nxt (h0 36) (h0 35 1) (Qc h0)))) (by unfold rdMeas; rw [cif_pos (⟨by have := Rr.2.2.2.2.1; omega, Wx2⟩), cif_pos (Wx3), cif_neg (Wx4)]) Qx4 u3_4⟩
    · have LR2 : LR 9 h2 r := Rr.same (fun i hi j => S2 _ j (fr_out (a := 9) (b := 16) (by decide) (by omega) (by omega) j)) (fun _ _ => rfl)
      have u3_2 : h2 37 3 = h0 37 3 := (S2 37 3 rfl).trans rfl
      refine z_if_ne_F (M := M_X1_readMeasure) 13 dX1_readMeasure_13 18 rfl (by omega) ?_
      refine z_iconst (M := M_X1_readMeasure) 16 dX1_readMeasure_16 ?_
      exact z_retZ (M := M_X1_readMeasure) 17 dX1_readMeasure_17 rfl (by omega) ⟨G2, R2, Ex2, er_of (q := (Qc h0)) (by unfold rdMeas; rw [cif_neg (fun z => Wx2 z.2)]) Qx2 u3_2⟩
  · refine z_if_eq_T (M := M_X1_readMeasure) 4 dX1_readMeasure_4 16 rfl (by omega) ?_
    refine z_iconst (M := M_X1_readMeasure) 16 dX1_readMeasure_16 ?_
    exact z_retZ (M := M_X1_readMeasure) 17 dX1_readMeasure_17 rfl (by omega) ⟨G0, (FR.rf (cs := [12, 13, 14, 15]) (ss := [(9, 7), (9, 8), (37, 1), (37, 2)]) (h := h0)), hE, er_of (q := (Qc h0)) (by unfold rdMeas; rw [cif_neg (fun z => by have := Rr.2.2.2.2.1; have := z.1; omega)]) rfl rfl⟩
abbrev P_X1_readThing2 (h0 : m_H) (r : Nat → Int) : Int → m_H → Prop := fun x h' => GI h' ∧ FR [11, 12, 13, 14, 15] [(9, 7), (9, 8), (37, 1), (37, 2)] h0 h' ∧ EnS h' ∧ okQ 9 (rdThing (h0 36) (h0 35 1) (Qc h0) r) x h0 h'
def q_X1_readThing2 (h0 : m_H) (r : Nat → Int) (n : Nat) : Prop := (∀ (l2 l3 : Int) (h : m_H), GI h → FR [11, 12, 13, 14, 15] [(9, 7), (9, 8), (37, 1), (37, 2)] h0 h → 0 ≤ l2 → l2 ≤ 5 → 0 ≤ l3 → l3 ≤ 25 → (EnS h) → (∃ rr, thI (rdThing (h0 36) (h0 35 1) (Qc h0) r) (h0 36) (h0 35 1) l2 l3 h0 h rr) → 2 * (25 - l3) + (1) ≤ (n : Int) → m_Z oF M_X1_readThing 32 [some (mR 37), some (mR 9), some (mI l2), some (mI l3)] [] h (m_QI (P_X1_readThing2 h0 r)))
set_option maxHeartbeats 4000000 in
set_option maxRecDepth 100000 in
theorem s_X1_readThing2_32 (h0 : m_H) (r : Nat → Int) (G0 : GI h0) (hE : EnS h0) (Rr : LR 9 h0 r) (n : Nat) (ih : q_X1_readThing2 h0 r n) : ∀ (l2 l3 : Int) (h : m_H), GI h → FR [11, 12, 13, 14, 15] [(9, 7), (9, 8), (37, 1), (37, 2)] h0 h → 0 ≤ l2 → l2 ≤ 5 → 0 ≤ l3 → l3 ≤ 25 → (EnS h) → (∃ rr, thI (rdThing (h0 36) (h0 35 1) (Qc h0) r) (h0 36) (h0 35 1) l2 l3 h0 h rr) → 2 * (25 - l3) + (1) ≤ ((n + 1 : Nat) : Int) → m_Z oF M_X1_readThing 32 [some (mR 37), some (mR 9), some (mI l2), some (mI l3)] [] h (m_QI (P_X1_readThing2 h0 r)) := by
  intro l2 l3 h G R v0 v1 v2 v3 i0 i1 hr
  obtain ⟨rr, Lr, Zr, Ur, Cr⟩ := i1
  refine z_iload_n (M := M_X1_readThing) 32 dX1_readThing_32 rfl ?_
  refine z_bipush (M := M_X1_readThing) 33 dX1_readThing_33 ?_
  refine z_icmp_gt (M := M_X1_readThing) 35 dX1_readThing_35 66 rfl (fun c1 => ?_) (fun c1 => ?_)
  · refine z_iconst (M := M_X1_readThing) 66 dX1_readThing_66 ?_
    exact z_retZ (M := M_X1_readThing) 67 dX1_readThing_67 rfl (by omega) ⟨G, R, i0, False.elim (by have := Lr.1.2.1; omega)⟩
  · have kf : (25 - (l3 + 1)).toNat = (24 - l3).toNat := by omega
    have kz : rdMs (h0 36) (h0 35 1) l2 ((24 - l3).toNat + 1) (Qc h) rr = rdMs (h0 36) (h0 35 1) l2 (25 - l3).toNat (Qc h) rr := by congr 1; omega
    refine z_aload_n (M := M_X1_readThing) 38 dX1_readThing_38 rfl ?_
    refine z_aload_n (M := M_X1_readThing) 39 dX1_readThing_39 rfl ?_
    refine z_iload_n (M := M_X1_readThing) 40 dX1_readThing_40 rfl ?_
    refine z_vI (M := M_X1_readThing) 41 dX1_readThing_41 t_X1_readMeasure l_X1_94 (m_rr_of rfl) (rest := []) (c_X1_readMeasure2 h l2 rr G ⟨by omega, by omega⟩ i0 Lr) o_37 rfl rfl rfl (Nat.le_of_ble_eq_true rfl) ⟨rfl, rfl⟩ (fun x2 h1 qx2 => ?_)
    obtain ⟨G1, S1, Ex2, Kx2⟩ := qx2
    have R1 := R.call S1 (by decide +kernel)
    rcases ok_cs (ok_c (F := fun b n q => rdMeas b n q rr l2) (h0 := h0) (rowz R (fun _ => rfl)) (R 35 1 rfl) rfl Ur Kx2) with ⟨px2, Zx2, rfl, Qx2, Lx2, Ux2⟩ | ⟨ex2, Zx2, rfl, Fx2⟩
    · refine z_if_ne_T (M := M_X1_readThing) 44 dX1_readThing_44 49 rfl (by omega) ?_
      refine z_aload_n (M := M_X1_readThing) 49 dX1_readThing_49 rfl ?_
      refine z_ldcS (M := M_X1_readThing) 50 dX1_readThing_50 (i := 12) rfl rfl rfl ?_
      refine z_vI (M := M_X1_readThing) 52 dX1_readThing_52 t_X1_take l_X1_27 (m_rr_of rfl) (rest := []) (c_X1_take2 h1 12 (by decide) G1 Ex2) o_37 rfl rfl rfl (Nat.le_of_ble_eq_true rfl) ⟨rfl, rfl⟩ (fun x3 h2 qx3 => ?_)
      obtain ⟨G2, S2, Ex3, Tx3⟩ := qx3
      have R2 := R1.call S2 (by decide +kernel)
      rcases tkc_ (rowz R1 (fun _ => rfl)) (R1 35 1 rfl) Qx2 Tx3 with ⟨rfl, Wx3, Qx3⟩ | ⟨rfl, Wx3, Qx3⟩
      · have LR2 : LR 9 h2 px2.2 := Lx2.same (fun i hi j => S2 _ j (fr_out (a := 9) (b := 16) (by decide) (by omega) (by omega) j)) (fun _ _ => rfl)
        have u3_2 : h2 37 3 = h0 37 3 := (S2 37 3 rfl).trans Ux2
        refine z_if_ne_T (M := M_X1_readThing) 55 dX1_readThing_55 60 rfl (by omega) ?_
        refine z_iincN (M := M_X1_readThing) 60 dX1_readThing_60 (ls' := [some (mR 37), some (mR 9), some (mI l2), some (mI (l3 + 1))]) (by decide) rfl (by (unfold m_32; decide)) (by omega) (by omega) rfl ?_
        refine z_goto (M := M_X1_readThing) 63 dX1_readThing_63 32 rfl ?_
        exact z_mask [true, true, true, true] rfl (ih l2 (l3 + 1) h2 G2 R2 (by omega) (by omega) (by omega) (by omega) Ex3 ⟨_, LR2, (by rw [Qx3, kf]; exact (ms_nx Zx2 Wx3).symm.trans (kz.trans Zr)), u3_2, (by have := rdMeas_0 Zx2; omega)⟩ (by omega))
      · have LR2 : LR 9 h2 px2.2 := Lx2.same (fun i hi j => S2 _ j (fr_out (a := 9) (b := 16) (by decide) (by omega) (by omega) j)) (fun _ _ => rfl)
        have u3_2 : h2 37 3 = h0 37 3 := (S2 37 3 rfl).trans Ux2
        refine z_if_ne_F (M := M_X1_readThing) 55 dX1_readThing_55 60 rfl (by omega) ?_
        refine z_iconst (M := M_X1_readThing) 58 dX1_readThing_58 ?_
        exact z_retZ (M := M_X1_readThing) 59 dX1_readThing_59 rfl (by omega) ⟨G2, R2, Ex3, ok_of (p := px2) (Zr.symm.trans (kz.symm.trans (ms_ok Zx2 Wx3))) Qx3 LR2 u3_2⟩
    · refine z_if_ne_F (M := M_X1_readThing) 44 dX1_readThing_44 49 rfl (by omega) ?_
      refine z_iconst (M := M_X1_readThing) 47 dX1_readThing_47 ?_
      exact z_retZ (M := M_X1_readThing) 48 dX1_readThing_48 rfl (by omega) ⟨G1, R1, Ex2, er2_of (e := ex2) (Zr.symm.trans (kz.symm.trans (ms_er Zx2))) Fx2⟩
theorem a_X1_readThing2 (h0 : m_H) (r : Nat → Int) (G0 : GI h0) (hE : EnS h0) (Rr : LR 9 h0 r) : ∀ n, q_X1_readThing2 h0 r n := by
  intro n
  induction n with
  | zero => unfold q_X1_readThing2; intros; omega
  | succ n ih => exact s_X1_readThing2_32 h0 r G0 hE Rr n ih
set_option maxHeartbeats 4000000 in
set_option maxRecDepth 100000 in
theorem c_X1_readThing2 (h0 : m_H) (r : Nat → Int) (G0 : GI h0) (hE : EnS h0) (Rr : LR 9 h0 r) : m_CI M_X1_readThing [mR 37, mR 9] h0 (P_X1_readThing2 h0 r) := by
  refine m_CI_of ⟨by decide, rfl, by simp [m_arg, m_isL, M_X1_readThing], ⟨rfl, rfl⟩, rfl, rfl⟩ (ls := [some (mR 37), some (mR 9), none, none]) rfl ?_
  have ih := a_X1_readThing2 h0 r G0 hE Rr 58
  refine z_aload_n (M := M_X1_readThing) 0 dX1_readThing_0 rfl ?_
  refine z_iconst (M := M_X1_readThing) 1 dX1_readThing_1 ?_
  refine z_iconst (M := M_X1_readThing) 2 dX1_readThing_2 ?_
  refine z_vI (M := M_X1_readThing) 3 dX1_readThing_3 t_X1_takeNumber l_X1_53 (m_rr_of rfl) (rest := []) (c_X1_takeNumber2 h0 0 5 G0 hE ⟨by omega, by omega⟩ ⟨by omega, by omega⟩) o_37 rfl rfl rfl (Nat.le_of_ble_eq_true rfl) ⟨rfl, rfl⟩ (fun x1 h1 qx1 => ?_)
  obtain ⟨G1, S1, ax1, bx1, cx1, Ex1, Tx1⟩ := qx1
  have R1 := (FR.rf (cs := [11, 12, 13, 14, 15]) (ss := [(9, 7), (9, 8), (37, 1), (37, 2)]) (h := h0)).call S1 (by decide +kernel)
  rcases tn_c (rowz (FR.rf (cs := [11, 12, 13, 14, 15]) (ss := [(9, 7), (9, 8), (37, 1), (37, 2)]) (h := h0)) (fun _ => rfl)) ((FR.rf (cs := [11, 12, 13, 14, 15]) (ss := [(9, 7), (9, 8), (37, 1), (37, 2)]) (h := h0)) 35 1 rfl) rfl Tx1 with ⟨rfl, Wx1, Qx1⟩ | ⟨Nx1, Wx1, Qx1⟩
  · have LR1 : LR 9 h1 r := Rr.same (fun i hi j => S1 _ j (fr_out (a := 9) (b := 16) (by decide) (by omega) (by omega) j)) (fun _ _ => rfl)
    have u3_1 : h1 37 3 = h0 37 3 := (S1 37 3 rfl).trans rfl
    refine z_istore_n (M := M_X1_readThing) 6 dX1_readThing_6 (ls' := [some (mR 37), some (mR 9), some (mI (-1)), none]) (by decide) rfl ?_
    refine z_iload_n (M := M_X1_readThing) 7 dX1_readThing_7 rfl ?_
    refine z_iconst (M := M_X1_readThing) 8 dX1_readThing_8 ?_
    refine z_icmp_ne_F (M := M_X1_readThing) 9 dX1_readThing_9 14 rfl (by omega) ?_
    refine z_iconst (M := M_X1_readThing) 12 dX1_readThing_12 ?_
    exact z_retZ (M := M_X1_readThing) 13 dX1_readThing_13 rfl (by omega) ⟨G1, R1, Ex1, er_of (q := (Qc h0)) (by unfold rdThing; rw [cif_neg (Wx1)]) Qx1 u3_1⟩
  · have LR1 : LR 9 h1 r := Rr.same (fun i hi j => S1 _ j (fr_out (a := 9) (b := 16) (by decide) (by omega) (by omega) j)) (fun _ _ => rfl)
    have u3_1 : h1 37 3 = h0 37 3 := (S1 37 3 rfl).trans rfl
    have lx1 : 0 ≤ x1 ∧ x1 ≤ 5 := by rw [Nx1]; exact ⟨Wx1.2.2.1, Wx1.2.2.2⟩
    refine z_istore_n (M := M_X1_readThing) 6 dX1_readThing_6 (ls' := [some (mR 37), some (mR 9), some (mI x1), none]) (by decide) rfl ?_
    refine z_iload_n (M := M_X1_readThing) 7 dX1_readThing_7 rfl ?_
    refine z_iconst (M := M_X1_readThing) 8 dX1_readThing_8 ?_
    refine z_icmp_ne_T (M := M_X1_readThing) 9 dX1_readThing_9 14 rfl (by omega) ?_
    refine z_aload_n (M := M_X1_readThing) 14 dX1_readThing_14 rfl ?_
    refine z_ldcS (M := M_X1_readThing) 15 dX1_readThing_15 (i := 5) rfl rfl rfl ?_
    refine z_vI (M := M_X1_readThing) 17 dX1_readThing_17 t_X1_take l_X1_27 (m_rr_of rfl) (rest := []) (c_X1_take2 h1 5 (by decide) G1 Ex1) o_37 rfl rfl rfl (Nat.le_of_ble_eq_true rfl) ⟨rfl, rfl⟩ (fun x2 h2 qx2 => ?_)
    obtain ⟨G2, S2, Ex2, Tx2⟩ := qx2
    have R2 := R1.call S2 (by decide +kernel)
    rcases tkc_ (rowz R1 (fun _ => rfl)) (R1 35 1 rfl) Qx1 Tx2 with ⟨rfl, Wx2, Qx2⟩ | ⟨rfl, Wx2, Qx2⟩
    · have LR2 : LR 9 h2 r := LR1.same (fun i hi j => S2 _ j (fr_out (a := 9) (b := 16) (by decide) (by omega) (by omega) j)) (fun _ _ => rfl)
      have u3_2 : h2 37 3 = h0 37 3 := (S2 37 3 rfl).trans u3_1
      refine z_if_eq_F (M := M_X1_readThing) 20 dX1_readThing_20 30 rfl (by omega) ?_
      refine z_aload_n (M := M_X1_readThing) 23 dX1_readThing_23 rfl ?_
      refine z_aload_n (M := M_X1_readThing) 24 dX1_readThing_24 rfl ?_
      refine z_iload_n (M := M_X1_readThing) 25 dX1_readThing_25 rfl ?_
      refine z_vI (M := M_X1_readThing) 26 dX1_readThing_26 t_X1_readCut l_X1_90 (m_rr_of rfl) (rest := []) (c_X1_readCut2 h2 x1 r G2 ⟨by omega, by omega⟩ Ex2 LR2) o_37 rfl rfl rfl (Nat.le_of_ble_eq_true rfl) ⟨rfl, rfl⟩ (fun x3 h3 qx3 => ?_)
      obtain ⟨G3, S3, Ex3, Kx3⟩ := qx3
      have R3 := R2.call S3 (by decide +kernel)
      rcases ok_cs (ok_c (F := fun b n q => rdCut b n q r x1) (h0 := h0) (rowz R2 (fun _ => rfl)) (R2 35 1 rfl) Qx2 u3_2 Kx3) with ⟨px3, Zx3, rfl, Qx3, Lx3, Ux3⟩ | ⟨ex3, Zx3, rfl, Fx3⟩
      · exact z_retZ (M := M_X1_readThing) 29 dX1_readThing_29 rfl (by omega) ⟨G3, R3, Ex3, ok_of (p := px3) (by unfold rdThing; rw [cif_pos (Wx1), cif_pos (Wx2), ← Nx1]; exact Zx3) Qx3 Lx3 Ux3⟩
      · exact z_retZ (M := M_X1_readThing) 29 dX1_readThing_29 rfl (by omega) ⟨G3, R3, Ex3, er2_of (e := ex3) (by unfold rdThing; rw [cif_pos (Wx1), cif_pos (Wx2), ← Nx1]; exact Zx3) Fx3⟩
    · have LR2 : LR 9 h2 r := LR1.same (fun i hi j => S2 _ j (fr_out (a := 9) (b := 16) (by decide) (by omega) (by omega) j)) (fun _ _ => rfl)
      have u3_2 : h2 37 3 = h0 37 3 := (S2 37 3 rfl).trans u3_1
      refine z_if_eq_T (M := M_X1_readThing) 20 dX1_readThing_20 30 rfl (by omega) ?_
      refine z_iconst (M := M_X1_readThing) 30 dX1_readThing_30 ?_
      refine z_istore_n (M := M_X1_readThing) 31 dX1_readThing_31 (ls' := [some (mR 37), some (mR 9), some (mI x1), some (mI 0)]) (by decide) rfl ?_
      exact z_mask [true, true, true, true] rfl (ih x1 0 h2 G2 R2 (by omega) (by omega) (by omega) (by omega) Ex2 ⟨r, LR2, (by rw [Qx2]; unfold rdThing; rw [cif_pos (Wx1), cif_neg (Wx2), Nx1]; rfl), u3_2, (by have := Rr.1.1; omega)⟩ (by omega))
abbrev P_X1_readShorter2 (h0 : m_H) (r : Nat → Int) : Int → m_H → Prop := fun x h' => GI h' ∧ FR [] [(9, 9), (37, 1), (37, 2), (37, 3)] h0 h' ∧ EnS h' ∧ okQ 9 (rdS3 (h0 36) (h0 35 1) (Qc h0) r) x h0 h'
set_option maxHeartbeats 4000000 in
set_option maxRecDepth 100000 in
theorem c_X1_readShorter2 (h0 : m_H) (r : Nat → Int) (G0 : GI h0) (hE : EnS h0) (Rr : LR 9 h0 r) : m_CI M_X1_readShorter [mR 37, mR 9] h0 (P_X1_readShorter2 h0 r) := by
  refine m_CI_of ⟨by decide, rfl, by simp [m_arg, m_isL, M_X1_readShorter], ⟨rfl, rfl⟩, rfl, rfl⟩ (ls := [some (mR 37), some (mR 9), none, none, none]) rfl ?_
  refine z_aload_n (M := M_X1_readShorter) 0 dX1_readShorter_0 rfl ?_
  refine z_getIG (M := M_X1_readShorter) 1 dX1_readShorter_1 f_X1_43 o_37 (by decide) (g_37_1 G0) (fun x1 ex1 ax1 bx1 => ?_)
  refine z_istore_n (M := M_X1_readShorter) 4 dX1_readShorter_4 (ls' := [some (mR 37), some (mR 9), some (mI x1), none, none]) (by decide) rfl ?_
  refine z_aload_n (M := M_X1_readShorter) 5 dX1_readShorter_5 rfl ?_
  refine z_ldcS (M := M_X1_readShorter) 6 dX1_readShorter_6 (i := 13) rfl rfl rfl ?_
  refine z_vI (M := M_X1_readShorter) 8 dX1_readShorter_8 t_X1_take l_X1_27 (m_rr_of rfl) (rest := []) (c_X1_take2 h0 13 (by decide) G0 hE) o_37 rfl rfl rfl (Nat.le_of_ble_eq_true rfl) ⟨rfl, rfl⟩ (fun x2 h1 qx2 => ?_)
  obtain ⟨G1, S1, Ex2, Tx2⟩ := qx2
  have R1 := (FR.rf (cs := []) (ss := [(9, 9), (37, 1), (37, 2), (37, 3)]) (h := h0)).call S1 (by decide +kernel)
  rcases tkc_ (rowz (FR.rf (cs := []) (ss := [(9, 9), (37, 1), (37, 2), (37, 3)]) (h := h0)) (fun _ => rfl)) ((FR.rf (cs := []) (ss := [(9, 9), (37, 1), (37, 2), (37, 3)]) (h := h0)) 35 1 rfl) rfl Tx2 with ⟨rfl, Wx2, Qx2⟩ | ⟨rfl, Wx2, Qx2⟩
  · have LR1 : LR 9 h1 r := Rr.same (fun i hi j => S1 _ j (fr_out (a := 9) (b := 16) (by decide) (by omega) (by omega) j)) (fun _ _ => rfl)
    have u3_1 : h1 37 3 = h0 37 3 := (S1 37 3 rfl).trans rfl
    refine z_if_eq_F (M := M_X1_readShorter) 11 dX1_readShorter_11 23 rfl (by omega) ?_
    refine z_aload_n (M := M_X1_readShorter) 14 dX1_readShorter_14 rfl ?_
    refine z_iconst (M := M_X1_readShorter) 15 dX1_readShorter_15 ?_
    refine z_iconst (M := M_X1_readShorter) 16 dX1_readShorter_16 ?_
    refine z_vI (M := M_X1_readShorter) 17 dX1_readShorter_17 t_X1_takeNumber l_X1_53 (m_rr_of rfl) (rest := []) (c_X1_takeNumber2 h1 0 3 G1 Ex2 ⟨by omega, by omega⟩ ⟨by omega, by omega⟩) o_37 rfl rfl rfl (Nat.le_of_ble_eq_true rfl) ⟨rfl, rfl⟩ (fun x3 h2 qx3 => ?_)
    obtain ⟨G2, S2, ax3, bx3, cx3, Ex3, Tx3⟩ := qx3
    have R2 := R1.call S2 (by decide +kernel)
    rcases tn_c (rowz R1 (fun _ => rfl)) (R1 35 1 rfl) Qx2 Tx3 with ⟨rfl, Wx3, Qx3⟩ | ⟨Nx3, Wx3, Qx3⟩
    · have LR2 : LR 9 h2 r := LR1.same (fun i hi j => S2 _ j (fr_out (a := 9) (b := 16) (by decide) (by omega) (by omega) j)) (fun _ _ => rfl)
      have u3_2 : h2 37 3 = h0 37 3 := (S2 37 3 rfl).trans u3_1
      refine z_goto (M := M_X1_readShorter) 20 dX1_readShorter_20 24 rfl ?_
      refine z_istore_n (M := M_X1_readShorter) 24 dX1_readShorter_24 (ls' := [some (mR 37), some (mR 9), some (mI x1), some (mI (-1)), none]) (by decide) rfl ?_
      refine z_iload_n (M := M_X1_readShorter) 25 dX1_readShorter_25 rfl ?_
      refine z_iconst (M := M_X1_readShorter) 26 dX1_readShorter_26 ?_
      refine z_icmp_eq_T (M := M_X1_readShorter) 27 dX1_readShorter_27 47 rfl (by omega) ?_
      refine z_iconst (M := M_X1_readShorter) 47 dX1_readShorter_47 ?_
      exact z_retZ (M := M_X1_readShorter) 48 dX1_readShorter_48 rfl (by omega) ⟨G2, R2, Ex3, er_of (q := (nxt (h0 36) (h0 35 1) (Qc h0))) (by unfold rdS3 rdShort; rw [cif_pos (Wx2), cif_neg (Wx3)]) Qx3 u3_2⟩
    · have LR2 : LR 9 h2 r := LR1.same (fun i hi j => S2 _ j (fr_out (a := 9) (b := 16) (by decide) (by omega) (by omega) j)) (fun _ _ => rfl)
      have u3_2 : h2 37 3 = h0 37 3 := (S2 37 3 rfl).trans u3_1
      have lx3 : 0 ≤ x3 ∧ x3 ≤ 3 := by rw [Nx3]; exact ⟨Wx3.2.2.1, Wx3.2.2.2⟩
      refine z_goto (M := M_X1_readShorter) 20 dX1_readShorter_20 24 rfl ?_
      refine z_istore_n (M := M_X1_readShorter) 24 dX1_readShorter_24 (ls' := [some (mR 37), some (mR 9), some (mI x1), some (mI x3), none]) (by decide) rfl ?_
      refine z_iload_n (M := M_X1_readShorter) 25 dX1_readShorter_25 rfl ?_
      refine z_iconst (M := M_X1_readShorter) 26 dX1_readShorter_26 ?_
      refine z_icmp_eq_F (M := M_X1_readShorter) 27 dX1_readShorter_27 47 rfl (by omega) ?_
      refine z_aload_n (M := M_X1_readShorter) 30 dX1_readShorter_30 rfl ?_
      refine z_ldcS (M := M_X1_readShorter) 31 dX1_readShorter_31 (i := 14) rfl rfl rfl ?_
      refine z_vI (M := M_X1_readShorter) 33 dX1_readShorter_33 t_X1_take l_X1_27 (m_rr_of rfl) (rest := []) (c_X1_take2 h2 14 (by decide) G2 Ex3) o_37 rfl rfl rfl (Nat.le_of_ble_eq_true rfl) ⟨rfl, rfl⟩ (fun x4 h3 qx4 => ?_)
      obtain ⟨G3, S3, Ex4, Tx4⟩ := qx4
      have R3 := R2.call S3 (by decide +kernel)
      rcases tkc_ (rowz R2 (fun _ => rfl)) (R2 35 1 rfl) Qx3 Tx4 with ⟨rfl, Wx4, Qx4⟩ | ⟨rfl, Wx4, Qx4⟩
      · have LR3 : LR 9 h3 r := LR2.same (fun i hi j => S3 _ j (fr_out (a := 9) (b := 16) (by decide) (by omega) (by omega) j)) (fun _ _ => rfl)
        have u3_3 : h3 37 3 = h0 37 3 := (S3 37 3 rfl).trans u3_2
        refine z_if_eq_F (M := M_X1_readShorter) 36 dX1_readShorter_36 47 rfl (by omega) ?_
        refine z_aload_n (M := M_X1_readShorter) 39 dX1_readShorter_39 rfl ?_
        refine z_vI (M := M_X1_readShorter) 40 dX1_readShorter_40 t_X1_value l_X1_72 (m_rr_of rfl) (rest := []) (c_X1_value2 h3 G3 Ex4) o_37 rfl rfl rfl (Nat.le_of_ble_eq_true rfl) ⟨rfl, rfl⟩ (fun x5 h4 qx5 => ?_)
        obtain ⟨G4, S4, Fx5⟩ := qx5
        have R4 := R3.call S4 (by decide +kernel)
        refine z_ok (fun ox5 _ _ => ?_)
        have ox5 := ox5.1; unfold m_ok m_32 at ox5
        have Vx5 := vl_c (rowz R3 (fun _ => rfl)) (R3 35 1 rfl) Qx4 Fx5
        have LR4 : LR 9 h4 r := LR3.same (fun i hi j => S4 _ j (fr_out (a := 9) (b := 16) (by decide) (by omega) (by omega) j)) (fun _ _ => rfl)
        have u3_4 : h4 37 3 = h0 37 3 := (S4 37 3 rfl).trans u3_3
        have qq4 : Qc h4 = (nxt (h0 36) (h0 35 1) (nxt (h0 36) (h0 35 1) (nxt (h0 36) (h0 35 1) (Qc h0)))) := (Qc_S S4 rfl rfl).trans Qx4
        have en4 := EnS.fr Ex4 (rowz S4 (fun _ => rfl)) (S4 35 1 rfl) (Qc_S S4 rfl rfl)
        refine z_iload_n (M := M_X1_readShorter) 43 dX1_readShorter_43 rfl ?_
        refine z_icmp_ne (M := M_X1_readShorter) 44 dX1_readShorter_44 49 rfl (fun c6 => ?_) (fun c6 => ?_)
        · refine z_aload_n (M := M_X1_readShorter) 49 dX1_readShorter_49 rfl ?_
          refine z_iconst (M := M_X1_readShorter) 50 dX1_readShorter_50 ?_
          refine z_iconst (M := M_X1_readShorter) 51 dX1_readShorter_51 ?_
          refine z_vI (M := M_X1_readShorter) 52 dX1_readShorter_52 t_X1_takeNumber l_X1_53 (m_rr_of rfl) (rest := []) (c_X1_takeNumber2 h4 0 3 G4 en4 ⟨by omega, by omega⟩ ⟨by omega, by omega⟩) o_37 rfl rfl rfl (Nat.le_of_ble_eq_true rfl) ⟨rfl, rfl⟩ (fun x7 h5 qx7 => ?_)
          obtain ⟨G5, S5, ax7, bx7, cx7, Ex7, Tx7⟩ := qx7
          have R5 := R4.call S5 (by decide +kernel)
          rcases tn_c (rowz R4 (fun _ => rfl)) (R4 35 1 rfl) qq4 Tx7 with ⟨rfl, Wx7, Qx7⟩ | ⟨Nx7, Wx7, Qx7⟩
          · have LR5 : LR 9 h5 r := LR4.same (fun i hi j => S5 _ j (fr_out (a := 9) (b := 16) (by decide) (by omega) (by omega) j)) (fun _ _ => rfl)
            have u3_5 : h5 37 3 = h0 37 3 := (S5 37 3 rfl).trans u3_4
            refine z_istore (M := M_X1_readShorter) 55 dX1_readShorter_55 (ls' := [some (mR 37), some (mR 9), some (mI x1), some (mI x3), some (mI (-1))]) (by decide) rfl ?_
            refine z_iload (M := M_X1_readShorter) 57 dX1_readShorter_57 rfl ?_
            refine z_iconst (M := M_X1_readShorter) 59 dX1_readShorter_59 ?_
            refine z_icmp_ne_F (M := M_X1_readShorter) 60 dX1_readShorter_60 65 rfl (by omega) ?_
            refine z_iconst (M := M_X1_readShorter) 63 dX1_readShorter_63 ?_
            exact z_retZ (M := M_X1_readShorter) 64 dX1_readShorter_64 rfl (by omega) ⟨G5, R5, Ex7, er_of (q := (nxt (h0 36) (h0 35 1) (nxt (h0 36) (h0 35 1) (nxt (h0 36) (h0 35 1) (Qc h0))))) (by unfold rdS3 rdShort; rw [cif_pos (Wx2), cif_pos (Wx3), cif_pos (Wx4), cif_neg (fun z => Wx7 z.1)]) Qx7 u3_5⟩
          · have LR5 : LR 9 h5 r := LR4.same (fun i hi j => S5 _ j (fr_out (a := 9) (b := 16) (by decide) (by omega) (by omega) j)) (fun _ _ => rfl)
            have u3_5 : h5 37 3 = h0 37 3 := (S5 37 3 rfl).trans u3_4
            have lx7 : 0 ≤ x7 ∧ x7 ≤ 3 := by rw [Nx7]; exact ⟨Wx7.2.2.1, Wx7.2.2.2⟩
            refine z_istore (M := M_X1_readShorter) 55 dX1_readShorter_55 (ls' := [some (mR 37), some (mR 9), some (mI x1), some (mI x3), some (mI x7)]) (by decide) rfl ?_
            refine z_iload (M := M_X1_readShorter) 57 dX1_readShorter_57 rfl ?_
            refine z_iconst (M := M_X1_readShorter) 59 dX1_readShorter_59 ?_
            refine z_icmp_ne_T (M := M_X1_readShorter) 60 dX1_readShorter_60 65 rfl (by omega) ?_
            refine z_aload_n (M := M_X1_readShorter) 65 dX1_readShorter_65 rfl ?_
            refine z_iload_n (M := M_X1_readShorter) 66 dX1_readShorter_66 rfl ?_
            refine z_iload (M := M_X1_readShorter) 67 dX1_readShorter_67 rfl ?_
            refine z_vI (M := M_X1_readShorter) 69 dX1_readShorter_69 t_X4_isShorter l_X1_76 (m_rr_of rfl) (rest := []) (c_X4_isShorter2 h5 9 x3 x7 (Or.inr (Or.inl rfl)) G5 ⟨by omega, by omega⟩ ⟨by omega, by omega⟩) o_9 rfl rfl rfl (Nat.le_of_ble_eq_true rfl) ⟨rfl, rfl⟩ (fun x8 h6 qx8 => ?_)
            obtain ⟨G6, S6, ax8, bx8, fx8_0⟩ := qx8
            have R6 := R5.call S6 (by decide +kernel)
            have isx8 := is_sh LR5 (a := x3) (b := x7) (by omega) (by omega) (by omega) (by omega)
            have LR6 : LR 9 h6 r := LR5.same (fun i hi j => S6 _ j (fr_out (a := 9) (b := 16) (by decide) (by omega) (by omega) j)) (fun _ _ => rfl)
            have u3_6 : h6 37 3 = h0 37 3 := (S6 37 3 rfl).trans u3_5
            have qq6 : Qc h6 = (nxt (h0 36) (h0 35 1) (nxt (h0 36) (h0 35 1) (nxt (h0 36) (h0 35 1) (nxt (h0 36) (h0 35 1) (Qc h0))))) := (Qc_S S6 rfl rfl).trans Qx7
            have en6 := EnS.fr Ex7 (rowz S6 (fun _ => rfl)) (S6 35 1 rfl) (Qc_S S6 rfl rfl)
            refine z_if_eq (M := M_X1_readShorter) 72 dX1_readShorter_72 77 rfl (fun c9 => ?_) (fun c9 => ?_)
            · refine z_aload_n (M := M_X1_readShorter) 77 dX1_readShorter_77 rfl ?_
              refine z_vI (M := M_X1_readShorter) 78 dX1_readShorter_78 t_X4_hasRoomForShorter l_X1_80 (m_rr_of rfl) (rest := []) (c_X4_hasRoomForShorter2 h6 9 (Or.inr (Or.inl rfl)) G6 LR6.S9.1) o_9 rfl rfl rfl (Nat.le_of_ble_eq_true rfl) ⟨rfl, rfl⟩ (fun x10 h7 qx10 => ?_)
              obtain ⟨G7, S7, ax10, bx10, fx10_0⟩ := qx10
              have R7 := R6.call S7 (by decide +kernel)
              have hrx10 := LR6.S9.2
              have LR7 : LR 9 h7 r := LR6.same (fun i hi j => S7 _ j (fr_out (a := 9) (b := 16) (by decide) (by omega) (by omega) j)) (fun _ _ => rfl)
              have u3_7 : h7 37 3 = h0 37 3 := (S7 37 3 rfl).trans u3_6
              have qq7 : Qc h7 = (nxt (h0 36) (h0 35 1) (nxt (h0 36) (h0 35 1) (nxt (h0 36) (h0 35 1) (nxt (h0 36) (h0 35 1) (Qc h0))))) := (Qc_S S7 rfl rfl).trans qq6
              have en7 := EnS.fr en6 (rowz S7 (fun _ => rfl)) (S7 35 1 rfl) (Qc_S S7 rfl rfl)
              refine z_if_ne (M := M_X1_readShorter) 81 dX1_readShorter_81 91 rfl (fun c11 => ?_) (fun c11 => ?_)
              · refine z_aload_n (M := M_X1_readShorter) 91 dX1_readShorter_91 rfl ?_
                refine z_iload_n (M := M_X1_readShorter) 92 dX1_readShorter_92 rfl ?_
                refine z_iload (M := M_X1_readShorter) 93 dX1_readShorter_93 rfl ?_
                refine z_vV (M := M_X1_readShorter) 95 dX1_readShorter_95 t_X4_addShorter l_X1_84 (m_rr_of rfl) (rest := []) (c_X4_addShorter2 h7 9 x3 x7 (Or.inr (Or.inl rfl)) G7 ⟨by omega, by omega⟩ ⟨by omega, by omega⟩) o_9 rfl rfl rfl (Nat.le_of_ble_eq_true rfl) ⟨rfl, rfl⟩ (fun h8 qx12 => ?_)
                obtain ⟨G8, S8, fx12_0⟩ := qx12
                have R8 := R7.call S8 (by decide +kernel)
                have u3_8 : h8 37 3 = h0 37 3 := (S8 37 3 rfl).trans u3_7
                have qq8 : Qc h8 = (nxt (h0 36) (h0 35 1) (nxt (h0 36) (h0 35 1) (nxt (h0 36) (h0 35 1) (nxt (h0 36) (h0 35 1) (Qc h0))))) := (Qc_S S8 rfl rfl).trans qq7
                have en8 := EnS.fr en7 (rowz S8 (fun _ => rfl)) (S8 35 1 rfl) (Qc_S S8 rfl rfl)
                refine z_iconst (M := M_X1_readShorter) 98 dX1_readShorter_98 ?_
                exact z_retZ (M := M_X1_readShorter) 99 dX1_readShorter_99 rfl (by omega) ⟨G8, R8, en8, ok_of (p := ((nxt (h0 36) (h0 35 1) (nxt (h0 36) (h0 35 1) (nxt (h0 36) (h0 35 1) (nxt (h0 36) (h0 35 1) (Qc h0))))), rS r x3 x7)) (by unfold rdS3 rdShort; rw [cif_pos (Wx2), cif_pos (Wx3), cif_pos (Wx4), cif_pos ⟨Wx7, by have := vl_n Vx5 Wx7; omega⟩, ← Nx3, ← Nx7, cif_neg (fun z => by have := fx8_0.mpr (isx8.mpr z); omega), cif_pos (by omega)]) qq8 (fx12_0 r LR7 (by omega) (fun z => by have := fx8_0.mpr (isx8.mpr z); omega)) u3_8⟩
              · refine z_aload_n (M := M_X1_readShorter) 84 dX1_readShorter_84 rfl ?_
                refine z_iload_n (M := M_X1_readShorter) 85 dX1_readShorter_85 rfl ?_
                refine z_putIH (M := M_X1_readShorter) 86 dX1_readShorter_86 p_X1_15 o_37 rfl (u_37_3 G7) (R7.up rfl) (fun h9 E9 G9 R9 => ?_)
                refine z_iconst (M := M_X1_readShorter) 89 dX1_readShorter_89 ?_
                exact z_retZ (M := M_X1_readShorter) 90 dX1_readShorter_90 rfl (by omega) ⟨G9, R9, (EnS.fr en7 (tl_r E9 (by decide)) (tl_o E9 (by decide) _) (Qc_3 E9)), er2_of (e := (Qc h0).1) (by unfold rdS3 rdShort; rw [cif_pos (Wx2), cif_pos (Wx3), cif_pos (Wx4), cif_pos ⟨Wx7, by have := vl_n Vx5 Wx7; omega⟩, ← Nx3, ← Nx7, cif_neg (fun z => by have := fx8_0.mpr (isx8.mpr z); omega), cif_neg (by omega)]) (fun _ => by rw [upE E9, if_neg (by omega)]; exact ex1.symm)⟩
            · refine z_iconst (M := M_X1_readShorter) 75 dX1_readShorter_75 ?_
              exact z_retZ (M := M_X1_readShorter) 76 dX1_readShorter_76 rfl (by omega) ⟨G6, R6, en6, ok_of (p := ((nxt (h0 36) (h0 35 1) (nxt (h0 36) (h0 35 1) (nxt (h0 36) (h0 35 1) (nxt (h0 36) (h0 35 1) (Qc h0))))), r)) (by unfold rdS3 rdShort; rw [cif_pos (Wx2), cif_pos (Wx3), cif_pos (Wx4), cif_pos ⟨Wx7, by have := vl_n Vx5 Wx7; omega⟩, ← Nx3, ← Nx7, cif_pos (isx8.mp (fx8_0.mp (by omega)))]) qq6 LR6 u3_6⟩
        · refine z_iconst (M := M_X1_readShorter) 47 dX1_readShorter_47 ?_
          exact z_retZ (M := M_X1_readShorter) 48 dX1_readShorter_48 rfl (by omega) ⟨G4, R4, en4, er_of (q := (nxt (h0 36) (h0 35 1) (nxt (h0 36) (h0 35 1) (nxt (h0 36) (h0 35 1) (Qc h0))))) (by unfold rdS3 rdShort; rw [cif_pos (Wx2), cif_pos (Wx3), cif_pos (Wx4), cif_neg (fun z => z.2 (by have := vl_n Vx5 z.1; omega))]) qq4 u3_4⟩
      · have LR3 : LR 9 h3 r := LR2.same (fun i hi j => S3 _ j (fr_out (a := 9) (b := 16) (by decide) (by omega) (by omega) j)) (fun _ _ => rfl)
        have u3_3 : h3 37 3 = h0 37 3 := (S3 37 3 rfl).trans u3_2
        refine z_if_eq_T (M := M_X1_readShorter) 36 dX1_readShorter_36 47 rfl (by omega) ?_
        refine z_iconst (M := M_X1_readShorter) 47 dX1_readShorter_47 ?_
        exact z_retZ (M := M_X1_readShorter) 48 dX1_readShorter_48 rfl (by omega) ⟨G3, R3, Ex4, er_of (q := (nxt (h0 36) (h0 35 1) (nxt (h0 36) (h0 35 1) (Qc h0)))) (by unfold rdS3 rdShort; rw [cif_pos (Wx2), cif_pos (Wx3), cif_neg (Wx4)]) Qx4 u3_3⟩
  · have LR1 : LR 9 h1 r := Rr.same (fun i hi j => S1 _ j (fr_out (a := 9) (b := 16) (by decide) (by omega) (by omega) j)) (fun _ _ => rfl)
    have u3_1 : h1 37 3 = h0 37 3 := (S1 37 3 rfl).trans rfl
    refine z_if_eq_T (M := M_X1_readShorter) 11 dX1_readShorter_11 23 rfl (by omega) ?_
    refine z_iconst (M := M_X1_readShorter) 23 dX1_readShorter_23 ?_
    refine z_istore_n (M := M_X1_readShorter) 24 dX1_readShorter_24 (ls' := [some (mR 37), some (mR 9), some (mI x1), some (mI (-1)), none]) (by decide) rfl ?_
    refine z_iload_n (M := M_X1_readShorter) 25 dX1_readShorter_25 rfl ?_
    refine z_iconst (M := M_X1_readShorter) 26 dX1_readShorter_26 ?_
    refine z_icmp_eq_T (M := M_X1_readShorter) 27 dX1_readShorter_27 47 rfl (by omega) ?_
    refine z_iconst (M := M_X1_readShorter) 47 dX1_readShorter_47 ?_
    exact z_retZ (M := M_X1_readShorter) 48 dX1_readShorter_48 rfl (by omega) ⟨G1, R1, Ex2, er_of (q := (Qc h0)) (by unfold rdS3 rdShort; rw [cif_neg (Wx2)]) Qx2 u3_1⟩
abbrev P_X1_readOnto2 (h0 : m_H) (r : Nat → Int) : Int → m_H → Prop := fun x h' => GI h' ∧ FR [10, 11, 12, 13, 14, 15] [(9, 7), (9, 8), (9, 9), (37, 1), (37, 2), (37, 3)] h0 h' ∧ (-1) ≤ x ∧ x ≤ 400 ∧ onQ (rdBook (h0 36) (h0 35 1) 400 (nx (h0 36) (h0 35 1) 0) r 1) x h'
def q_X1_readOnto2 (h0 : m_H) (r : Nat → Int) (n : Nat) : Prop := (∀ (l2 : Int) (h : m_H), GI h → FR [10, 11, 12, 13, 14, 15] [(9, 7), (9, 8), (9, 9), (37, 1), (37, 2), (37, 3)] h0 h → 1 ≤ l2 → l2 ≤ 401 → (EnS h) → (∃ rr, onI (rdBook (h0 36) (h0 35 1) 400 (nx (h0 36) (h0 35 1) 0) r 1) (h0 36) (h0 35 1) l2 h rr) → 2 * (401 - l2) + (1) ≤ (n : Int) → m_Z oF M_X1_readOnto 16 [some (mR 37), some (mR 9), some (mI l2), none] [] h (m_QI (P_X1_readOnto2 h0 r)))
set_option maxHeartbeats 4000000 in
set_option maxRecDepth 100000 in
theorem s_X1_readOnto2_16 (h0 : m_H) (r : Nat → Int) (G0 : GI h0) (Rr : LR 9 h0 r) (n : Nat) (ih : q_X1_readOnto2 h0 r n) : ∀ (l2 : Int) (h : m_H), GI h → FR [10, 11, 12, 13, 14, 15] [(9, 7), (9, 8), (9, 9), (37, 1), (37, 2), (37, 3)] h0 h → 1 ≤ l2 → l2 ≤ 401 → (EnS h) → (∃ rr, onI (rdBook (h0 36) (h0 35 1) 400 (nx (h0 36) (h0 35 1) 0) r 1) (h0 36) (h0 35 1) l2 h rr) → 2 * (401 - l2) + (1) ≤ ((n + 1 : Nat) : Int) → m_Z oF M_X1_readOnto 16 [some (mR 37), some (mR 9), some (mI l2), none] [] h (m_QI (P_X1_readOnto2 h0 r)) := by
  intro l2 h G R v0 v1 i0 i1 hr
  obtain ⟨rr, Lr, Zr, Ur⟩ := i1
  refine z_iload_n (M := M_X1_readOnto) 16 dX1_readOnto_16 rfl ?_
  refine z_sipush (M := M_X1_readOnto) 17 dX1_readOnto_17 ?_
  refine z_icmp_gt (M := M_X1_readOnto) 20 dX1_readOnto_20 107 rfl (fun c1 => ?_) (fun c1 => ?_)
  · refine z_aload_n (M := M_X1_readOnto) 107 dX1_readOnto_107 rfl ?_
    refine z_getIV (M := M_X1_readOnto) 108 dX1_readOnto_108 f_X1_15 o_37 (by decide) (fun x2 ex2 => ?_)
    refine z_ok (fun ox2 _ _ => ?_)
    have ox2 := ox2.1; unfold m_ok m_32 at ox2
    refine z_iconst (M := M_X1_readOnto) 111 dX1_readOnto_111 ?_
    refine z_icmp_ne (M := M_X1_readOnto) 112 dX1_readOnto_112 123 rfl (fun c3 => ?_) (fun c3 => ?_)
    · refine z_iconst (M := M_X1_readOnto) 123 dX1_readOnto_123 ?_
      exact z_retI (M := M_X1_readOnto) 124 dX1_readOnto_124 rfl ⟨G, R, by omega, by omega, False.elim (by omega)⟩
    · refine z_aload_n (M := M_X1_readOnto) 115 dX1_readOnto_115 rfl ?_
      refine z_aload_n (M := M_X1_readOnto) 116 dX1_readOnto_116 rfl ?_
      refine z_getIG (M := M_X1_readOnto) 117 dX1_readOnto_117 f_X1_43 o_37 (by decide) (g_37_1 G) (fun x4 ex4 ax4 bx4 => ?_)
      refine z_putIH (M := M_X1_readOnto) 120 dX1_readOnto_120 p_X1_15 o_37 rfl (u_37_3 G) (R.up rfl) (fun h1 E1 G1 R1 => ?_)
      refine z_iconst (M := M_X1_readOnto) 123 dX1_readOnto_123 ?_
      exact z_retI (M := M_X1_readOnto) 124 dX1_readOnto_124 rfl ⟨G1, R1, by omega, by omega, on_er (Zr.symm.trans (by rw [show (401 - l2).toNat = 0 by omega]; rfl)) ((upE E1).trans ex4.symm)⟩
  · have kf : (401 - (l2 + 1)).toNat = (400 - l2).toNat := by omega
    have kz : rdBook (h0 36) (h0 35 1) ((400 - l2).toNat + 1) (Qc h) rr l2 = rdBook (h0 36) (h0 35 1) (401 - l2).toNat (Qc h) rr l2 := by congr 1; omega
    refine z_aload_n (M := M_X1_readOnto) 23 dX1_readOnto_23 rfl ?_
    refine z_ldcS (M := M_X1_readOnto) 24 dX1_readOnto_24 (i := 0) rfl rfl rfl ?_
    refine z_vI (M := M_X1_readOnto) 26 dX1_readOnto_26 t_X1_take l_X1_27 (m_rr_of rfl) (rest := []) (c_X1_take2 h 0 (by decide) G i0) o_37 rfl rfl rfl (Nat.le_of_ble_eq_true rfl) ⟨rfl, rfl⟩ (fun x5 h2 qx5 => ?_)
    obtain ⟨G2, S2, Ex5, Tx5⟩ := qx5
    have R2 := R.call S2 (by decide +kernel)
    rcases tkc_ (rowz R (fun _ => rfl)) (R 35 1 rfl) rfl Tx5 with ⟨rfl, Wx5, Qx5⟩ | ⟨rfl, Wx5, Qx5⟩
    · have LR2 : LR 9 h2 rr := Lr.same (fun i hi j => S2 _ j (fr_out (a := 9) (b := 16) (by decide) (by omega) (by omega) j)) (fun _ _ => rfl)
      have u3_2 : h2 37 3 = h 37 3 := (S2 37 3 rfl).trans rfl
      refine z_if_eq_F (M := M_X1_readOnto) 29 dX1_readOnto_29 41 rfl (by omega) ?_
      refine z_aload_n (M := M_X1_readOnto) 32 dX1_readOnto_32 rfl ?_
      refine z_aload_n (M := M_X1_readOnto) 33 dX1_readOnto_33 rfl ?_
      refine z_vI (M := M_X1_readOnto) 34 dX1_readOnto_34 t_X1_readWeeks l_X1_31 (m_rr_of rfl) (rest := []) (c_X1_readWeeks2 h2 rr G2 Ex5 LR2) o_37 rfl rfl rfl (Nat.le_of_ble_eq_true rfl) ⟨rfl, rfl⟩ (fun x6 h3 qx6 => ?_)
      obtain ⟨G3, S3, Ex6, Kx6⟩ := qx6
      have R3 := R2.call S3 (by decide +kernel)
      rcases ok_cs (ok_c (F := fun b n q => rdWeeks b n q rr) (h0 := h) (rowz R2 (fun _ => rfl)) (R2 35 1 rfl) Qx5 u3_2 Kx6) with ⟨px6, Zx6, rfl, Qx6, Lx6, Ux6⟩ | ⟨ex6, Zx6, rfl, Fx6⟩
      · refine z_istore_n (M := M_X1_readOnto) 37 dX1_readOnto_37 (ls' := [some (mR 37), some (mR 9), some (mI l2), some (mI 1)]) (by decide) rfl ?_
        refine z_goto (M := M_X1_readOnto) 38 dX1_readOnto_38 65 rfl ?_
        refine z_iload_n (M := M_X1_readOnto) 65 dX1_readOnto_65 rfl ?_
        refine z_if_eq_F (M := M_X1_readOnto) 66 dX1_readOnto_66 85 rfl (by omega) ?_
        refine z_aload_n (M := M_X1_readOnto) 69 dX1_readOnto_69 rfl ?_
        refine z_getIG (M := M_X1_readOnto) 70 dX1_readOnto_70 f_X1_43 o_37 (by decide) (g_37_1 G3) (fun x7 ex7 ax7 bx7 => ?_)
        refine z_aload_n (M := M_X1_readOnto) 73 dX1_readOnto_73 rfl ?_
        refine z_getR (M := M_X1_readOnto) 74 dX1_readOnto_74 f_X1_9 o_37 rfl (g_37_0 G3) ?_
        refine z_getIG (M := M_X1_readOnto) 77 dX1_readOnto_77 f_X1_46 o_35 (by decide) (g_35_1 G3) (fun x8 ex8 ax8 bx8 => ?_)
        refine z_icmp_lt (M := M_X1_readOnto) 80 dX1_readOnto_80 85 rfl (fun c9 => ?_) (fun c9 => ?_)
        · refine z_iload_n (M := M_X1_readOnto) 85 dX1_readOnto_85 rfl ?_
          refine z_if_eq_F (M := M_X1_readOnto) 86 dX1_readOnto_86 107 rfl (by omega) ?_
          refine z_aload_n (M := M_X1_readOnto) 89 dX1_readOnto_89 rfl ?_
          refine z_ldcS (M := M_X1_readOnto) 90 dX1_readOnto_90 (i := 15) rfl rfl rfl ?_
          refine z_vI (M := M_X1_readOnto) 92 dX1_readOnto_92 t_X1_take l_X1_27 (m_rr_of rfl) (rest := []) (c_X1_take2 h3 15 (by decide) G3 Ex6) o_37 rfl rfl rfl (Nat.le_of_ble_eq_true rfl) ⟨rfl, rfl⟩ (fun x10 h4 qx10 => ?_)
          obtain ⟨G4, S4, Ex10, Tx10⟩ := qx10
          have R4 := R3.call S4 (by decide +kernel)
          rcases tkc_ (rowz R3 (fun _ => rfl)) (R3 35 1 rfl) Qx6 Tx10 with ⟨rfl, Wx10, Qx10⟩ | ⟨rfl, Wx10, Qx10⟩
          · have LR4 : LR 9 h4 px6.2 := Lx6.same (fun i hi j => S4 _ j (fr_out (a := 9) (b := 16) (by decide) (by omega) (by omega) j)) (fun _ _ => rfl)
            have u3_4 : h4 37 3 = h 37 3 := (S4 37 3 rfl).trans Ux6
            refine z_if_ne_T (M := M_X1_readOnto) 95 dX1_readOnto_95 101 rfl (by omega) ?_
            refine z_iincN (M := M_X1_readOnto) 101 dX1_readOnto_101 (ls' := [some (mR 37), some (mR 9), some (mI (l2 + 1)), some (mI 1)]) (by decide) rfl (by (unfold m_32; decide)) (by omega) (by omega) rfl ?_
            refine z_goto (M := M_X1_readOnto) 104 dX1_readOnto_104 16 rfl ?_
            have fst_ : x7 = px6.1.1 := ex7.symm.trans (congrArg Prod.fst Qx6)
            have len_ : h0 35 1 = x8 := (R3 35 1 rfl).symm.trans ex8
            exact z_mask [true, true, true, false] rfl (ih (l2 + 1) h4 G4 R4 (by omega) (by omega) Ex10 ⟨_, LR4, (by rw [Qx10, kf]; exact (bk_nx (by unfold rdCl; rw [cif_pos Wx5]; exact Zx6) (by omega) Wx10).symm.trans (kz.trans Zr)), u3_4.trans Ur⟩ (by omega))
          · have LR4 : LR 9 h4 px6.2 := Lx6.same (fun i hi j => S4 _ j (fr_out (a := 9) (b := 16) (by decide) (by omega) (by omega) j)) (fun _ _ => rfl)
            have u3_4 : h4 37 3 = h 37 3 := (S4 37 3 rfl).trans Ux6
            refine z_if_ne_F (M := M_X1_readOnto) 95 dX1_readOnto_95 101 rfl (by omega) ?_
            refine z_goto (M := M_X1_readOnto) 98 dX1_readOnto_98 107 rfl ?_
            refine z_aload_n (M := M_X1_readOnto) 107 dX1_readOnto_107 rfl ?_
            refine z_getIV (M := M_X1_readOnto) 108 dX1_readOnto_108 f_X1_15 o_37 (by decide) (fun x11 ex11 => ?_)
            refine z_ok (fun ox11 _ _ => ?_)
            have ox11 := ox11.1; unfold m_ok m_32 at ox11
            refine z_iconst (M := M_X1_readOnto) 111 dX1_readOnto_111 ?_
            refine z_icmp_ne (M := M_X1_readOnto) 112 dX1_readOnto_112 123 rfl (fun c12 => ?_) (fun c12 => ?_)
            · refine z_iconst (M := M_X1_readOnto) 123 dX1_readOnto_123 ?_
              have fst_ : x7 = px6.1.1 := ex7.symm.trans (congrArg Prod.fst Qx6)
              have len_ : h0 35 1 = x8 := (R3 35 1 rfl).symm.trans ex8
              exact z_retI (M := M_X1_readOnto) 124 dX1_readOnto_124 rfl ⟨G4, R4, by omega, by omega, False.elim (by have := u3_4.trans Ur; have := ex11; omega)⟩
            · refine z_aload_n (M := M_X1_readOnto) 115 dX1_readOnto_115 rfl ?_
              refine z_aload_n (M := M_X1_readOnto) 116 dX1_readOnto_116 rfl ?_
              refine z_getIG (M := M_X1_readOnto) 117 dX1_readOnto_117 f_X1_43 o_37 (by decide) (g_37_1 G4) (fun x13 ex13 ax13 bx13 => ?_)
              refine z_putIH (M := M_X1_readOnto) 120 dX1_readOnto_120 p_X1_15 o_37 rfl (u_37_3 G4) (R4.up rfl) (fun h5 E5 G5 R5 => ?_)
              refine z_iconst (M := M_X1_readOnto) 123 dX1_readOnto_123 ?_
              have fst_ : x7 = px6.1.1 := ex7.symm.trans (congrArg Prod.fst Qx6)
              have len_ : h0 35 1 = x8 := (R3 35 1 rfl).symm.trans ex8
              exact z_retI (M := M_X1_readOnto) 124 dX1_readOnto_124 rfl ⟨G5, R5, by omega, by omega, on_er (Zr.symm.trans (kz.symm.trans (bk_no (by unfold rdCl; rw [cif_pos Wx5]; exact Zx6) (by omega) Wx10))) ((upE E5).trans (ex13.symm.trans (congrArg Prod.fst Qx10)))⟩
        · refine z_iload_n (M := M_X1_readOnto) 83 dX1_readOnto_83 rfl ?_
          have fst_ : x7 = px6.1.1 := ex7.symm.trans (congrArg Prod.fst Qx6)
          have len_ : h0 35 1 = x8 := (R3 35 1 rfl).symm.trans ex8
          exact z_retI (M := M_X1_readOnto) 84 dX1_readOnto_84 rfl ⟨G3, R3, by omega, by omega, on_ok (r := px6.2) (Zr.symm.trans (kz.symm.trans (bk_end (by unfold rdCl; rw [cif_pos Wx5]; exact Zx6) (by omega)))) (by omega) Lx6 (Ux6.trans Ur)⟩
      · refine z_istore_n (M := M_X1_readOnto) 37 dX1_readOnto_37 (ls' := [some (mR 37), some (mR 9), some (mI l2), some (mI 0)]) (by decide) rfl ?_
        refine z_goto (M := M_X1_readOnto) 38 dX1_readOnto_38 65 rfl ?_
        refine z_iload_n (M := M_X1_readOnto) 65 dX1_readOnto_65 rfl ?_
        refine z_if_eq_T (M := M_X1_readOnto) 66 dX1_readOnto_66 85 rfl (by omega) ?_
        refine z_iload_n (M := M_X1_readOnto) 85 dX1_readOnto_85 rfl ?_
        refine z_if_eq_T (M := M_X1_readOnto) 86 dX1_readOnto_86 107 rfl (by omega) ?_
        refine z_aload_n (M := M_X1_readOnto) 107 dX1_readOnto_107 rfl ?_
        refine z_getIV (M := M_X1_readOnto) 108 dX1_readOnto_108 f_X1_15 o_37 (by decide) (fun x14 ex14 => ?_)
        refine z_ok (fun ox14 _ _ => ?_)
        have ox14 := ox14.1; unfold m_ok m_32 at ox14
        refine z_iconst (M := M_X1_readOnto) 111 dX1_readOnto_111 ?_
        refine z_icmp_ne (M := M_X1_readOnto) 112 dX1_readOnto_112 123 rfl (fun c15 => ?_) (fun c15 => ?_)
        · refine z_iconst (M := M_X1_readOnto) 123 dX1_readOnto_123 ?_
          exact z_retI (M := M_X1_readOnto) 124 dX1_readOnto_124 rfl ⟨G3, R3, by omega, by omega, on_er (Zr.symm.trans (kz.symm.trans (bk_er (by unfold rdCl; rw [cif_pos Wx5]; exact Zx6)))) (by have f := Fx6 Ur; rw [if_neg (by omega)] at f; exact f)⟩
        · refine z_aload_n (M := M_X1_readOnto) 115 dX1_readOnto_115 rfl ?_
          refine z_aload_n (M := M_X1_readOnto) 116 dX1_readOnto_116 rfl ?_
          refine z_getIG (M := M_X1_readOnto) 117 dX1_readOnto_117 f_X1_43 o_37 (by decide) (g_37_1 G3) (fun x16 ex16 ax16 bx16 => ?_)
          refine z_putIH (M := M_X1_readOnto) 120 dX1_readOnto_120 p_X1_15 o_37 rfl (u_37_3 G3) (R3.up rfl) (fun h6 E6 G6 R6 => ?_)
          refine z_iconst (M := M_X1_readOnto) 123 dX1_readOnto_123 ?_
          exact z_retI (M := M_X1_readOnto) 124 dX1_readOnto_124 rfl ⟨G6, R6, by omega, by omega, on_er (Zr.symm.trans (kz.symm.trans (bk_er (by unfold rdCl; rw [cif_pos Wx5]; exact Zx6)))) (by have f := Fx6 Ur; rw [if_pos (by omega)] at f; rw [upE E6, ← f]; exact ex16.symm)⟩
    · have LR2 : LR 9 h2 rr := Lr.same (fun i hi j => S2 _ j (fr_out (a := 9) (b := 16) (by decide) (by omega) (by omega) j)) (fun _ _ => rfl)
      have u3_2 : h2 37 3 = h 37 3 := (S2 37 3 rfl).trans rfl
      refine z_if_eq_T (M := M_X1_readOnto) 29 dX1_readOnto_29 41 rfl (by omega) ?_
      refine z_aload_n (M := M_X1_readOnto) 41 dX1_readOnto_41 rfl ?_
      refine z_ldcS (M := M_X1_readOnto) 42 dX1_readOnto_42 (i := 4) rfl rfl rfl ?_
      refine z_vI (M := M_X1_readOnto) 44 dX1_readOnto_44 t_X1_take l_X1_27 (m_rr_of rfl) (rest := []) (c_X1_take2 h2 4 (by decide) G2 Ex5) o_37 rfl rfl rfl (Nat.le_of_ble_eq_true rfl) ⟨rfl, rfl⟩ (fun x17 h7 qx17 => ?_)
      obtain ⟨G7, S7, Ex17, Tx17⟩ := qx17
      have R7 := R2.call S7 (by decide +kernel)
      rcases tkc_ (rowz R2 (fun _ => rfl)) (R2 35 1 rfl) Qx5 Tx17 with ⟨rfl, Wx17, Qx17⟩ | ⟨rfl, Wx17, Qx17⟩
      · have LR7 : LR 9 h7 rr := LR2.same (fun i hi j => S7 _ j (fr_out (a := 9) (b := 16) (by decide) (by omega) (by omega) j)) (fun _ _ => rfl)
        have u3_7 : h7 37 3 = h 37 3 := (S7 37 3 rfl).trans u3_2
        refine z_if_eq_F (M := M_X1_readOnto) 47 dX1_readOnto_47 59 rfl (by omega) ?_
        refine z_aload_n (M := M_X1_readOnto) 50 dX1_readOnto_50 rfl ?_
        refine z_aload_n (M := M_X1_readOnto) 51 dX1_readOnto_51 rfl ?_
        refine z_vI (M := M_X1_readOnto) 52 dX1_readOnto_52 t_X1_readThing l_X1_37 (m_rr_of rfl) (rest := []) (c_X1_readThing2 h7 rr G7 Ex17 LR7) o_37 rfl rfl rfl (Nat.le_of_ble_eq_true rfl) ⟨rfl, rfl⟩ (fun x18 h8 qx18 => ?_)
        obtain ⟨G8, S8, Ex18, Kx18⟩ := qx18
        have R8 := R7.call S8 (by decide +kernel)
        rcases ok_cs (ok_c (F := fun b n q => rdThing b n q rr) (h0 := h) (rowz R7 (fun _ => rfl)) (R7 35 1 rfl) Qx17 u3_7 Kx18) with ⟨px18, Zx18, rfl, Qx18, Lx18, Ux18⟩ | ⟨ex18, Zx18, rfl, Fx18⟩
        · refine z_istore_n (M := M_X1_readOnto) 55 dX1_readOnto_55 (ls' := [some (mR 37), some (mR 9), some (mI l2), some (mI 1)]) (by decide) rfl ?_
          refine z_goto (M := M_X1_readOnto) 56 dX1_readOnto_56 65 rfl ?_
          refine z_iload_n (M := M_X1_readOnto) 65 dX1_readOnto_65 rfl ?_
          refine z_if_eq_F (M := M_X1_readOnto) 66 dX1_readOnto_66 85 rfl (by omega) ?_
          refine z_aload_n (M := M_X1_readOnto) 69 dX1_readOnto_69 rfl ?_
          refine z_getIG (M := M_X1_readOnto) 70 dX1_readOnto_70 f_X1_43 o_37 (by decide) (g_37_1 G8) (fun x19 ex19 ax19 bx19 => ?_)
          refine z_aload_n (M := M_X1_readOnto) 73 dX1_readOnto_73 rfl ?_
          refine z_getR (M := M_X1_readOnto) 74 dX1_readOnto_74 f_X1_9 o_37 rfl (g_37_0 G8) ?_
          refine z_getIG (M := M_X1_readOnto) 77 dX1_readOnto_77 f_X1_46 o_35 (by decide) (g_35_1 G8) (fun x20 ex20 ax20 bx20 => ?_)
          refine z_icmp_lt (M := M_X1_readOnto) 80 dX1_readOnto_80 85 rfl (fun c21 => ?_) (fun c21 => ?_)
          · refine z_iload_n (M := M_X1_readOnto) 85 dX1_readOnto_85 rfl ?_
            refine z_if_eq_F (M := M_X1_readOnto) 86 dX1_readOnto_86 107 rfl (by omega) ?_
            refine z_aload_n (M := M_X1_readOnto) 89 dX1_readOnto_89 rfl ?_
            refine z_ldcS (M := M_X1_readOnto) 90 dX1_readOnto_90 (i := 15) rfl rfl rfl ?_
            refine z_vI (M := M_X1_readOnto) 92 dX1_readOnto_92 t_X1_take l_X1_27 (m_rr_of rfl) (rest := []) (c_X1_take2 h8 15 (by decide) G8 Ex18) o_37 rfl rfl rfl (Nat.le_of_ble_eq_true rfl) ⟨rfl, rfl⟩ (fun x22 h9 qx22 => ?_)
            obtain ⟨G9, S9, Ex22, Tx22⟩ := qx22
            have R9 := R8.call S9 (by decide +kernel)
            rcases tkc_ (rowz R8 (fun _ => rfl)) (R8 35 1 rfl) Qx18 Tx22 with ⟨rfl, Wx22, Qx22⟩ | ⟨rfl, Wx22, Qx22⟩
            · have LR9 : LR 9 h9 px18.2 := Lx18.same (fun i hi j => S9 _ j (fr_out (a := 9) (b := 16) (by decide) (by omega) (by omega) j)) (fun _ _ => rfl)
              have u3_9 : h9 37 3 = h 37 3 := (S9 37 3 rfl).trans Ux18
              refine z_if_ne_T (M := M_X1_readOnto) 95 dX1_readOnto_95 101 rfl (by omega) ?_
              refine z_iincN (M := M_X1_readOnto) 101 dX1_readOnto_101 (ls' := [some (mR 37), some (mR 9), some (mI (l2 + 1)), some (mI 1)]) (by decide) rfl (by (unfold m_32; decide)) (by omega) (by omega) rfl ?_
              refine z_goto (M := M_X1_readOnto) 104 dX1_readOnto_104 16 rfl ?_
              have fst_ : x19 = px18.1.1 := ex19.symm.trans (congrArg Prod.fst Qx18)
              have len_ : h0 35 1 = x20 := (R8 35 1 rfl).symm.trans ex20
              exact z_mask [true, true, true, false] rfl (ih (l2 + 1) h9 G9 R9 (by omega) (by omega) Ex22 ⟨_, LR9, (by rw [Qx22, kf]; exact (bk_nx (by unfold rdCl; rw [cif_neg Wx5, cif_pos Wx17]; exact Zx18) (by omega) Wx22).symm.trans (kz.trans Zr)), u3_9.trans Ur⟩ (by omega))
            · have LR9 : LR 9 h9 px18.2 := Lx18.same (fun i hi j => S9 _ j (fr_out (a := 9) (b := 16) (by decide) (by omega) (by omega) j)) (fun _ _ => rfl)
              have u3_9 : h9 37 3 = h 37 3 := (S9 37 3 rfl).trans Ux18
              refine z_if_ne_F (M := M_X1_readOnto) 95 dX1_readOnto_95 101 rfl (by omega) ?_
              refine z_goto (M := M_X1_readOnto) 98 dX1_readOnto_98 107 rfl ?_
              refine z_aload_n (M := M_X1_readOnto) 107 dX1_readOnto_107 rfl ?_
              refine z_getIV (M := M_X1_readOnto) 108 dX1_readOnto_108 f_X1_15 o_37 (by decide) (fun x23 ex23 => ?_)
              refine z_ok (fun ox23 _ _ => ?_)
              have ox23 := ox23.1; unfold m_ok m_32 at ox23
              refine z_iconst (M := M_X1_readOnto) 111 dX1_readOnto_111 ?_
              refine z_icmp_ne (M := M_X1_readOnto) 112 dX1_readOnto_112 123 rfl (fun c24 => ?_) (fun c24 => ?_)
              · refine z_iconst (M := M_X1_readOnto) 123 dX1_readOnto_123 ?_
                have fst_ : x19 = px18.1.1 := ex19.symm.trans (congrArg Prod.fst Qx18)
                have len_ : h0 35 1 = x20 := (R8 35 1 rfl).symm.trans ex20
                exact z_retI (M := M_X1_readOnto) 124 dX1_readOnto_124 rfl ⟨G9, R9, by omega, by omega, False.elim (by have := u3_9.trans Ur; have := ex23; omega)⟩
              · refine z_aload_n (M := M_X1_readOnto) 115 dX1_readOnto_115 rfl ?_
                refine z_aload_n (M := M_X1_readOnto) 116 dX1_readOnto_116 rfl ?_
                refine z_getIG (M := M_X1_readOnto) 117 dX1_readOnto_117 f_X1_43 o_37 (by decide) (g_37_1 G9) (fun x25 ex25 ax25 bx25 => ?_)
                refine z_putIH (M := M_X1_readOnto) 120 dX1_readOnto_120 p_X1_15 o_37 rfl (u_37_3 G9) (R9.up rfl) (fun h10 E10 G10 R10 => ?_)
                refine z_iconst (M := M_X1_readOnto) 123 dX1_readOnto_123 ?_
                have fst_ : x19 = px18.1.1 := ex19.symm.trans (congrArg Prod.fst Qx18)
                have len_ : h0 35 1 = x20 := (R8 35 1 rfl).symm.trans ex20
                exact z_retI (M := M_X1_readOnto) 124 dX1_readOnto_124 rfl ⟨G10, R10, by omega, by omega, on_er (Zr.symm.trans (kz.symm.trans (bk_no (by unfold rdCl; rw [cif_neg Wx5, cif_pos Wx17]; exact Zx18) (by omega) Wx22))) ((upE E10).trans (ex25.symm.trans (congrArg Prod.fst Qx22)))⟩
          · refine z_iload_n (M := M_X1_readOnto) 83 dX1_readOnto_83 rfl ?_
            have fst_ : x19 = px18.1.1 := ex19.symm.trans (congrArg Prod.fst Qx18)
            have len_ : h0 35 1 = x20 := (R8 35 1 rfl).symm.trans ex20
            exact z_retI (M := M_X1_readOnto) 84 dX1_readOnto_84 rfl ⟨G8, R8, by omega, by omega, on_ok (r := px18.2) (Zr.symm.trans (kz.symm.trans (bk_end (by unfold rdCl; rw [cif_neg Wx5, cif_pos Wx17]; exact Zx18) (by omega)))) (by omega) Lx18 (Ux18.trans Ur)⟩
        · refine z_istore_n (M := M_X1_readOnto) 55 dX1_readOnto_55 (ls' := [some (mR 37), some (mR 9), some (mI l2), some (mI 0)]) (by decide) rfl ?_
          refine z_goto (M := M_X1_readOnto) 56 dX1_readOnto_56 65 rfl ?_
          refine z_iload_n (M := M_X1_readOnto) 65 dX1_readOnto_65 rfl ?_
          refine z_if_eq_T (M := M_X1_readOnto) 66 dX1_readOnto_66 85 rfl (by omega) ?_
          refine z_iload_n (M := M_X1_readOnto) 85 dX1_readOnto_85 rfl ?_
          refine z_if_eq_T (M := M_X1_readOnto) 86 dX1_readOnto_86 107 rfl (by omega) ?_
          refine z_aload_n (M := M_X1_readOnto) 107 dX1_readOnto_107 rfl ?_
          refine z_getIV (M := M_X1_readOnto) 108 dX1_readOnto_108 f_X1_15 o_37 (by decide) (fun x26 ex26 => ?_)
          refine z_ok (fun ox26 _ _ => ?_)
          have ox26 := ox26.1; unfold m_ok m_32 at ox26
          refine z_iconst (M := M_X1_readOnto) 111 dX1_readOnto_111 ?_
          refine z_icmp_ne (M := M_X1_readOnto) 112 dX1_readOnto_112 123 rfl (fun c27 => ?_) (fun c27 => ?_)
          · refine z_iconst (M := M_X1_readOnto) 123 dX1_readOnto_123 ?_
            exact z_retI (M := M_X1_readOnto) 124 dX1_readOnto_124 rfl ⟨G8, R8, by omega, by omega, on_er (Zr.symm.trans (kz.symm.trans (bk_er (by unfold rdCl; rw [cif_neg Wx5, cif_pos Wx17]; exact Zx18)))) (by have f := Fx18 Ur; rw [if_neg (by omega)] at f; exact f)⟩
          · refine z_aload_n (M := M_X1_readOnto) 115 dX1_readOnto_115 rfl ?_
            refine z_aload_n (M := M_X1_readOnto) 116 dX1_readOnto_116 rfl ?_
            refine z_getIG (M := M_X1_readOnto) 117 dX1_readOnto_117 f_X1_43 o_37 (by decide) (g_37_1 G8) (fun x28 ex28 ax28 bx28 => ?_)
            refine z_putIH (M := M_X1_readOnto) 120 dX1_readOnto_120 p_X1_15 o_37 rfl (u_37_3 G8) (R8.up rfl) (fun h11 E11 G11 R11 => ?_)
            refine z_iconst (M := M_X1_readOnto) 123 dX1_readOnto_123 ?_
            exact z_retI (M := M_X1_readOnto) 124 dX1_readOnto_124 rfl ⟨G11, R11, by omega, by omega, on_er (Zr.symm.trans (kz.symm.trans (bk_er (by unfold rdCl; rw [cif_neg Wx5, cif_pos Wx17]; exact Zx18)))) (by have f := Fx18 Ur; rw [if_pos (by omega)] at f; rw [upE E11, ← f]; exact ex28.symm)⟩
      · have LR7 : LR 9 h7 rr := LR2.same (fun i hi j => S7 _ j (fr_out (a := 9) (b := 16) (by decide) (by omega) (by omega) j)) (fun _ _ => rfl)
        have u3_7 : h7 37 3 = h 37 3 := (S7 37 3 rfl).trans u3_2
        refine z_if_eq_T (M := M_X1_readOnto) 47 dX1_readOnto_47 59 rfl (by omega) ?_
        refine z_aload_n (M := M_X1_readOnto) 59 dX1_readOnto_59 rfl ?_
        refine z_aload_n (M := M_X1_readOnto) 60 dX1_readOnto_60 rfl ?_
        refine z_vI (M := M_X1_readOnto) 61 dX1_readOnto_61 t_X1_readShorter l_X1_40 (m_rr_of rfl) (rest := []) (c_X1_readShorter2 h7 rr G7 Ex17 LR7) o_37 rfl rfl rfl (Nat.le_of_ble_eq_true rfl) ⟨rfl, rfl⟩ (fun x29 h12 qx29 => ?_)
        obtain ⟨G12, S12, Ex29, Kx29⟩ := qx29
        have R12 := R7.call S12 (by decide +kernel)
        rcases ok_cs (ok_c (F := fun b n q => rdS3 b n q rr) (h0 := h) (rowz R7 (fun _ => rfl)) (R7 35 1 rfl) Qx17 u3_7 Kx29) with ⟨px29, Zx29, rfl, Qx29, Lx29, Ux29⟩ | ⟨ex29, Zx29, rfl, Fx29⟩
        · refine z_istore_n (M := M_X1_readOnto) 64 dX1_readOnto_64 (ls' := [some (mR 37), some (mR 9), some (mI l2), some (mI 1)]) (by decide) rfl ?_
          refine z_iload_n (M := M_X1_readOnto) 65 dX1_readOnto_65 rfl ?_
          refine z_if_eq_F (M := M_X1_readOnto) 66 dX1_readOnto_66 85 rfl (by omega) ?_
          refine z_aload_n (M := M_X1_readOnto) 69 dX1_readOnto_69 rfl ?_
          refine z_getIG (M := M_X1_readOnto) 70 dX1_readOnto_70 f_X1_43 o_37 (by decide) (g_37_1 G12) (fun x30 ex30 ax30 bx30 => ?_)
          refine z_aload_n (M := M_X1_readOnto) 73 dX1_readOnto_73 rfl ?_
          refine z_getR (M := M_X1_readOnto) 74 dX1_readOnto_74 f_X1_9 o_37 rfl (g_37_0 G12) ?_
          refine z_getIG (M := M_X1_readOnto) 77 dX1_readOnto_77 f_X1_46 o_35 (by decide) (g_35_1 G12) (fun x31 ex31 ax31 bx31 => ?_)
          refine z_icmp_lt (M := M_X1_readOnto) 80 dX1_readOnto_80 85 rfl (fun c32 => ?_) (fun c32 => ?_)
          · refine z_iload_n (M := M_X1_readOnto) 85 dX1_readOnto_85 rfl ?_
            refine z_if_eq_F (M := M_X1_readOnto) 86 dX1_readOnto_86 107 rfl (by omega) ?_
            refine z_aload_n (M := M_X1_readOnto) 89 dX1_readOnto_89 rfl ?_
            refine z_ldcS (M := M_X1_readOnto) 90 dX1_readOnto_90 (i := 15) rfl rfl rfl ?_
            refine z_vI (M := M_X1_readOnto) 92 dX1_readOnto_92 t_X1_take l_X1_27 (m_rr_of rfl) (rest := []) (c_X1_take2 h12 15 (by decide) G12 Ex29) o_37 rfl rfl rfl (Nat.le_of_ble_eq_true rfl) ⟨rfl, rfl⟩ (fun x33 h13 qx33 => ?_)
            obtain ⟨G13, S13, Ex33, Tx33⟩ := qx33
            have R13 := R12.call S13 (by decide +kernel)
            rcases tkc_ (rowz R12 (fun _ => rfl)) (R12 35 1 rfl) Qx29 Tx33 with ⟨rfl, Wx33, Qx33⟩ | ⟨rfl, Wx33, Qx33⟩
            · have LR13 : LR 9 h13 px29.2 := Lx29.same (fun i hi j => S13 _ j (fr_out (a := 9) (b := 16) (by decide) (by omega) (by omega) j)) (fun _ _ => rfl)
              have u3_13 : h13 37 3 = h 37 3 := (S13 37 3 rfl).trans Ux29
              refine z_if_ne_T (M := M_X1_readOnto) 95 dX1_readOnto_95 101 rfl (by omega) ?_
              refine z_iincN (M := M_X1_readOnto) 101 dX1_readOnto_101 (ls' := [some (mR 37), some (mR 9), some (mI (l2 + 1)), some (mI 1)]) (by decide) rfl (by (unfold m_32; decide)) (by omega) (by omega) rfl ?_
              refine z_goto (M := M_X1_readOnto) 104 dX1_readOnto_104 16 rfl ?_
              have fst_ : x30 = px29.1.1 := ex30.symm.trans (congrArg Prod.fst Qx29)
              have len_ : h0 35 1 = x31 := (R12 35 1 rfl).symm.trans ex31
              exact z_mask [true, true, true, false] rfl (ih (l2 + 1) h13 G13 R13 (by omega) (by omega) Ex33 ⟨_, LR13, (by rw [Qx33, kf]; exact (bk_nx (by unfold rdCl; rw [cif_neg Wx5, cif_neg Wx17]; exact Zx29) (by omega) Wx33).symm.trans (kz.trans Zr)), u3_13.trans Ur⟩ (by omega))
            · have LR13 : LR 9 h13 px29.2 := Lx29.same (fun i hi j => S13 _ j (fr_out (a := 9) (b := 16) (by decide) (by omega) (by omega) j)) (fun _ _ => rfl)
              have u3_13 : h13 37 3 = h 37 3 := (S13 37 3 rfl).trans Ux29
              refine z_if_ne_F (M := M_X1_readOnto) 95 dX1_readOnto_95 101 rfl (by omega) ?_
              refine z_goto (M := M_X1_readOnto) 98 dX1_readOnto_98 107 rfl ?_
              refine z_aload_n (M := M_X1_readOnto) 107 dX1_readOnto_107 rfl ?_
              refine z_getIV (M := M_X1_readOnto) 108 dX1_readOnto_108 f_X1_15 o_37 (by decide) (fun x34 ex34 => ?_)
              refine z_ok (fun ox34 _ _ => ?_)
              have ox34 := ox34.1; unfold m_ok m_32 at ox34
              refine z_iconst (M := M_X1_readOnto) 111 dX1_readOnto_111 ?_
              refine z_icmp_ne (M := M_X1_readOnto) 112 dX1_readOnto_112 123 rfl (fun c35 => ?_) (fun c35 => ?_)
              · refine z_iconst (M := M_X1_readOnto) 123 dX1_readOnto_123 ?_
                have fst_ : x30 = px29.1.1 := ex30.symm.trans (congrArg Prod.fst Qx29)
                have len_ : h0 35 1 = x31 := (R12 35 1 rfl).symm.trans ex31
                exact z_retI (M := M_X1_readOnto) 124 dX1_readOnto_124 rfl ⟨G13, R13, by omega, by omega, False.elim (by have := u3_13.trans Ur; have := ex34; omega)⟩
              · refine z_aload_n (M := M_X1_readOnto) 115 dX1_readOnto_115 rfl ?_
                refine z_aload_n (M := M_X1_readOnto) 116 dX1_readOnto_116 rfl ?_
                refine z_getIG (M := M_X1_readOnto) 117 dX1_readOnto_117 f_X1_43 o_37 (by decide) (g_37_1 G13) (fun x36 ex36 ax36 bx36 => ?_)
                refine z_putIH (M := M_X1_readOnto) 120 dX1_readOnto_120 p_X1_15 o_37 rfl (u_37_3 G13) (R13.up rfl) (fun h14 E14 G14 R14 => ?_)
                refine z_iconst (M := M_X1_readOnto) 123 dX1_readOnto_123 ?_
                have fst_ : x30 = px29.1.1 := ex30.symm.trans (congrArg Prod.fst Qx29)
                have len_ : h0 35 1 = x31 := (R12 35 1 rfl).symm.trans ex31
                exact z_retI (M := M_X1_readOnto) 124 dX1_readOnto_124 rfl ⟨G14, R14, by omega, by omega, on_er (Zr.symm.trans (kz.symm.trans (bk_no (by unfold rdCl; rw [cif_neg Wx5, cif_neg Wx17]; exact Zx29) (by omega) Wx33))) ((upE E14).trans (ex36.symm.trans (congrArg Prod.fst Qx33)))⟩
          · refine z_iload_n (M := M_X1_readOnto) 83 dX1_readOnto_83 rfl ?_
            have fst_ : x30 = px29.1.1 := ex30.symm.trans (congrArg Prod.fst Qx29)
            have len_ : h0 35 1 = x31 := (R12 35 1 rfl).symm.trans ex31
            exact z_retI (M := M_X1_readOnto) 84 dX1_readOnto_84 rfl ⟨G12, R12, by omega, by omega, on_ok (r := px29.2) (Zr.symm.trans (kz.symm.trans (bk_end (by unfold rdCl; rw [cif_neg Wx5, cif_neg Wx17]; exact Zx29) (by omega)))) (by omega) Lx29 (Ux29.trans Ur)⟩
        · refine z_istore_n (M := M_X1_readOnto) 64 dX1_readOnto_64 (ls' := [some (mR 37), some (mR 9), some (mI l2), some (mI 0)]) (by decide) rfl ?_
          refine z_iload_n (M := M_X1_readOnto) 65 dX1_readOnto_65 rfl ?_
          refine z_if_eq_T (M := M_X1_readOnto) 66 dX1_readOnto_66 85 rfl (by omega) ?_
          refine z_iload_n (M := M_X1_readOnto) 85 dX1_readOnto_85 rfl ?_
          refine z_if_eq_T (M := M_X1_readOnto) 86 dX1_readOnto_86 107 rfl (by omega) ?_
          refine z_aload_n (M := M_X1_readOnto) 107 dX1_readOnto_107 rfl ?_
          refine z_getIV (M := M_X1_readOnto) 108 dX1_readOnto_108 f_X1_15 o_37 (by decide) (fun x37 ex37 => ?_)
          refine z_ok (fun ox37 _ _ => ?_)
          have ox37 := ox37.1; unfold m_ok m_32 at ox37
          refine z_iconst (M := M_X1_readOnto) 111 dX1_readOnto_111 ?_
          refine z_icmp_ne (M := M_X1_readOnto) 112 dX1_readOnto_112 123 rfl (fun c38 => ?_) (fun c38 => ?_)
          · refine z_iconst (M := M_X1_readOnto) 123 dX1_readOnto_123 ?_
            exact z_retI (M := M_X1_readOnto) 124 dX1_readOnto_124 rfl ⟨G12, R12, by omega, by omega, on_er (Zr.symm.trans (kz.symm.trans (bk_er (by unfold rdCl; rw [cif_neg Wx5, cif_neg Wx17]; exact Zx29)))) (by have f := Fx29 Ur; rw [if_neg (by omega)] at f; exact f)⟩
          · refine z_aload_n (M := M_X1_readOnto) 115 dX1_readOnto_115 rfl ?_
            refine z_aload_n (M := M_X1_readOnto) 116 dX1_readOnto_116 rfl ?_
            refine z_getIG (M := M_X1_readOnto) 117 dX1_readOnto_117 f_X1_43 o_37 (by decide) (g_37_1 G12) (fun x39 ex39 ax39 bx39 => ?_)
            refine z_putIH (M := M_X1_readOnto) 120 dX1_readOnto_120 p_X1_15 o_37 rfl (u_37_3 G12) (R12.up rfl) (fun h15 E15 G15 R15 => ?_)
            refine z_iconst (M := M_X1_readOnto) 123 dX1_readOnto_123 ?_
            exact z_retI (M := M_X1_readOnto) 124 dX1_readOnto_124 rfl ⟨G15, R15, by omega, by omega, on_er (Zr.symm.trans (kz.symm.trans (bk_er (by unfold rdCl; rw [cif_neg Wx5, cif_neg Wx17]; exact Zx29)))) (by have f := Fx29 Ur; rw [if_pos (by omega)] at f; rw [upE E15, ← f]; exact ex39.symm)⟩
theorem a_X1_readOnto2 (h0 : m_H) (r : Nat → Int) (G0 : GI h0) (Rr : LR 9 h0 r) : ∀ n, q_X1_readOnto2 h0 r n := by
  intro n
  induction n with
  | zero => unfold q_X1_readOnto2; intros; omega
  | succ n ih => exact s_X1_readOnto2_16 h0 r G0 Rr n ih
set_option maxHeartbeats 4000000 in
set_option maxRecDepth 100000 in
theorem c_X1_readOnto2 (h0 : m_H) (r : Nat → Int) (G0 : GI h0) (Rr : LR 9 h0 r) : m_CI M_X1_readOnto [mR 37, mR 9] h0 (P_X1_readOnto2 h0 r) := by
  refine m_CI_of ⟨by decide, rfl, by simp [m_arg, m_isL, M_X1_readOnto], ⟨rfl, rfl⟩, rfl, rfl⟩ (ls := [some (mR 37), some (mR 9), none, none]) rfl ?_
  have ih := a_X1_readOnto2 h0 r G0 Rr 808
  refine z_aload_n (M := M_X1_readOnto) 0 dX1_readOnto_0 rfl ?_
  refine z_iconst (M := M_X1_readOnto) 1 dX1_readOnto_1 ?_
  refine z_putIH (M := M_X1_readOnto) 2 dX1_readOnto_2 p_X1_15 o_37 rfl (u_37_3 G0) ((FR.rf (cs := [10, 11, 12, 13, 14, 15]) (ss := [(9, 7), (9, 8), (9, 9), (37, 1), (37, 2), (37, 3)]) (h := h0)).up rfl) (fun h1 E1 G1 R1 => ?_)
  refine z_aload_n (M := M_X1_readOnto) 5 dX1_readOnto_5 rfl ?_
  refine z_iconst (M := M_X1_readOnto) 6 dX1_readOnto_6 ?_
  refine z_putIH (M := M_X1_readOnto) 7 dX1_readOnto_7 p_X1_19 o_37 rfl (u_37_2 G1 (by omega) (by omega)) (R1.up rfl) (fun h2 E2 G2 R2 => ?_)
  refine z_aload_n (M := M_X1_readOnto) 10 dX1_readOnto_10 rfl ?_
  refine z_vV (M := M_X1_readOnto) 11 dX1_readOnto_11 t_X1_advance l_X1_22 (m_rr_of rfl) (rest := []) (c_X1_advance2 h2 G2) o_37 rfl rfl rfl (Nat.le_of_ble_eq_true rfl) ⟨rfl, rfl⟩ (fun h3 qx1 => ?_)
  obtain ⟨G3, S3, Tx1⟩ := qx1
  have R3 := R2.call S3 (by decide +kernel)
  have adx1 := adv_0 S3 Tx1 ((upE E2)) (rowz R2 (fun _ => rfl)) (R2 35 1 rfl)
  have LR3 : LR 9 h3 r := ((Rr.up37 E1).up37 E2).same (fun i hi j => S3 _ j (fr_out (a := 9) (b := 16) (by decide) (by omega) (by omega) j)) (fun _ _ => rfl)
  have u3_3 : h3 37 3 = -1 := (S3 37 3 rfl).trans ((upN E2 (fun z => absurd z.2 (by decide))).trans (upE E1))
  refine z_iconst (M := M_X1_readOnto) 14 dX1_readOnto_14 ?_
  refine z_istore_n (M := M_X1_readOnto) 15 dX1_readOnto_15 (ls' := [some (mR 37), some (mR 9), some (mI 1), none]) (by decide) rfl ?_
  exact z_mask [true, true, true, false] rfl (ih 1 h3 G3 R3 (by omega) (by omega) adx1.1 ⟨r, LR3, (by rw [adx1.2]; rfl), u3_3⟩ (by omega))
