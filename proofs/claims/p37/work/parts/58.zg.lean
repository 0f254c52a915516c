abbrev P_X1_readCut2 (h0 : m_H) (a2 : Int) (r : Nat → Int) : Int → m_H → Prop := fun x h' => GI h' ∧ FR [11] [(37, 1), (37, 2)] h0 h' ∧ EnS h' ∧ okQ 9 (rdCut (h0 36) (h0 35 1) (Qc h0) r a2) x h0 h'
set_option maxHeartbeats 4000000 in
set_option maxRecDepth 100000 in
theorem c_X1_readCut2 (h0 : m_H) (a2 : Int) (r : Nat → Int) (G0 : GI h0) (pa2 : 0 ≤ a2 ∧ a2 ≤ 5) (hE : EnS h0) (Rr : LR 9 h0 r) : m_CI M_X1_readCut [mR 37, mR 9, mI a2] h0 (P_X1_readCut2 h0 a2 r) := by
  refine m_CI_of ⟨by decide, rfl, by simp [m_arg, m_isL, M_X1_readCut], ⟨rfl, rfl⟩, rfl, rfl⟩ (ls := [some (mR 37), some (mR 9), some (mI a2), none]) rfl ?_
  refine z_aload_n (M := M_X1_readCut) 0 dX1_readCut_0 rfl ?_
  refine z_ldcS (M := M_X1_readCut) 1 dX1_readCut_1 (i := 6) rfl rfl rfl ?_
  refine z_vI (M := M_X1_readCut) 3 dX1_readCut_3 t_X1_take l_X1_27 (m_rr_of rfl) (rest := []) (c_X1_take2 h0 6 (by decide) G0 hE) o_37 rfl rfl rfl (Nat.le_of_ble_eq_true rfl) ⟨rfl, rfl⟩ (fun x1 h1 qx1 => ?_)
  obtain ⟨G1, S1, Ex1, Tx1⟩ := qx1
  have R1 := (FR.rf (cs := [11]) (ss := [(37, 1), (37, 2)]) (h := h0)).call S1 (by decide +kernel)
  rcases tkc_ (rowz (FR.rf (cs := [11]) (ss := [(37, 1), (37, 2)]) (h := h0)) (fun _ => rfl)) ((FR.rf (cs := [11]) (ss := [(37, 1), (37, 2)]) (h := h0)) 35 1 rfl) rfl Tx1 with ⟨rfl, Wx1, Qx1⟩ | ⟨rfl, Wx1, Qx1⟩
  · have LR1 : LR 9 h1 r := Rr.same (fun i hi j => S1 _ j (fr_out (a := 9) (b := 16) (by decide) (by omega) (by omega) j)) (fun _ _ => rfl)
    have u3_1 : h1 37 3 = h0 37 3 := (S1 37 3 rfl).trans rfl
    refine z_if_eq_F (M := M_X1_readCut) 6 dX1_readCut_6 18 rfl (by omega) ?_
    refine z_aload_n (M := M_X1_readCut) 9 dX1_readCut_9 rfl ?_
    refine z_getR (M := M_X1_readCut) 10 dX1_readCut_10 f_X1_101 o_9 rfl (g_9_1 G1) ?_
    refine z_iload_n (M := M_X1_readCut) 13 dX1_readCut_13 rfl ?_
    refine z_iconst (M := M_X1_readCut) 14 dX1_readCut_14 ?_
    refine z_iastH (M := M_X1_readCut) 15 dX1_readCut_15 o_11 (by omega) (by omega) (u_11 G1 (by omega) (by omega)) (R1.up rfl) (fun h2 E2 G2 R2 => ?_)
    have en2 := EnS.fr Ex1 (tl_r E2 (by decide)) (tl_o E2 (by decide) _) (tl_q E2 (by decide))
    have qq2 : Qc h2 = (nxt (h0 36) (h0 35 1) (Qc h0)) := (tl_q E2 (by decide)).trans Qx1
    have u3_2 : h2 37 3 = h0 37 3 := (tl_o E2 (by decide) _).trans u3_1
    refine z_iconst (M := M_X1_readCut) 16 dX1_readCut_16 ?_
    exact z_retZ (M := M_X1_readCut) 17 dX1_readCut_17 rfl (by omega) ⟨G2, R2, en2, ok_of (p := ((nxt (h0 36) (h0 35 1) (Qc h0)), rU r (42 + a2).toNat (-1))) (by unfold rdCut; rw [cif_pos (Wx1)]) qq2 (LR.ct LR1 (by omega) (by omega) E2) u3_2⟩
  · have LR1 : LR 9 h1 r := Rr.same (fun i hi j => S1 _ j (fr_out (a := 9) (b := 16) (by decide) (by omega) (by omega) j)) (fun _ _ => rfl)
    have u3_1 : h1 37 3 = h0 37 3 := (S1 37 3 rfl).trans rfl
    refine z_if_eq_T (M := M_X1_readCut) 6 dX1_readCut_6 18 rfl (by omega) ?_
    refine z_aload_n (M := M_X1_readCut) 18 dX1_readCut_18 rfl ?_
    refine z_ldcS (M := M_X1_readCut) 19 dX1_readCut_19 (i := 7) rfl rfl rfl ?_
    refine z_vI (M := M_X1_readCut) 21 dX1_readCut_21 t_X1_take l_X1_27 (m_rr_of rfl) (rest := []) (c_X1_take2 h1 7 (by decide) G1 Ex1) o_37 rfl rfl rfl (Nat.le_of_ble_eq_true rfl) ⟨rfl, rfl⟩ (fun x2 h3 qx2 => ?_)
    obtain ⟨G3, S3, Ex2, Tx2⟩ := qx2
    have R3 := R1.call S3 (by decide +kernel)
    rcases tkc_ (rowz R1 (fun _ => rfl)) (R1 35 1 rfl) Qx1 Tx2 with ⟨rfl, Wx2, Qx2⟩ | ⟨rfl, Wx2, Qx2⟩
    · have LR3 : LR 9 h3 r := LR1.same (fun i hi j => S3 _ j (fr_out (a := 9) (b := 16) (by decide) (by omega) (by omega) j)) (fun _ _ => rfl)
      have u3_3 : h3 37 3 = h0 37 3 := (S3 37 3 rfl).trans u3_1
      refine z_if_eq_F (M := M_X1_readCut) 24 dX1_readCut_24 37 rfl (by omega) ?_
      refine z_aload_n (M := M_X1_readCut) 27 dX1_readCut_27 rfl ?_
      refine z_iconst (M := M_X1_readCut) 28 dX1_readCut_28 ?_
      refine z_bipush (M := M_X1_readCut) 29 dX1_readCut_29 ?_
      refine z_vI (M := M_X1_readCut) 31 dX1_readCut_31 t_X1_takeNumber l_X1_53 (m_rr_of rfl) (rest := []) (c_X1_takeNumber2 h3 1 31 G3 Ex2 ⟨by omega, by omega⟩ ⟨by omega, by omega⟩) o_37 rfl rfl rfl (Nat.le_of_ble_eq_true rfl) ⟨rfl, rfl⟩ (fun x3 h4 qx3 => ?_)
      obtain ⟨G4, S4, ax3, bx3, cx3, Ex3, Tx3⟩ := qx3
      have R4 := R3.call S4 (by decide +kernel)
      rcases tn_c (rowz R3 (fun _ => rfl)) (R3 35 1 rfl) Qx2 Tx3 with ⟨rfl, Wx3, Qx3⟩ | ⟨Nx3, Wx3, Qx3⟩
      · have LR4 : LR 9 h4 r := LR3.same (fun i hi j => S4 _ j (fr_out (a := 9) (b := 16) (by decide) (by omega) (by omega) j)) (fun _ _ => rfl)
        have u3_4 : h4 37 3 = h0 37 3 := (S4 37 3 rfl).trans u3_3
        refine z_goto (M := M_X1_readCut) 34 dX1_readCut_34 38 rfl ?_
        refine z_istore_n (M := M_X1_readCut) 38 dX1_readCut_38 (ls' := [some (mR 37), some (mR 9), some (mI a2), some (mI (-1))]) (by decide) rfl ?_
        refine z_iload_n (M := M_X1_readCut) 39 dX1_readCut_39 rfl ?_
        refine z_iconst (M := M_X1_readCut) 40 dX1_readCut_40 ?_
        refine z_icmp_ne_F (M := M_X1_readCut) 41 dX1_readCut_41 46 rfl (by omega) ?_
        refine z_iconst (M := M_X1_readCut) 44 dX1_readCut_44 ?_
        exact z_retZ (M := M_X1_readCut) 45 dX1_readCut_45 rfl (by omega) ⟨G4, R4, Ex3, er_of (q := (nxt (h0 36) (h0 35 1) (Qc h0))) (by unfold rdCut; rw [cif_neg (Wx1), cif_pos (Wx2), cif_neg (Wx3)]) Qx3 u3_4⟩
      · have LR4 : LR 9 h4 r := LR3.same (fun i hi j => S4 _ j (fr_out (a := 9) (b := 16) (by decide) (by omega) (by omega) j)) (fun _ _ => rfl)
        have u3_4 : h4 37 3 = h0 37 3 := (S4 37 3 rfl).trans u3_3
        have lx3 : 1 ≤ x3 ∧ x3 ≤ 31 := by rw [Nx3]; exact ⟨Wx3.2.2.1, Wx3.2.2.2⟩
        refine z_goto (M := M_X1_readCut) 34 dX1_readCut_34 38 rfl ?_
        refine z_istore_n (M := M_X1_readCut) 38 dX1_readCut_38 (ls' := [some (mR 37), some (mR 9), some (mI a2), some (mI x3)]) (by decide) rfl ?_
        refine z_iload_n (M := M_X1_readCut) 39 dX1_readCut_39 rfl ?_
        refine z_iconst (M := M_X1_readCut) 40 dX1_readCut_40 ?_
        refine z_icmp_ne_T (M := M_X1_readCut) 41 dX1_readCut_41 46 rfl (by omega) ?_
        refine z_aload_n (M := M_X1_readCut) 46 dX1_readCut_46 rfl ?_
        refine z_getR (M := M_X1_readCut) 47 dX1_readCut_47 f_X1_101 o_9 rfl (g_9_1 G4) ?_
        refine z_iload_n (M := M_X1_readCut) 50 dX1_readCut_50 rfl ?_
        refine z_iload_n (M := M_X1_readCut) 51 dX1_readCut_51 rfl ?_
        refine z_iastH (M := M_X1_readCut) 52 dX1_readCut_52 o_11 (by omega) (by omega) (u_11 G4 (by omega) (by omega)) (R4.up rfl) (fun h5 E5 G5 R5 => ?_)
        have en5 := EnS.fr Ex3 (tl_r E5 (by decide)) (tl_o E5 (by decide) _) (tl_q E5 (by decide))
        have qq5 : Qc h5 = (nxt (h0 36) (h0 35 1) (nxt (h0 36) (h0 35 1) (Qc h0))) := (tl_q E5 (by decide)).trans Qx3
        have u3_5 : h5 37 3 = h0 37 3 := (tl_o E5 (by decide) _).trans u3_4
        refine z_iconst (M := M_X1_readCut) 53 dX1_readCut_53 ?_
        exact z_retZ (M := M_X1_readCut) 54 dX1_readCut_54 rfl (by omega) ⟨G5, R5, en5, ok_of (p := ((nxt (h0 36) (h0 35 1) (nxt (h0 36) (h0 35 1) (Qc h0))), rU r (42 + a2).toNat x3)) (by unfold rdCut; rw [cif_neg (Wx1), cif_pos (Wx2), cif_pos (Wx3)]; rw [Nx3]) qq5 (LR.ct LR4 (by omega) (by omega) E5) u3_5⟩
    · have LR3 : LR 9 h3 r := LR1.same (fun i hi j => S3 _ j (fr_out (a := 9) (b := 16) (by decide) (by omega) (by omega) j)) (fun _ _ => rfl)
      have u3_3 : h3 37 3 = h0 37 3 := (S3 37 3 rfl).trans u3_1
      refine z_if_eq_T (M := M_X1_readCut) 24 dX1_readCut_24 37 rfl (by omega) ?_
      refine z_iconst (M := M_X1_readCut) 37 dX1_readCut_37 ?_
      refine z_istore_n (M := M_X1_readCut) 38 dX1_readCut_38 (ls' := [some (mR 37), some (mR 9), some (mI a2), some (mI (-1))]) (by decide) rfl ?_
      refine z_iload_n (M := M_X1_readCut) 39 dX1_readCut_39 rfl ?_
      refine z_iconst (M := M_X1_readCut) 40 dX1_readCut_40 ?_
      refine z_icmp_ne_F (M := M_X1_readCut) 41 dX1_readCut_41 46 rfl (by omega) ?_
      refine z_iconst (M := M_X1_readCut) 44 dX1_readCut_44 ?_
      exact z_retZ (M := M_X1_readCut) 45 dX1_readCut_45 rfl (by omega) ⟨G3, R3, Ex2, er_of (q := (Qc h0)) (by unfold rdCut; rw [cif_neg (Wx1), cif_neg (Wx2)]) Qx2 u3_3⟩
abbrev P_X1_readWeeks2 (h0 : m_H) (r : Nat → Int) : Int → m_H → Prop := fun x h' => GI h' ∧ FR [10] [(37, 1), (37, 2)] h0 h' ∧ EnS h' ∧ okQ 9 (rdWeeks (h0 36) (h0 35 1) (Qc h0) r) x h0 h'
def q_X1_readWeeks2 (h0 : m_H) (r : Nat → Int) (n : Nat) : Prop := (∀ (l3 l5 l6 : Int) (h : m_H), GI h → FR [10] [(37, 1), (37, 2)] h0 h → 0 ≤ l3 → l3 ≤ 31 → (-1) ≤ l5 → l5 ≤ 3 → 0 ≤ l6 → l6 ≤ 32 → (EnS h) → (∃ f, wkI (rdWeeks (h0 36) (h0 35 1) (Qc h0) r) r f l3 l5 l6 h0 h) → 2 * (32 - l6) + (1) ≤ (n : Int) → m_Z oF M_X1_readWeeks 93 [none, some (mR 9), none, some (mI l3), none, some (mI l5), some (mI l6)] [] h (m_QI (P_X1_readWeeks2 h0 r)))
set_option maxHeartbeats 4000000 in
set_option maxRecDepth 100000 in
theorem s_X1_readWeeks2_93 (h0 : m_H) (r : Nat → Int) (G0 : GI h0) (hE : EnS h0) (Rr : LR 9 h0 r) (n : Nat) (ih : q_X1_readWeeks2 h0 r n) : ∀ (l3 l5 l6 : Int) (h : m_H), GI h → FR [10] [(37, 1), (37, 2)] h0 h → 0 ≤ l3 → l3 ≤ 31 → (-1) ≤ l5 → l5 ≤ 3 → 0 ≤ l6 → l6 ≤ 32 → (EnS h) → (∃ f, wkI (rdWeeks (h0 36) (h0 35 1) (Qc h0) r) r f l3 l5 l6 h0 h) → 2 * (32 - l6) + (1) ≤ ((n + 1 : Nat) : Int) → m_Z oF M_X1_readWeeks 93 [none, some (mR 9), none, some (mI l3), none, some (mI l5), some (mI l6)] [] h (m_QI (P_X1_readWeeks2 h0 r)) := by
  intro l3 l5 l6 h G R v0 v1 v2 v3 v4 v5 i0 i1 hr
  obtain ⟨f, ik⟩ := i1
  refine z_iload (M := M_X1_readWeeks) 93 dX1_readWeeks_93 rfl ?_
  refine z_iload_n (M := M_X1_readWeeks) 95 dX1_readWeeks_95 rfl ?_
  refine z_icmp_gt (M := M_X1_readWeeks) 96 dX1_readWeeks_96 114 rfl (fun c1 => ?_) (fun c1 => ?_)
  · refine z_iconst (M := M_X1_readWeeks) 114 dX1_readWeeks_114 ?_
    exact z_retZ (M := M_X1_readWeeks) 115 dX1_readWeeks_115 rfl (by omega) ⟨G, R, i0, wk_end ik (by omega)⟩
  · refine z_aload_n (M := M_X1_readWeeks) 99 dX1_readWeeks_99 rfl ?_
    refine z_getR (M := M_X1_readWeeks) 100 dX1_readWeeks_100 f_X1_63 o_9 rfl (g_9_0 G) ?_
    refine z_iload (M := M_X1_readWeeks) 103 dX1_readWeeks_103 rfl ?_
    refine z_iload (M := M_X1_readWeeks) 105 dX1_readWeeks_105 rfl ?_
    refine z_iastH (M := M_X1_readWeeks) 107 dX1_readWeeks_107 o_10 (by omega) (by omega) (u_10 G (by omega) (by omega)) (R.up rfl) (fun h1 E1 G1 R1 => ?_)
    refine z_iincN (M := M_X1_readWeeks) 108 dX1_readWeeks_108 (ls' := [none, some (mR 9), none, some (mI l3), none, some (mI l5), some (mI (l6 + 1))]) (by decide) rfl (by (unfold m_32; decide)) (by omega) (by omega) rfl ?_
    refine z_goto (M := M_X1_readWeeks) 111 dX1_readWeeks_111 93 rfl ?_
    exact z_mask [false, true, false, true, false, true, true] rfl (ih l3 l5 (l6 + 1) h1 G1 R1 (by omega) (by omega) (by omega) (by omega) (by omega) (by omega) (EnS.fr i0 (tl_r E1 (by decide)) (tl_o E1 (by decide) _) (tl_q E1 (by decide))) ⟨f, wk_st ik (by omega) E1⟩ (by omega))
theorem a_X1_readWeeks2 (h0 : m_H) (r : Nat → Int) (G0 : GI h0) (hE : EnS h0) (Rr : LR 9 h0 r) : ∀ n, q_X1_readWeeks2 h0 r n := by
  intro n
  induction n with
  | zero => unfold q_X1_readWeeks2; intros; omega
  | succ n ih => exact s_X1_readWeeks2_93 h0 r G0 hE Rr n ih
set_option maxHeartbeats 4000000 in
set_option maxRecDepth 100000 in
theorem c_X1_readWeeks2 (h0 : m_H) (r : Nat → Int) (G0 : GI h0) (hE : EnS h0) (Rr : LR 9 h0 r) : m_CI M_X1_readWeeks [mR 37, mR 9] h0 (P_X1_readWeeks2 h0 r) := by
  refine m_CI_of ⟨by decide, rfl, by simp [m_arg, m_isL, M_X1_readWeeks], ⟨rfl, rfl⟩, rfl, rfl⟩ (ls := [some (mR 37), some (mR 9), none, none, none, none, none]) rfl ?_
  have ih := a_X1_readWeeks2 h0 r G0 hE Rr 72
  refine z_aload_n (M := M_X1_readWeeks) 0 dX1_readWeeks_0 rfl ?_
  refine z_iconst (M := M_X1_readWeeks) 1 dX1_readWeeks_1 ?_
  refine z_bipush (M := M_X1_readWeeks) 2 dX1_readWeeks_2 ?_
  refine z_vI (M := M_X1_readWeeks) 4 dX1_readWeeks_4 t_X1_takeNumber l_X1_53 (m_rr_of rfl) (rest := []) (c_X1_takeNumber2 h0 0 31 G0 hE ⟨by omega, by omega⟩ ⟨by omega, by omega⟩) o_37 rfl rfl rfl (Nat.le_of_ble_eq_true rfl) ⟨rfl, rfl⟩ (fun x1 h1 qx1 => ?_)
  obtain ⟨G1, S1, ax1, bx1, cx1, Ex1, Tx1⟩ := qx1
  have R1 := (FR.rf (cs := [10]) (ss := [(37, 1), (37, 2)]) (h := h0)).call S1 (by decide +kernel)
  rcases tn_c (rowz (FR.rf (cs := [10]) (ss := [(37, 1), (37, 2)]) (h := h0)) (fun _ => rfl)) ((FR.rf (cs := [10]) (ss := [(37, 1), (37, 2)]) (h := h0)) 35 1 rfl) rfl Tx1 with ⟨rfl, Wx1, Qx1⟩ | ⟨Nx1, Wx1, Qx1⟩
  · have LR1 : LR 9 h1 r := Rr.same (fun i hi j => S1 _ j (fr_out (a := 9) (b := 16) (by decide) (by omega) (by omega) j)) (fun _ _ => rfl)
    have u3_1 : h1 37 3 = h0 37 3 := (S1 37 3 rfl).trans rfl
    refine z_istore_n (M := M_X1_readWeeks) 7 dX1_readWeeks_7 (ls' := [some (mR 37), some (mR 9), some (mI (-1)), none, none, none, none]) (by decide) rfl ?_
    refine z_iload_n (M := M_X1_readWeeks) 8 dX1_readWeeks_8 rfl ?_
    refine z_iconst (M := M_X1_readWeeks) 9 dX1_readWeeks_9 ?_
    refine z_icmp_ne_F (M := M_X1_readWeeks) 10 dX1_readWeeks_10 15 rfl (by omega) ?_
    refine z_iconst (M := M_X1_readWeeks) 13 dX1_readWeeks_13 ?_
    exact z_retZ (M := M_X1_readWeeks) 14 dX1_readWeeks_14 rfl (by omega) ⟨G1, R1, Ex1, er_of (q := (Qc h0)) (by unfold rdWeeks rdBy; rw [cif_neg (Wx1)]) Qx1 u3_1⟩
  · have LR1 : LR 9 h1 r := Rr.same (fun i hi j => S1 _ j (fr_out (a := 9) (b := 16) (by decide) (by omega) (by omega) j)) (fun _ _ => rfl)
    have u3_1 : h1 37 3 = h0 37 3 := (S1 37 3 rfl).trans rfl
    have lx1 : 0 ≤ x1 ∧ x1 ≤ 31 := by rw [Nx1]; exact ⟨Wx1.2.2.1, Wx1.2.2.2⟩
    refine z_istore_n (M := M_X1_readWeeks) 7 dX1_readWeeks_7 (ls' := [some (mR 37), some (mR 9), some (mI x1), none, none, none, none]) (by decide) rfl ?_
    refine z_iload_n (M := M_X1_readWeeks) 8 dX1_readWeeks_8 rfl ?_
    refine z_iconst (M := M_X1_readWeeks) 9 dX1_readWeeks_9 ?_
    refine z_icmp_ne_T (M := M_X1_readWeeks) 10 dX1_readWeeks_10 15 rfl (by omega) ?_
    refine z_aload_n (M := M_X1_readWeeks) 15 dX1_readWeeks_15 rfl ?_
    refine z_ldcS (M := M_X1_readWeeks) 16 dX1_readWeeks_16 (i := 1) rfl rfl rfl ?_
    refine z_vI (M := M_X1_readWeeks) 18 dX1_readWeeks_18 t_X1_take l_X1_27 (m_rr_of rfl) (rest := []) (c_X1_take2 h1 1 (by decide) G1 Ex1) o_37 rfl rfl rfl (Nat.le_of_ble_eq_true rfl) ⟨rfl, rfl⟩ (fun x2 h2 qx2 => ?_)
    obtain ⟨G2, S2, Ex2, Tx2⟩ := qx2
    have R2 := R1.call S2 (by decide +kernel)
    rcases tkc_ (rowz R1 (fun _ => rfl)) (R1 35 1 rfl) Qx1 Tx2 with ⟨rfl, Wx2, Qx2⟩ | ⟨rfl, Wx2, Qx2⟩
    · have LR2 : LR 9 h2 r := LR1.same (fun i hi j => S2 _ j (fr_out (a := 9) (b := 16) (by decide) (by omega) (by omega) j)) (fun _ _ => rfl)
      have u3_2 : h2 37 3 = h0 37 3 := (S2 37 3 rfl).trans u3_1
      refine z_if_eq_F (M := M_X1_readWeeks) 21 dX1_readWeeks_21 34 rfl (by omega) ?_
      refine z_aload_n (M := M_X1_readWeeks) 24 dX1_readWeeks_24 rfl ?_
      refine z_iload_n (M := M_X1_readWeeks) 25 dX1_readWeeks_25 rfl ?_
      refine z_bipush (M := M_X1_readWeeks) 26 dX1_readWeeks_26 ?_
      refine z_vI (M := M_X1_readWeeks) 28 dX1_readWeeks_28 t_X1_takeNumber l_X1_53 (m_rr_of rfl) (rest := []) (c_X1_takeNumber2 h2 x1 31 G2 Ex2 ⟨by omega, by omega⟩ ⟨by omega, by omega⟩) o_37 rfl rfl rfl (Nat.le_of_ble_eq_true rfl) ⟨rfl, rfl⟩ (fun x3 h3 qx3 => ?_)
      obtain ⟨G3, S3, ax3, bx3, cx3, Ex3, Tx3⟩ := qx3
      have R3 := R2.call S3 (by decide +kernel)
      rcases tn_c (rowz R2 (fun _ => rfl)) (R2 35 1 rfl) Qx2 Tx3 with ⟨rfl, Wx3, Qx3⟩ | ⟨Nx3, Wx3, Qx3⟩
      · have LR3 : LR 9 h3 r := LR2.same (fun i hi j => S3 _ j (fr_out (a := 9) (b := 16) (by decide) (by omega) (by omega) j)) (fun _ _ => rfl)
        have u3_3 : h3 37 3 = h0 37 3 := (S3 37 3 rfl).trans u3_2
        refine z_goto (M := M_X1_readWeeks) 31 dX1_readWeeks_31 35 rfl ?_
        refine z_istore_n (M := M_X1_readWeeks) 35 dX1_readWeeks_35 (ls' := [some (mR 37), some (mR 9), some (mI x1), some (mI (-1)), none, none, none]) (by decide) rfl ?_
        refine z_iload_n (M := M_X1_readWeeks) 36 dX1_readWeeks_36 rfl ?_
        refine z_iconst (M := M_X1_readWeeks) 37 dX1_readWeeks_37 ?_
        refine z_icmp_eq_T (M := M_X1_readWeeks) 38 dX1_readWeeks_38 50 rfl (by omega) ?_
        refine z_iconst (M := M_X1_readWeeks) 50 dX1_readWeeks_50 ?_
        exact z_retZ (M := M_X1_readWeeks) 51 dX1_readWeeks_51 rfl (by omega) ⟨G3, R3, Ex3, er_of (q := (nxt (h0 36) (h0 35 1) (nxt (h0 36) (h0 35 1) (Qc h0)))) (by unfold rdWeeks rdBy; rw [cif_pos (Wx1), cif_pos (Wx2), cif_neg (Nx1 ▸ Wx3)]) Qx3 u3_3⟩
      · have LR3 : LR 9 h3 r := LR2.same (fun i hi j => S3 _ j (fr_out (a := 9) (b := 16) (by decide) (by omega) (by omega) j)) (fun _ _ => rfl)
        have u3_3 : h3 37 3 = h0 37 3 := (S3 37 3 rfl).trans u3_2
        have lx3 : x1 ≤ x3 ∧ x3 ≤ 31 := by rw [Nx3]; exact ⟨Wx3.2.2.1, Wx3.2.2.2⟩
        refine z_goto (M := M_X1_readWeeks) 31 dX1_readWeeks_31 35 rfl ?_
        refine z_istore_n (M := M_X1_readWeeks) 35 dX1_readWeeks_35 (ls' := [some (mR 37), some (mR 9), some (mI x1), some (mI x3), none, none, none]) (by decide) rfl ?_
        refine z_iload_n (M := M_X1_readWeeks) 36 dX1_readWeeks_36 rfl ?_
        refine z_iconst (M := M_X1_readWeeks) 37 dX1_readWeeks_37 ?_
        refine z_icmp_eq_F (M := M_X1_readWeeks) 38 dX1_readWeeks_38 50 rfl (by omega) ?_
        refine z_aload_n (M := M_X1_readWeeks) 41 dX1_readWeeks_41 rfl ?_
        refine z_ldcS (M := M_X1_readWeeks) 42 dX1_readWeeks_42 (i := 2) rfl rfl rfl ?_
        refine z_vI (M := M_X1_readWeeks) 44 dX1_readWeeks_44 t_X1_take l_X1_27 (m_rr_of rfl) (rest := []) (c_X1_take2 h3 2 (by decide) G3 Ex3) o_37 rfl rfl rfl (Nat.le_of_ble_eq_true rfl) ⟨rfl, rfl⟩ (fun x4 h4 qx4 => ?_)
        obtain ⟨G4, S4, Ex4, Tx4⟩ := qx4
        have R4 := R3.call S4 (by decide +kernel)
        rcases tkc_ (rowz R3 (fun _ => rfl)) (R3 35 1 rfl) Qx3 Tx4 with ⟨rfl, Wx4, Qx4⟩ | ⟨rfl, Wx4, Qx4⟩
        · have LR4 : LR 9 h4 r := LR3.same (fun i hi j => S4 _ j (fr_out (a := 9) (b := 16) (by decide) (by omega) (by omega) j)) (fun _ _ => rfl)
          have u3_4 : h4 37 3 = h0 37 3 := (S4 37 3 rfl).trans u3_3
          refine z_if_ne_T (M := M_X1_readWeeks) 47 dX1_readWeeks_47 52 rfl (by omega) ?_
          refine z_aload_n (M := M_X1_readWeeks) 52 dX1_readWeeks_52 rfl ?_
          refine z_ldcS (M := M_X1_readWeeks) 53 dX1_readWeeks_53 (i := 3) rfl rfl rfl ?_
          refine z_vI (M := M_X1_readWeeks) 55 dX1_readWeeks_55 t_X1_take l_X1_27 (m_rr_of rfl) (rest := []) (c_X1_take2 h4 3 (by decide) G4 Ex4) o_37 rfl rfl rfl (Nat.le_of_ble_eq_true rfl) ⟨rfl, rfl⟩ (fun x5 h5 qx5 => ?_)
          obtain ⟨G5, S5, Ex5, Tx5⟩ := qx5
          have R5 := R4.call S5 (by decide +kernel)
          rcases tkc_ (rowz R4 (fun _ => rfl)) (R4 35 1 rfl) Qx4 Tx5 with ⟨rfl, Wx5, Qx5⟩ | ⟨rfl, Wx5, Qx5⟩
          · have LR5 : LR 9 h5 r := LR4.same (fun i hi j => S5 _ j (fr_out (a := 9) (b := 16) (by decide) (by omega) (by omega) j)) (fun _ _ => rfl)
            have u3_5 : h5 37 3 = h0 37 3 := (S5 37 3 rfl).trans u3_4
            refine z_istore (M := M_X1_readWeeks) 58 dX1_readWeeks_58 (ls' := [some (mR 37), some (mR 9), some (mI x1), some (mI x3), some (mI 1), none, none]) (by decide) rfl ?_
            refine z_iload (M := M_X1_readWeeks) 60 dX1_readWeeks_60 rfl ?_
            refine z_if_eq_F (M := M_X1_readWeeks) 62 dX1_readWeeks_62 69 rfl (by omega) ?_
            refine z_iconst (M := M_X1_readWeeks) 65 dX1_readWeeks_65 ?_
            refine z_goto (M := M_X1_readWeeks) 66 dX1_readWeeks_66 75 rfl ?_
            refine z_istore (M := M_X1_readWeeks) 75 dX1_readWeeks_75 (ls' := [some (mR 37), some (mR 9), some (mI x1), some (mI x3), some (mI 1), some (mI (-1)), none]) (by decide) rfl ?_
            refine z_iload (M := M_X1_readWeeks) 77 dX1_readWeeks_77 rfl ?_
            refine z_iconst (M := M_X1_readWeeks) 79 dX1_readWeeks_79 ?_
            refine z_icmp_ne_F (M := M_X1_readWeeks) 80 dX1_readWeeks_80 90 rfl (by omega) ?_
            refine z_iload (M := M_X1_readWeeks) 83 dX1_readWeeks_83 rfl ?_
            refine z_if_ne_T (M := M_X1_readWeeks) 85 dX1_readWeeks_85 90 rfl (by omega) ?_
            refine z_iload_n (M := M_X1_readWeeks) 90 dX1_readWeeks_90 rfl ?_
            refine z_istore (M := M_X1_readWeeks) 91 dX1_readWeeks_91 (ls' := [some (mR 37), some (mR 9), some (mI x1), some (mI x3), some (mI 1), some (mI (-1)), some (mI x1)]) (by decide) rfl ?_
            exact z_mask [false, true, false, true, false, true, true] rfl (ih x3 (-1) x1 h5 G5 R5 (by omega) (by omega) (by omega) (by omega) (by omega) (by omega) Ex5 ⟨x1, wk_0 (q := (nxt (h0 36) (h0 35 1) (nxt (h0 36) (h0 35 1) (nxt (h0 36) (h0 35 1) (nxt (h0 36) (h0 35 1) (nxt (h0 36) (h0 35 1) (Qc h0))))))) (by unfold rdWeeks rdBy; rw [cif_pos (Wx1), cif_pos (Wx2), cif_pos (Nx1 ▸ Wx3), cif_pos (Wx4), cif_pos (Wx5), Nx1, Nx3]) Qx5 u3_5 LR5 (by omega) (by omega) (by omega)⟩ (by omega))
          · have LR5 : LR 9 h5 r := LR4.same (fun i hi j => S5 _ j (fr_out (a := 9) (b := 16) (by decide) (by omega) (by omega) j)) (fun _ _ => rfl)
            have u3_5 : h5 37 3 = h0 37 3 := (S5 37 3 rfl).trans u3_4
            refine z_istore (M := M_X1_readWeeks) 58 dX1_readWeeks_58 (ls' := [some (mR 37), some (mR 9), some (mI x1), some (mI x3), some (mI 0), none, none]) (by decide) rfl ?_
            refine z_iload (M := M_X1_readWeeks) 60 dX1_readWeeks_60 rfl ?_
            refine z_if_eq_T (M := M_X1_readWeeks) 62 dX1_readWeeks_62 69 rfl (by omega) ?_
            refine z_aload_n (M := M_X1_readWeeks) 69 dX1_readWeeks_69 rfl ?_
            refine z_iconst (M := M_X1_readWeeks) 70 dX1_readWeeks_70 ?_
            refine z_iconst (M := M_X1_readWeeks) 71 dX1_readWeeks_71 ?_
            refine z_vI (M := M_X1_readWeeks) 72 dX1_readWeeks_72 t_X1_takeNumber l_X1_53 (m_rr_of rfl) (rest := []) (c_X1_takeNumber2 h5 0 3 G5 Ex5 ⟨by omega, by omega⟩ ⟨by omega, by omega⟩) o_37 rfl rfl rfl (Nat.le_of_ble_eq_true rfl) ⟨rfl, rfl⟩ (fun x6 h6 qx6 => ?_)
            obtain ⟨G6, S6, ax6, bx6, cx6, Ex6, Tx6⟩ := qx6
            have R6 := R5.call S6 (by decide +kernel)
            rcases tn_c (rowz R5 (fun _ => rfl)) (R5 35 1 rfl) Qx5 Tx6 with ⟨rfl, Wx6, Qx6⟩ | ⟨Nx6, Wx6, Qx6⟩
            · have LR6 : LR 9 h6 r := LR5.same (fun i hi j => S6 _ j (fr_out (a := 9) (b := 16) (by decide) (by omega) (by omega) j)) (fun _ _ => rfl)
              have u3_6 : h6 37 3 = h0 37 3 := (S6 37 3 rfl).trans u3_5
              refine z_istore (M := M_X1_readWeeks) 75 dX1_readWeeks_75 (ls' := [some (mR 37), some (mR 9), some (mI x1), some (mI x3), some (mI 0), some (mI (-1)), none]) (by decide) rfl ?_
              refine z_iload (M := M_X1_readWeeks) 77 dX1_readWeeks_77 rfl ?_
              refine z_iconst (M := M_X1_readWeeks) 79 dX1_readWeeks_79 ?_
              refine z_icmp_ne_F (M := M_X1_readWeeks) 80 dX1_readWeeks_80 90 rfl (by omega) ?_
              refine z_iload (M := M_X1_readWeeks) 83 dX1_readWeeks_83 rfl ?_
              refine z_if_ne_F (M := M_X1_readWeeks) 85 dX1_readWeeks_85 90 rfl (by omega) ?_
              refine z_iconst (M := M_X1_readWeeks) 88 dX1_readWeeks_88 ?_
              exact z_retZ (M := M_X1_readWeeks) 89 dX1_readWeeks_89 rfl (by omega) ⟨G6, R6, Ex6, er_of (q := (nxt (h0 36) (h0 35 1) (nxt (h0 36) (h0 35 1) (nxt (h0 36) (h0 35 1) (nxt (h0 36) (h0 35 1) (Qc h0)))))) (by unfold rdWeeks rdBy; rw [cif_pos (Wx1), cif_pos (Wx2), cif_pos (Nx1 ▸ Wx3), cif_pos (Wx4), cif_neg (Wx5), cif_neg (Wx6)]) Qx6 u3_6⟩
            · have LR6 : LR 9 h6 r := LR5.same (fun i hi j => S6 _ j (fr_out (a := 9) (b := 16) (by decide) (by omega) (by omega) j)) (fun _ _ => rfl)
              have u3_6 : h6 37 3 = h0 37 3 := (S6 37 3 rfl).trans u3_5
              have lx6 : 0 ≤ x6 ∧ x6 ≤ 3 := by rw [Nx6]; exact ⟨Wx6.2.2.1, Wx6.2.2.2⟩
              refine z_istore (M := M_X1_readWeeks) 75 dX1_readWeeks_75 (ls' := [some (mR 37), some (mR 9), some (mI x1), some (mI x3), some (mI 0), some (mI x6), none]) (by decide) rfl ?_
              refine z_iload (M := M_X1_readWeeks) 77 dX1_readWeeks_77 rfl ?_
              refine z_iconst (M := M_X1_readWeeks) 79 dX1_readWeeks_79 ?_
              refine z_icmp_ne_T (M := M_X1_readWeeks) 80 dX1_readWeeks_80 90 rfl (by omega) ?_
              refine z_iload_n (M := M_X1_readWeeks) 90 dX1_readWeeks_90 rfl ?_
              refine z_istore (M := M_X1_readWeeks) 91 dX1_readWeeks_91 (ls' := [some (mR 37), some (mR 9), some (mI x1), some (mI x3), some (mI 0), some (mI x6), some (mI x1)]) (by decide) rfl ?_
              exact z_mask [false, true, false, true, false, true, true] rfl (ih x3 x6 x1 h6 G6 R6 (by omega) (by omega) (by omega) (by omega) (by omega) (by omega) Ex6 ⟨x1, wk_0 (q := (nxt (h0 36) (h0 35 1) (nxt (h0 36) (h0 35 1) (nxt (h0 36) (h0 35 1) (nxt (h0 36) (h0 35 1) (nxt (h0 36) (h0 35 1) (Qc h0))))))) (by unfold rdWeeks rdBy; rw [cif_pos (Wx1), cif_pos (Wx2), cif_pos (Nx1 ▸ Wx3), cif_pos (Wx4), cif_neg (Wx5), cif_pos (Wx6), Nx1, Nx3, Nx6]) Qx6 u3_6 LR6 (by omega) (by omega) (by omega)⟩ (by omega))
        · have LR4 : LR 9 h4 r := LR3.same (fun i hi j => S4 _ j (fr_out (a := 9) (b := 16) (by decide) (by omega) (by omega) j)) (fun _ _ => rfl)
          have u3_4 : h4 37 3 = h0 37 3 := (S4 37 3 rfl).trans u3_3
          refine z_if_ne_F (M := M_X1_readWeeks) 47 dX1_readWeeks_47 52 rfl (by omega) ?_
          refine z_iconst (M := M_X1_readWeeks) 50 dX1_readWeeks_50 ?_
          exact z_retZ (M := M_X1_readWeeks) 51 dX1_readWeeks_51 rfl (by omega) ⟨G4, R4, Ex4, er_of (q := (nxt (h0 36) (h0 35 1) (nxt (h0 36) (h0 35 1) (nxt (h0 36) (h0 35 1) (Qc h0))))) (by unfold rdWeeks rdBy; rw [cif_pos (Wx1), cif_pos (Wx2), cif_pos (Nx1 ▸ Wx3), cif_neg (Wx4)]) Qx4 u3_4⟩
    · have LR2 : LR 9 h2 r := LR1.same (fun i hi j => S2 _ j (fr_out (a := 9) (b := 16) (by decide) (by omega) (by omega) j)) (fun _ _ => rfl)
      have u3_2 : h2 37 3 = h0 37 3 := (S2 37 3 rfl).trans u3_1
      refine z_if_eq_T (M := M_X1_readWeeks) 21 dX1_readWeeks_21 34 rfl (by omega) ?_
      refine z_iload_n (M := M_X1_readWeeks) 34 dX1_readWeeks_34 rfl ?_
      refine z_istore_n (M := M_X1_readWeeks) 35 dX1_readWeeks_35 (ls' := [some (mR 37), some (mR 9), some (mI x1), some (mI x1), none, none, none]) (by decide) rfl ?_
      refine z_iload_n (M := M_X1_readWeeks) 36 dX1_readWeeks_36 rfl ?_
      refine z_iconst (M := M_X1_readWeeks) 37 dX1_readWeeks_37 ?_
      refine z_icmp_eq_F (M := M_X1_readWeeks) 38 dX1_readWeeks_38 50 rfl (by omega) ?_
      refine z_aload_n (M := M_X1_readWeeks) 41 dX1_readWeeks_41 rfl ?_
      refine z_ldcS (M := M_X1_readWeeks) 42 dX1_readWeeks_42 (i := 2) rfl rfl rfl ?_
      refine z_vI (M := M_X1_readWeeks) 44 dX1_readWeeks_44 t_X1_take l_X1_27 (m_rr_of rfl) (rest := []) (c_X1_take2 h2 2 (by decide) G2 Ex2) o_37 rfl rfl rfl (Nat.le_of_ble_eq_true rfl) ⟨rfl, rfl⟩ (fun x7 h7 qx7 => ?_)
      obtain ⟨G7, S7, Ex7, Tx7⟩ := qx7
      have R7 := R2.call S7 (by decide +kernel)
      rcases tkc_ (rowz R2 (fun _ => rfl)) (R2 35 1 rfl) Qx2 Tx7 with ⟨rfl, Wx7, Qx7⟩ | ⟨rfl, Wx7, Qx7⟩
      · have LR7 : LR 9 h7 r := LR2.same (fun i hi j => S7 _ j (fr_out (a := 9) (b := 16) (by decide) (by omega) (by omega) j)) (fun _ _ => rfl)
        have u3_7 : h7 37 3 = h0 37 3 := (S7 37 3 rfl).trans u3_2
        refine z_if_ne_T (M := M_X1_readWeeks) 47 dX1_readWeeks_47 52 rfl (by omega) ?_
        refine z_aload_n (M := M_X1_readWeeks) 52 dX1_readWeeks_52 rfl ?_
        refine z_ldcS (M := M_X1_readWeeks) 53 dX1_readWeeks_53 (i := 3) rfl rfl rfl ?_
        refine z_vI (M := M_X1_readWeeks) 55 dX1_readWeeks_55 t_X1_take l_X1_27 (m_rr_of rfl) (rest := []) (c_X1_take2 h7 3 (by decide) G7 Ex7) o_37 rfl rfl rfl (Nat.le_of_ble_eq_true rfl) ⟨rfl, rfl⟩ (fun x8 h8 qx8 => ?_)
        obtain ⟨G8, S8, Ex8, Tx8⟩ := qx8
        have R8 := R7.call S8 (by decide +kernel)
        rcases tkc_ (rowz R7 (fun _ => rfl)) (R7 35 1 rfl) Qx7 Tx8 with ⟨rfl, Wx8, Qx8⟩ | ⟨rfl, Wx8, Qx8⟩
        · have LR8 : LR 9 h8 r := LR7.same (fun i hi j => S8 _ j (fr_out (a := 9) (b := 16) (by decide) (by omega) (by omega) j)) (fun _ _ => rfl)
          have u3_8 : h8 37 3 = h0 37 3 := (S8 37 3 rfl).trans u3_7
          refine z_istore (M := M_X1_readWeeks) 58 dX1_readWeeks_58 (ls' := [some (mR 37), some (mR 9), some (mI x1), some (mI x1), some (mI 1), none, none]) (by decide) rfl ?_
          refine z_iload (M := M_X1_readWeeks) 60 dX1_readWeeks_60 rfl ?_
          refine z_if_eq_F (M := M_X1_readWeeks) 62 dX1_readWeeks_62 69 rfl (by omega) ?_
          refine z_iconst (M := M_X1_readWeeks) 65 dX1_readWeeks_65 ?_
          refine z_goto (M := M_X1_readWeeks) 66 dX1_readWeeks_66 75 rfl ?_
          refine z_istore (M := M_X1_readWeeks) 75 dX1_readWeeks_75 (ls' := [some (mR 37), some (mR 9), some (mI x1), some (mI x1), some (mI 1), some (mI (-1)), none]) (by decide) rfl ?_
          refine z_iload (M := M_X1_readWeeks) 77 dX1_readWeeks_77 rfl ?_
          refine z_iconst (M := M_X1_readWeeks) 79 dX1_readWeeks_79 ?_
          refine z_icmp_ne_F (M := M_X1_readWeeks) 80 dX1_readWeeks_80 90 rfl (by omega) ?_
          refine z_iload (M := M_X1_readWeeks) 83 dX1_readWeeks_83 rfl ?_
          refine z_if_ne_T (M := M_X1_readWeeks) 85 dX1_readWeeks_85 90 rfl (by omega) ?_
          refine z_iload_n (M := M_X1_readWeeks) 90 dX1_readWeeks_90 rfl ?_
          refine z_istore (M := M_X1_readWeeks) 91 dX1_readWeeks_91 (ls' := [some (mR 37), some (mR 9), some (mI x1), some (mI x1), some (mI 1), some (mI (-1)), some (mI x1)]) (by decide) rfl ?_
          exact z_mask [false, true, false, true, false, true, true] rfl (ih x1 (-1) x1 h8 G8 R8 (by omega) (by omega) (by omega) (by omega) (by omega) (by omega) Ex8 ⟨x1, wk_0 (q := (nxt (h0 36) (h0 35 1) (nxt (h0 36) (h0 35 1) (nxt (h0 36) (h0 35 1) (Qc h0))))) (by unfold rdWeeks rdBy; rw [cif_pos (Wx1), cif_neg (Wx2), cif_pos (Wx7), cif_pos (Wx8), Nx1]) Qx8 u3_8 LR8 (by omega) (by omega) (by omega)⟩ (by omega))
        · have LR8 : LR 9 h8 r := LR7.same (fun i hi j => S8 _ j (fr_out (a := 9) (b := 16) (by decide) (by omega) (by omega) j)) (fun _ _ => rfl)
          have u3_8 : h8 37 3 = h0 37 3 := (S8 37 3 rfl).trans u3_7
          refine z_istore (M := M_X1_readWeeks) 58 dX1_readWeeks_58 (ls' := [some (mR 37), some (mR 9), some (mI x1), some (mI x1), some (mI 0), none, none]) (by decide) rfl ?_
          refine z_iload (M := M_X1_readWeeks) 60 dX1_readWeeks_60 rfl ?_
          refine z_if_eq_T (M := M_X1_readWeeks) 62 dX1_readWeeks_62 69 rfl (by omega) ?_
          refine z_aload_n (M := M_X1_readWeeks) 69 dX1_readWeeks_69 rfl ?_
          refine z_iconst (M := M_X1_readWeeks) 70 dX1_readWeeks_70 ?_
          refine z_iconst (M := M_X1_readWeeks) 71 dX1_readWeeks_71 ?_
          refine z_vI (M := M_X1_readWeeks) 72 dX1_readWeeks_72 t_X1_takeNumber l_X1_53 (m_rr_of rfl) (rest := []) (c_X1_takeNumber2 h8 0 3 G8 Ex8 ⟨by omega, by omega⟩ ⟨by omega, by omega⟩) o_37 rfl rfl rfl (Nat.le_of_ble_eq_true rfl) ⟨rfl, rfl⟩ (fun x9 h9 qx9 => ?_)
          obtain ⟨G9, S9, ax9, bx9, cx9, Ex9, Tx9⟩ := qx9
          have R9 := R8.call S9 (by decide +kernel)
          rcases tn_c (rowz R8 (fun _ => rfl)) (R8 35 1 rfl) Qx8 Tx9 with ⟨rfl, Wx9, Qx9⟩ | ⟨Nx9, Wx9, Qx9⟩
          · have LR9 : LR 9 h9 r := LR8.same (fun i hi j => S9 _ j (fr_out (a := 9) (b := 16) (by decide) (by omega) (by omega) j)) (fun _ _ => rfl)
            have u3_9 : h9 37 3 = h0 37 3 := (S9 37 3 rfl).trans u3_8
            refine z_istore (M := M_X1_readWeeks) 75 dX1_readWeeks_75 (ls' := [some (mR 37), some (mR 9), some (mI x1), some (mI x1), some (mI 0), some (mI (-1)), none]) (by decide) rfl ?_
            refine z_iload (M := M_X1_readWeeks) 77 dX1_readWeeks_77 rfl ?_
            refine z_iconst (M := M_X1_readWeeks) 79 dX1_readWeeks_79 ?_
            refine z_icmp_ne_F (M := M_X1_readWeeks) 80 dX1_readWeeks_80 90 rfl (by omega) ?_
            refine z_iload (M := M_X1_readWeeks) 83 dX1_readWeeks_83 rfl ?_
            refine z_if_ne_F (M := M_X1_readWeeks) 85 dX1_readWeeks_85 90 rfl (by omega) ?_
            refine z_iconst (M := M_X1_readWeeks) 88 dX1_readWeeks_88 ?_
            exact z_retZ (M := M_X1_readWeeks) 89 dX1_readWeeks_89 rfl (by omega) ⟨G9, R9, Ex9, er_of (q := (nxt (h0 36) (h0 35 1) (nxt (h0 36) (h0 35 1) (Qc h0)))) (by unfold rdWeeks rdBy; rw [cif_pos (Wx1), cif_neg (Wx2), cif_pos (Wx7), cif_neg (Wx8), cif_neg (Wx9)]) Qx9 u3_9⟩
          · have LR9 : LR 9 h9 r := LR8.same (fun i hi j => S9 _ j (fr_out (a := 9) (b := 16) (by decide) (by omega) (by omega) j)) (fun _ _ => rfl)
            have u3_9 : h9 37 3 = h0 37 3 := (S9 37 3 rfl).trans u3_8
            have lx9 : 0 ≤ x9 ∧ x9 ≤ 3 := by rw [Nx9]; exact ⟨Wx9.2.2.1, Wx9.2.2.2⟩
            refine z_istore (M := M_X1_readWeeks) 75 dX1_readWeeks_75 (ls' := [some (mR 37), some (mR 9), some (mI x1), some (mI x1), some (mI 0), some (mI x9), none]) (by decide) rfl ?_
            refine z_iload (M := M_X1_readWeeks) 77 dX1_readWeeks_77 rfl ?_
            refine z_iconst (M := M_X1_readWeeks) 79 dX1_readWeeks_79 ?_
            refine z_icmp_ne_T (M := M_X1_readWeeks) 80 dX1_readWeeks_80 90 rfl (by omega) ?_
            refine z_iload_n (M := M_X1_readWeeks) 90 dX1_readWeeks_90 rfl ?_
            refine z_istore (M := M_X1_readWeeks) 91 dX1_readWeeks_91 (ls' := [some (mR 37), some (mR 9), some (mI x1), some (mI x1), some (mI 0), some (mI x9), some (mI x1)]) (by decide) rfl ?_
            exact z_mask [false, true, false, true, false, true, true] rfl (ih x1 x9 x1 h9 G9 R9 (by omega) (by omega) (by omega) (by omega) (by omega) (by omega) Ex9 ⟨x1, wk_0 (q := (nxt (h0 36) (h0 35 1) (nxt (h0 36) (h0 35 1) (nxt (h0 36) (h0 35 1) (Qc h0))))) (by unfold rdWeeks rdBy; rw [cif_pos (Wx1), cif_neg (Wx2), cif_pos (Wx7), cif_neg (Wx8), cif_pos (Wx9), Nx1, Nx9]) Qx9 u3_9 LR9 (by omega) (by omega) (by omega)⟩ (by omega))
      · have LR7 : LR 9 h7 r := LR2.same (fun i hi j => S7 _ j (fr_out (a := 9) (b := 16) (by decide) (by omega) (by omega) j)) (fun _ _ => rfl)
        have u3_7 : h7 37 3 = h0 37 3 := (S7 37 3 rfl).trans u3_2
        refine z_if_ne_F (M := M_X1_readWeeks) 47 dX1_readWeeks_47 52 rfl (by omega) ?_
        refine z_iconst (M := M_X1_readWeeks) 50 dX1_readWeeks_50 ?_
        exact z_retZ (M := M_X1_readWeeks) 51 dX1_readWeeks_51 rfl (by omega) ⟨G7, R7, Ex7, er_of (q := (nxt (h0 36) (h0 35 1) (Qc h0))) (by unfold rdWeeks rdBy; rw [cif_pos (Wx1), cif_neg (Wx2), cif_neg (Wx7)]) Qx7 u3_7⟩
abbrev P_X1_readMeasure2 (h0 : m_H) (a2 : Int) (r : Nat → Int) : Int → m_H → Prop := fun x h' => GI h' ∧ FR [12, 13, 14, 15] [(9, 7), (9, 8), (37, 1), (37, 2)] h0 h' ∧ EnS h' ∧ okQ 9 (rdMeas (h0 36) (h0 35 1) (Qc h0) r a2) x h0 h'
set_option maxHeartbeats 4000000 in
set_option maxRecDepth 100000 in
theorem c_X1_readMeasure2 (h0 : m_H) (a2 : Int) (r : Nat → Int) (G0 : GI h0) (pa2 : 0 ≤ a2 ∧ a2 ≤ 5) (hE : EnS h0) (Rr : LR 9 h0 r) : m_CI M_X1_readMeasure [mR 37, mR 9, mI a2] h0 (P_X1_readMeasure2 h0 a2 r) := by
  refine m_CI_of ⟨by decide, rfl, by simp [m_arg, m_isL, M_X1_readMeasure], ⟨rfl, rfl⟩, rfl, rfl⟩ (ls := [some (mR 37), some (mR 9), some (mI a2), none, none, none]) rfl ?_
  refine z_aload_n (M := M_X1_readMeasure) 0 dX1_readMeasure_0 rfl ?_
  refine z_vI (M := M_X1_readMeasure) 1 dX1_readMeasure_1 t_X4_hasRoom l_X1_106 (m_rr_of rfl) (rest := []) (c_X4_hasRoom h0 9 (Or.inr (Or.inl rfl)) G0) o_9 rfl rfl rfl (Nat.le_of_ble_eq_true rfl) ⟨rfl, rfl⟩ (fun x1 h1 qx1 => ?_)
  obtain ⟨rfl, ⟨rfl, cx1⟩ | ⟨rfl, cx1⟩⟩ := qx1
  · refine z_if_eq_F (M := M_X1_readMeasure) 4 dX1_readMeasure_4 16 rfl (by omega) ?_
    refine z_aload_n (M := M_X1_readMeasure) 7 dX1_readMeasure_7 rfl ?_
    refine z_ldcS (M := M_X1_readMeasure) 8 dX1_readMeasure_8 (i := 7) rfl rfl rfl ?_
    refine z_vI (M := M_X1_readMeasure) 10 dX1_readMeasure_10 t_X1_take l_X1_27 (m_rr_of rfl) (rest := []) (c_X1_take2 h0 7 (by decide) G0 hE) o_37 rfl rfl rfl (Nat.le_of_ble_eq_true rfl) ⟨rfl, rfl⟩ (fun x2 h2 qx2 => ?_)
    obtain ⟨G2, S2, Ex2, Tx2⟩ := qx2
    have R2 := (FR.rf (cs := [12, 13, 14, 15]) (ss := [(9, 7), (9, 8), (37, 1), (37, 2)]) (h := h0)).call S2 (by decide +kernel)
    rcases tkc_ (rowz (FR.rf (cs := [12, 13, 14, 15]) (ss := [(9, 7), (9, 8), (37, 1), (37, 2)]) (h := h0)) (fun _ => rfl)) ((FR.rf (cs := [12, 13, 14, 15]) (ss := [(9, 7), (9, 8), (37, 1), (37, 2)]) (h := h0)) 35 1 rfl) rfl Tx2 with ⟨rfl, Wx2, Qx2⟩ | ⟨rfl, Wx2, Qx2⟩
    · have LR2 : LR 9 h2 r := Rr.same (fun i hi j => S2 _ j (fr_out (a := 9) (b := 16) (by decide) (by omega) (by omega) j)) (fun _ _ => rfl)
      have u3_2 : h2 37 3 = h0 37 3 := (S2 37 3 rfl).trans rfl
      refine z_if_ne_T (M := M_X1_readMeasure) 13 dX1_readMeasure_13 18 rfl (by omega) ?_
      refine z_aload_n (M := M_X1_readMeasure) 18 dX1_readMeasure_18 rfl ?_
      refine z_iconst (M := M_X1_readMeasure) 19 dX1_readMeasure_19 ?_
      refine z_bipush (M := M_X1_readMeasure) 20 dX1_readMeasure_20 ?_
      refine z_vI (M := M_X1_readMeasure) 22 dX1_readMeasure_22 t_X1_takeNumber l_X1_53 (m_rr_of rfl) (rest := []) (c_X1_takeNumber2 h2 0 31 G2 Ex2 ⟨by omega, by omega⟩ ⟨by omega, by omega⟩) o_37 rfl rfl rfl (Nat.le_of_ble_eq_true rfl) ⟨rfl, rfl⟩ (fun x3 h3 qx3 => ?_)
      obtain ⟨G3, S3, ax3, bx3, cx3, Ex3, Tx3⟩ := qx3
      have R3 := R2.call S3 (by decide +kernel)
      rcases tn_c (rowz R2 (fun _ => rfl)) (R2 35 1 rfl) Qx2 Tx3 with ⟨rfl, Wx3, Qx3⟩ | ⟨Nx3, Wx3, Qx3⟩
      · have LR3 : LR 9 h3 r := LR2.same (fun i hi j => S3 _ j (fr_out (a := 9) (b := 16) (by decide) (by omega) (by omega) j)) (fun _ _ => rfl)
        have u3_3 : h3 37 3 = h0 37 3 := (S3 37 3 rfl).trans u3_2
        refine z_istore_n (M := M_X1_readMeasure) 25 dX1_readMeasure_25 (ls' := [some (mR 37), some (mR 9), some (mI a2), some (mI (-1)), none, none]) (by decide) rfl ?_
        refine z_iload_n (M := M_X1_readMeasure) 26 dX1_readMeasure_26 rfl ?_
        refine z_iconst (M := M_X1_readMeasure) 27 dX1_readMeasure_27 ?_
        refine z_icmp_eq_T (M := M_X1_readMeasure) 28 dX1_readMeasure_28 40 rfl (by omega) ?_
        refine z_iconst (M := M_X1_readMeasure) 40 dX1_readMeasure_40 ?_
        exact z_retZ (M := M_X1_readMeasure) 41 dX1_readMeasure_41 rfl (by omega) ⟨G3, R3, Ex3, er_of (q := (nxt (h0 36) (h0 35 1) (Qc h0))) (by unfold rdMeas; rw [cif_pos (⟨by have := Rr.2.2.2.2.1; omega, Wx2⟩), cif_neg (Wx3)]) Qx3 u3_3⟩
      · have LR3 : LR 9 h3 r := LR2.same (fun i hi j => S3 _ j (fr_out (a := 9) (b := 16) (by decide) (by omega) (by omega) j)) (fun _ _ => rfl)
        have u3_3 : h3 37 3 = h0 37 3 := (S3 37 3 rfl).trans u3_2
        have lx3 : 0 ≤ x3 ∧ x3 ≤ 31 := by rw [Nx3]; exact ⟨Wx3.2.2.1, Wx3.2.2.2⟩
        refine z_istore_n (M := M_X1_readMeasure) 25 dX1_readMeasure_25 (ls' := [some (mR 37), some (mR 9), some (mI a2), some (mI x3), none, none]) (by decide) rfl ?_
        refine z_iload_n (M := M_X1_readMeasure) 26 dX1_readMeasure_26 rfl ?_
        refine z_iconst (M := M_X1_readMeasure) 27 dX1_readMeasure_27 ?_
        refine z_icmp_eq_F (M := M_X1_readMeasure) 28 dX1_readMeasure_28 40 rfl (by omega) ?_
        refine z_aload_n (M := M_X1_readMeasure) 31 dX1_readMeasure_31 rfl ?_
        refine z_ldcS (M := M_X1_readMeasure) 32 dX1_readMeasure_32 (i := 8) rfl rfl rfl ?_
        refine z_vI (M := M_X1_readMeasure) 34 dX1_readMeasure_34 t_X1_take l_X1_27 (m_rr_of rfl) (rest := []) (c_X1_take2 h3 8 (by decide) G3 Ex3) o_37 rfl rfl rfl (Nat.le_of_ble_eq_true rfl) ⟨rfl, rfl⟩ (fun x4 h4 qx4 => ?_)
        obtain ⟨G4, S4, Ex4, Tx4⟩ := qx4
        have R4 := R3.call S4 (by decide +kernel)
        rcases tkc_ (rowz R3 (fun _ => rfl)) (R3 35 1 rfl) Qx3 Tx4 with ⟨rfl, Wx4, Qx4⟩ | ⟨rfl, Wx4, Qx4⟩
        · have LR4 : LR 9 h4 r := LR3.same (fun i hi j => S4 _ j (fr_out (a := 9) (b := 16) (by decide) (by omega) (by omega) j)) (fun _ _ => rfl)
          have u3_4 : h4 37 3 = h0 37 3 := (S4 37 3 rfl).trans u3_3
          refine z_if_ne_T (M := M_X1_readMeasure) 37 dX1_readMeasure_37 42 rfl (by omega) ?_
          refine z_aload_n (M := M_X1_readMeasure) 42 dX1_readMeasure_42 rfl ?_
          refine z_iconst (M := M_X1_readMeasure) 43 dX1_readMeasure_43 ?_
          refine z_bipush (M := M_X1_readMeasure) 44 dX1_readMeasure_44 ?_
          refine z_vI (M := M_X1_readMeasure) 46 dX1_readMeasure_46 t_X1_takeNumber l_X1_53 (m_rr_of rfl) (rest := []) (c_X1_takeNumber2 h4 1 99 G4 Ex4 ⟨by omega, by omega⟩ ⟨by omega, by omega⟩) o_37 rfl rfl rfl (Nat.le_of_ble_eq_true rfl) ⟨rfl, rfl⟩ (fun x5 h5 qx5 => ?_)
          obtain ⟨G5, S5, ax5, bx5, cx5, Ex5, Tx5⟩ := qx5
          have R5 := R4.call S5 (by decide +kernel)
          rcases tn_c (rowz R4 (fun _ => rfl)) (R4 35 1 rfl) Qx4 Tx5 with ⟨rfl, Wx5, Qx5⟩ | ⟨Nx5, Wx5, Qx5⟩
          · have LR5 : LR 9 h5 r := LR4.same (fun i hi j => S5 _ j (fr_out (a := 9) (b := 16) (by decide) (by omega) (by omega) j)) (fun _ _ => rfl)
            have u3_5 : h5 37 3 = h0 37 3 := (S5 37 3 rfl).trans u3_4
            refine z_istore (M := M_X1_readMeasure) 49 dX1_readMeasure_49 (ls' := [some (mR 37), some (mR 9), some (mI a2), some (mI x3), some (mI (-1)), none]) (by decide) rfl ?_
            refine z_iload (M := M_X1_readMeasure) 51 dX1_readMeasure_51 rfl ?_
            refine z_iconst (M := M_X1_readMeasure) 53 dX1_readMeasure_53 ?_
            refine z_icmp_ne_F (M := M_X1_readMeasure) 54 dX1_readMeasure_54 59 rfl (by omega) ?_
            refine z_iconst (M := M_X1_readMeasure) 57 dX1_readMeasure_57 ?_
            exact z_retZ (M := M_X1_readMeasure) 58 dX1_readMeasure_58 rfl (by omega) ⟨G5, R5, Ex5, er_of (q := (nxt (h0 36) (h0 35 1) (nxt (h0 36) (h0 35 1) (nxt (h0 36) (h0 35 1) (Qc h0))))) (by unfold rdMeas; rw [cif_pos (⟨by have := Rr.2.2.2.2.1; omega, Wx2⟩), cif_pos (Wx3), cif_pos (Wx4), cif_neg (Wx5)]) Qx5 u3_5⟩
          · have LR5 : LR 9 h5 r := LR4.same (fun i hi j => S5 _ j (fr_out (a := 9) (b := 16) (by decide) (by omega) (by omega) j)) (fun _ _ => rfl)
            have u3_5 : h5 37 3 = h0 37 3 := (S5 37 3 rfl).trans u3_4
            have lx5 : 1 ≤ x5 ∧ x5 ≤ 99 := by rw [Nx5]; exact ⟨Wx5.2.2.1, Wx5.2.2.2⟩
            refine z_istore (M := M_X1_readMeasure) 49 dX1_readMeasure_49 (ls' := [some (mR 37), some (mR 9), some (mI a2), some (mI x3), some (mI x5), none]) (by decide) rfl ?_
            refine z_iload (M := M_X1_readMeasure) 51 dX1_readMeasure_51 rfl ?_
            refine z_iconst (M := M_X1_readMeasure) 53 dX1_readMeasure_53 ?_
            refine z_icmp_ne_T (M := M_X1_readMeasure) 54 dX1_readMeasure_54 59 rfl (by omega) ?_
            refine z_iconst (M := M_X1_readMeasure) 59 dX1_readMeasure_59 ?_
            refine z_istore (M := M_X1_readMeasure) 60 dX1_readMeasure_60 (ls' := [some (mR 37), some (mR 9), some (mI a2), some (mI x3), some (mI x5), some (mI 0)]) (by decide) rfl ?_
            refine z_aload_n (M := M_X1_readMeasure) 62 dX1_readMeasure_62 rfl ?_
            refine z_ldcS (M := M_X1_readMeasure) 63 dX1_readMeasure_63 (i := 9) rfl rfl rfl ?_
            refine z_vI (M := M_X1_readMeasure) 65 dX1_readMeasure_65 t_X1_take l_X1_27 (m_rr_of rfl) (rest := []) (c_X1_take2 h5 9 (by decide) G5 Ex5) o_37 rfl rfl rfl (Nat.le_of_ble_eq_true rfl) ⟨rfl, rfl⟩ (fun x6 h6 qx6 => ?_)
            obtain ⟨G6, S6, Ex6, Tx6⟩ := qx6
            have R6 := R5.call S6 (by decide +kernel)
            rcases tkc_ (rowz R5 (fun _ => rfl)) (R5 35 1 rfl) Qx5 Tx6 with ⟨rfl, Wx6, Qx6⟩ | ⟨rfl, Wx6, Qx6⟩
            · have LR6 : LR 9 h6 r := LR5.same (fun i hi j => S6 _ j (fr_out (a := 9) (b := 16) (by decide) (by omega) (by omega) j)) (fun _ _ => rfl)
              have u3_6 : h6 37 3 = h0 37 3 := (S6 37 3 rfl).trans u3_5
              refine z_if_eq_F (M := M_X1_readMeasure) 68 dX1_readMeasure_68 77 rfl (by omega) ?_
              refine z_iconst (M := M_X1_readMeasure) 71 dX1_readMeasure_71 ?_
              refine z_istore (M := M_X1_readMeasure) 72 dX1_readMeasure_72 (ls' := [some (mR 37), some (mR 9), some (mI a2), some (mI x3), some (mI x5), some (mI 1)]) (by decide) rfl ?_
              refine z_goto (M := M_X1_readMeasure) 74 dX1_readMeasure_74 99 rfl ?_
              refine z_aload_n (M := M_X1_readMeasure) 99 dX1_readMeasure_99 rfl ?_
              refine z_iload_n (M := M_X1_readMeasure) 100 dX1_readMeasure_100 rfl ?_
              refine z_iload_n (M := M_X1_readMeasure) 101 dX1_readMeasure_101 rfl ?_
              refine z_iload (M := M_X1_readMeasure) 102 dX1_readMeasure_102 rfl ?_
              refine z_iload (M := M_X1_readMeasure) 104 dX1_readMeasure_104 rfl ?_
              refine z_vV (M := M_X1_readMeasure) 106 dX1_readMeasure_106 t_X4_addEntry l_X1_117 (m_rr_of rfl) (rest := []) (c_X4_addEntry2 h6 9 a2 x3 x5 1 (Or.inr (Or.inl rfl)) G6 ⟨by omega, by omega⟩ ⟨by omega, by omega⟩ ⟨by omega, by omega⟩ ⟨by omega, by omega⟩) o_9 rfl rfl rfl (Nat.le_of_ble_eq_true rfl) ⟨rfl, rfl⟩ (fun h7 qx7 => ?_)
              obtain ⟨G7, S7, fx7_0⟩ := qx7
              have R7 := R6.call S7 (by decide +kernel)
              have LR7 := fx7_0 r LR6 (by have := LR6.2.2.2.2.1; have := Rr.2.2.2.2.1; omega)
              have u3_7 : h7 37 3 = h0 37 3 := (S7 37 3 rfl).trans u3_6
              have qq7 : Qc h7 = (nxt (h0 36) (h0 35 1) (nxt (h0 36) (h0 35 1) (nxt (h0 36) (h0 35 1) (nxt (h0 36) (h0 35 1) (nxt (h0 36) (h0 35 1) (Qc h0)))))) := (Qc_S S7 rfl rfl).trans Qx6
              have en7 := EnS.fr Ex6 (rowz S7 (fun _ => rfl)) (S7 35 1 rfl) (Qc_S S7 rfl rfl)
              refine z_iconst (M := M_X1_readMeasure) 109 dX1_readMeasure_109 ?_
              exact z_retZ (M := M_X1_readMeasure) 110 dX1_readMeasure_110 rfl (by omega) ⟨G7, R7, en7, ok_of (p := ((nxt (h0 36) (h0 35 1) (nxt (h0 36) (h0 35 1) (nxt (h0 36) (h0 35 1) (nxt (h0 36) (h0 35 1) (nxt (h0 36) (h0 35 1) (Qc h0)))))), (rE r a2 x3 x5 1))) (by unfold rdMeas; rw [cif_pos (⟨by have := Rr.2.2.2.2.1; omega, Wx2⟩), cif_pos (Wx3), cif_pos (Wx4), cif_pos (Wx5), (kq_9 (n := h0 35 1) Wx6).1, (kq_9 (n := h0 35 1) Wx6).2, ← Nx3, ← Nx5]) qq7 LR7 u3_7⟩
            · have LR6 : LR 9 h6 r := LR5.same (fun i hi j => S6 _ j (fr_out (a := 9) (b := 16) (by decide) (by omega) (by omega) j)) (fun _ _ => rfl)
              have u3_6 : h6 37 3 = h0 37 3 := (S6 37 3 rfl).trans u3_5
              refine z_if_eq_T (M := M_X1_readMeasure) 68 dX1_readMeasure_68 77 rfl (by omega) ?_
              refine z_aload_n (M := M_X1_readMeasure) 77 dX1_readMeasure_77 rfl ?_
              refine z_ldcS (M := M_X1_readMeasure) 78 dX1_readMeasure_78 (i := 10) rfl rfl rfl ?_
              refine z_vI (M := M_X1_readMeasure) 80 dX1_readMeasure_80 t_X1_take l_X1_27 (m_rr_of rfl) (rest := []) (c_X1_take2 h6 10 (by decide) G6 Ex6) o_37 rfl rfl rfl (Nat.le_of_ble_eq_true rfl) ⟨rfl, rfl⟩ (fun x8 h8 qx8 => ?_)
              obtain ⟨G8, S8, Ex8, Tx8⟩ := qx8
              have R8 := R6.call S8 (by decide +kernel)
              rcases tkc_ (rowz R6 (fun _ => rfl)) (R6 35 1 rfl) Qx6 Tx8 with ⟨rfl, Wx8, Qx8⟩ | ⟨rfl, Wx8, Qx8⟩
              · have LR8 : LR 9 h8 r := LR6.same (fun i hi j => S8 _ j (fr_out (a := 9) (b := 16) (by decide) (by omega) (by omega) j)) (fun _ _ => rfl)
                have u3_8 : h8 37 3 = h0 37 3 := (S8 37 3 rfl).trans u3_6
                refine z_if_eq_F (M := M_X1_readMeasure) 83 dX1_readMeasure_83 92 rfl (by omega) ?_
                refine z_iconst (M := M_X1_readMeasure) 86 dX1_readMeasure_86 ?_
                refine z_istore (M := M_X1_readMeasure) 87 dX1_readMeasure_87 (ls' := [some (mR 37), some (mR 9), some (mI a2), some (mI x3), some (mI x5), some (mI 2)]) (by decide) rfl ?_
                refine z_goto (M := M_X1_readMeasure) 89 dX1_readMeasure_89 99 rfl ?_
                refine z_aload_n (M := M_X1_readMeasure) 99 dX1_readMeasure_99 rfl ?_
                refine z_iload_n (M := M_X1_readMeasure) 100 dX1_readMeasure_100 rfl ?_
                refine z_iload_n (M := M_X1_readMeasure) 101 dX1_readMeasure_101 rfl ?_
                refine z_iload (M := M_X1_readMeasure) 102 dX1_readMeasure_102 rfl ?_
                refine z_iload (M := M_X1_readMeasure) 104 dX1_readMeasure_104 rfl ?_
                refine z_vV (M := M_X1_readMeasure) 106 dX1_readMeasure_106 t_X4_addEntry l_X1_117 (m_rr_of rfl) (rest := []) (c_X4_addEntry2 h8 9 a2 x3 x5 2 (Or.inr (Or.inl rfl)) G8 ⟨by omega, by omega⟩ ⟨by omega, by omega⟩ ⟨by omega, by omega⟩ ⟨by omega, by omega⟩) o_9 rfl rfl rfl (Nat.le_of_ble_eq_true rfl) ⟨rfl, rfl⟩ (fun h9 qx9 => ?_)
                obtain ⟨G9, S9, fx9_0⟩ := qx9
                have R9 := R8.call S9 (by decide +kernel)
                have LR9 := fx9_0 r LR8 (by have := LR8.2.2.2.2.1; have := Rr.2.2.2.2.1; omega)
                have u3_9 : h9 37 3 = h0 37 3 := (S9 37 3 rfl).trans u3_8
                have qq9 : Qc h9 = (nxt (h0 36) (h0 35 1) (nxt (h0 36) (h0 35 1) (nxt (h0 36) (h0 35 1) (nxt (h0 36) (h0 35 1) (nxt (h0 36) (h0 35 1) (Qc h0)))))) := (Qc_S S9 rfl rfl).trans Qx8
                have en9 := EnS.fr Ex8 (rowz S9 (fun _ => rfl)) (S9 35 1 rfl) (Qc_S S9 rfl rfl)
                refine z_iconst (M := M_X1_readMeasure) 109 dX1_readMeasure_109 ?_
                exact z_retZ (M := M_X1_readMeasure) 110 dX1_readMeasure_110 rfl (by omega) ⟨G9, R9, en9, ok_of (p := ((nxt (h0 36) (h0 35 1) (nxt (h0 36) (h0 35 1) (nxt (h0 36) (h0 35 1) (nxt (h0 36) (h0 35 1) (nxt (h0 36) (h0 35 1) (Qc h0)))))), (rE r a2 x3 x5 2))) (by unfold rdMeas; rw [cif_pos (⟨by have := Rr.2.2.2.2.1; omega, Wx2⟩), cif_pos (Wx3), cif_pos (Wx4), cif_pos (Wx5), (kq_10 (n := h0 35 1) Wx6 Wx8).1, (kq_10 (n := h0 35 1) Wx6 Wx8).2, ← Nx3, ← Nx5]) qq9 LR9 u3_9⟩
              · have LR8 : LR 9 h8 r := LR6.same (fun i hi j => S8 _ j (fr_out (a := 9) (b := 16) (by decide) (by omega) (by omega) j)) (fun _ _ => rfl)
                have u3_8 : h8 37 3 = h0 37 3 := (S8 37 3 rfl).trans u3_6
                refine z_if_eq_T (M := M_X1_readMeasure) 83 dX1_readMeasure_83 92 rfl (by omega) ?_
                refine z_aload_n (M := M_X1_readMeasure) 92 dX1_readMeasure_92 rfl ?_
                refine z_ldcS (M := M_X1_readMeasure) 93 dX1_readMeasure_93 (i := 11) rfl rfl rfl ?_
                refine z_vI (M := M_X1_readMeasure) 95 dX1_readMeasure_95 t_X1_take l_X1_27 (m_rr_of rfl) (rest := []) (c_X1_take2 h8 11 (by decide) G8 Ex8) o_37 rfl rfl rfl (Nat.le_of_ble_eq_true rfl) ⟨rfl, rfl⟩ (fun x10 h10 qx10 => ?_)
                obtain ⟨G10, S10, Ex10, Tx10⟩ := qx10
                have R10 := R8.call S10 (by decide +kernel)
                rcases tkc_ (rowz R8 (fun _ => rfl)) (R8 35 1 rfl) Qx8 Tx10 with ⟨rfl, Wx10, Qx10⟩ | ⟨rfl, Wx10, Qx10⟩
                · have LR10 : LR 9 h10 r := LR8.same (fun i hi j => S10 _ j (fr_out (a := 9) (b := 16) (by decide) (by omega) (by omega) j)) (fun _ _ => rfl)
                  have u3_10 : h10 37 3 = h0 37 3 := (S10 37 3 rfl).trans u3_8
                  refine z_pop (M := M_X1_readMeasure) 98 dX1_readMeasure_98 rfl ?_
                  refine z_aload_n (M := M_X1_readMeasure) 99 dX1_readMeasure_99 rfl ?_
                  refine z_iload_n (M := M_X1_readMeasure) 100 dX1_readMeasure_100 rfl ?_
                  refine z_iload_n (M := M_X1_readMeasure) 101 dX1_readMeasure_101 rfl ?_
                  refine z_iload (M := M_X1_readMeasure) 102 dX1_readMeasure_102 rfl ?_
                  refine z_iload (M := M_X1_readMeasure) 104 dX1_readMeasure_104 rfl ?_
                  refine z_vV (M := M_X1_readMeasure) 106 dX1_readMeasure_106 t_X4_addEntry l_X1_117 (m_rr_of rfl) (rest := []) (c_X4_addEntry2 h10 9 a2 x3 x5 0 (Or.inr (Or.inl rfl)) G10 ⟨by omega, by omega⟩ ⟨by omega, by omega⟩ ⟨by omega, by omega⟩ ⟨by omega, by omega⟩) o_9 rfl rfl rfl (Nat.le_of_ble_eq_true rfl) ⟨rfl, rfl⟩ (fun h11 qx11 => ?_)
                  obtain ⟨G11, S11, fx11_0⟩ := qx11
                  have R11 := R10.call S11 (by decide +kernel)
                  have LR11 := fx11_0 r LR10 (by have := LR10.2.2.2.2.1; have := Rr.2.2.2.2.1; omega)
                  have u3_11 : h11 37 3 = h0 37 3 := (S11 37 3 rfl).trans u3_10
                  have qq11 : Qc h11 = (nxt (h0 36) (h0 35 1) (nxt (h0 36) (h0 35 1) (nxt (h0 36) (h0 35 1) (nxt (h0 36) (h0 35 1) (nxt (h0 36) (h0 35 1) (Qc h0)))))) := (Qc_S S11 rfl rfl).trans Qx10
                  have en11 := EnS.fr Ex10 (rowz S11 (fun _ => rfl)) (S11 35 1 rfl) (Qc_S S11 rfl rfl)
                  refine z_iconst (M := M_X1_readMeasure) 109 dX1_readMeasure_109 ?_
                  exact z_retZ (M := M_X1_readMeasure) 110 dX1_readMeasure_110 rfl (by omega) ⟨G11, R11, en11, ok_of (p := ((nxt (h0 36) (h0 35 1) (nxt (h0 36) (h0 35 1) (nxt (h0 36) (h0 35 1) (nxt (h0 36) (h0 35 1) (nxt (h0 36) (h0 35 1) (Qc h0)))))), (rE r a2 x3 x5 0))) (by unfold rdMeas; rw [cif_pos (⟨by have := Rr.2.2.2.2.1; omega, Wx2⟩), cif_pos (Wx3), cif_pos (Wx4), cif_pos (Wx5), (kq_11 (n := h0 35 1) Wx6 Wx8 Wx10).1, (kq_11 (n := h0 35 1) Wx6 Wx8 Wx10).2, ← Nx3, ← Nx5]) qq11 LR11 u3_11⟩
                · have LR10 : LR 9 h10 r := LR8.same (fun i hi j => S10 _ j (fr_out (a := 9) (b := 16) (by decide) (by omega) (by omega) j)) (fun _ _ => rfl)
                  have u3_10 : h10 37 3 = h0 37 3 := (S10 37 3 rfl).trans u3_8
                  refine z_pop (M := M_X1_readMeasure) 98 dX1_readMeasure_98 rfl ?_
                  refine z_aload_n (M := M_X1_readMeasure) 99 dX1_readMeasure_99 rfl ?_
                  refine z_iload_n (M := M_X1_readMeasure) 100 dX1_readMeasure_100 rfl ?_
                  refine z_iload_n (M := M_X1_readMeasure) 101 dX1_readMeasure_101 rfl ?_
                  refine z_iload (M := M_X1_readMeasure) 102 dX1_readMeasure_102 rfl ?_
                  refine z_iload (M := M_X1_readMeasure) 104 dX1_readMeasure_104 rfl ?_
                  refine z_vV (M := M_X1_readMeasure) 106 dX1_readMeasure_106 t_X4_addEntry l_X1_117 (m_rr_of rfl) (rest := []) (c_X4_addEntry2 h10 9 a2 x3 x5 0 (Or.inr (Or.inl rfl)) G10 ⟨by omega, by omega⟩ ⟨by omega, by omega⟩ ⟨by omega, by omega⟩ ⟨by omega, by omega⟩) o_9 rfl rfl rfl (Nat.le_of_ble_eq_true rfl) ⟨rfl, rfl⟩ (fun h12 qx12 => ?_)
                  obtain ⟨G12, S12, fx12_0⟩ := qx12
                  have R12 := R10.call S12 (by decide +kernel)
                  have LR12 := fx12_0 r LR10 (by have := LR10.2.2.2.2.1; have := Rr.2.2.2.2.1; omega)
                  have u3_12 : h12 37 3 = h0 37 3 := (S12 37 3 rfl).trans u3_10
                  have qq12 : Qc h12 = (nxt (h0 36) (h0 35 1) (nxt (h0 36) (h0 35 1) (nxt (h0 36) (h0 35 1) (nxt (h0 36) (h0 35 1) (Qc h0))))) := (Qc_S S12 rfl rfl).trans Qx10
                  have en12 := EnS.fr Ex10 (rowz S12 (fun _ => rfl)) (S12 35 1 rfl) (Qc_S S12 rfl rfl)
                  refine z_iconst (M := M_X1_readMeasure) 109 dX1_readMeasure_109 ?_
                  exact z_retZ (M := M_X1_readMeasure) 110 dX1_readMeasure_110 rfl (by omega) ⟨G12, R12, en12, ok_of (p := ((nxt (h0 36) (h0 35 1) (nxt (h0 36) (h0 35 1) (nxt (h0 36) (h0 35 1) (nxt (h0 36) (h0 35 1) (Qc h0))))), (rE r a2 x3 x5 0))) (by unfold rdMeas; rw [cif_pos (⟨by have := Rr.2.2.2.2.1; omega, Wx2⟩), cif_pos (Wx3), cif_pos (Wx4), cif_pos (Wx5), (kq_0 (n := h0 35 1) Wx6 Wx8 Wx10).1, (kq_0 (n := h0 35 1) Wx6 Wx8 Wx10).2, ← Nx3, ← Nx5]) qq12 LR12 u3_12⟩
        · have LR4 : LR 9 h4 r := LR3.same (fun i hi j => S4 _ j (fr_out (a := 9) (b := 16) (by decide) (by omega) (by omega) j)) (fun _ _ => rfl)
          have u3_4 : h4 37 3 = h0 37 3 := (S4 37 3 rfl).trans u3_3
          refine z_if_ne_F (M := M_X1_readMeasure) 37 dX1_readMeasure_37 42 rfl (by omega) ?_
          refine z_iconst (M := M_X1_readMeasure) 40 dX1_readMeasure_40 ?_
          exact z_retZ (M := M_X1_readMeasure) 41 dX1_readMeasure_41 rfl (by omega) ⟨G4, R4, Ex4, er_of (q := (nxt (h0 36) (h0 35 1) (nxt (h0 36) (h0 35 1) (Qc h0)))) (by unfold rdMeas; rw [cif_pos (⟨by have := Rr.2.2.2.2.1; omega, Wx2⟩), cif_pos (Wx3), cif_neg (Wx4)]) Qx4 u3_4⟩
    · have LR2 : LR 9 h2 r := Rr.same (fun i hi j => S2 _ j (fr_out (a := 9) (b := 16) (by decide) (by omega) (by omega) j)) (fun _ _ => rfl)
      have u3_2 : h2 37 3 = h0 37 3 := (S2 37 3 rfl).trans rfl
      refine z_if_ne_F (M := M_X1_readMeasure) 13 dX1_readMeasure_13 18 rfl (by omega) ?_
      refine z_iconst (M := M_X1_readMeasure) 16 dX1_readMeasure_16 ?_
      exact z_retZ (M := M_X1_readMeasure) 17 dX1_readMeasure_17 rfl (by omega) ⟨G2, R2, Ex2, er_of (q := (Qc h0)) (by unfold rdMeas; rw [cif_neg (fun z => Wx2 z.2)]) Qx2 u3_2⟩
  · refine z_if_eq_T (M := M_X1_readMeasure) 4 dX1_readMeasure_4 16 rfl (by omega) ?_
    refine z_iconst (M := M_X1_readMeasure) 16 dX1_readMeasure_16 ?_
    exact z_retZ (M := M_X1_readMeasure) 17 dX1_readMeasure_17 rfl (by omega) ⟨G0, (FR.rf (cs := [12, 13, 14, 15]) (ss := [(9, 7), (9, 8), (37, 1), (37, 2)]) (h := h0)), hE, er_of (q := (Qc h0)) (by unfold rdMeas; rw [cif_neg (fun z => by have := Rr.2.2.2.2.1; have := z.1; omega)]) rfl rfl⟩
abbrev P_X1_readThing2 (h0 : m_H) (r : Nat → Int) : Int → m_H → Prop := fun x h' => GI h' ∧ FR [11, 12, 13, 14, 15] [(9, 7), (9, 8), (37, 1), (37, 2)] h0 h' ∧ EnS h' ∧ okQ 9 (rdThing (h0 36) (h0 35 1) (Qc h0) r) x h0 h'
def q_X1_readThing2 (h0 : m_H) (r : Nat → Int) (n : Nat) : Prop := (∀ (l2 l3 : Int) (h : m_H), GI h → FR [11, 12, 13, 14, 15] [(9, 7), (9, 8), (37, 1), (37, 2)] h0 h → 0 ≤ l2 → l2 ≤ 5 → 0 ≤ l3 → l3 ≤ 25 → (EnS h) → (∃ rr, thI (rdThing (h0 36) (h0 35 1) (Qc h0) r) (h0 36) (h0 35 1) l2 l3 h0 h rr) → 2 * (25 - l3) + (1) ≤ (n : Int) → m_Z oF M_X1_readThing 32 [some (mR 37), some (mR 9), some (mI l2), some (mI l3)] [] h (m_QI (P_X1_readThing2 h0 r)))
set_option maxHeartbeats 4000000 in
set_option maxRecDepth 100000 in
theorem s_X1_readThing2_32 (h0 : m_H) (r : Nat → Int) (G0 : GI h0) (hE : EnS h0) (Rr : LR 9 h0 r) (n : Nat) (ih : q_X1_readThing2 h0 r n) : ∀ (l2 l3 : Int) (h : m_H), GI h → FR [11, 12, 13, 14, 15] [(9, 7), (9, 8), (37, 1), (37, 2)] h0 h → 0 ≤ l2 → l2 ≤ 5 → 0 ≤ l3 → l3 ≤ 25 → (EnS h) → (∃ rr, thI (rdThing (h0 36) (h0 35 1) (Qc h0) r) (h0 36) (h0 35 1) l2 l3 h0 h rr) → 2 * (25 - l3) + (1) ≤ ((n + 1 : Nat) : Int) → m_Z oF M_X1_readThing 32 [some (mR 37), some (mR 9), some (mI l2), some (mI l3)] [] h (m_QI (P_X1_readThing2 h0 r)) := by
  intro l2 l3 h G R v0 v1 v2 v3 i0 i1 hr
  obtain ⟨rr, Lr, Zr, Ur, Cr⟩ := i1
  refine z_iload_n (M := M_X1_readThing) 32 dX1_readThing_32 rfl ?_
  refine z_bipush (M := M_X1_readThing) 33 dX1_readThing_33 ?_
  refine z_icmp_gt (M := M_X1_readThing) 35 dX1_readThing_35 66 rfl (fun c1 => ?_) (fun c1 => ?_)
  · refine z_iconst (M := M_X1_readThing) 66 dX1_readThing_66 ?_
    exact z_retZ (M := M_X1_readThing) 67 dX1_readThing_67 rfl (by omega) ⟨G, R, i0, False.elim (by have := Lr.1.2.1; omega)⟩
  · have kf : (25 - (l3 + 1)).toNat = (24 - l3).toNat := by omega
    have kz : rdMs (h0 36) (h0 35 1) l2 ((24 - l3).toNat + 1) (Qc h) rr = rdMs (h0 36) (h0 35 1) l2 (25 - l3).toNat (Qc h) rr := by congr 1; omega
    refine z_aload_n (M := M_X1_readThing) 38 dX1_readThing_38 rfl ?_
    refine z_aload_n (M := M_X1_readThing) 39 dX1_readThing_39 rfl ?_
    refine z_iload_n (M := M_X1_readThing) 40 dX1_readThing_40 rfl ?_
    refine z_vI (M := M_X1_readThing) 41 dX1_readThing_41 t_X1_readMeasure l_X1_94 (m_rr_of rfl) (rest := []) (c_X1_readMeasure2 h l2 rr G ⟨by omega, by omega⟩ i0 Lr) o_37 rfl rfl rfl (Nat.le_of_ble_eq_true rfl) ⟨rfl, rfl⟩ (fun x2 h1 qx2 => ?_)
    obtain ⟨G1, S1, Ex2, Kx2⟩ := qx2
    have R1 := R.call S1 (by decide +kernel)
    rcases ok_cs (ok_c (F := fun b n q => rdMeas b n q rr l2) (h0 := h0) (rowz R (fun _ => rfl)) (R 35 1 rfl) rfl Ur Kx2) with ⟨px2, Zx2, rfl, Qx2, Lx2, Ux2⟩ | ⟨ex2, Zx2, rfl, Fx2⟩
    · refine z_if_ne_T (M := M_X1_readThing) 44 dX1_readThing_44 49 rfl (by omega) ?_
      refine z_aload_n (M := M_X1_readThing) 49 dX1_readThing_49 rfl ?_
      refine z_ldcS (M := M_X1_readThing) 50 dX1_readThing_50 (i := 12) rfl rfl rfl ?_
      refine z_vI (M := M_X1_readThing) 52 dX1_readThing_52 t_X1_take l_X1_27 (m_rr_of rfl) (rest := []) (c_X1_take2 h1 12 (by decide) G1 Ex2) o_37 rfl rfl rfl (Nat.le_of_ble_eq_true rfl) ⟨rfl, rfl⟩ (fun x3 h2 qx3 => ?_)
      obtain ⟨G2, S2, Ex3, Tx3⟩ := qx3
      have R2 := R1.call S2 (by decide +kernel)
      rcases tkc_ (rowz R1 (fun _ => rfl)) (R1 35 1 rfl) Qx2 Tx3 with ⟨rfl, Wx3, Qx3⟩ | ⟨rfl, Wx3, Qx3⟩
      · have LR2 : LR 9 h2 px2.2 := Lx2.same (fun i hi j => S2 _ j (fr_out (a := 9) (b := 16) (by decide) (by omega) (by omega) j)) (fun _ _ => rfl)
        have u3_2 : h2 37 3 = h0 37 3 := (S2 37 3 rfl).trans Ux2
        refine z_if_ne_T (M := M_X1_readThing) 55 dX1_readThing_55 60 rfl (by omega) ?_
        refine z_iincN (M := M_X1_readThing) 60 dX1_readThing_60 (ls' := [some (mR 37), some (mR 9), some (mI l2), some (mI (l3 + 1))]) (by decide) rfl (by (unfold m_32; decide)) (by omega) (by omega) rfl ?_
        refine z_goto (M := M_X1_readThing) 63 dX1_readThing_63 32 rfl ?_
        exact z_mask [true, true, true, true] rfl (ih l2 (l3 + 1) h2 G2 R2 (by omega) (by omega) (by omega) (by omega) Ex3 ⟨_, LR2, (by rw [Qx3, kf]; exact (ms_nx Zx2 Wx3).symm.trans (kz.trans Zr)), u3_2, (by have := rdMeas_0 Zx2; omega)⟩ (by omega))
      · have LR2 : LR 9 h2 px2.2 := Lx2.same (fun i hi j => S2 _ j (fr_out (a := 9) (b := 16) (by decide) (by omega) (by omega) j)) (fun _ _ => rfl)
        have u3_2 : h2 37 3 = h0 37 3 := (S2 37 3 rfl).trans Ux2
        refine z_if_ne_F (M := M_X1_readThing) 55 dX1_readThing_55 60 rfl (by omega) ?_
        refine z_iconst (M := M_X1_readThing) 58 dX1_readThing_58 ?_
        exact z_retZ (M := M_X1_readThing) 59 dX1_readThing_59 rfl (by omega) ⟨G2, R2, Ex3, ok_of (p := px2) (Zr.symm.trans (kz.symm.trans (ms_ok Zx2 Wx3))) Qx3 LR2 u3_2⟩
    · refine z_if_ne_F (M := M_X1_readThing) 44 dX1_readThing_44 49 rfl (by omega) ?_
      refine z_iconst (M := M_X1_readThing) 47 dX1_readThing_47 ?_
      exact z_retZ (M := M_X1_readThing) 48 dX1_readThing_48 rfl (by omega) ⟨G1, R1, Ex2, er2_of (e := ex2) (Zr.symm.trans (kz.symm.trans (ms_er Zx2))) Fx2⟩
theorem a_X1_readThing2 (h0 : m_H) (r : Nat → Int) (G0 : GI h0) (hE : EnS h0) (Rr : LR 9 h0 r) : ∀ n, q_X1_readThing2 h0 r n := by
  intro n
  induction n with
  | zero => unfold q_X1_readThing2; intros; omega
  | succ n ih => exact s_X1_readThing2_32 h0 r G0 hE Rr n ih
set_option maxHeartbeats 4000000 in
set_option maxRecDepth 100000 in
theorem c_X1_readThing2 (h0 : m_H) (r : Nat → Int) (G0 : GI h0) (hE : EnS h0) (Rr : LR 9 h0 r) : m_CI M_X1_readThing [mR 37, mR 9] h0 (P_X1_readThing2 h0 r) := by
  refine m_CI_of ⟨by decide, rfl, by simp [m_arg, m_isL, M_X1_readThing], ⟨rfl, rfl⟩, rfl, rfl⟩ (ls := [some (mR 37), some (mR 9), none, none]) rfl ?_
  have ih := a_X1_readThing2 h0 r G0 hE Rr 58
  refine z_aload_n (M := M_X1_readThing) 0 dX1_readThing_0 rfl ?_
  refine z_iconst (M := M_X1_readThing) 1 dX1_readThing_1 ?_
  refine z_iconst (M := M_X1_readThing) 2 dX1_readThing_2 ?_
  refine z_vI (M := M_X1_readThing) 3 dX1_readThing_3 t_X1_takeNumber l_X1_53 (m_rr_of rfl) (rest := []) (c_X1_takeNumber2 h0 0 5 G0 hE ⟨by omega, by omega⟩ ⟨by omega, by omega⟩) o_37 rfl rfl rfl (Nat.le_of_ble_eq_true rfl) ⟨rfl, rfl⟩ (fun x1 h1 qx1 => ?_)
  obtain ⟨G1, S1, ax1, bx1, cx1, Ex1, Tx1⟩ := qx1
  have R1 := (FR.rf (cs := [11, 12, 13, 14, 15]) (ss := [(9, 7), (9, 8), (37, 1), (37, 2)]) (h := h0)).call S1 (by decide +kernel)
  rcases tn_c (rowz (FR.rf (cs := [11, 12, 13, 14, 15]) (ss := [(9, 7), (9, 8), (37, 1), (37, 2)]) (h := h0)) (fun _ => rfl)) ((FR.rf (cs := [11, 12, 13, 14, 15]) (ss := [(9, 7), (9, 8), (37, 1), (37, 2)]) (h := h0)) 35 1 rfl) rfl Tx1 with ⟨rfl, Wx1, Qx1⟩ | ⟨Nx1, Wx1, Qx1⟩
  · have LR1 : LR 9 h1 r := Rr.same (fun i hi j => S1 _ j (fr_out (a := 9) (b := 16) (by decide) (by omega) (by omega) j)) (fun _ _ => rfl)
    have u3_1 : h1 37 3 = h0 37 3 := (S1 37 3 rfl).trans rfl
    refine z_istore_n (M := M_X1_readThing) 6 dX1_readThing_6 (ls' := [some (mR 37), some (mR 9), some (mI (-1)), none]) (by decide) rfl ?_
    refine z_iload_n (M := M_X1_readThing) 7 dX1_readThing_7 rfl ?_
    refine z_iconst (M := M_X1_readThing) 8 dX1_readThing_8 ?_
    refine z_icmp_ne_F (M := M_X1_readThing) 9 dX1_readThing_9 14 rfl (by omega) ?_
    refine z_iconst (M := M_X1_readThing) 12 dX1_readThing_12 ?_
    exact z_retZ (M := M_X1_readThing) 13 dX1_readThing_13 rfl (by omega) ⟨G1, R1, Ex1, er_of (q := (Qc h0)) (by unfold rdThing; rw [cif_neg (Wx1)]) Qx1 u3_1⟩
  · have LR1 : LR 9 h1 r := Rr.same (fun i hi j => S1 _ j (fr_out (a := 9) (b := 16) (by decide) (by omega) (by omega) j)) (fun _ _ => rfl)
    have u3_1 : h1 37 3 = h0 37 3 := (S1 37 3 rfl).trans rfl
    have lx1 : 0 ≤ x1 ∧ x1 ≤ 5 := by rw [Nx1]; exact ⟨Wx1.2.2.1, Wx1.2.2.2⟩
    refine z_istore_n (M := M_X1_readThing) 6 dX1_readThing_6 (ls' := [some (mR 37), some (mR 9), some (mI x1), none]) (by decide) rfl ?_
    refine z_iload_n (M := M_X1_readThing) 7 dX1_readThing_7 rfl ?_
    refine z_iconst (M := M_X1_readThing) 8 dX1_readThing_8 ?_
    refine z_icmp_ne_T (M := M_X1_readThing) 9 dX1_readThing_9 14 rfl (by omega) ?_
    refine z_aload_n (M := M_X1_readThing) 14 dX1_readThing_14 rfl ?_
    refine z_ldcS (M := M_X1_readThing) 15 dX1_readThing_15 (i := 5) rfl rfl rfl ?_
    refine z_vI (M := M_X1_readThing) 17 dX1_readThing_17 t_X1_take l_X1_27 (m_rr_of rfl) (rest := []) (c_X1_take2 h1 5 (by decide) G1 Ex1) o_37 rfl rfl rfl (Nat.le_of_ble_eq_true rfl) ⟨rfl, rfl⟩ (fun x2 h2 qx2 => ?_)
    obtain ⟨G2, S2, Ex2, Tx2⟩ := qx2
    have R2 := R1.call S2 (by decide +kernel)
    rcases tkc_ (rowz R1 (fun _ => rfl)) (R1 35 1 rfl) Qx1 Tx2 with ⟨rfl, Wx2, Qx2⟩ | ⟨rfl, Wx2, Qx2⟩
    · have LR2 : LR 9 h2 r := LR1.same (fun i hi j => S2 _ j (fr_out (a := 9) (b := 16) (by decide) (by omega) (by omega) j)) (fun _ _ => rfl)
      have u3_2 : h2 37 3 = h0 37 3 := (S2 37 3 rfl).trans u3_1
      refine z_if_eq_F (M := M_X1_readThing) 20 dX1_readThing_20 30 rfl (by omega) ?_
      refine z_aload_n (M := M_X1_readThing) 23 dX1_readThing_23 rfl ?_
      refine z_aload_n (M := M_X1_readThing) 24 dX1_readThing_24 rfl ?_
      refine z_iload_n (M := M_X1_readThing) 25 dX1_readThing_25 rfl ?_
      refine z_vI (M := M_X1_readThing) 26 dX1_readThing_26 t_X1_readCut l_X1_90 (m_rr_of rfl) (rest := []) (c_X1_readCut2 h2 x1 r G2 ⟨by omega, by omega⟩ Ex2 LR2) o_37 rfl rfl rfl (Nat.le_of_ble_eq_true rfl) ⟨rfl, rfl⟩ (fun x3 h3 qx3 => ?_)
      obtain ⟨G3, S3, Ex3, Kx3⟩ := qx3
      have R3 := R2.call S3 (by decide +kernel)
      rcases ok_cs (ok_c (F := fun b n q => rdCut b n q r x1) (h0 := h0) (rowz R2 (fun _ => rfl)) (R2 35 1 rfl) Qx2 u3_2 Kx3) with ⟨px3, Zx3, rfl, Qx3, Lx3, Ux3⟩ | ⟨ex3, Zx3, rfl, Fx3⟩
      · exact z_retZ (M := M_X1_readThing) 29 dX1_readThing_29 rfl (by omega) ⟨G3, R3, Ex3, ok_of (p := px3) (by unfold rdThing; rw [cif_pos (Wx1), cif_pos (Wx2), ← Nx1]; exact Zx3) Qx3 Lx3 Ux3⟩
      · exact z_retZ (M := M_X1_readThing) 29 dX1_readThing_29 rfl (by omega) ⟨G3, R3, Ex3, er2_of (e := ex3) (by unfold rdThing; rw [cif_pos (Wx1), cif_pos (Wx2), ← Nx1]; exact Zx3) Fx3⟩
    · have LR2 : LR 9 h2 r := LR1.same (fun i hi j => S2 _ j (fr_out (a := 9) (b := 16) (by decide) (by omega) (by omega) j)) (fun _ _ => rfl)
      have u3_2 : h2 37 3 = h0 37 3 := (S2 37 3 rfl).trans u3_1
      refine z_if_eq_T (M := M_X1_readThing) 20 dX1_readThing_20 30 rfl (by omega) ?_
      refine z_iconst (M := M_X1_readThing) 30 dX1_readThing_30 ?_
      refine z_istore_n (M := M_X1_readThing) 31 dX1_readThing_31 (ls' := [some (mR 37), some (mR 9), some (mI x1), some (mI 0)]) (by decide) rfl ?_
      exact z_mask [true, true, true, true] rfl (ih x1 0 h2 G2 R2 (by omega) (by omega) (by omega) (by omega) Ex2 ⟨r, LR2, (by rw [Qx2]; unfold rdThing; rw [cif_pos (Wx1), cif_neg (Wx2), Nx1]; rfl), u3_2, (by have := Rr.1.1; omega)⟩ (by omega))
abbrev P_X1_readShorter2 (h0 : m_H) (r : Nat → Int) : Int → m_H → Prop := fun x h' => GI h' ∧ FR [] [(9, 9), (37, 1), (37, 2), (37, 3)] h0 h' ∧ EnS h' ∧ okQ 9 (rdS3 (h0 36) (h0 35 1) (Qc h0) r) x h0 h'
set_option maxHeartbeats 4000000 in
set_option maxRecDepth 100000 in
theorem c_X1_readShorter2 (h0 : m_H) (r : Nat → Int) (G0 : GI h0) (hE : EnS h0) (Rr : LR 9 h0 r) : m_CI M_X1_readShorter [mR 37, mR 9] h0 (P_X1_readShorter2 h0 r) := by
  refine m_CI_of ⟨by decide, rfl, by simp [m_arg, m_isL, M_X1_readShorter], ⟨rfl, rfl⟩, rfl, rfl⟩ (ls := [some (mR 37), some (mR 9), none, none, none]) rfl ?_
  refine z_aload_n (M := M_X1_readShorter) 0 dX1_readShorter_0 rfl ?_
  refine z_getIG (M := M_X1_readShorter) 1 dX1_readShorter_1 f_X1_43 o_37 (by decide) (g_37_1 G0) (fun x1 ex1 ax1 bx1 => ?_)
  refine z_istore_n (M := M_X1_readShorter) 4 dX1_readShorter_4 (ls' := [some (mR 37), some (mR 9), some (mI x1), none, none]) (by decide) rfl ?_
  refine z_aload_n (M := M_X1_readShorter) 5 dX1_readShorter_5 rfl ?_
  refine z_ldcS (M := M_X1_readShorter) 6 dX1_readShorter_6 (i := 13) rfl rfl rfl ?_
  refine z_vI (M := M_X1_readShorter) 8 dX1_readShorter_8 t_X1_take l_X1_27 (m_rr_of rfl) (rest := []) (c_X1_take2 h0 13 (by decide) G0 hE) o_37 rfl rfl rfl (Nat.le_of_ble_eq_true rfl) ⟨rfl, rfl⟩ (fun x2 h1 qx2 => ?_)
  obtain ⟨G1, S1, Ex2, Tx2⟩ := qx2
  have R1 := (FR.rf (cs := []) (ss := [(9, 9), (37, 1), (37, 2), (37, 3)]) (h := h0)).call S1 (by decide +kernel)
  rcases tkc_ (rowz (FR.rf (cs := []) (ss := [(9, 9), (37, 1), (37, 2), (37, 3)]) (h := h0)) (fun _ => rfl)) ((FR.rf (cs := []) (ss := [(9, 9), (37, 1), (37, 2), (37, 3)]) (h := h0)) 35 1 rfl) rfl Tx2 with ⟨rfl, Wx2, Qx2⟩ | ⟨rfl, Wx2, Qx2⟩
  · have LR1 : LR 9 h1 r := Rr.same (fun i hi j => S1 _ j (fr_out (a := 9) (b := 16) (by decide) (by omega) (by omega) j)) (fun _ _ => rfl)
    have u3_1 : h1 37 3 = h0 37 3 := (S1 37 3 rfl).trans rfl
    refine z_if_eq_F (M := M_X1_readShorter) 11 dX1_readShorter_11 23 rfl (by omega) ?_
    refine z_aload_n (M := M_X1_readShorter) 14 dX1_readShorter_14 rfl ?_
    refine z_iconst (M := M_X1_readShorter) 15 dX1_readShorter_15 ?_
    refine z_iconst (M := M_X1_readShorter) 16 dX1_readShorter_16 ?_
    refine z_vI (M := M_X1_readShorter) 17 dX1_readShorter_17 t_X1_takeNumber l_X1_53 (m_rr_of rfl) (rest := []) (c_X1_takeNumber2 h1 0 3 G1 Ex2 ⟨by omega, by omega⟩ ⟨by omega, by omega⟩) o_37 rfl rfl rfl (Nat.le_of_ble_eq_true rfl) ⟨rfl, rfl⟩ (fun x3 h2 qx3 => ?_)
    obtain ⟨G2, S2, ax3, bx3, cx3, Ex3, Tx3⟩ := qx3
    have R2 := R1.call S2 (by decide +kernel)
    rcases tn_c (rowz R1 (fun _ => rfl)) (R1 35 1 rfl) Qx2 Tx3 with ⟨rfl, Wx3, Qx3⟩ | ⟨Nx3, Wx3, Qx3⟩
    · have LR2 : LR 9 h2 r := LR1.same (fun i hi j => S2 _ j (fr_out (a := 9) (b := 16) (by decide) (by omega) (by omega) j)) (fun _ _ => rfl)
      have u3_2 : h2 37 3 = h0 37 3 := (S2 37 3 rfl).trans u3_1
      refine z_goto (M := M_X1_readShorter) 20 dX1_readShorter_20 24 rfl ?_
      refine z_istore_n (M := M_X1_readShorter) 24 dX1_readShorter_24 (ls' := [some (mR 37), some (mR 9), some (mI x1), some (mI (-1)), none]) (by decide) rfl ?_
      refine z_iload_n (M := M_X1_readShorter) 25 dX1_readShorter_25 rfl ?_
      refine z_iconst (M := M_X1_readShorter) 26 dX1_readShorter_26 ?_
      refine z_icmp_eq_T (M := M_X1_readShorter) 27 dX1_readShorter_27 47 rfl (by omega) ?_
      refine z_iconst (M := M_X1_readShorter) 47 dX1_readShorter_47 ?_
      exact z_retZ (M := M_X1_readShorter) 48 dX1_readShorter_48 rfl (by omega) ⟨G2, R2, Ex3, er_of (q := (nxt (h0 36) (h0 35 1) (Qc h0))) (by unfold rdS3 rdShort; rw [cif_pos (Wx2), cif_neg (Wx3)]) Qx3 u3_2⟩
    · have LR2 : LR 9 h2 r := LR1.same (fun i hi j => S2 _ j (fr_out (a := 9) (b := 16) (by decide) (by omega) (by omega) j)) (fun _ _ => rfl)
      have u3_2 : h2 37 3 = h0 37 3 := (S2 37 3 rfl).trans u3_1
      have lx3 : 0 ≤ x3 ∧ x3 ≤ 3 := by rw [Nx3]; exact ⟨Wx3.2.2.1, Wx3.2.2.2⟩
      refine z_goto (M := M_X1_readShorter) 20 dX1_readShorter_20 24 rfl ?_
      refine z_istore_n (M := M_X1_readShorter) 24 dX1_readShorter_24 (ls' := [some (mR 37), some (mR 9), some (mI x1), some (mI x3), none]) (by decide) rfl ?_
      refine z_iload_n (M := M_X1_readShorter) 25 dX1_readShorter_25 rfl ?_
      refine z_iconst (M := M_X1_readShorter) 26 dX1_readShorter_26 ?_
      refine z_icmp_eq_F (M := M_X1_readShorter) 27 dX1_readShorter_27 47 rfl (by omega) ?_
      refine z_aload_n (M := M_X1_readShorter) 30 dX1_readShorter_30 rfl ?_
      refine z_ldcS (M := M_X1_readShorter) 31 dX1_readShorter_31 (i := 14) rfl rfl rfl ?_
      refine z_vI (M := M_X1_readShorter) 33 dX1_readShorter_33 t_X1_take l_X1_27 (m_rr_of rfl) (rest := []) (c_X1_take2 h2 14 (by decide) G2 Ex3) o_37 rfl rfl rfl (Nat.le_of_ble_eq_true rfl) ⟨rfl, rfl⟩ (fun x4 h3 qx4 => ?_)
      obtain ⟨G3, S3, Ex4, Tx4⟩ := qx4
      have R3 := R2.call S3 (by decide +kernel)
      rcases tkc_ (rowz R2 (fun _ => rfl)) (R2 35 1 rfl) Qx3 Tx4 with ⟨rfl, Wx4, Qx4⟩ | ⟨rfl, Wx4, Qx4⟩
      · have LR3 : LR 9 h3 r := LR2.same (fun i hi j => S3 _ j (fr_out (a := 9) (b := 16) (by decide) (by omega) (by omega) j)) (fun _ _ => rfl)
        have u3_3 : h3 37 3 = h0 37 3 := (S3 37 3 rfl).trans u3_2
        refine z_if_eq_F (M := M_X1_readShorter) 36 dX1_readShorter_36 47 rfl (by omega) ?_
        refine z_aload_n (M := M_X1_readShorter) 39 dX1_readShorter_39 rfl ?_
        refine z_vI (M := M_X1_readShorter) 40 dX1_readShorter_40 t_X1_value l_X1_72 (m_rr_of rfl) (rest := []) (c_X1_value2 h3 G3 Ex4) o_37 rfl rfl rfl (Nat.le_of_ble_eq_true rfl) ⟨rfl, rfl⟩ (fun x5 h4 qx5 => ?_)
        obtain ⟨G4, S4, Fx5⟩ := qx5
        have R4 := R3.call S4 (by decide +kernel)
        refine z_ok (fun ox5 _ _ => ?_)
        have ox5 := ox5.1; unfold m_ok m_32 at ox5
        have Vx5 := vl_c (rowz R3 (fun _ => rfl)) (R3 35 1 rfl) Qx4 Fx5
        have LR4 : LR 9 h4 r := LR3.same (fun i hi j => S4 _ j (fr_out (a := 9) (b := 16) (by decide) (by omega) (by omega) j)) (fun _ _ => rfl)
        have u3_4 : h4 37 3 = h0 37 3 := (S4 37 3 rfl).trans u3_3
        have qq4 : Qc h4 = (nxt (h0 36) (h0 35 1) (nxt (h0 36) (h0 35 1) (nxt (h0 36) (h0 35 1) (Qc h0)))) := (Qc_S S4 rfl rfl).trans Qx4
        have en4 := EnS.fr Ex4 (rowz S4 (fun _ => rfl)) (S4 35 1 rfl) (Qc_S S4 rfl rfl)
        refine z_iload_n (M := M_X1_readShorter) 43 dX1_readShorter_43 rfl ?_
        refine z_icmp_ne (M := M_X1_readShorter) 44 dX1_readShorter_44 49 rfl (fun c6 => ?_) (fun c6 => ?_)
        · refine z_aload_n (M := M_X1_readShorter) 49 dX1_readShorter_49 rfl ?_
          refine z_iconst (M := M_X1_readShorter) 50 dX1_readShorter_50 ?_
          refine z_iconst (M := M_X1_readShorter) 51 dX1_readShorter_51 ?_
          refine z_vI (M := M_X1_readShorter) 52 dX1_readShorter_52 t_X1_takeNumber l_X1_53 (m_rr_of rfl) (rest := []) (c_X1_takeNumber2 h4 0 3 G4 en4 ⟨by omega, by omega⟩ ⟨by omega, by omega⟩) o_37 rfl rfl rfl (Nat.le_of_ble_eq_true rfl) ⟨rfl, rfl⟩ (fun x7 h5 qx7 => ?_)
          obtain ⟨G5, S5, ax7, bx7, cx7, Ex7, Tx7⟩ := qx7
          have R5 := R4.call S5 (by decide +kernel)
          rcases tn_c (rowz R4 (fun _ => rfl)) (R4 35 1 rfl) qq4 Tx7 with ⟨rfl, Wx7, Qx7⟩ | ⟨Nx7, Wx7, Qx7⟩
          · have LR5 : LR 9 h5 r := LR4.same (fun i hi j => S5 _ j (fr_out (a := 9) (b := 16) (by decide) (by omega) (by omega) j)) (fun _ _ => rfl)
            have u3_5 : h5 37 3 = h0 37 3 := (S5 37 3 rfl).trans u3_4
            refine z_istore (M := M_X1_readShorter) 55 dX1_readShorter_55 (ls' := [some (mR 37), some (mR 9), some (mI x1), some (mI x3), some (mI (-1))]) (by decide) rfl ?_
            refine z_iload (M := M_X1_readShorter) 57 dX1_readShorter_57 rfl ?_
            refine z_iconst (M := M_X1_readShorter) 59 dX1_readShorter_59 ?_
            refine z_icmp_ne_F (M := M_X1_readShorter) 60 dX1_readShorter_60 65 rfl (by omega) ?_
            refine z_iconst (M := M_X1_readShorter) 63 dX1_readShorter_63 ?_
            exact z_retZ (M := M_X1_readShorter) 64 dX1_readShorter_64 rfl (by omega) ⟨G5, R5, Ex7, er_of (q := (nxt (h0 36) (h0 35 1) (nxt (h0 36) (h0 35 1) (nxt (h0 36) (h0 35 1) (Qc h0))))) (by unfold rdS3 rdShort; rw [cif_pos (Wx2), cif_pos (Wx3), cif_pos (Wx4), cif_neg (fun z => Wx7 z.1)]) Qx7 u3_5⟩
          · have LR5 : LR 9 h5 r := LR4.same (fun i hi j => S5 _ j (fr_out (a := 9) (b := 16) (by decide) (by omega) (by omega) j)) (fun _ _ => rfl)
            have u3_5 : h5 37 3 = h0 37 3 := (S5 37 3 rfl).trans u3_4
            have lx7 : 0 ≤ x7 ∧ x7 ≤ 3 := by rw [Nx7]; exact ⟨Wx7.2.2.1, Wx7.2.2.2⟩
            refine z_istore (M := M_X1_readShorter) 55 dX1_readShorter_55 (ls' := [some (mR 37), some (mR 9), some (mI x1), some (mI x3), some (mI x7)]) (by decide) rfl ?_
            refine z_iload (M := M_X1_readShorter) 57 dX1_readShorter_57 rfl ?_
            refine z_iconst (M := M_X1_readShorter) 59 dX1_readShorter_59 ?_
            refine z_icmp_ne_T (M := M_X1_readShorter) 60 dX1_readShorter_60 65 rfl (by omega) ?_
            refine z_aload_n (M := M_X1_readShorter) 65 dX1_readShorter_65 rfl ?_
            refine z_iload_n (M := M_X1_readShorter) 66 dX1_readShorter_66 rfl ?_
            refine z_iload (M := M_X1_readShorter) 67 dX1_readShorter_67 rfl ?_
            refine z_vI (M := M_X1_readShorter) 69 dX1_readShorter_69 t_X4_isShorter l_X1_76 (m_rr_of rfl) (rest := []) (c_X4_isShorter2 h5 9 x3 x7 (Or.inr (Or.inl rfl)) G5 ⟨by omega, by omega⟩ ⟨by omega, by omega⟩) o_9 rfl rfl rfl (Nat.le_of_ble_eq_true rfl) ⟨rfl, rfl⟩ (fun x8 h6 qx8 => ?_)
            obtain ⟨G6, S6, ax8, bx8, fx8_0⟩ := qx8
            have R6 := R5.call S6 (by decide +kernel)
            have isx8 := is_sh LR5 (a := x3) (b := x7) (by omega) (by omega) (by omega) (by omega)
            have LR6 : LR 9 h6 r := LR5.same (fun i hi j => S6 _ j (fr_out (a := 9) (b := 16) (by decide) (by omega) (by omega) j)) (fun _ _ => rfl)
            have u3_6 : h6 37 3 = h0 37 3 := (S6 37 3 rfl).trans u3_5
            have qq6 : Qc h6 = (nxt (h0 36) (h0 35 1) (nxt (h0 36) (h0 35 1) (nxt (h0 36) (h0 35 1) (nxt (h0 36) (h0 35 1) (Qc h0))))) := (Qc_S S6 rfl rfl).trans Qx7
            have en6 := EnS.fr Ex7 (rowz S6 (fun _ => rfl)) (S6 35 1 rfl) (Qc_S S6 rfl rfl)
            refine z_if_eq (M := M_X1_readShorter) 72 dX1_readShorter_72 77 rfl (fun c9 => ?_) (fun c9 => ?_)
            · refine z_aload_n (M := M_X1_readShorter) 77 dX1_readShorter_77 rfl ?_
              refine z_vI (M := M_X1_readShorter) 78 dX1_readShorter_78 t_X4_hasRoomForShorter l_X1_80 (m_rr_of rfl) (rest := []) (c_X4_hasRoomForShorter2 h6 9 (Or.inr (Or.inl rfl)) G6 LR6.S9.1) o_9 rfl rfl rfl (Nat.le_of_ble_eq_true rfl) ⟨rfl, rfl⟩ (fun x10 h7 qx10 => ?_)
              obtain ⟨G7, S7, ax10, bx10, fx10_0⟩ := qx10
              have R7 := R6.call S7 (by decide +kernel)
              have hrx10 := LR6.S9.2
              have LR7 : LR 9 h7 r := LR6.same (fun i hi j => S7 _ j (fr_out (a := 9) (b := 16) (by decide) (by omega) (by omega) j)) (fun _ _ => rfl)
              have u3_7 : h7 37 3 = h0 37 3 := (S7 37 3 rfl).trans u3_6
              have qq7 : Qc h7 = (nxt (h0 36) (h0 35 1) (nxt (h0 36) (h0 35 1) (nxt (h0 36) (h0 35 1) (nxt (h0 36) (h0 35 1) (Qc h0))))) := (Qc_S S7 rfl rfl).trans qq6
              have en7 := EnS.fr en6 (rowz S7 (fun _ => rfl)) (S7 35 1 rfl) (Qc_S S7 rfl rfl)
              refine z_if_ne (M := M_X1_readShorter) 81 dX1_readShorter_81 91 rfl (fun c11 => ?_) (fun c11 => ?_)
              · refine z_aload_n (M := M_X1_readShorter) 91 dX1_readShorter_91 rfl ?_
                refine z_iload_n (M := M_X1_readShorter) 92 dX1_readShorter_92 rfl ?_
                refine z_iload (M := M_X1_readShorter) 93 dX1_readShorter_93 rfl ?_
                refine z_vV (M := M_X1_readShorter) 95 dX1_readShorter_95 t_X4_addShorter l_X1_84 (m_rr_of rfl) (rest := []) (c_X4_addShorter2 h7 9 x3 x7 (Or.inr (Or.inl rfl)) G7 ⟨by omega, by omega⟩ ⟨by omega, by omega⟩) o_9 rfl rfl rfl (Nat.le_of_ble_eq_true rfl) ⟨rfl, rfl⟩ (fun h8 qx12 => ?_)
                obtain ⟨G8, S8, fx12_0⟩ := qx12
                have R8 := R7.call S8 (by decide +kernel)
                have u3_8 : h8 37 3 = h0 37 3 := (S8 37 3 rfl).trans u3_7
                have qq8 : Qc h8 = (nxt (h0 36) (h0 35 1) (nxt (h0 36) (h0 35 1) (nxt (h0 36) (h0 35 1) (nxt (h0 36) (h0 35 1) (Qc h0))))) := (Qc_S S8 rfl rfl).trans qq7
                have en8 := EnS.fr en7 (rowz S8 (fun _ => rfl)) (S8 35 1 rfl) (Qc_S S8 rfl rfl)
                refine z_iconst (M := M_X1_readShorter) 98 dX1_readShorter_98 ?_
                exact z_retZ (M := M_X1_readShorter) 99 dX1_readShorter_99 rfl (by omega) ⟨G8, R8, en8, ok_of (p := ((nxt (h0 36) (h0 35 1) (nxt (h0 36) (h0 35 1) (nxt (h0 36) (h0 35 1) (nxt (h0 36) (h0 35 1) (Qc h0))))), rS r x3 x7)) (by unfold rdS3 rdShort; rw [cif_pos (Wx2), cif_pos (Wx3), cif_pos (Wx4), cif_pos ⟨Wx7, by have := vl_n Vx5 Wx7; omega⟩, ← Nx3, ← Nx7, cif_neg (fun z => by have := fx8_0.mpr (isx8.mpr z); omega), cif_pos (by omega)]) qq8 (fx12_0 r LR7 (by omega) (fun z => by have := fx8_0.mpr (isx8.mpr z); omega)) u3_8⟩
              · refine z_aload_n (M := M_X1_readShorter) 84 dX1_readShorter_84 rfl ?_
                refine z_iload_n (M := M_X1_readShorter) 85 dX1_readShorter_85 rfl ?_
                refine z_putIH (M := M_X1_readShorter) 86 dX1_readShorter_86 p_X1_15 o_37 rfl (u_37_3 G7) (R7.up rfl) (fun h9 E9 G9 R9 => ?_)
                refine z_iconst (M := M_X1_readShorter) 89 dX1_readShorter_89 ?_
                exact z_retZ (M := M_X1_readShorter) 90 dX1_readShorter_90 rfl (by omega) ⟨G9, R9, (EnS.fr en7 (tl_r E9 (by decide)) (tl_o E9 (by decide) _) (Qc_3 E9)), er2_of (e := (Qc h0).1) (by unfold rdS3 rdShort; rw [cif_pos (Wx2), cif_pos (Wx3), cif_pos (Wx4), cif_pos ⟨Wx7, by have := vl_n Vx5 Wx7; omega⟩, ← Nx3, ← Nx7, cif_neg (fun z => by have := fx8_0.mpr (isx8.mpr z); omega), cif_neg (by omega)]) (fun _ => by rw [upE E9, if_neg (by omega)]; exact ex1.symm)⟩
            · refine z_iconst (M := M_X1_readShorter) 75 dX1_readShorter_75 ?_
              exact z_retZ (M := M_X1_readShorter) 76 dX1_readShorter_76 rfl (by omega) ⟨G6, R6, en6, ok_of (p := ((nxt (h0 36) (h0 35 1) (nxt (h0 36) (h0 35 1) (nxt (h0 36) (h0 35 1) (nxt (h0 36) (h0 35 1) (Qc h0))))), r)) (by unfold rdS3 rdShort; rw [cif_pos (Wx2), cif_pos (Wx3), cif_pos (Wx4), cif_pos ⟨Wx7, by have := vl_n Vx5 Wx7; omega⟩, ← Nx3, ← Nx7, cif_pos (isx8.mp (fx8_0.mp (by omega)))]) qq6 LR6 u3_6⟩
        · refine z_iconst (M := M_X1_readShorter) 47 dX1_readShorter_47 ?_
          exact z_retZ (M := M_X1_readShorter) 48 dX1_readShorter_48 rfl (by omega) ⟨G4, R4, en4, er_of (q := (nxt (h0 36) (h0 35 1) (nxt (h0 36) (h0 35 1) (nxt (h0 36) (h0 35 1) (Qc h0))))) (by unfold rdS3 rdShort; rw [cif_pos (Wx2), cif_pos (Wx3), cif_pos (Wx4), cif_neg (fun z => z.2 (by have := vl_n Vx5 z.1; omega))]) qq4 u3_4⟩
      · have LR3 : LR 9 h3 r := LR2.same (fun i hi j => S3 _ j (fr_out (a := 9) (b := 16) (by decide) (by omega) (by omega) j)) (fun _ _ => rfl)
        have u3_3 : h3 37 3 = h0 37 3 := (S3 37 3 rfl).trans u3_2
        refine z_if_eq_T (M := M_X1_readShorter) 36 dX1_readShorter_36 47 rfl (by omega) ?_
        refine z_iconst (M := M_X1_readShorter) 47 dX1_readShorter_47 ?_
        exact z_retZ (M := M_X1_readShorter) 48 dX1_readShorter_48 rfl (by omega) ⟨G3, R3, Ex4, er_of (q := (nxt (h0 36) (h0 35 1) (nxt (h0 36) (h0 35 1) (Qc h0)))) (by unfold rdS3 rdShort; rw [cif_pos (Wx2), cif_pos (Wx3), cif_neg (Wx4)]) Qx4 u3_3⟩
  · have LR1 : LR 9 h1 r := Rr.same (fun i hi j => S1 _ j (fr_out (a := 9) (b := 16) (by decide) (by omega) (by omega) j)) (fun _ _ => rfl)
    have u3_1 : h1 37 3 = h0 37 3 := (S1 37 3 rfl).trans rfl
    refine z_if_eq_T (M := M_X1_readShorter) 11 dX1_readShorter_11 23 rfl (by omega) ?_
    refine z_iconst (M := M_X1_readShorter) 23 dX1_readShorter_23 ?_
    refine z_istore_n (M := M_X1_readShorter) 24 dX1_readShorter_24 (ls' := [some (mR 37), some (mR 9), some (mI x1), some (mI (-1)), none]) (by decide) rfl ?_
    refine z_iload_n (M := M_X1_readShorter) 25 dX1_readShorter_25 rfl ?_
    refine z_iconst (M := M_X1_readShorter) 26 dX1_readShorter_26 ?_
    refine z_icmp_eq_T (M := M_X1_readShorter) 27 dX1_readShorter_27 47 rfl (by omega) ?_
    refine z_iconst (M := M_X1_readShorter) 47 dX1_readShorter_47 ?_
    exact z_retZ (M := M_X1_readShorter) 48 dX1_readShorter_48 rfl (by omega) ⟨G1, R1, Ex2, er_of (q := (Qc h0)) (by unfold rdS3 rdShort; rw [cif_neg (Wx2)]) Qx2 u3_1⟩
abbrev P_X1_readOnto2 (h0 : m_H) (r : Nat → Int) : Int → m_H → Prop := fun x h' => GI h' ∧ FR [10, 11, 12, 13, 14, 15] [(9, 7), (9, 8), (9, 9), (37, 1), (37, 2), (37, 3)] h0 h' ∧ (-1) ≤ x ∧ x ≤ 400 ∧ onQ (rdBook (h0 36) (h0 35 1) 400 (nx (h0 36) (h0 35 1) 0) r 1) x h'
def q_X1_readOnto2 (h0 : m_H) (r : Nat → Int) (n : Nat) : Prop := (∀ (l2 : Int) (h : m_H), GI h → FR [10, 11, 12, 13, 14, 15] [(9, 7), (9, 8), (9, 9), (37, 1), (37, 2), (37, 3)] h0 h → 1 ≤ l2 → l2 ≤ 401 → (EnS h) → (∃ rr, onI (rdBook (h0 36) (h0 35 1) 400 (nx (h0 36) (h0 35 1) 0) r 1) (h0 36) (h0 35 1) l2 h rr) → 2 * (401 - l2) + (1) ≤ (n : Int) → m_Z oF M_X1_readOnto 16 [some (mR 37), some (mR 9), some (mI l2), none] [] h (m_QI (P_X1_readOnto2 h0 r)))
set_option maxHeartbeats 4000000 in
set_option maxRecDepth 100000 in
theorem s_X1_readOnto2_16 (h0 : m_H) (r : Nat → Int) (G0 : GI h0) (Rr : LR 9 h0 r) (n : Nat) (ih : q_X1_readOnto2 h0 r n) : ∀ (l2 : Int) (h : m_H), GI h → FR [10, 11, 12, 13, 14, 15] [(9, 7), (9, 8), (9, 9), (37, 1), (37, 2), (37, 3)] h0 h → 1 ≤ l2 → l2 ≤ 401 → (EnS h) → (∃ rr, onI (rdBook (h0 36) (h0 35 1) 400 (nx (h0 36) (h0 35 1) 0) r 1) (h0 36) (h0 35 1) l2 h rr) → 2 * (401 - l2) + (1) ≤ ((n + 1 : Nat) : Int) → m_Z oF M_X1_readOnto 16 [some (mR 37), some (mR 9), some (mI l2), none] [] h (m_QI (P_X1_readOnto2 h0 r)) := by
  intro l2 h G R v0 v1 i0 i1 hr
  obtain ⟨rr, Lr, Zr, Ur⟩ := i1
  refine z_iload_n (M := M_X1_readOnto) 16 dX1_readOnto_16 rfl ?_
  refine z_sipush (M := M_X1_readOnto) 17 dX1_readOnto_17 ?_
  refine z_icmp_gt (M := M_X1_readOnto) 20 dX1_readOnto_20 107 rfl (fun c1 => ?_) (fun c1 => ?_)
  · refine z_aload_n (M := M_X1_readOnto) 107 dX1_readOnto_107 rfl ?_
    refine z_getIV (M := M_X1_readOnto) 108 dX1_readOnto_108 f_X1_15 o_37 (by decide) (fun x2 ex2 => ?_)
    refine z_ok (fun ox2 _ _ => ?_)
    have ox2 := ox2.1; unfold m_ok m_32 at ox2
    refine z_iconst (M := M_X1_readOnto) 111 dX1_readOnto_111 ?_
    refine z_icmp_ne (M := M_X1_readOnto) 112 dX1_readOnto_112 123 rfl (fun c3 => ?_) (fun c3 => ?_)
    · refine z_iconst (M := M_X1_readOnto) 123 dX1_readOnto_123 ?_
      exact z_retI (M := M_X1_readOnto) 124 dX1_readOnto_124 rfl ⟨G, R, by omega, by omega, False.elim (by omega)⟩
    · refine z_aload_n (M := M_X1_readOnto) 115 dX1_readOnto_115 rfl ?_
      refine z_aload_n (M := M_X1_readOnto) 116 dX1_readOnto_116 rfl ?_
      refine z_getIG (M := M_X1_readOnto) 117 dX1_readOnto_117 f_X1_43 o_37 (by decide) (g_37_1 G) (fun x4 ex4 ax4 bx4 => ?_)
      refine z_putIH (M := M_X1_readOnto) 120 dX1_readOnto_120 p_X1_15 o_37 rfl (u_37_3 G) (R.up rfl) (fun h1 E1 G1 R1 => ?_)
      refine z_iconst (M := M_X1_readOnto) 123 dX1_readOnto_123 ?_
      exact z_retI (M := M_X1_readOnto) 124 dX1_readOnto_124 rfl ⟨G1, R1, by omega, by omega, on_er (Zr.symm.trans (by rw [show (401 - l2).toNat = 0 by omega]; rfl)) ((upE E1).trans ex4.symm)⟩
  · have kf : (401 - (l2 + 1)).toNat = (400 - l2).toNat := by omega
    have kz : rdBook (h0 36) (h0 35 1) ((400 - l2).toNat + 1) (Qc h) rr l2 = rdBook (h0 36) (h0 35 1) (401 - l2).toNat (Qc h) rr l2 := by congr 1; omega
    refine z_aload_n (M := M_X1_readOnto) 23 dX1_readOnto_23 rfl ?_
    refine z_ldcS (M := M_X1_readOnto) 24 dX1_readOnto_24 (i := 0) rfl rfl rfl ?_
    refine z_vI (M := M_X1_readOnto) 26 dX1_readOnto_26 t_X1_take l_X1_27 (m_rr_of rfl) (rest := []) (c_X1_take2 h 0 (by decide) G i0) o_37 rfl rfl rfl (Nat.le_of_ble_eq_true rfl) ⟨rfl, rfl⟩ (fun x5 h2 qx5 => ?_)
    obtain ⟨G2, S2, Ex5, Tx5⟩ := qx5
    have R2 := R.call S2 (by decide +kernel)
    rcases tkc_ (rowz R (fun _ => rfl)) (R 35 1 rfl) rfl Tx5 with ⟨rfl, Wx5, Qx5⟩ | ⟨rfl, Wx5, Qx5⟩
    · have LR2 : LR 9 h2 rr := Lr.same (fun i hi j => S2 _ j (fr_out (a := 9) (b := 16) (by decide) (by omega) (by omega) j)) (fun _ _ => rfl)
      have u3_2 : h2 37 3 = h 37 3 := (S2 37 3 rfl).trans rfl
      refine z_if_eq_F (M := M_X1_readOnto) 29 dX1_readOnto_29 41 rfl (by omega) ?_
      refine z_aload_n (M := M_X1_readOnto) 32 dX1_readOnto_32 rfl ?_
      refine z_aload_n (M := M_X1_readOnto) 33 dX1_readOnto_33 rfl ?_
      refine z_vI (M := M_X1_readOnto) 34 dX1_readOnto_34 t_X1_readWeeks l_X1_31 (m_rr_of rfl) (rest := []) (c_X1_readWeeks2 h2 rr G2 Ex5 LR2) o_37 rfl rfl rfl (Nat.le_of_ble_eq_true rfl) ⟨rfl, rfl⟩ (fun x6 h3 qx6 => ?_)
      obtain ⟨G3, S3, Ex6, Kx6⟩ := qx6
      have R3 := R2.call S3 (by decide +kernel)
      rcases ok_cs (ok_c (F := fun b n q => rdWeeks b n q rr) (h0 := h) (rowz R2 (fun _ => rfl)) (R2 35 1 rfl) Qx5 u3_2 Kx6) with ⟨px6, Zx6, rfl, Qx6, Lx6, Ux6⟩ | ⟨ex6, Zx6, rfl, Fx6⟩
      · refine z_istore_n (M := M_X1_readOnto) 37 dX1_readOnto_37 (ls' := [some (mR 37), some (mR 9), some (mI l2), some (mI 1)]) (by decide) rfl ?_
        refine z_goto (M := M_X1_readOnto) 38 dX1_readOnto_38 65 rfl ?_
        refine z_iload_n (M := M_X1_readOnto) 65 dX1_readOnto_65 rfl ?_
        refine z_if_eq_F (M := M_X1_readOnto) 66 dX1_readOnto_66 85 rfl (by omega) ?_
        refine z_aload_n (M := M_X1_readOnto) 69 dX1_readOnto_69 rfl ?_
        refine z_getIG (M := M_X1_readOnto) 70 dX1_readOnto_70 f_X1_43 o_37 (by decide) (g_37_1 G3) (fun x7 ex7 ax7 bx7 => ?_)
        refine z_aload_n (M := M_X1_readOnto) 73 dX1_readOnto_73 rfl ?_
        refine z_getR (M := M_X1_readOnto) 74 dX1_readOnto_74 f_X1_9 o_37 rfl (g_37_0 G3) ?_
        refine z_getIG (M := M_X1_readOnto) 77 dX1_readOnto_77 f_X1_46 o_35 (by decide) (g_35_1 G3) (fun x8 ex8 ax8 bx8 => ?_)
        refine z_icmp_lt (M := M_X1_readOnto) 80 dX1_readOnto_80 85 rfl (fun c9 => ?_) (fun c9 => ?_)
        · refine z_iload_n (M := M_X1_readOnto) 85 dX1_readOnto_85 rfl ?_
          refine z_if_eq_F (M := M_X1_readOnto) 86 dX1_readOnto_86 107 rfl (by omega) ?_
          refine z_aload_n (M := M_X1_readOnto) 89 dX1_readOnto_89 rfl ?_
          refine z_ldcS (M := M_X1_readOnto) 90 dX1_readOnto_90 (i := 15) rfl rfl rfl ?_
          refine z_vI (M := M_X1_readOnto) 92 dX1_readOnto_92 t_X1_take l_X1_27 (m_rr_of rfl) (rest := []) (c_X1_take2 h3 15 (by decide) G3 Ex6) o_37 rfl rfl rfl (Nat.le_of_ble_eq_true rfl) ⟨rfl, rfl⟩ (fun x10 h4 qx10 => ?_)
          obtain ⟨G4, S4, Ex10, Tx10⟩ := qx10
          have R4 := R3.call S4 (by decide +kernel)
          rcases tkc_ (rowz R3 (fun _ => rfl)) (R3 35 1 rfl) Qx6 Tx10 with ⟨rfl, Wx10, Qx10⟩ | ⟨rfl, Wx10, Qx10⟩
          · have LR4 : LR 9 h4 px6.2 := Lx6.same (fun i hi j => S4 _ j (fr_out (a := 9) (b := 16) (by decide) (by omega) (by omega) j)) (fun _ _ => rfl)
            have u3_4 : h4 37 3 = h 37 3 := (S4 37 3 rfl).trans Ux6
            refine z_if_ne_T (M := M_X1_readOnto) 95 dX1_readOnto_95 101 rfl (by omega) ?_
            refine z_iincN (M := M_X1_readOnto) 101 dX1_readOnto_101 (ls' := [some (mR 37), some (mR 9), some (mI (l2 + 1)), some (mI 1)]) (by decide) rfl (by (unfold m_32; decide)) (by omega) (by omega) rfl ?_
            refine z_goto (M := M_X1_readOnto) 104 dX1_readOnto_104 16 rfl ?_
            have fst_ : x7 = px6.1.1 := ex7.symm.trans (congrArg Prod.fst Qx6)
            have len_ : h0 35 1 = x8 := (R3 35 1 rfl).symm.trans ex8
            exact z_mask [true, true, true, false] rfl (ih (l2 + 1) h4 G4 R4 (by omega) (by omega) Ex10 ⟨_, LR4, (by rw [Qx10, kf]; exact (bk_nx (by unfold rdCl; rw [cif_pos Wx5]; exact Zx6) (by omega) Wx10).symm.trans (kz.trans Zr)), u3_4.trans Ur⟩ (by omega))
          · have LR4 : LR 9 h4 px6.2 := Lx6.same (fun i hi j => S4 _ j (fr_out (a := 9) (b := 16) (by decide) (by omega) (by omega) j)) (fun _ _ => rfl)
            have u3_4 : h4 37 3 = h 37 3 := (S4 37 3 rfl).trans Ux6
            refine z_if_ne_F (M := M_X1_readOnto) 95 dX1_readOnto_95 101 rfl (by omega) ?_
            refine z_goto (M := M_X1_readOnto) 98 dX1_readOnto_98 107 rfl ?_
            refine z_aload_n (M := M_X1_readOnto) 107 dX1_readOnto_107 rfl ?_
            refine z_getIV (M := M_X1_readOnto) 108 dX1_readOnto_108 f_X1_15 o_37 (by decide) (fun x11 ex11 => ?_)
            refine z_ok (fun ox11 _ _ => ?_)
            have ox11 := ox11.1; unfold m_ok m_32 at ox11
            refine z_iconst (M := M_X1_readOnto) 111 dX1_readOnto_111 ?_
            refine z_icmp_ne (M := M_X1_readOnto) 112 dX1_readOnto_112 123 rfl (fun c12 => ?_) (fun c12 => ?_)
            · refine z_iconst (M := M_X1_readOnto) 123 dX1_readOnto_123 ?_
              have fst_ : x7 = px6.1.1 := ex7.symm.trans (congrArg Prod.fst Qx6)
              have len_ : h0 35 1 = x8 := (R3 35 1 rfl).symm.trans ex8
              exact z_retI (M := M_X1_readOnto) 124 dX1_readOnto_124 rfl ⟨G4, R4, by omega, by omega, False.elim (by have := u3_4.trans Ur; have := ex11; omega)⟩
            · refine z_aload_n (M := M_X1_readOnto) 115 dX1_readOnto_115 rfl ?_
              refine z_aload_n (M := M_X1_readOnto) 116 dX1_readOnto_116 rfl ?_
              refine z_getIG (M := M_X1_readOnto) 117 dX1_readOnto_117 f_X1_43 o_37 (by decide) (g_37_1 G4) (fun x13 ex13 ax13 bx13 => ?_)
              refine z_putIH (M := M_X1_readOnto) 120 dX1_readOnto_120 p_X1_15 o_37 rfl (u_37_3 G4) (R4.up rfl) (fun h5 E5 G5 R5 => ?_)
              refine z_iconst (M := M_X1_readOnto) 123 dX1_readOnto_123 ?_
              have fst_ : x7 = px6.1.1 := ex7.symm.trans (congrArg Prod.fst Qx6)
              have len_ : h0 35 1 = x8 := (R3 35 1 rfl).symm.trans ex8
              exact z_retI (M := M_X1_readOnto) 124 dX1_readOnto_124 rfl ⟨G5, R5, by omega, by omega, on_er (Zr.symm.trans (kz.symm.trans (bk_no (by unfold rdCl; rw [cif_pos Wx5]; exact Zx6) (by omega) Wx10))) ((upE E5).trans (ex13.symm.trans (congrArg Prod.fst Qx10)))⟩
        · refine z_iload_n (M := M_X1_readOnto) 83 dX1_readOnto_83 rfl ?_
          have fst_ : x7 = px6.1.1 := ex7.symm.trans (congrArg Prod.fst Qx6)
          have len_ : h0 35 1 = x8 := (R3 35 1 rfl).symm.trans ex8
          exact z_retI (M := M_X1_readOnto) 84 dX1_readOnto_84 rfl ⟨G3, R3, by omega, by omega, on_ok (r := px6.2) (Zr.symm.trans (kz.symm.trans (bk_end (by unfold rdCl; rw [cif_pos Wx5]; exact Zx6) (by omega)))) (by omega) Lx6 (Ux6.trans Ur)⟩
      · refine z_istore_n (M := M_X1_readOnto) 37 dX1_readOnto_37 (ls' := [some (mR 37), some (mR 9), some (mI l2), some (mI 0)]) (by decide) rfl ?_
        refine z_goto (M := M_X1_readOnto) 38 dX1_readOnto_38 65 rfl ?_
        refine z_iload_n (M := M_X1_readOnto) 65 dX1_readOnto_65 rfl ?_
        refine z_if_eq_T (M := M_X1_readOnto) 66 dX1_readOnto_66 85 rfl (by omega) ?_
        refine z_iload_n (M := M_X1_readOnto) 85 dX1_readOnto_85 rfl ?_
        refine z_if_eq_T (M := M_X1_readOnto) 86 dX1_readOnto_86 107 rfl (by omega) ?_
        refine z_aload_n (M := M_X1_readOnto) 107 dX1_readOnto_107 rfl ?_
        refine z_getIV (M := M_X1_readOnto) 108 dX1_readOnto_108 f_X1_15 o_37 (by decide) (fun x14 ex14 => ?_)
        refine z_ok (fun ox14 _ _ => ?_)
        have ox14 := ox14.1; unfold m_ok m_32 at ox14
        refine z_iconst (M := M_X1_readOnto) 111 dX1_readOnto_111 ?_
        refine z_icmp_ne (M := M_X1_readOnto) 112 dX1_readOnto_112 123 rfl (fun c15 => ?_) (fun c15 => ?_)
        · refine z_iconst (M := M_X1_readOnto) 123 dX1_readOnto_123 ?_
          exact z_retI (M := M_X1_readOnto) 124 dX1_readOnto_124 rfl ⟨G3, R3, by omega, by omega, on_er (Zr.symm.trans (kz.symm.trans (bk_er (by unfold rdCl; rw [cif_pos Wx5]; exact Zx6)))) (by have f := Fx6 Ur; rw [if_neg (by omega)] at f; exact f)⟩
        · refine z_aload_n (M := M_X1_readOnto) 115 dX1_readOnto_115 rfl ?_
          refine z_aload_n (M := M_X1_readOnto) 116 dX1_readOnto_116 rfl ?_
          refine z_getIG (M := M_X1_readOnto) 117 dX1_readOnto_117 f_X1_43 o_37 (by decide) (g_37_1 G3) (fun x16 ex16 ax16 bx16 => ?_)
          refine z_putIH (M := M_X1_readOnto) 120 dX1_readOnto_120 p_X1_15 o_37 rfl (u_37_3 G3) (R3.up rfl) (fun h6 E6 G6 R6 => ?_)
          refine z_iconst (M := M_X1_readOnto) 123 dX1_readOnto_123 ?_
          exact z_retI (M := M_X1_readOnto) 124 dX1_readOnto_124 rfl ⟨G6, R6, by omega, by omega, on_er (Zr.symm.trans (kz.symm.trans (bk_er (by unfold rdCl; rw [cif_pos Wx5]; exact Zx6)))) (by have f := Fx6 Ur; rw [if_pos (by omega)] at f; rw [upE E6, ← f]; exact ex16.symm)⟩
    · have LR2 : LR 9 h2 rr := Lr.same (fun i hi j => S2 _ j (fr_out (a := 9) (b := 16) (by decide) (by omega) (by omega) j)) (fun _ _ => rfl)
      have u3_2 : h2 37 3 = h 37 3 := (S2 37 3 rfl).trans rfl
      refine z_if_eq_T (M := M_X1_readOnto) 29 dX1_readOnto_29 41 rfl (by omega) ?_
      refine z_aload_n (M := M_X1_readOnto) 41 dX1_readOnto_41 rfl ?_
      refine z_ldcS (M := M_X1_readOnto) 42 dX1_readOnto_42 (i := 4) rfl rfl rfl ?_
      refine z_vI (M := M_X1_readOnto) 44 dX1_readOnto_44 t_X1_take l_X1_27 (m_rr_of rfl) (rest := []) (c_X1_take2 h2 4 (by decide) G2 Ex5) o_37 rfl rfl rfl (Nat.le_of_ble_eq_true rfl) ⟨rfl, rfl⟩ (fun x17 h7 qx17 => ?_)
      obtain ⟨G7, S7, Ex17, Tx17⟩ := qx17
      have R7 := R2.call S7 (by decide +kernel)
      rcases tkc_ (rowz R2 (fun _ => rfl)) (R2 35 1 rfl) Qx5 Tx17 with ⟨rfl, Wx17, Qx17⟩ | ⟨rfl, Wx17, Qx17⟩
      · have LR7 : LR 9 h7 rr := LR2.same (fun i hi j => S7 _ j (fr_out (a := 9) (b := 16) (by decide) (by omega) (by omega) j)) (fun _ _ => rfl)
        have u3_7 : h7 37 3 = h 37 3 := (S7 37 3 rfl).trans u3_2
        refine z_if_eq_F (M := M_X1_readOnto) 47 dX1_readOnto_47 59 rfl (by omega) ?_
        refine z_aload_n (M := M_X1_readOnto) 50 dX1_readOnto_50 rfl ?_
        refine z_aload_n (M := M_X1_readOnto) 51 dX1_readOnto_51 rfl ?_
        refine z_vI (M := M_X1_readOnto) 52 dX1_readOnto_52 t_X1_readThing l_X1_37 (m_rr_of rfl) (rest := []) (c_X1_readThing2 h7 rr G7 Ex17 LR7) o_37 rfl rfl rfl (Nat.le_of_ble_eq_true rfl) ⟨rfl, rfl⟩ (fun x18 h8 qx18 => ?_)
        obtain ⟨G8, S8, Ex18, Kx18⟩ := qx18
        have R8 := R7.call S8 (by decide +kernel)
        rcases ok_cs (ok_c (F := fun b n q => rdThing b n q rr) (h0 := h) (rowz R7 (fun _ => rfl)) (R7 35 1 rfl) Qx17 u3_7 Kx18) with ⟨px18, Zx18, rfl, Qx18, Lx18, Ux18⟩ | ⟨ex18, Zx18, rfl, Fx18⟩
        · refine z_istore_n (M := M_X1_readOnto) 55 dX1_readOnto_55 (ls' := [some (mR 37), some (mR 9), some (mI l2), some (mI 1)]) (by decide) rfl ?_
          refine z_goto (M := M_X1_readOnto) 56 dX1_readOnto_56 65 rfl ?_
          refine z_iload_n (M := M_X1_readOnto) 65 dX1_readOnto_65 rfl ?_
          refine z_if_eq_F (M := M_X1_readOnto) 66 dX1_readOnto_66 85 rfl (by omega) ?_
          refine z_aload_n (M := M_X1_readOnto) 69 dX1_readOnto_69 rfl ?_
          refine z_getIG (M := M_X1_readOnto) 70 dX1_readOnto_70 f_X1_43 o_37 (by decide) (g_37_1 G8) (fun x19 ex19 ax19 bx19 => ?_)
          refine z_aload_n (M := M_X1_readOnto) 73 dX1_readOnto_73 rfl ?_
          refine z_getR (M := M_X1_readOnto) 74 dX1_readOnto_74 f_X1_9 o_37 rfl (g_37_0 G8) ?_
          refine z_getIG (M := M_X1_readOnto) 77 dX1_readOnto_77 f_X1_46 o_35 (by decide) (g_35_1 G8) (fun x20 ex20 ax20 bx20 => ?_)
          refine z_icmp_lt (M := M_X1_readOnto) 80 dX1_readOnto_80 85 rfl (fun c21 => ?_) (fun c21 => ?_)
          · refine z_iload_n (M := M_X1_readOnto) 85 dX1_readOnto_85 rfl ?_
            refine z_if_eq_F (M := M_X1_readOnto) 86 dX1_readOnto_86 107 rfl (by omega) ?_
            refine z_aload_n (M := M_X1_readOnto) 89 dX1_readOnto_89 rfl ?_
            refine z_ldcS (M := M_X1_readOnto) 90 dX1_readOnto_90 (i := 15) rfl rfl rfl ?_
            refine z_vI (M := M_X1_readOnto) 92 dX1_readOnto_92 t_X1_take l_X1_27 (m_rr_of rfl) (rest := []) (c_X1_take2 h8 15 (by decide) G8 Ex18) o_37 rfl rfl rfl (Nat.le_of_ble_eq_true rfl) ⟨rfl, rfl⟩ (fun x22 h9 qx22 => ?_)
            obtain ⟨G9, S9, Ex22, Tx22⟩ := qx22
            have R9 := R8.call S9 (by decide +kernel)
            rcases tkc_ (rowz R8 (fun _ => rfl)) (R8 35 1 rfl) Qx18 Tx22 with ⟨rfl, Wx22, Qx22⟩ | ⟨rfl, Wx22, Qx22⟩
            · have LR9 : LR 9 h9 px18.2 := Lx18.same (fun i hi j => S9 _ j (fr_out (a := 9) (b := 16) (by decide) (by omega) (by omega) j)) (fun _ _ => rfl)
              have u3_9 : h9 37 3 = h 37 3 := (S9 37 3 rfl).trans Ux18
              refine z_if_ne_T (M := M_X1_readOnto) 95 dX1_readOnto_95 101 rfl (by omega) ?_
              refine z_iincN (M := M_X1_readOnto) 101 dX1_readOnto_101 (ls' := [some (mR 37), some (mR 9), some (mI (l2 + 1)), some (mI 1)]) (by decide) rfl (by (unfold m_32; decide)) (by omega) (by omega) rfl ?_
              refine z_goto (M := M_X1_readOnto) 104 dX1_readOnto_104 16 rfl ?_
              have fst_ : x19 = px18.1.1 := ex19.symm.trans (congrArg Prod.fst Qx18)
              have len_ : h0 35 1 = x20 := (R8 35 1 rfl).symm.trans ex20
              exact z_mask [true, true, true, false] rfl (ih (l2 + 1) h9 G9 R9 (by omega) (by omega) Ex22 ⟨_, LR9, (by rw [Qx22, kf]; exact (bk_nx (by unfold rdCl; rw [cif_neg Wx5, cif_pos Wx17]; exact Zx18) (by omega) Wx22).symm.trans (kz.trans Zr)), u3_9.trans Ur⟩ (by omega))
            · have LR9 : LR 9 h9 px18.2 := Lx18.same (fun i hi j => S9 _ j (fr_out (a := 9) (b := 16) (by decide) (by omega) (by omega) j)) (fun _ _ => rfl)
              have u3_9 : h9 37 3 = h 37 3 := (S9 37 3 rfl).trans Ux18
              refine z_if_ne_F (M := M_X1_readOnto) 95 dX1_readOnto_95 101 rfl (by omega) ?_
              refine z_goto (M := M_X1_readOnto) 98 dX1_readOnto_98 107 rfl ?_
              refine z_aload_n (M := M_X1_readOnto) 107 dX1_readOnto_107 rfl ?_
              refine z_getIV (M := M_X1_readOnto) 108 dX1_readOnto_108 f_X1_15 o_37 (by decide) (fun x23 ex23 => ?_)
              refine z_ok (fun ox23 _ _ => ?_)
              have ox23 := ox23.1; unfold m_ok m_32 at ox23
              refine z_iconst (M := M_X1_readOnto) 111 dX1_readOnto_111 ?_
              refine z_icmp_ne (M := M_X1_readOnto) 112 dX1_readOnto_112 123 rfl (fun c24 => ?_) (fun c24 => ?_)
              · refine z_iconst (M := M_X1_readOnto) 123 dX1_readOnto_123 ?_
                have fst_ : x19 = px18.1.1 := ex19.symm.trans (congrArg Prod.fst Qx18)
                have len_ : h0 35 1 = x20 := (R8 35 1 rfl).symm.trans ex20
                exact z_retI (M := M_X1_readOnto) 124 dX1_readOnto_124 rfl ⟨G9, R9, by omega, by omega, False.elim (by have := u3_9.trans Ur; have := ex23; omega)⟩
              · refine z_aload_n (M := M_X1_readOnto) 115 dX1_readOnto_115 rfl ?_
                refine z_aload_n (M := M_X1_readOnto) 116 dX1_readOnto_116 rfl ?_
                refine z_getIG (M := M_X1_readOnto) 117 dX1_readOnto_117 f_X1_43 o_37 (by decide) (g_37_1 G9) (fun x25 ex25 ax25 bx25 => ?_)
                refine z_putIH (M := M_X1_readOnto) 120 dX1_readOnto_120 p_X1_15 o_37 rfl (u_37_3 G9) (R9.up rfl) (fun h10 E10 G10 R10 => ?_)
                refine z_iconst (M := M_X1_readOnto) 123 dX1_readOnto_123 ?_
                have fst_ : x19 = px18.1.1 := ex19.symm.trans (congrArg Prod.fst Qx18)
                have len_ : h0 35 1 = x20 := (R8 35 1 rfl).symm.trans ex20
                exact z_retI (M := M_X1_readOnto) 124 dX1_readOnto_124 rfl ⟨G10, R10, by omega, by omega, on_er (Zr.symm.trans (kz.symm.trans (bk_no (by unfold rdCl; rw [cif_neg Wx5, cif_pos Wx17]; exact Zx18) (by omega) Wx22))) ((upE E10).trans (ex25.symm.trans (congrArg Prod.fst Qx22)))⟩
          · refine z_iload_n (M := M_X1_readOnto) 83 dX1_readOnto_83 rfl ?_
            have fst_ : x19 = px18.1.1 := ex19.symm.trans (congrArg Prod.fst Qx18)
            have len_ : h0 35 1 = x20 := (R8 35 1 rfl).symm.trans ex20
            exact z_retI (M := M_X1_readOnto) 84 dX1_readOnto_84 rfl ⟨G8, R8, by omega, by omega, on_ok (r := px18.2) (Zr.symm.trans (kz.symm.trans (bk_end (by unfold rdCl; rw [cif_neg Wx5, cif_pos Wx17]; exact Zx18) (by omega)))) (by omega) Lx18 (Ux18.trans Ur)⟩
        · refine z_istore_n (M := M_X1_readOnto) 55 dX1_readOnto_55 (ls' := [some (mR 37), some (mR 9), some (mI l2), some (mI 0)]) (by decide) rfl ?_
          refine z_goto (M := M_X1_readOnto) 56 dX1_readOnto_56 65 rfl ?_
          refine z_iload_n (M := M_X1_readOnto) 65 dX1_readOnto_65 rfl ?_
          refine z_if_eq_T (M := M_X1_readOnto) 66 dX1_readOnto_66 85 rfl (by omega) ?_
          refine z_iload_n (M := M_X1_readOnto) 85 dX1_readOnto_85 rfl ?_
          refine z_if_eq_T (M := M_X1_readOnto) 86 dX1_readOnto_86 107 rfl (by omega) ?_
          refine z_aload_n (M := M_X1_readOnto) 107 dX1_readOnto_107 rfl ?_
          refine z_getIV (M := M_X1_readOnto) 108 dX1_readOnto_108 f_X1_15 o_37 (by decide) (fun x26 ex26 => ?_)
          refine z_ok (fun ox26 _ _ => ?_)
          have ox26 := ox26.1; unfold m_ok m_32 at ox26
          refine z_iconst (M := M_X1_readOnto) 111 dX1_readOnto_111 ?_
          refine z_icmp_ne (M := M_X1_readOnto) 112 dX1_readOnto_112 123 rfl (fun c27 => ?_) (fun c27 => ?_)
          · refine z_iconst (M := M_X1_readOnto) 123 dX1_readOnto_123 ?_
            exact z_retI (M := M_X1_readOnto) 124 dX1_readOnto_124 rfl ⟨G8, R8, by omega, by omega, on_er (Zr.symm.trans (kz.symm.trans (bk_er (by unfold rdCl; rw [cif_neg Wx5, cif_pos Wx17]; exact Zx18)))) (by have f := Fx18 Ur; rw [if_neg (by omega)] at f; exact f)⟩
          · refine z_aload_n (M := M_X1_readOnto) 115 dX1_readOnto_115 rfl ?_
            refine z_aload_n (M := M_X1_readOnto) 116 dX1_readOnto_116 rfl ?_
            refine z_getIG (M := M_X1_readOnto) 117 dX1_readOnto_117 f_X1_43 o_37 (by decide) (g_37_1 G8) (fun x28 ex28 ax28 bx28 => ?_)
            refine z_putIH (M := M_X1_readOnto) 120 dX1_readOnto_120 p_X1_15 o_37 rfl (u_37_3 G8) (R8.up rfl) (fun h11 E11 G11 R11 => ?_)
            refine z_iconst (M := M_X1_readOnto) 123 dX1_readOnto_123 ?_
            exact z_retI (M := M_X1_readOnto) 124 dX1_readOnto_124 rfl ⟨G11, R11, by omega, by omega, on_er (Zr.symm.trans (kz.symm.trans (bk_er (by unfold rdCl; rw [cif_neg Wx5, cif_pos Wx17]; exact Zx18)))) (by have f := Fx18 Ur; rw [if_pos (by omega)] at f; rw [upE E11, ← f]; exact ex28.symm)⟩
      · have LR7 : LR 9 h7 rr := LR2.same (fun i hi j => S7 _ j (fr_out (a := 9) (b := 16) (by decide) (by omega) (by omega) j)) (fun _ _ => rfl)
        have u3_7 : h7 37 3 = h 37 3 := (S7 37 3 rfl).trans u3_2
        refine z_if_eq_T (M := M_X1_readOnto) 47 dX1_readOnto_47 59 rfl (by omega) ?_
        refine z_aload_n (M := M_X1_readOnto) 59 dX1_readOnto_59 rfl ?_
        refine z_aload_n (M := M_X1_readOnto) 60 dX1_readOnto_60 rfl ?_
        refine z_vI (M := M_X1_readOnto) 61 dX1_readOnto_61 t_X1_readShorter l_X1_40 (m_rr_of rfl) (rest := []) (c_X1_readShorter2 h7 rr G7 Ex17 LR7) o_37 rfl rfl rfl (Nat.le_of_ble_eq_true rfl) ⟨rfl, rfl⟩ (fun x29 h12 qx29 => ?_)
        obtain ⟨G12, S12, Ex29, Kx29⟩ := qx29
        have R12 := R7.call S12 (by decide +kernel)
        rcases ok_cs (ok_c (F := fun b n q => rdS3 b n q rr) (h0 := h) (rowz R7 (fun _ => rfl)) (R7 35 1 rfl) Qx17 u3_7 Kx29) with ⟨px29, Zx29, rfl, Qx29, Lx29, Ux29⟩ | ⟨ex29, Zx29, rfl, Fx29⟩
        · refine z_istore_n (M := M_X1_readOnto) 64 dX1_readOnto_64 (ls' := [some (mR 37), some (mR 9), some (mI l2), some (mI 1)]) (by decide) rfl ?_
          refine z_iload_n (M := M_X1_readOnto) 65 dX1_readOnto_65 rfl ?_
          refine z_if_eq_F (M := M_X1_readOnto) 66 dX1_readOnto_66 85 rfl (by omega) ?_
          refine z_aload_n (M := M_X1_readOnto) 69 dX1_readOnto_69 rfl ?_
          refine z_getIG (M := M_X1_readOnto) 70 dX1_readOnto_70 f_X1_43 o_37 (by decide) (g_37_1 G12) (fun x30 ex30 ax30 bx30 => ?_)
          refine z_aload_n (M := M_X1_readOnto) 73 dX1_readOnto_73 rfl ?_
          refine z_getR (M := M_X1_readOnto) 74 dX1_readOnto_74 f_X1_9 o_37 rfl (g_37_0 G12) ?_
          refine z_getIG (M := M_X1_readOnto) 77 dX1_readOnto_77 f_X1_46 o_35 (by decide) (g_35_1 G12) (fun x31 ex31 ax31 bx31 => ?_)
          refine z_icmp_lt (M := M_X1_readOnto) 80 dX1_readOnto_80 85 rfl (fun c32 => ?_) (fun c32 => ?_)
          · refine z_iload_n (M := M_X1_readOnto) 85 dX1_readOnto_85 rfl ?_
            refine z_if_eq_F (M := M_X1_readOnto) 86 dX1_readOnto_86 107 rfl (by omega) ?_
            refine z_aload_n (M := M_X1_readOnto) 89 dX1_readOnto_89 rfl ?_
            refine z_ldcS (M := M_X1_readOnto) 90 dX1_readOnto_90 (i := 15) rfl rfl rfl ?_
            refine z_vI (M := M_X1_readOnto) 92 dX1_readOnto_92 t_X1_take l_X1_27 (m_rr_of rfl) (rest := []) (c_X1_take2 h12 15 (by decide) G12 Ex29) o_37 rfl rfl rfl (Nat.le_of_ble_eq_true rfl) ⟨rfl, rfl⟩ (fun x33 h13 qx33 => ?_)
            obtain ⟨G13, S13, Ex33, Tx33⟩ := qx33
            have R13 := R12.call S13 (by decide +kernel)
            rcases tkc_ (rowz R12 (fun _ => rfl)) (R12 35 1 rfl) Qx29 Tx33 with ⟨rfl, Wx33, Qx33⟩ | ⟨rfl, Wx33, Qx33⟩
            · have LR13 : LR 9 h13 px29.2 := Lx29.same (fun i hi j => S13 _ j (fr_out (a := 9) (b := 16) (by decide) (by omega) (by omega) j)) (fun _ _ => rfl)
              have u3_13 : h13 37 3 = h 37 3 := (S13 37 3 rfl).trans Ux29
              refine z_if_ne_T (M := M_X1_readOnto) 95 dX1_readOnto_95 101 rfl (by omega) ?_
              refine z_iincN (M := M_X1_readOnto) 101 dX1_readOnto_101 (ls' := [some (mR 37), some (mR 9), some (mI (l2 + 1)), some (mI 1)]) (by decide) rfl (by (unfold m_32; decide)) (by omega) (by omega) rfl ?_
              refine z_goto (M := M_X1_readOnto) 104 dX1_readOnto_104 16 rfl ?_
              have fst_ : x30 = px29.1.1 := ex30.symm.trans (congrArg Prod.fst Qx29)
              have len_ : h0 35 1 = x31 := (R12 35 1 rfl).symm.trans ex31
              exact z_mask [true, true, true, false] rfl (ih (l2 + 1) h13 G13 R13 (by omega) (by omega) Ex33 ⟨_, LR13, (by rw [Qx33, kf]; exact (bk_nx (by unfold rdCl; rw [cif_neg Wx5, cif_neg Wx17]; exact Zx29) (by omega) Wx33).symm.trans (kz.trans Zr)), u3_13.trans Ur⟩ (by omega))
            · have LR13 : LR 9 h13 px29.2 := Lx29.same (fun i hi j => S13 _ j (fr_out (a := 9) (b := 16) (by decide) (by omega) (by omega) j)) (fun _ _ => rfl)
              have u3_13 : h13 37 3 = h 37 3 := (S13 37 3 rfl).trans Ux29
              refine z_if_ne_F (M := M_X1_readOnto) 95 dX1_readOnto_95 101 rfl (by omega) ?_
              refine z_goto (M := M_X1_readOnto) 98 dX1_readOnto_98 107 rfl ?_
              refine z_aload_n (M := M_X1_readOnto) 107 dX1_readOnto_107 rfl ?_
              refine z_getIV (M := M_X1_readOnto) 108 dX1_readOnto_108 f_X1_15 o_37 (by decide) (fun x34 ex34 => ?_)
              refine z_ok (fun ox34 _ _ => ?_)
              have ox34 := ox34.1; unfold m_ok m_32 at ox34
              refine z_iconst (M := M_X1_readOnto) 111 dX1_readOnto_111 ?_
              refine z_icmp_ne (M := M_X1_readOnto) 112 dX1_readOnto_112 123 rfl (fun c35 => ?_) (fun c35 => ?_)
              · refine z_iconst (M := M_X1_readOnto) 123 dX1_readOnto_123 ?_
                have fst_ : x30 = px29.1.1 := ex30.symm.trans (congrArg Prod.fst Qx29)
                have len_ : h0 35 1 = x31 := (R12 35 1 rfl).symm.trans ex31
                exact z_retI (M := M_X1_readOnto) 124 dX1_readOnto_124 rfl ⟨G13, R13, by omega, by omega, False.elim (by have := u3_13.trans Ur; have := ex34; omega)⟩
              · refine z_aload_n (M := M_X1_readOnto) 115 dX1_readOnto_115 rfl ?_
                refine z_aload_n (M := M_X1_readOnto) 116 dX1_readOnto_116 rfl ?_
                refine z_getIG (M := M_X1_readOnto) 117 dX1_readOnto_117 f_X1_43 o_37 (by decide) (g_37_1 G13) (fun x36 ex36 ax36 bx36 => ?_)
                refine z_putIH (M := M_X1_readOnto) 120 dX1_readOnto_120 p_X1_15 o_37 rfl (u_37_3 G13) (R13.up rfl) (fun h14 E14 G14 R14 => ?_)
                refine z_iconst (M := M_X1_readOnto) 123 dX1_readOnto_123 ?_
                have fst_ : x30 = px29.1.1 := ex30.symm.trans (congrArg Prod.fst Qx29)
                have len_ : h0 35 1 = x31 := (R12 35 1 rfl).symm.trans ex31
                exact z_retI (M := M_X1_readOnto) 124 dX1_readOnto_124 rfl ⟨G14, R14, by omega, by omega, on_er (Zr.symm.trans (kz.symm.trans (bk_no (by unfold rdCl; rw [cif_neg Wx5, cif_neg Wx17]; exact Zx29) (by omega) Wx33))) ((upE E14).trans (ex36.symm.trans (congrArg Prod.fst Qx33)))⟩
          · refine z_iload_n (M := M_X1_readOnto) 83 dX1_readOnto_83 rfl ?_
            have fst_ : x30 = px29.1.1 := ex30.symm.trans (congrArg Prod.fst Qx29)
            have len_ : h0 35 1 = x31 := (R12 35 1 rfl).symm.trans ex31
            exact z_retI (M := M_X1_readOnto) 84 dX1_readOnto_84 rfl ⟨G12, R12, by omega, by omega, on_ok (r := px29.2) (Zr.symm.trans (kz.symm.trans (bk_end (by unfold rdCl; rw [cif_neg Wx5, cif_neg Wx17]; exact Zx29) (by omega)))) (by omega) Lx29 (Ux29.trans Ur)⟩
        · refine z_istore_n (M := M_X1_readOnto) 64 dX1_readOnto_64 (ls' := [some (mR 37), some (mR 9), some (mI l2), some (mI 0)]) (by decide) rfl ?_
          refine z_iload_n (M := M_X1_readOnto) 65 dX1_readOnto_65 rfl ?_
          refine z_if_eq_T (M := M_X1_readOnto) 66 dX1_readOnto_66 85 rfl (by omega) ?_
          refine z_iload_n (M := M_X1_readOnto) 85 dX1_readOnto_85 rfl ?_
          refine z_if_eq_T (M := M_X1_readOnto) 86 dX1_readOnto_86 107 rfl (by omega) ?_
          refine z_aload_n (M := M_X1_readOnto) 107 dX1_readOnto_107 rfl ?_
          refine z_getIV (M := M_X1_readOnto) 108 dX1_readOnto_108 f_X1_15 o_37 (by decide) (fun x37 ex37 => ?_)
          refine z_ok (fun ox37 _ _ => ?_)
          have ox37 := ox37.1; unfold m_ok m_32 at ox37
          refine z_iconst (M := M_X1_readOnto) 111 dX1_readOnto_111 ?_
          refine z_icmp_ne (M := M_X1_readOnto) 112 dX1_readOnto_112 123 rfl (fun c38 => ?_) (fun c38 => ?_)
          · refine z_iconst (M := M_X1_readOnto) 123 dX1_readOnto_123 ?_
            exact z_retI (M := M_X1_readOnto) 124 dX1_readOnto_124 rfl ⟨G12, R12, by omega, by omega, on_er (Zr.symm.trans (kz.symm.trans (bk_er (by unfold rdCl; rw [cif_neg Wx5, cif_neg Wx17]; exact Zx29)))) (by have f := Fx29 Ur; rw [if_neg (by omega)] at f; exact f)⟩
          · refine z_aload_n (M := M_X1_readOnto) 115 dX1_readOnto_115 rfl ?_
            refine z_aload_n (M := M_X1_readOnto) 116 dX1_readOnto_116 rfl ?_
            refine z_getIG (M := M_X1_readOnto) 117 dX1_readOnto_117 f_X1_43 o_37 (by decide) (g_37_1 G12) (fun x39 ex39 ax39 bx39 => ?_)
            refine z_putIH (M := M_X1_readOnto) 120 dX1_readOnto_120 p_X1_15 o_37 rfl (u_37_3 G12) (R12.up rfl) (fun h15 E15 G15 R15 => ?_)
            refine z_iconst (M := M_X1_readOnto) 123 dX1_readOnto_123 ?_
            exact z_retI (M := M_X1_readOnto) 124 dX1_readOnto_124 rfl ⟨G15, R15, by omega, by omega, on_er (Zr.symm.trans (kz.symm.trans (bk_er (by unfold rdCl; rw [cif_neg Wx5, cif_neg Wx17]; exact Zx29)))) (by have f := Fx29 Ur; rw [if_pos (by omega)] at f; rw [upE E15, ← f]; exact ex39.symm)⟩
theorem a_X1_readOnto2 (h0 : m_H) (r : Nat → Int) (G0 : GI h0) (Rr : LR 9 h0 r) : ∀ n, q_X1_readOnto2 h0 r n := by
  intro n
  induction n with
  | zero => unfold q_X1_readOnto2; intros; omega
  | succ n ih => exact s_X1_readOnto2_16 h0 r G0 Rr n ih
set_option maxHeartbeats 4000000 in
set_option maxRecDepth 100000 in
theorem c_X1_readOnto2 (h0 : m_H) (r : Nat → Int) (G0 : GI h0) (Rr : LR 9 h0 r) : m_CI M_X1_readOnto [mR 37, mR 9] h0 (P_X1_readOnto2 h0 r) := by
  refine m_CI_of ⟨by decide, rfl, by simp [m_arg, m_isL, M_X1_readOnto], ⟨rfl, rfl⟩, rfl, rfl⟩ (ls := [some (mR 37), some (mR 9), none, none]) rfl ?_
  have ih := a_X1_readOnto2 h0 r G0 Rr 808
  refine z_aload_n (M := M_X1_readOnto) 0 dX1_readOnto_0 rfl ?_
  refine z_iconst (M := M_X1_readOnto) 1 dX1_readOnto_1 ?_
  refine z_putIH (M := M_X1_readOnto) 2 dX1_readOnto_2 p_X1_15 o_37 rfl (u_37_3 G0) ((FR.rf (cs := [10, 11, 12, 13, 14, 15]) (ss := [(9, 7), (9, 8), (9, 9), (37, 1), (37, 2), (37, 3)]) (h := h0)).up rfl) (fun h1 E1 G1 R1 => ?_)
  refine z_aload_n (M := M_X1_readOnto) 5 dX1_readOnto_5 rfl ?_
  refine z_iconst (M := M_X1_readOnto) 6 dX1_readOnto_6 ?_
  refine z_putIH (M := M_X1_readOnto) 7 dX1_readOnto_7 p_X1_19 o_37 rfl (u_37_2 G1 (by omega) (by omega)) (R1.up rfl) (fun h2 E2 G2 R2 => ?_)
  refine z_aload_n (M := M_X1_readOnto) 10 dX1_readOnto_10 rfl ?_
  refine z_vV (M := M_X1_readOnto) 11 dX1_readOnto_11 t_X1_advance l_X1_22 (m_rr_of rfl) (rest := []) (c_X1_advance2 h2 G2) o_37 rfl rfl rfl (Nat.le_of_ble_eq_true rfl) ⟨rfl, rfl⟩ (fun h3 qx1 => ?_)
  obtain ⟨G3, S3, Tx1⟩ := qx1
  have R3 := R2.call S3 (by decide +kernel)
  have adx1 := adv_0 S3 Tx1 ((upE E2)) (rowz R2 (fun _ => rfl)) (R2 35 1 rfl)
  have LR3 : LR 9 h3 r := ((Rr.up37 E1).up37 E2).same (fun i hi j => S3 _ j (fr_out (a := 9) (b := 16) (by decide) (by omega) (by omega) j)) (fun _ _ => rfl)
  have u3_3 : h3 37 3 = -1 := (S3 37 3 rfl).trans ((upN E2 (fun z => absurd z.2 (by decide))).trans (upE E1))
  refine z_iconst (M := M_X1_readOnto) 14 dX1_readOnto_14 ?_
  refine z_istore_n (M := M_X1_readOnto) 15 dX1_readOnto_15 (ls' := [some (mR 37), some (mR 9), some (mI 1), none]) (by decide) rfl ?_
  exact z_mask [true, true, true, false] rfl (ih 1 h3 G3 R3 (by omega) (by omega) adx1.1 ⟨r, LR3, (by rw [adx1.2]; rfl), u3_3⟩ (by omega))
/-! the reference's tokens: their sort and worth -/
def cW (b : Nat → Int) (s : Int) : Nat → Int
  | 0 => 0
  | k + 1 => if k < 10 then cW b s k * 32 + b (s + k).toNat - 96 else -1
def dM (b : Nat → Int) (s : Int) : Nat → Int
  | 0 => 0
  | k + 1 => if 1000000 < dM b s k then dM b s k else dM b s k * 10 + b (s + k).toNat - 48
theorem cW_10 {b : Nat → Int} {s : Int} {k : Nat} (h : 10 < k) : cW b s k = -1 := by
  obtain ⟨j, rfl⟩ : ∃ j, k = j + 1 := ⟨k - 1, by omega⟩
  unfold cW; rw [if_neg (by omega)]
theorem cW_s {b : Nat → Int} {s : Int} {k : Nat} (h : k < 10) : cW b s (k + 1) = cW b s k * 32 + b (s + k).toNat - 96 := by
  conv => lhs; unfold cW
  rw [if_pos h]
def Lt (b : Nat → Int) (s : Int) (k : Nat) : Prop := ∀ i : Nat, i < k → 97 ≤ b (s + i).toNat ∧ b (s + i).toNat ≤ 122
theorem cW_b {b : Nat → Int} {s : Int} : ∀ k : Nat, k ≤ 10 → Lt b s k → 0 ≤ cW b s k ∧ cW b s k < 32 ^ k ∧ (1 ≤ k → 32 ^ (k - 1) ≤ cW b s k)
  | 0, _, _ => ⟨Int.le_refl _, (show (0 : Int) < 1 by decide), fun h => by omega⟩
  | k + 1, hk, L => by
    obtain ⟨i1, i2, i3⟩ := cW_b k (by omega) (fun i hi => L i (by omega))
    have z := L k (by omega)
    rw [cW_s (by omega)]
    have e : (32 : Int) ^ (k + 1) = 32 ^ k * 32 := by rw [Int.pow_succ]
    refine ⟨by omega, by rw [e]; omega, fun _ => ?_⟩
    rw [show k + 1 - 1 = k by omega]
    by_cases g : 1 ≤ k
    · have e2 : (32 : Int) ^ k = 32 ^ (k - 1) * 32 := by rw [← Int.pow_succ]; congr 1; omega
      have := i3 g
      rw [e2]; omega
    · have e3 : k = 0 := by omega
      subst e3
      show (1 : Int) ≤ _
      omega
theorem cW_r {b : Nat → Int} {s : Int} {k : Nat} (L : Lt b s k) : -1 ≤ cW b s k ∧ cW b s k ≤ 1125899906842624 := by
  by_cases g : 10 < k
  · rw [cW_10 g]; decide
  · obtain ⟨i1, i2, _⟩ := cW_b k (by omega) L
    have : (32 : Int) ^ k ≤ 32 ^ 10 := by
      have h := Nat.pow_le_pow_right (show 0 < 32 by decide) (show k ≤ 10 by omega)
      exact_mod_cast h
    have e : (32 : Int) ^ 10 = 1125899906842624 := by decide
    omega
/-- which code is which word: by its letters, the last one first -/
def cod : List Int → Int
  | [] => 0
  | l :: ls => cod ls * 32 + (l - 96)
theorem spell {b : Nat → Int} {s : Int} : ∀ (ls : List Int) (k : Nat), (∀ l ∈ ls, 97 ≤ l ∧ l ≤ 122) → k ≤ 10 → ls.length ≤ 10 → Lt b s k → (cW b s k = cod ls ↔ k = ls.length ∧ ∀ i : Nat, i < ls.length → b (s + (ls.length - 1 - i : Nat)).toNat = ls.getD i 0)
  | [], 0, _, _, _, _ => by
    constructor
    · intro _; exact ⟨rfl, fun i hi => absurd hi (Nat.not_lt_zero _)⟩
    · intro _; rfl
  | [], k + 1, _, hk, _, L => by
    have z := cW_b (k + 1) hk L
    have z3 := z.2.2 (by omega)
    have p : (0 : Int) < 32 ^ (k + 1 - 1) := Int.pow_pos (by decide)
    constructor
    · intro h; rw [h] at z3; unfold cod at z3; omega
    · intro h; exact absurd h.1 (by simp)
  | l :: ls, 0, hl, _, _, _ => by
    have z := hl l List.mem_cons_self
    constructor
    · intro h
      have q : ∀ xs : List Int, (∀ x ∈ xs, 97 ≤ x ∧ x ≤ 122) → 0 ≤ cod xs := by
        intro xs
        induction xs with
        | nil => intro _; exact Int.le_refl _
        | cons x xs ih =>
          intro hx
          have a := ih (fun y hy => hx y (List.mem_cons_of_mem _ hy))
          have c := hx x List.mem_cons_self
          unfold cod; omega
      have q2 := q ls (fun y hy => hl y (List.mem_cons_of_mem _ hy))
      have h' : (0 : Int) = cod ls * 32 + (l - 96) := h
      omega
    · intro h; exact absurd h.1 (by simp)
  | l :: ls, k + 1, hl, hk, hn, L => by
    have z := hl l List.mem_cons_self
    have w := L k (by omega)
    have ih := spell ls k (fun y hy => hl y (List.mem_cons_of_mem _ hy)) (by omega) (by simp at hn; omega) (fun i hi => L i (by omega))
    rw [cW_s (by omega)]
    have e1 : cod (l :: ls) = cod ls * 32 + (l - 96) := rfl
    rw [e1]
    constructor
    · intro h
      have h1 : b (s + (k : Nat)).toNat = l := by omega
      have h2 : cW b s k = cod ls := by omega
      obtain ⟨u, v⟩ := ih.mp h2
      refine ⟨by simp [u], fun i hi => ?_⟩
      cases i with
      | zero =>
        have e2 : (l :: ls).length - 1 - 0 = k := by simp [u]
        rw [e2]; exact h1
      | succ i =>
        have hi' : i < ls.length := by simpa using hi
        have e2 : (l :: ls).length - 1 - (i + 1) = ls.length - 1 - i := by simp; omega
        rw [e2]
        exact v i hi'
    · rintro ⟨u, v⟩
      have u' : k = ls.length := by simpa using u
      have h2 : cW b s k = cod ls := ih.mpr ⟨u', fun i hi => by
        have q := v (i + 1) (by simpa using hi)
        have e2 : (l :: ls).length - 1 - (i + 1) = ls.length - 1 - i := by simp; omega
        rw [e2] at q
        exact q⟩
      have q := v 0 (by simp)
      have e2 : (l :: ls).length - 1 - 0 = k := by simp [u']
      rw [e2] at q
      have q' : b (s + (k : Nat)).toNat = l := q
      omega
/-- the digits -/
theorem dM_c {b : Nat → Int} {s : Int} : ∀ k : Nat, (∀ i : Nat, i < k → 48 ≤ b (s + i).toNat ∧ b (s + i).toNat ≤ 57) → 0 ≤ dM b s k ∧ dM b s k ≤ 10000009 ∧ ((dC b s k < 1000 ∧ dM b s k = dC b s k) ∨ (dC b s k = 1000 ∧ 1000 ≤ dM b s k))
  | 0, _ => ⟨Int.le_refl _, (show (0 : Int) ≤ 10000009 by decide), Or.inl ⟨(show (0 : Int) < 1000 by decide), rfl⟩⟩
  | k + 1, D => by
    obtain ⟨i1, i2, i3⟩ := dM_c k (fun i hi => D i (by omega))
    have c := dC_b (b := b) (s := s) k (fun j hj => (D j (by omega)).1)
    have z := D k (by omega)
    have e1 : dM b s (k + 1) = if 1000000 < dM b s k then dM b s k else dM b s k * 10 + b (s + k).toNat - 48 := rfl
    have e2 : dC b s (k + 1) = if 10 * dC b s k + b (s + k).toNat - 48 < 1000 then 10 * dC b s k + b (s + k).toNat - 48 else 1000 := rfl
    rw [e1, e2]
    by_cases g : 1000000 < dM b s k
    · rw [if_pos g]
      have g2 : dC b s k = 1000 := by omega
      rw [g2, if_neg (by omega)]
      exact ⟨i1, i2, Or.inr ⟨rfl, by omega⟩⟩
    · rw [if_neg g]
      refine ⟨by omega, by omega, ?_⟩
      by_cases g2 : 10 * dC b s k + b (s + k).toNat - 48 < 1000
      · rw [if_pos g2]; left; omega
      · rw [if_neg g2]; right; omega
def srt (b : Nat → Int) (n s : Int) : Int := if s < n then (if fam (b s.toNat) = 1 then 1 else if fam (b s.toNat) = 2 then 2 else 3) else 0
def TKm (b : Nat → Int) (n s e t w : Int) : Prop := t = srt b n s ∧ (t = 1 → w = cW b s (e - s).toNat) ∧ (t = 2 → w = dM b s (e - s).toNat) ∧ (t = 3 → w = b s.toNat)
def Qm (h : m_H) : Int × Int := (h 108 9, h 108 10)
def MTk (h : m_H) : Prop := En (h 113) (h 108 8) (h 108 9) (h 108 10) ∧ TKm (h 113) (h 108 8) (h 108 9) (h 108 10) (h 108 11) (h 108 12) ∧ h 108 9 ≤ h 108 10 ∧ h 108 10 ≤ h 108 8
theorem cod_0 : ∀ xs : List Int, (∀ x ∈ xs, 97 ≤ x ∧ x ≤ 122) → 0 ≤ cod xs
  | [], _ => Int.le_refl _
  | x :: xs, hx => by
    have a := cod_0 xs (fun y hy => hx y (List.mem_cons_of_mem _ hy))
    have c := hx x List.mem_cons_self
    unfold cod; omega
theorem srt_1 {b : Nat → Int} {n s : Int} : srt b n s = 1 ↔ s < n ∧ fam (b s.toNat) = 1 := by
  unfold srt
  by_cases h : s < n
  · rw [if_pos h]
    rcases fam_b (b s.toNat) with g | g | g
    · rw [g]; simp
    · rw [g]; simp [h]
    · rw [g]; simp
  · rw [if_neg h]; omega
theorem srt_2 {b : Nat → Int} {n s : Int} : srt b n s = 2 ↔ s < n ∧ fam (b s.toNat) = 2 := by
  unfold srt
  by_cases h : s < n
  · rw [if_pos h]
    rcases fam_b (b s.toNat) with g | g | g
    · rw [g]; simp
    · rw [g]; simp
    · rw [g]; simp [h]
  · rw [if_neg h]; omega
theorem srt_3 {b : Nat → Int} {n s : Int} : srt b n s = 3 ↔ s < n ∧ fam (b s.toNat) = 0 := by
  unfold srt
  by_cases h : s < n
  · rw [if_pos h]
    rcases fam_b (b s.toNat) with g | g | g
    · rw [g]; simp [h]
    · rw [g]; simp
    · rw [g]; simp
  · rw [if_neg h]; omega
theorem srt_0 {b : Nat → Int} {n s : Int} : srt b n s = 0 ↔ n ≤ s := by
  unfold srt
  by_cases h : s < n
  · rw [if_pos h]
    rcases fam_b (b s.toNat) with g | g | g
    · rw [g]; simp; omega
    · rw [g]; simp; omega
    · rw [g]; simp; omega
  · rw [if_neg h]; omega
theorem mw {b : Nat → Int} {n s e t v : Int} {w : Nat} (ls : List Int) (hs0 : 0 ≤ s) (E : En b n s e) (T : TKm b n s e t v) (hl : ∀ l ∈ ls, 97 ≤ l ∧ l ≤ 122) (hn : ls.length ≤ 10) (h1 : 1 ≤ ls.length) (hw : slen w = (ls.length : Nat)) (hsc : ∀ i : Nat, i < ls.length → sch w ((ls.length - 1 - i : Nat) : Int) = ls.getD i 0) (hmem : ∀ i : Nat, i < ls.length → 97 ≤ sch w (i : Int) ∧ sch w (i : Int) ≤ 122) : isW b (s, e) w ↔ (t = 1 ∧ v = cod ls) := by
  obtain ⟨t0, t1, t2, t3⟩ := T
  constructor
  · rintro ⟨u, x⟩
    have u' : e - s = (ls.length : Nat) := by rw [← hw]; exact u
    have x' : ∀ i : Nat, i < ls.length → b (s + i).toNat = sch w i := fun i hi => x i (by rw [hw]; omega)
    have b0 := x' 0 (by omega)
    have m0 := hmem 0 (by omega)
    have e0 : (s + ((0 : Nat) : Int)).toNat = s.toNat := by omega
    rw [e0] at b0
    have f0 : fam (b s.toNat) = 1 := by rw [b0]; exact fam_1 m0.1 m0.2
    have hsn : s < n := by
      rcases E with ⟨a1, a2⟩ | ⟨a1, _⟩ | ⟨a1, _⟩
      · omega
      · exact a1
      · exact a1
    have ht : t = 1 := by rw [t0]; exact srt_1.mpr ⟨hsn, f0⟩
    refine ⟨ht, ?_⟩
    rw [t1 ht, show (e - s).toNat = ls.length by omega]
    have L : Lt b s ls.length := fun i hi => by rw [x' i hi]; exact hmem i hi
    exact (spell ls ls.length hl hn hn L).mpr ⟨rfl, fun i hi => by rw [x' _ (by omega)]; exact hsc i hi⟩
  · rintro ⟨ht, hv⟩
    obtain ⟨hsn, f0⟩ := srt_1.mp (t0.symm.trans ht)
    have hE : s < e ∧ ∀ j : Nat, s ≤ (j : Int) → (j : Int) < e → fam (b j) = 1 := by
      rcases E with ⟨a1, a2⟩ | ⟨_, a2, _⟩ | ⟨_, _, a3, _, a5, _⟩
      · omega
      · omega
      · exact ⟨a3, fun j u v => (a5 j u v).trans f0⟩
    have L : Lt b s (e - s).toNat := fun i hi => fam_l.mp (hE.2 _ (by omega) (by omega))
    rw [t1 ht] at hv
    by_cases g : 10 < (e - s).toNat
    · rw [cW_10 g] at hv
      have := cod_0 ls hl
      omega
    · obtain ⟨k1, k2⟩ := (spell ls _ hl (by omega) hn L).mp hv
      refine ⟨by show e - s = slen w; rw [hw]; omega, fun i hi => ?_⟩
      show b (s + i).toNat = sch w i
      rw [hw] at hi
      have q := k2 (ls.length - 1 - i) (by omega)
      have z := hsc (ls.length - 1 - i) (by omega)
      rw [show ls.length - 1 - (ls.length - 1 - i) = i by omega] at q z
      rw [q, z]
theorem sgw {b : Nat → Int} {n s e t v c : Int} {w : Nat} (hs0 : 0 ≤ s) (E : En b n s e) (T : TKm b n s e t v) (hw : slen w = 1) (hc : sch w 0 = c) (hf : fam c = 0) : isW b (s, e) w ↔ (t = 3 ∧ v = c) := by
  obtain ⟨t0, t1, t2, t3⟩ := T
  constructor
  · rintro ⟨u, x⟩
    have u' : e - s = 1 := by rw [← hw]; exact u
    have x' := x 0 (by rw [hw]; decide)
    have e0 : (s + ((0 : Nat) : Int)).toNat = s.toNat := by omega
    have b0 : b s.toNat = c := by rw [← e0]; exact x'.trans hc
    have hsn : s < n := by
      rcases E with ⟨a1, a2⟩ | ⟨a1, _⟩ | ⟨a1, _⟩
      · omega
      · exact a1
      · exact a1
    have ht : t = 3 := by rw [t0]; exact srt_3.mpr ⟨hsn, by rw [b0]; exact hf⟩
    exact ⟨ht, (t3 ht).trans b0⟩
  · rintro ⟨ht, hv⟩
    obtain ⟨hsn, f0⟩ := srt_3.mp (t0.symm.trans ht)
    have he : e = s + 1 := by
      rcases E with ⟨a1, a2⟩ | ⟨_, _, a3⟩ | ⟨_, a2, _⟩
      · omega
      · exact a3
      · exact absurd f0 a2
    refine ⟨by show e - s = slen w; rw [hw]; omega, fun i hi => ?_⟩
    rw [hw] at hi
    have hi0 : i = 0 := by omega
    subst hi0
    show b (s + ((0 : Nat) : Int)).toNat = sch w 0
    rw [show (s + ((0 : Nat) : Int)).toNat = s.toNat by omega, hc, ← hv]; exact (t3 ht).symm
theorem nk {b : Nat → Int} {n s e t v lo hi : Int} (hs0 : 0 ≤ s) (E : En b n s e) (T : TKm b n s e t v) (h0 : 0 ≤ lo) (h1 : hi ≤ 999) : (nOk b n (s, e) lo hi ↔ (t = 2 ∧ lo ≤ v ∧ v ≤ hi)) ∧ ((t = 2 ∧ lo ≤ v ∧ v ≤ hi) → v = num b (s, e)) := by
  obtain ⟨t0, t1, t2, t3⟩ := T
  have key : s < n → fam (b s.toNat) = 2 → (dC b s (e - s).toNat < 1000 ∧ dM b s (e - s).toNat = dC b s (e - s).toNat) ∨ (dC b s (e - s).toNat = 1000 ∧ 1000 ≤ dM b s (e - s).toNat) := fun hsn f0 => by
    have hE : ∀ j : Nat, s ≤ (j : Int) → (j : Int) < e → fam (b j) = 2 := by
      rcases E with ⟨a1, a2⟩ | ⟨_, a2, _⟩ | ⟨_, _, a3, _, a5, _⟩
      · omega
      · omega
      · exact fun j u v => (a5 j u v).trans f0
    exact (dM_c _ (fun i hi => fam_d.mp (hE _ (by omega) (by omega)))).2.2
  have nn : num b (s, e) = dC b s (e - s).toNat := rfl
  refine ⟨⟨?_, ?_⟩, ?_⟩
  · rintro ⟨a1, a2, a3, a4⟩
    have ht : t = 2 := by rw [t0]; exact srt_2.mpr ⟨a1, a2⟩
    rw [nn] at a3 a4
    rw [t2 ht]
    rcases key a1 a2 with ⟨k1, k2⟩ | ⟨k1, k2⟩
    · exact ⟨ht, by omega, by omega⟩
    · omega
  · rintro ⟨ht, a3, a4⟩
    obtain ⟨a1, a2⟩ := srt_2.mp (t0.symm.trans ht)
    rw [t2 ht] at a3 a4
    refine ⟨a1, a2, ?_, ?_⟩ <;> rw [nn] <;> rcases key a1 a2 with ⟨k1, k2⟩ | ⟨k1, k2⟩ <;> omega
  · rintro ⟨ht, a3, a4⟩
    obtain ⟨a1, a2⟩ := srt_2.mp (t0.symm.trans ht)
    rw [t2 ht] at a3 a4
    rw [t2 ht, nn]
    rcases key a1 a2 with ⟨k1, k2⟩ | ⟨k1, k2⟩ <;> omega
theorem mw_0 {h : m_H} (M : MTk h) (h0 : 0 ≤ h 108 9) : isW (h 113) (Qm h) 0 ↔ (h 108 11 = 1 ∧ h 108 12 = 758955) := mw [107, 101, 101, 119] h0 M.1 M.2.1 (by decide) (by decide) (by decide) (by decide +kernel) (by decide +kernel) (by decide +kernel)
theorem mw_1 {h : m_H} (M : MTk h) (h0 : 0 ≤ h 108 9) : isW (h 113) (Qm h) 1 ↔ (h 108 11 = 1 ∧ h 108 12 = 655) := mw [111, 116] h0 M.1 M.2.1 (by decide) (by decide) (by decide) (by decide +kernel) (by decide +kernel) (by decide +kernel)
theorem mw_2 {h : m_H} (M : MTk h) (h0 : 0 ≤ h 108 9) : isW (h 113) (Qm h) 2 ↔ (h 108 11 = 1 ∧ h 108 12 = 89) := mw [121, 98] h0 M.1 M.2.1 (by decide) (by decide) (by decide) (by decide +kernel) (by decide +kernel) (by decide +kernel)
theorem mw_3 {h : m_H} (M : MTk h) (h0 : 0 ≤ h 108 9) : isW (h 113) (Qm h) 3 ↔ (h 108 11 = 1 ∧ h 108 12 = 485571737) := mw [121, 100, 111, 98, 111, 110] h0 M.1 M.2.1 (by decide) (by decide) (by decide) (by decide +kernel) (by decide +kernel) (by decide +kernel)
theorem mw_4 {h : m_H} (M : MTk h) (h0 : 0 ≤ h 108 9) : isW (h 113) (Qm h) 4 ↔ (h 108 11 = 1 ∧ h 108 12 = 21243335) := mw [103, 110, 105, 104, 116] h0 M.1 M.2.1 (by decide) (by decide) (by decide) (by decide +kernel) (by decide +kernel) (by decide +kernel)
theorem mw_5 {h : m_H} (M : MTk h) (h0 : 0 ≤ h 108 9) : isW (h 113) (Qm h) 5 ↔ (h 108 11 = 1 ∧ h 108 12 = 3764) := mw [116, 117, 99] h0 M.1 M.2.1 (by decide) (by decide) (by decide) (by decide +kernel) (by decide +kernel) (by decide +kernel)
theorem mw_6 {h : m_H} (M : MTk h) (h0 : 0 ≤ h 108 9) : isW (h 113) (Qm h) 6 ↔ (h 108 11 = 1 ∧ h 108 12 = 14866610) := mw [114, 101, 118, 101, 110] h0 M.1 M.2.1 (by decide) (by decide) (by decide) (by decide +kernel) (by decide +kernel) (by decide +kernel)
theorem mw_7 {h : m_H} (M : MTk h) (h0 : 0 ≤ h 108 9) : isW (h 113) (Qm h) 7 ↔ (h 108 11 = 1 ∧ h 108 12 = 302) := mw [110, 105] h0 M.1 M.2.1 (by decide) (by decide) (by decide) (by decide +kernel) (by decide +kernel) (by decide +kernel)
theorem mw_8 {h : m_H} (M : MTk h) (h0 : 0 ≤ h 108 9) : isW (h 113) (Qm h) 8 ↔ (h 108 11 = 1 ∧ h 108 12 = 307) := mw [115, 105] h0 M.1 M.2.1 (by decide) (by decide) (by decide) (by decide +kernel) (by decide +kernel) (by decide +kernel)
theorem mw_9 {h : m_H} (M : MTk h) (h0 : 0 ≤ h 108 9) : isW (h 113) (Qm h) 9 ↔ (h 108 11 = 1 ∧ h 108 12 = 24395141) := mw [101, 108, 111, 104, 119] h0 M.1 M.2.1 (by decide) (by decide) (by decide) (by decide +kernel) (by decide +kernel) (by decide +kernel)
theorem mw_10 {h : m_H} (M : MTk h) (h0 : 0 ≤ h 108 9) : isW (h 113) (Qm h) 10 ↔ (h 108 11 = 1 ∧ h 108 12 = 263558) := mw [102, 108, 97, 104] h0 M.1 M.2.1 (by decide) (by decide) (by decide) (by decide +kernel) (by decide +kernel) (by decide +kernel)
theorem mw_11 {h : m_H} (M : MTk h) (h0 : 0 ≤ h 108 9) : isW (h 113) (Qm h) 11 ↔ (h 108 11 = 1 ∧ h 108 12 = 6030452) := mw [116, 99, 97, 120, 101] h0 M.1 M.2.1 (by decide) (by decide) (by decide) (by decide +kernel) (by decide +kernel) (by decide +kernel)
theorem mw_12 {h : m_H} (M : MTk h) (h0 : 0 ≤ h 108 9) : isW (h 113) (Qm h) 12 ↔ (h 108 11 = 3 ∧ h 108 12 = 44) := sgw h0 M.1 M.2.1 (by decide +kernel) (by decide +kernel) (by decide)
theorem mw_13 {h : m_H} (M : MTk h) (h0 : 0 ≤ h 108 9) : isW (h 113) (Qm h) 13 ↔ (h 108 11 = 1 ∧ h 108 12 = 374522034) := mw [114, 101, 112, 101, 101, 107] h0 M.1 M.2.1 (by decide) (by decide) (by decide) (by decide +kernel) (by decide +kernel) (by decide +kernel)
theorem mw_14 {h : m_H} (M : MTk h) (h0 : 0 ≤ h 108 9) : isW (h 113) (Qm h) 14 ↔ (h 108 11 = 1 ∧ h 108 12 = 2273783) := mw [119, 111, 108, 101, 98] h0 M.1 M.2.1 (by decide) (by decide) (by decide) (by decide +kernel) (by decide +kernel) (by decide +kernel)
theorem mw_15 {h : m_H} (M : MTk h) (h0 : 0 ≤ h 108 9) : isW (h 113) (Qm h) 15 ↔ (h 108 11 = 3 ∧ h 108 12 = 59) := sgw h0 M.1 M.2.1 (by decide +kernel) (by decide +kernel) (by decide)
def Dg (b : Nat → Int) (s : Int) (k : Nat) : Prop := ∀ i : Nat, i < k → 48 ≤ b (s + i).toNat ∧ b (s + i).toNat ≤ 57
def M1 (b : Nat → Int) (n s e t w : Int) : Prop := (t = 0 ∧ n ≤ s ∧ e = s) ∨ (t = 3 ∧ s < n ∧ fam (b s.toNat) = 0 ∧ e = s + 1 ∧ w = b s.toNat) ∨ (t = 2 ∧ s < n ∧ fam (b s.toNat) = 2 ∧ e = s ∧ w = 0) ∨ (t = 1 ∧ s < n ∧ fam (b s.toNat) = 1 ∧ s ≤ e ∧ e ≤ n ∧ Lt b s (e - s).toNat ∧ w = cW b s (e - s).toNat)
def M2 (b : Nat → Int) (n s e t w : Int) : Prop := (t = 0 ∧ n ≤ s ∧ e = s) ∨ (t = 3 ∧ s < n ∧ fam (b s.toNat) = 0 ∧ e = s + 1 ∧ w = b s.toNat) ∨ (t = 1 ∧ s < n ∧ fam (b s.toNat) = 1 ∧ s < e ∧ e ≤ n ∧ Lt b s (e - s).toNat ∧ w = cW b s (e - s).toNat ∧ (e < n → fam (b e.toNat) ≠ 1)) ∨ (t = 2 ∧ s < n ∧ fam (b s.toNat) = 2 ∧ s ≤ e ∧ e ≤ n ∧ Dg b s (e - s).toNat ∧ w = dM b s (e - s).toNat)
theorem M1_0 {b : Nat → Int} {n s w : Int} (h : n ≤ s) : M1 b n s s 0 w := Or.inl ⟨rfl, h, rfl⟩
theorem M1_1 {b : Nat → Int} {n s x : Int} (h : s < n) (eb : b s.toNat = x) (c : 97 ≤ x ∧ x ≤ 122) : M1 b n s s 1 0 := by
  refine Or.inr (Or.inr (Or.inr ⟨rfl, h, by rw [eb]; exact fam_1 c.1 c.2, Int.le_refl _, by omega, ?_, ?_⟩))
  · rw [Int.sub_self]; exact fun i hi => absurd hi (Nat.not_lt_zero _)
  · rw [Int.sub_self]; rfl
theorem M1_2 {b : Nat → Int} {n s x : Int} (h : s < n) (eb : b s.toNat = x) (c : 48 ≤ x ∧ x ≤ 57) : M1 b n s s 2 0 := Or.inr (Or.inr (Or.inl ⟨rfl, h, by rw [eb]; exact fam_2 c.1 c.2, rfl, rfl⟩))
theorem M1_3 {b : Nat → Int} {n s x : Int} (h : s < n) (eb : b s.toNat = x) (c : ¬ (97 ≤ x ∧ x ≤ 122)) (d : ¬ (48 ≤ x ∧ x ≤ 57)) : M1 b n s (s + 1) 3 x := Or.inr (Or.inl ⟨rfl, h, by rw [eb]; exact fam_0 c d, rfl, eb.symm⟩)
theorem M1_s {b : Nat → Int} {n s e t w w' x : Int} (i : M1 b n s e t w) (hs : 0 ≤ s) (ht : t = 1) (he : e < n) (eb : b e.toNat = x) (c : 97 ≤ x ∧ x ≤ 122) (hw : (e - s < 10 ∧ w' = w * 32 + x - 96) ∨ (10 ≤ e - s ∧ w' = -1)) : M1 b n s (e + 1) t w' ∧ (-1 ≤ w' ∧ w' ≤ 1125899906842624) := by
  rcases i with ⟨a, _⟩ | ⟨a, _⟩ | ⟨a, _⟩ | ⟨_, i1, i2, i3, i4, i5, i6⟩
  · omega
  · omega
  · omega
  have e1 : (e + 1 - s).toNat = (e - s).toNat + 1 := by omega
  have e2 : (s + ((e - s).toNat : Nat)).toNat = e.toNat := by omega
  have L : Lt b s (e + 1 - s).toNat := by
    rw [e1]
    intro j hj
    by_cases g : j = (e - s).toNat
    · rw [g, e2, eb]; exact c
    · exact i5 j (by omega)
  have v : w' = cW b s (e + 1 - s).toNat := by
    rw [e1]
    rcases hw with ⟨g, q⟩ | ⟨g, q⟩
    · rw [cW_s (by omega), e2, eb, ← i6]; exact q
    · rw [cW_10 (by omega)]; exact q
  exact ⟨Or.inr (Or.inr (Or.inr ⟨ht, i1, i2, by omega, by omega, L, v⟩)), by rw [v]; exact cW_r L⟩
theorem M1_e {b : Nat → Int} {n s e t w : Int} (i : M1 b n s e t w) (hs : 0 ≤ s) (h : t = 1 → e < n → fam (b e.toNat) ≠ 1) : M2 b n s e t w := by
  rcases i with a | a | ⟨a, i1, i2, i3, i4⟩ | ⟨a, i1, i2, i3, i4, i5, i6⟩
  · exact Or.inl a
  · exact Or.inr (Or.inl a)
  · refine Or.inr (Or.inr (Or.inr ⟨a, i1, i2, by omega, by omega, ?_, ?_⟩))
    · rw [i3, Int.sub_self]; exact fun i hi => absurd hi (Nat.not_lt_zero _)
    · rw [i3, Int.sub_self]; exact i4
  · refine Or.inr (Or.inr (Or.inl ⟨a, i1, i2, ?_, i4, i5, i6, h a⟩))
    by_cases g : s = e
    · rw [g] at i1 i2; exact absurd i2 (h a i1)
    · omega
theorem M2_s {b : Nat → Int} {n s e t w w' x : Int} (i : M2 b n s e t w) (hs : 0 ≤ s) (ht : t = 2) (he : e < n) (eb : b e.toNat = x) (c : 48 ≤ x ∧ x ≤ 57) (hw : (1000000 < w ∧ w' = w) ∨ (w ≤ 1000000 ∧ w' = w * 10 + x - 48)) : M2 b n s (e + 1) t w' ∧ (-1 ≤ w' ∧ w' ≤ 1125899906842624) := by
  rcases i with ⟨a, _⟩ | ⟨a, _⟩ | ⟨a, _⟩ | ⟨_, i1, i2, i3, i4, i5, i6⟩
  · omega
  · omega
  · omega
  have e1 : (e + 1 - s).toNat = (e - s).toNat + 1 := by omega
  have e2 : (s + ((e - s).toNat : Nat)).toNat = e.toNat := by omega
  have L : Dg b s (e + 1 - s).toNat := by
    rw [e1]
    intro j hj
    by_cases g : j = (e - s).toNat
    · rw [g, e2, eb]; exact c
    · exact i5 j (by omega)
  have v : w' = dM b s (e + 1 - s).toNat := by
    rw [e1]
    show w' = if 1000000 < dM b s (e - s).toNat then _ else dM b s (e - s).toNat * 10 + b (s + ((e - s).toNat : Nat)).toNat - 48
    rw [e2, eb, ← i6]
    rcases hw with ⟨g, q⟩ | ⟨g, q⟩
    · rw [if_pos g]; exact q
    · rw [if_neg (by omega)]; exact q
  have z := dM_c _ L
  exact ⟨Or.inr (Or.inr (Or.inr ⟨ht, i1, i2, by omega, by omega, L, v⟩)), by rw [v]; omega⟩
theorem M2_e {b : Nat → Int} {n p s e t w : Int} {h' : m_H} (K : Sk b n p s) (i : M2 b n s e t w) (hs : 0 ≤ s) (hl : s ≤ e ∧ e ≤ n) (h : t = 2 → e < n → fam (b e.toNat) ≠ 2) (r : h' 113 = b) (e8 : h' 108 8 = n) (e9 : h' 108 9 = s) (e10 : h' 108 10 = e) (e11 : h' 108 11 = t) (e12 : h' 108 12 = w) : Tok b n p (Qm h') ∧ MTk h' := by
  have E : En b n s e := by
    rcases i with ⟨a, i1, i2⟩ | ⟨a, i1, i2, i3, i4⟩ | ⟨a, i1, i2, i3, i4, i5, i6, i7⟩ | ⟨a, i1, i2, i3, i4, i5, i6⟩
    · exact Or.inl ⟨i1, i2⟩
    · exact Or.inr (Or.inl ⟨i1, i2, i3⟩)
    · refine Or.inr (Or.inr ⟨i1, by omega, i3, i4, fun j u v => ?_, fun u => by rw [i2]; exact i7 u⟩)
      have z := i5 (j - s.toNat) (by omega)
      rw [show (s + ((j - s.toNat : Nat) : Int)).toNat = j by omega] at z
      rw [i2]; exact fam_1 z.1 z.2
    · have g : s < e := by
        by_cases g : s = e
        · rw [g] at i1 i2; exact absurd i2 (h a i1)
        · omega
      refine Or.inr (Or.inr ⟨i1, by omega, g, i4, fun j u v => ?_, fun u => by rw [i2]; exact h a u⟩)
      have z := i5 (j - s.toNat) (by omega)
      rw [show (s + ((j - s.toNat : Nat) : Int)).toNat = j by omega] at z
      rw [i2]; exact fam_2 z.1 z.2
  have T : TKm b n s e t w := by
    rcases i with ⟨a, i1, i2⟩ | ⟨a, i1, i2, i3, i4⟩ | ⟨a, i1, i2, i3, i4, i5, i6, i7⟩ | ⟨a, i1, i2, i3, i4, i5, i6⟩
    · exact ⟨by rw [a, srt_0.mpr i1], fun z => by omega, fun z => by omega, fun z => by omega⟩
    · exact ⟨by rw [a, srt_3.mpr ⟨i1, i2⟩], fun z => by omega, fun z => by omega, fun _ => i4⟩
    · exact ⟨by rw [a, srt_1.mpr ⟨i1, i2⟩], fun _ => i6, fun z => by omega, fun z => by omega⟩
    · exact ⟨by rw [a, srt_2.mpr ⟨i1, i2⟩], fun z => by omega, fun _ => i6, fun z => by omega⟩
  refine ⟨?_, ?_⟩
  · show Tok b n p (h' 108 9, h' 108 10)
    rw [e9, e10]; exact ⟨K, E⟩
  · unfold MTk
    rw [r, e8, e9, e10, e11, e12]; exact ⟨E, T, hl.1, hl.2⟩
theorem M1_3' {b : Nat → Int} {n s x y : Int} (h : s < n) (eb : b s.toNat = x) (eb2 : b s.toNat = y) (c : ¬ (97 ≤ x ∧ x ≤ 122)) (d : ¬ (48 ≤ x ∧ x ≤ 57)) : M1 b n s (s + 1) 3 y := by
  have e : y = x := eb2.symm.trans eb
  rw [e]; exact M1_3 h eb c d
theorem MTk.lt {h : m_H} (M : MTk h) (hs : h 108 11 ≠ 0) : h 108 9 < h 108 10 := by
  have a := M.2.1.1
  rcases M.1 with ⟨u, v⟩ | ⟨u, v, w⟩ | ⟨u, v, w, _⟩
  · exact absurd (a.trans (srt_0.mpr u)) hs
  · omega
  · exact w
theorem MTk.same {h h' : m_H} (M : MTk h) (e1 : h' 113 = h 113) (e2 : ∀ j, 8 ≤ j → j ≤ 12 → h' 108 j = h 108 j) : MTk h' := by
  unfold MTk
  rw [e1, e2 8 (by decide) (by decide), e2 9 (by decide) (by decide), e2 10 (by decide) (by decide), e2 11 (by decide) (by decide), e2 12 (by decide) (by decide)]
  exact M
theorem MTk.end {h : m_H} (M : MTk h) : h 108 11 = 0 ↔ h 108 8 ≤ h 108 9 := by rw [M.2.1.1]; exact srt_0
theorem iw_c {h : m_H} {b : Nat → Int} {q : Int × Int} {w : Nat} {P : Prop} (eb : h 113 = b) (eq : Qm h = q) (m : isW (h 113) (Qm h) w ↔ P) : isW b q w ↔ P := by subst eb eq; exact m
theorem nx_m {h h' : m_H} {b : Nat → Int} {n : Int} {q : Int × Int} (eb : h 113 = b) (en : h 108 8 = n) (eq : Qm h = q) (h0 : 0 ≤ h 108 10) (T : Tok (h 113) (h 108 8) (h 108 10) (Qm h')) : Qm h' = nxt b n q := by
  subst eb en eq
  exact (nx_eq h0 T).symm
/-! the acts that are drafted, done to a row -/
def act1 (k a b c d : Int) (r : Nat → Int) : Nat → Int := if k = 0 then rW r a b c else if k = 1 then rS r a b else if k = 2 then rU r (42 + a).toNat b else rE r a b c d
def apA (f : Nat → Int) : Nat → (Nat → Int) → (Nat → Int)
  | 0, r => r
  | k + 1, r => act1 (f (5 * k)) (f (5 * k + 1)) (f (5 * k + 2)) (f (5 * k + 3)) (f (5 * k + 4)) (apA f k r)
def vr (h : m_H) : Nat → Int := apA (h 114) (h 108 16).toNat (h 110)
theorem apA_c {f f' : Nat → Int} {r : Nat → Int} : ∀ k, (∀ j, j < 5 * k → f' j = f j) → apA f' k r = apA f k r
  | 0, _ => rfl
  | k + 1, e => by
    show act1 _ _ _ _ _ (apA f' k r) = act1 _ _ _ _ _ (apA f k r)
    rw [apA_c k (fun j hj => e j (by omega)), e _ (by omega), e _ (by omega), e _ (by omega), e _ (by omega), e _ (by omega)]
theorem vr_S {cs : List Nat} {ss : List (Nat × Nat)} {h h' : m_H} (S : FR cs ss h h') (e1 : ∀ j, fr cs ss 114 j = false) (e2 : fr cs ss 108 16 = false) (e3 : ∀ j, fr cs ss 110 j = false) : vr h' = vr h := by
  unfold vr
  rw [rowz S e1, rowz S e3, S _ _ e2]
theorem vr_up {h h' : m_H} {j : Nat} {v : Int} (E : h' = m_up h 108 j v) (hj : j ≠ 16) : vr h' = vr h := by
  unfold vr
  rw [tl_r E (show 114 ≠ 108 by decide), tl_r E (show 110 ≠ 108 by decide), upN E (fun z => hj z.2.symm)]
theorem vr_act {h h' : m_H} {k a b c d : Int} {cs : List Nat} {ss : List (Nat × Nat)} (p : actQ h h' k a b c d) (hb : h 108 14 = 0) (h0 : 0 ≤ h 108 16) (S : FR cs ss h h') (e3 : ∀ j, fr cs ss 110 j = false) : vr h' = act1 k a b c d (vr h) := by
  rcases p with ⟨z, _⟩ | ⟨_, p1, ⟨q0, q1, q2, q3, q4⟩, p3, _⟩
  · exact absurd hb z
  · unfold vr
    rw [rowz S e3, p1, show (h 108 16 + 1).toNat = (h 108 16).toNat + 1 by omega]
    show act1 _ _ _ _ _ (apA (h' 114) _ _) = _
    rw [q0, q1, q2, q3, q4, apA_c _ p3]
theorem act1_0 {k a b c d : Int} {r : Nat → Int} : act1 k a b c d r 0 = r 0 + (if k = 3 then 1 else 0) ∨ ¬ okA k a b c d := by
  by_cases ok : okA k a b c d
  · left
    unfold okA at ok
    unfold act1
    rcases ok with ⟨e, u1, u2, u3⟩ | ⟨e, u1, u2⟩ | ⟨e, u1, u2⟩ | ⟨e, _⟩
    · rw [if_pos e, if_neg (by omega)]; unfold rW; rw [if_neg (by omega)]; omega
    · rw [if_neg (by omega), if_pos e, if_neg (by omega)]; unfold rS; rw [if_neg (by decide), if_neg (by omega), if_neg (by omega)]; omega
    · rw [if_neg (by omega), if_neg (by omega), if_pos e, if_neg (by omega)]; unfold rU; rw [if_neg (by omega)]; omega
    · rw [if_neg (by omega), if_neg (by omega), if_neg (by omega), if_pos e]; rfl
  · exact Or.inr ok
theorem act1_1 {k a b c d : Int} {r : Nat → Int} : act1 k a b c d r 1 = r 1 + (if k = 1 then 1 else 0) ∨ ¬ okA k a b c d := by
  by_cases ok : okA k a b c d
  · left
    unfold okA at ok
    unfold act1
    rcases ok with ⟨e, u1, u2, u3⟩ | ⟨e, u1, u2⟩ | ⟨e, u1, u2⟩ | ⟨e, _⟩
    · rw [if_pos e, if_neg (by omega)]; unfold rW; rw [if_neg (by omega)]; omega
    · rw [if_neg (by omega), if_pos e, if_pos e]; rfl
    · rw [if_neg (by omega), if_neg (by omega), if_pos e, if_neg (by omega)]; unfold rU; rw [if_neg (by omega)]; omega
    · rw [if_neg (by omega), if_neg (by omega), if_neg (by omega), if_neg (by omega)]; unfold rE; rw [if_neg (by decide), if_neg (by omega), if_neg (by omega), if_neg (by omega), if_neg (by omega), if_neg (by omega)]; omega
  · exact Or.inr ok
theorem apA_01 {h : m_H} {r : Nat → Int} : ∀ k : Nat, (∀ j : Nat, j < k → aK h j) → apA (h 114) k r 0 = r 0 + cN 3 h k ∧ apA (h 114) k r 1 = r 1 + cN 1 h k
  | 0, _ => ⟨(Int.add_zero _).symm, (Int.add_zero _).symm⟩
  | k + 1, A => by
    obtain ⟨i0, i1⟩ := apA_01 (r := r) k (fun j hj => A j (by omega))
    have ok := A k (by omega)
    unfold aK at ok
    have z0 := (act1_0 (r := apA (h 114) k r)).resolve_right (fun z => z ok)
    have z1 := (act1_1 (r := apA (h 114) k r)).resolve_right (fun z => z ok)
    refine ⟨?_, ?_⟩
    · show act1 _ _ _ _ _ (apA (h 114) k r) 0 = _
      rw [z0, i0]; simp only [cN]; omega
    · show act1 _ _ _ _ _ (apA (h 114) k r) 1 = _
      rw [z1, i1]; simp only [cN]; omega
theorem vr_01 {h : m_H} (A : AI h) : vr h 0 = h 110 0 + h 108 17 ∧ vr h 1 = h 110 1 + h 108 18 := by
  have z := apA_01 (h := h) (r := h 110) (h 108 16).toNat (fun j hj => A.1 j (by omega))
  unfold vr
  rw [z.1, z.2, A.2.1, A.2.2.1]; exact ⟨rfl, rfl⟩
theorem fam_n1 {x y : Int} (e : x = y) (c : ¬ (97 ≤ y ∧ y ≤ 122)) : fam x ≠ 1 := fun z => c (e ▸ fam_l.mp z)
theorem fam_n2 {x y : Int} (e : x = y) (c : ¬ (48 ≤ y ∧ y ≤ 57)) : fam x ≠ 2 := fun z => c (e ▸ fam_d.mp z)
abbrev P_X12_next2 (h0 : m_H) : m_H → Prop := fun h' => GI h' ∧ FR [] [(108, 9), (108, 10), (108, 11), (108, 12)] h0 h' ∧ Tok (h0 113) (h0 108 8) (h0 108 10) (Qm h') ∧ MTk h'
def q_X12_next2 (h0 : m_H) (n : Nat) : Prop := (∀ (y_108_8 y_108_9 : Int) (h : m_H), GI h → FR [] [(108, 9), (108, 10), (108, 11), (108, 12)] h0 h → 0 ≤ y_108_8 → y_108_8 ≤ 400 → 0 ≤ y_108_9 → y_108_9 ≤ 400 → (h 108 8 = y_108_8) → (h 108 9 = y_108_9) → (Sp (h0 113) (h0 108 8) (h0 108 10) y_108_9) → (h0 108 10 ≤ y_108_9 ∧ y_108_9 ≤ y_108_8) → 2 * (400 - y_108_9) + (1607) ≤ (n : Int) → m_Z oF M_X12_next 8 [some (mR 108)] [] h (m_QV (P_X12_next2 h0))) ∧ (∀ (y_108_8 y_108_9 y_108_10 y_108_11 y_108_12 : Int) (h : m_H), GI h → FR [] [(108, 9), (108, 10), (108, 11), (108, 12)] h0 h → 0 ≤ y_108_8 → y_108_8 ≤ 400 → 0 ≤ y_108_9 → y_108_9 ≤ 400 → 0 ≤ y_108_10 → y_108_10 ≤ 400 → 0 ≤ y_108_11 → y_108_11 ≤ 3 → (-1) ≤ y_108_12 → y_108_12 ≤ 1125899906842624 → (h 108 8 = y_108_8) → (h 108 9 = y_108_9) → (h 108 10 = y_108_10) → (h 108 11 = y_108_11) → (h 108 12 = y_108_12) → (Sk (h0 113) (h0 108 8) (h0 108 10) y_108_9) → (M1 (h0 113) (h0 108 8) y_108_9 y_108_10 y_108_11 y_108_12) → (h0 108 10 ≤ y_108_9 ∧ y_108_9 ≤ y_108_10 ∧ y_108_10 ≤ y_108_8) → 2 * (400 - y_108_10) + (804) ≤ (n : Int) → m_Z oF M_X12_next 149 [some (mR 108)] [] h (m_QV (P_X12_next2 h0))) ∧ (∀ (y_108_8 y_108_9 y_108_10 y_108_11 y_108_12 : Int) (h : m_H), GI h → FR [] [(108, 9), (108, 10), (108, 11), (108, 12)] h0 h → 0 ≤ y_108_8 → y_108_8 ≤ 400 → 0 ≤ y_108_9 → y_108_9 ≤ 400 → 0 ≤ y_108_10 → y_108_10 ≤ 400 → 0 ≤ y_108_11 → y_108_11 ≤ 3 → (-1) ≤ y_108_12 → y_108_12 ≤ 1125899906842624 → (h 108 8 = y_108_8) → (h 108 9 = y_108_9) → (h 108 10 = y_108_10) → (h 108 11 = y_108_11) → (h 108 12 = y_108_12) → (Sk (h0 113) (h0 108 8) (h0 108 10) y_108_9) → (M2 (h0 113) (h0 108 8) y_108_9 y_108_10 y_108_11 y_108_12) → (h0 108 10 ≤ y_108_9 ∧ y_108_9 ≤ y_108_10 ∧ y_108_10 ≤ y_108_8) → 2 * (400 - y_108_10) + (1) ≤ (n : Int) → m_Z oF M_X12_next 243 [some (mR 108)] [] h (m_QV (P_X12_next2 h0)))
set_option maxHeartbeats 4000000 in
set_option maxRecDepth 100000 in
theorem s_X12_next2_8 (h0 : m_H) (G0 : GI h0) (ht : h0 108 10 ≤ h0 108 8) (n : Nat) (ih : q_X12_next2 h0 n) : ∀ (y_108_8 y_108_9 : Int) (h : m_H), GI h → FR [] [(108, 9), (108, 10), (108, 11), (108, 12)] h0 h → 0 ≤ y_108_8 → y_108_8 ≤ 400 → 0 ≤ y_108_9 → y_108_9 ≤ 400 → (h 108 8 = y_108_8) → (h 108 9 = y_108_9) → (Sp (h0 113) (h0 108 8) (h0 108 10) y_108_9) → (h0 108 10 ≤ y_108_9 ∧ y_108_9 ≤ y_108_8) → 2 * (400 - y_108_9) + (1607) ≤ ((n + 1 : Nat) : Int) → m_Z oF M_X12_next 8 [some (mR 108)] [] h (m_QV (P_X12_next2 h0)) := by
  intro y_108_8 y_108_9 h G R v0 v1 v2 v3 t_108_8 t_108_9 i0 i1 hr
  refine z_aload_n (M := M_X12_next) 8 dX12_next_8 rfl ?_
  refine z_getIE (M := M_X12_next) 9 dX12_next_9 f_X12_221 o_108 (by decide) t_108_9 ?_
  refine z_aload_n (M := M_X12_next) 12 dX12_next_12 rfl ?_
  refine z_getIE (M := M_X12_next) 13 dX12_next_13 f_X12_201 o_108 (by decide) t_108_8 ?_
  refine z_icmp_ge (M := M_X12_next) 16 dX12_next_16 46 rfl (fun c1 => ?_) (fun c1 => ?_)
  · refine z_aload_n (M := M_X12_next) 46 dX12_next_46 rfl ?_
    refine z_aload_n (M := M_X12_next) 47 dX12_next_47 rfl ?_
    refine z_getIE (M := M_X12_next) 48 dX12_next_48 f_X12_221 o_108 (by decide) t_108_9 ?_
    refine z_putIH (M := M_X12_next) 51 dX12_next_51 p_X12_211 o_108 rfl (u_108_10 G (by omega) (by omega)) (R.up rfl) (fun h1 E1 G1 R1 => ?_)
    refine z_aload_n (M := M_X12_next) 54 dX12_next_54 rfl ?_
    refine z_lconst (M := M_X12_next) 55 dX12_next_55 (v := 0) ?_
    refine z_putJH (M := M_X12_next) 56 dX12_next_56 p_X12_224 o_108 rfl (u_108_12 G1) (R1.up rfl) (fun h2 E2 G2 R2 => ?_)
    refine z_aload_n (M := M_X12_next) 59 dX12_next_59 rfl ?_
    refine z_aload_n (M := M_X12_next) 60 dX12_next_60 rfl ?_
    refine z_getIE (M := M_X12_next) 61 dX12_next_61 f_X12_221 o_108 (by decide) ((upN E2 (fun q => absurd q.2 (by decide))).trans ((upN E1 (fun q => absurd q.2 (by decide))).trans t_108_9)) ?_
    refine z_aload_n (M := M_X12_next) 64 dX12_next_64 rfl ?_
    refine z_getIE (M := M_X12_next) 65 dX12_next_65 f_X12_201 o_108 (by decide) ((upN E2 (fun q => absurd q.2 (by decide))).trans ((upN E1 (fun q => absurd q.2 (by decide))).trans t_108_8)) ?_
    refine z_icmp_ne (M := M_X12_next) 68 dX12_next_68 75 rfl (fun c2 => ?_) (fun c2 => ?_)
    · refine z_aload_n (M := M_X12_next) 75 dX12_next_75 rfl ?_
      refine z_getR (M := M_X12_next) 76 dX12_next_76 f_X12_23 o_108 rfl (g_108_7 G2) ?_
      refine z_aload_n (M := M_X12_next) 79 dX12_next_79 rfl ?_
      refine z_getIE (M := M_X12_next) 80 dX12_next_80 f_X12_221 o_108 (by decide) ((upN E2 (fun q => absurd q.2 (by decide))).trans ((upN E1 (fun q => absurd q.2 (by decide))).trans t_108_9)) ?_
      refine z_ialdG (M := M_X12_next) 83 dX12_next_83 o_113 (by omega) (by omega) (g_113 G2 (by omega)) (fun x3 ex3 ax3 bx3 => ?_)
      refine z_sI (M := M_X12_next) 84 dX12_next_84 t_X12_isSmall l_X12_228 (m_rr_of rfl) (rest := [mR 108]) (c_X12_isSmall h2 x3 G2) rfl rfl (Nat.le_of_ble_eq_true rfl) ⟨rfl, rfl⟩ (fun x4 h3 qx4 => ?_)
      obtain ⟨rfl, ⟨rfl, cx4⟩ | ⟨rfl, cx4⟩⟩ := qx4
      · refine z_if_eq_F (M := M_X12_next) 87 dX12_next_87 94 rfl (by omega) ?_
        refine z_iconst (M := M_X12_next) 90 dX12_next_90 ?_
        refine z_goto (M := M_X12_next) 91 dX12_next_91 114 rfl ?_
        refine z_putIH (M := M_X12_next) 114 dX12_next_114 p_X12_234 o_108 rfl (u_108_11 G2 (by omega) (by omega)) (R2.up rfl) (fun h4 E4 G4 R4 => ?_)
        refine z_aload_n (M := M_X12_next) 117 dX12_next_117 rfl ?_
        refine z_getIE (M := M_X12_next) 118 dX12_next_118 f_X12_234 o_108 (by decide) (upE E4) ?_
        refine z_iconst (M := M_X12_next) 121 dX12_next_121 ?_
        refine z_icmp_ne_T (M := M_X12_next) 122 dX12_next_122 149 rfl (by omega) ?_
        have w5 : h0 108 8 = y_108_8 := (R4 108 8 rfl).symm.trans ((upN E4 (fun q => absurd q.2 (by decide))).trans ((upN E2 (fun q => absurd q.2 (by decide))).trans ((upN E1 (fun q => absurd q.2 (by decide))).trans t_108_8)))
        exact z_mask [true] rfl (ih.2.1 y_108_8 y_108_9 y_108_9 1 0 h4 G4 R4 (by omega) (by omega) (by omega) (by omega) (by omega) (by omega) (by omega) (by omega) (by omega) (by omega) ((upN E4 (fun q => absurd q.2 (by decide))).trans ((upN E2 (fun q => absurd q.2 (by decide))).trans ((upN E1 (fun q => absurd q.2 (by decide))).trans t_108_8))) ((upN E4 (fun q => absurd q.2 (by decide))).trans ((upN E2 (fun q => absurd q.2 (by decide))).trans ((upN E1 (fun q => absurd q.2 (by decide))).trans t_108_9))) ((upN E4 (fun q => absurd q.2 (by decide))).trans ((upN E2 (fun q => absurd q.2 (by decide))).trans (upE E1))) (upE E4) ((upN E4 (fun q => absurd q.2 (by decide))).trans (upE E2)) (by first | exact Sk_of i0 (fun _ => ne_of rfl (by omega)) | exact Sk_of i0 (fun q => absurd q (by omega)) | (exfalso; omega)) (by first | exact M1_1 (by omega) ((R2 113 _ rfl).symm.trans ex3) (by omega) | (exfalso; omega)) (by omega) (by omega))
      · refine z_if_eq_T (M := M_X12_next) 87 dX12_next_87 94 rfl (by omega) ?_
        refine z_aload_n (M := M_X12_next) 94 dX12_next_94 rfl ?_
        refine z_getR (M := M_X12_next) 95 dX12_next_95 f_X12_23 o_108 rfl (g_108_7 G2) ?_
        refine z_aload_n (M := M_X12_next) 98 dX12_next_98 rfl ?_
        refine z_getIE (M := M_X12_next) 99 dX12_next_99 f_X12_221 o_108 (by decide) ((upN E2 (fun q => absurd q.2 (by decide))).trans ((upN E1 (fun q => absurd q.2 (by decide))).trans t_108_9)) ?_
        refine z_ialdE (M := M_X12_next) 102 dX12_next_102 o_113 (by omega) (by omega) ex3 ?_
        refine z_sI (M := M_X12_next) 103 dX12_next_103 t_X12_isDigit l_X12_231 (m_rr_of rfl) (rest := [mR 108]) (c_X12_isDigit h2 x3 G2) rfl rfl (Nat.le_of_ble_eq_true rfl) ⟨rfl, rfl⟩ (fun x6 h5 qx6 => ?_)
        obtain ⟨rfl, ⟨rfl, cx6⟩ | ⟨rfl, cx6⟩⟩ := qx6
        · refine z_if_eq_F (M := M_X12_next) 106 dX12_next_106 113 rfl (by omega) ?_
          refine z_iconst (M := M_X12_next) 109 dX12_next_109 ?_
          refine z_goto (M := M_X12_next) 110 dX12_next_110 114 rfl ?_
          refine z_putIH (M := M_X12_next) 114 dX12_next_114 p_X12_234 o_108 rfl (u_108_11 G2 (by omega) (by omega)) (R2.up rfl) (fun h6 E6 G6 R6 => ?_)
          refine z_aload_n (M := M_X12_next) 117 dX12_next_117 rfl ?_
          refine z_getIE (M := M_X12_next) 118 dX12_next_118 f_X12_234 o_108 (by decide) (upE E6) ?_
          refine z_iconst (M := M_X12_next) 121 dX12_next_121 ?_
          refine z_icmp_ne_T (M := M_X12_next) 122 dX12_next_122 149 rfl (by omega) ?_
          have w7 : h0 108 8 = y_108_8 := (R6 108 8 rfl).symm.trans ((upN E6 (fun q => absurd q.2 (by decide))).trans ((upN E2 (fun q => absurd q.2 (by decide))).trans ((upN E1 (fun q => absurd q.2 (by decide))).trans t_108_8)))
          exact z_mask [true] rfl (ih.2.1 y_108_8 y_108_9 y_108_9 2 0 h6 G6 R6 (by omega) (by omega) (by omega) (by omega) (by omega) (by omega) (by omega) (by omega) (by omega) (by omega) ((upN E6 (fun q => absurd q.2 (by decide))).trans ((upN E2 (fun q => absurd q.2 (by decide))).trans ((upN E1 (fun q => absurd q.2 (by decide))).trans t_108_8))) ((upN E6 (fun q => absurd q.2 (by decide))).trans ((upN E2 (fun q => absurd q.2 (by decide))).trans ((upN E1 (fun q => absurd q.2 (by decide))).trans t_108_9))) ((upN E6 (fun q => absurd q.2 (by decide))).trans ((upN E2 (fun q => absurd q.2 (by decide))).trans (upE E1))) (upE E6) ((upN E6 (fun q => absurd q.2 (by decide))).trans (upE E2)) (by first | exact Sk_of i0 (fun _ => ne_of rfl (by omega)) | exact Sk_of i0 (fun q => absurd q (by omega)) | (exfalso; omega)) (by first | exact M1_2 (by omega) ((R2 113 _ rfl).symm.trans ex3) (by omega) | (exfalso; omega)) (by omega) (by omega))
        · refine z_if_eq_T (M := M_X12_next) 106 dX12_next_106 113 rfl (by omega) ?_
          refine z_iconst (M := M_X12_next) 113 dX12_next_113 ?_
          refine z_putIH (M := M_X12_next) 114 dX12_next_114 p_X12_234 o_108 rfl (u_108_11 G2 (by omega) (by omega)) (R2.up rfl) (fun h7 E7 G7 R7 => ?_)
          refine z_aload_n (M := M_X12_next) 117 dX12_next_117 rfl ?_
          refine z_getIE (M := M_X12_next) 118 dX12_next_118 f_X12_234 o_108 (by decide) (upE E7) ?_
          refine z_iconst (M := M_X12_next) 121 dX12_next_121 ?_
          refine z_icmp_ne_F (M := M_X12_next) 122 dX12_next_122 149 rfl (by omega) ?_
          refine z_aload_n (M := M_X12_next) 125 dX12_next_125 rfl ?_
          refine z_aload_n (M := M_X12_next) 126 dX12_next_126 rfl ?_
          refine z_getR (M := M_X12_next) 127 dX12_next_127 f_X12_23 o_108 rfl (g_108_7 G7) ?_
          refine z_aload_n (M := M_X12_next) 130 dX12_next_130 rfl ?_
          refine z_getIE (M := M_X12_next) 131 dX12_next_131 f_X12_221 o_108 (by decide) ((upN E7 (fun q => absurd q.2 (by decide))).trans ((upN E2 (fun q => absurd q.2 (by decide))).trans ((upN E1 (fun q => absurd q.2 (by decide))).trans t_108_9))) ?_
          refine z_ialdG (M := M_X12_next) 134 dX12_next_134 o_113 (by omega) (by omega) (g_113 G7 (by omega)) (fun x8 ex8 ax8 bx8 => ?_)
          refine z_i2l (M := M_X12_next) 135 dX12_next_135 ?_
          refine z_putJH (M := M_X12_next) 136 dX12_next_136 p_X12_224 o_108 rfl (u_108_12 G7) (R7.up rfl) (fun h8 E8 G8 R8 => ?_)
          refine z_aload_n (M := M_X12_next) 139 dX12_next_139 rfl ?_
          refine z_dup (M := M_X12_next) 140 dX12_next_140 rfl ?_
          refine z_getIE (M := M_X12_next) 141 dX12_next_141 f_X12_211 o_108 (by decide) ((upN E8 (fun q => absurd q.2 (by decide))).trans ((upN E7 (fun q => absurd q.2 (by decide))).trans ((upN E2 (fun q => absurd q.2 (by decide))).trans (upE E1)))) ?_
          refine z_iconst (M := M_X12_next) 144 dX12_next_144 ?_
          refine z_iaddN (M := M_X12_next) 145 dX12_next_145 (by omega) (by omega) ?_
          refine z_putIH (M := M_X12_next) 146 dX12_next_146 p_X12_211 o_108 rfl (u_108_10 G8 (by omega) (by omega)) (R8.up rfl) (fun h9 E9 G9 R9 => ?_)
          have w9 : h0 108 8 = y_108_8 := (R9 108 8 rfl).symm.trans ((upN E9 (fun q => absurd q.2 (by decide))).trans ((upN E8 (fun q => absurd q.2 (by decide))).trans ((upN E7 (fun q => absurd q.2 (by decide))).trans ((upN E2 (fun q => absurd q.2 (by decide))).trans ((upN E1 (fun q => absurd q.2 (by decide))).trans t_108_8)))))
          exact z_mask [true] rfl (ih.2.1 y_108_8 y_108_9 (y_108_9 + 1) 3 x8 h9 G9 R9 (by omega) (by omega) (by omega) (by omega) (by omega) (by omega) (by omega) (by omega) (by omega) (by omega) ((upN E9 (fun q => absurd q.2 (by decide))).trans ((upN E8 (fun q => absurd q.2 (by decide))).trans ((upN E7 (fun q => absurd q.2 (by decide))).trans ((upN E2 (fun q => absurd q.2 (by decide))).trans ((upN E1 (fun q => absurd q.2 (by decide))).trans t_108_8))))) ((upN E9 (fun q => absurd q.2 (by decide))).trans ((upN E8 (fun q => absurd q.2 (by decide))).trans ((upN E7 (fun q => absurd q.2 (by decide))).trans ((upN E2 (fun q => absurd q.2 (by decide))).trans ((upN E1 (fun q => absurd q.2 (by decide))).trans t_108_9))))) (upE E9) ((upN E9 (fun q => absurd q.2 (by decide))).trans ((upN E8 (fun q => absurd q.2 (by decide))).trans (upE E7))) ((upN E9 (fun q => absurd q.2 (by decide))).trans (upE E8)) (by first | exact Sk_of i0 (fun _ => ne_of rfl (by omega)) | exact Sk_of i0 (fun q => absurd q (by omega)) | (exfalso; omega)) (by first | exact M1_3' (by omega) ((R2 113 _ rfl).symm.trans ex3) ((R7 113 _ rfl).symm.trans ex8) (by omega) (by omega) | (exfalso; omega)) (by omega) (by omega))
    · refine z_iconst (M := M_X12_next) 71 dX12_next_71 ?_
      refine z_goto (M := M_X12_next) 72 dX12_next_72 114 rfl ?_
      refine z_putIH (M := M_X12_next) 114 dX12_next_114 p_X12_234 o_108 rfl (u_108_11 G2 (by omega) (by omega)) (R2.up rfl) (fun h10 E10 G10 R10 => ?_)
      refine z_aload_n (M := M_X12_next) 117 dX12_next_117 rfl ?_
      refine z_getIE (M := M_X12_next) 118 dX12_next_118 f_X12_234 o_108 (by decide) (upE E10) ?_
      refine z_iconst (M := M_X12_next) 121 dX12_next_121 ?_
      refine z_icmp_ne_T (M := M_X12_next) 122 dX12_next_122 149 rfl (by omega) ?_
      have w10 : h0 108 8 = y_108_8 := (R10 108 8 rfl).symm.trans ((upN E10 (fun q => absurd q.2 (by decide))).trans ((upN E2 (fun q => absurd q.2 (by decide))).trans ((upN E1 (fun q => absurd q.2 (by decide))).trans t_108_8)))
      exact z_mask [true] rfl (ih.2.1 y_108_8 y_108_9 y_108_9 0 0 h10 G10 R10 (by omega) (by omega) (by omega) (by omega) (by omega) (by omega) (by omega) (by omega) (by omega) (by omega) ((upN E10 (fun q => absurd q.2 (by decide))).trans ((upN E2 (fun q => absurd q.2 (by decide))).trans ((upN E1 (fun q => absurd q.2 (by decide))).trans t_108_8))) ((upN E10 (fun q => absurd q.2 (by decide))).trans ((upN E2 (fun q => absurd q.2 (by decide))).trans ((upN E1 (fun q => absurd q.2 (by decide))).trans t_108_9))) ((upN E10 (fun q => absurd q.2 (by decide))).trans ((upN E2 (fun q => absurd q.2 (by decide))).trans (upE E1))) (upE E10) ((upN E10 (fun q => absurd q.2 (by decide))).trans (upE E2)) (by first | exact Sk_of i0 (fun _ => ne_of rfl (by omega)) | exact Sk_of i0 (fun q => absurd q (by omega)) | (exfalso; omega)) (by first | exact M1_0 (by omega) | (exfalso; omega)) (by omega) (by omega))
  · refine z_aload_n (M := M_X12_next) 19 dX12_next_19 rfl ?_
    refine z_getR (M := M_X12_next) 20 dX12_next_20 f_X12_23 o_108 rfl (g_108_7 G) ?_
    refine z_aload_n (M := M_X12_next) 23 dX12_next_23 rfl ?_
    refine z_getIE (M := M_X12_next) 24 dX12_next_24 f_X12_221 o_108 (by decide) t_108_9 ?_
    refine z_ialdG (M := M_X12_next) 27 dX12_next_27 o_113 (by omega) (by omega) (g_113 G (by omega)) (fun x11 ex11 ax11 bx11 => ?_)
    refine z_bipush (M := M_X12_next) 28 dX12_next_28 ?_
    refine z_icmp_ne (M := M_X12_next) 30 dX12_next_30 46 rfl (fun c12 => ?_) (fun c12 => ?_)
    · refine z_aload_n (M := M_X12_next) 46 dX12_next_46 rfl ?_
      refine z_aload_n (M := M_X12_next) 47 dX12_next_47 rfl ?_
      refine z_getIE (M := M_X12_next) 48 dX12_next_48 f_X12_221 o_108 (by decide) t_108_9 ?_
      refine z_putIH (M := M_X12_next) 51 dX12_next_51 p_X12_211 o_108 rfl (u_108_10 G (by omega) (by omega)) (R.up rfl) (fun h11 E11 G11 R11 => ?_)
      refine z_aload_n (M := M_X12_next) 54 dX12_next_54 rfl ?_
      refine z_lconst (M := M_X12_next) 55 dX12_next_55 (v := 0) ?_
      refine z_putJH (M := M_X12_next) 56 dX12_next_56 p_X12_224 o_108 rfl (u_108_12 G11) (R11.up rfl) (fun h12 E12 G12 R12 => ?_)
      refine z_aload_n (M := M_X12_next) 59 dX12_next_59 rfl ?_
      refine z_aload_n (M := M_X12_next) 60 dX12_next_60 rfl ?_
      refine z_getIE (M := M_X12_next) 61 dX12_next_61 f_X12_221 o_108 (by decide) ((upN E12 (fun q => absurd q.2 (by decide))).trans ((upN E11 (fun q => absurd q.2 (by decide))).trans t_108_9)) ?_
      refine z_aload_n (M := M_X12_next) 64 dX12_next_64 rfl ?_
      refine z_getIE (M := M_X12_next) 65 dX12_next_65 f_X12_201 o_108 (by decide) ((upN E12 (fun q => absurd q.2 (by decide))).trans ((upN E11 (fun q => absurd q.2 (by decide))).trans t_108_8)) ?_
      refine z_icmp_ne (M := M_X12_next) 68 dX12_next_68 75 rfl (fun c13 => ?_) (fun c13 => ?_)
      · refine z_aload_n (M := M_X12_next) 75 dX12_next_75 rfl ?_
        refine z_getR (M := M_X12_next) 76 dX12_next_76 f_X12_23 o_108 rfl (g_108_7 G12) ?_
        refine z_aload_n (M := M_X12_next) 79 dX12_next_79 rfl ?_
        refine z_getIE (M := M_X12_next) 80 dX12_next_80 f_X12_221 o_108 (by decide) ((upN E12 (fun q => absurd q.2 (by decide))).trans ((upN E11 (fun q => absurd q.2 (by decide))).trans t_108_9)) ?_
        refine z_ialdG (M := M_X12_next) 83 dX12_next_83 o_113 (by omega) (by omega) (g_113 G12 (by omega)) (fun x14 ex14 ax14 bx14 => ?_)
        refine z_sI (M := M_X12_next) 84 dX12_next_84 t_X12_isSmall l_X12_228 (m_rr_of rfl) (rest := [mR 108]) (c_X12_isSmall h12 x14 G12) rfl rfl (Nat.le_of_ble_eq_true rfl) ⟨rfl, rfl⟩ (fun x15 h13 qx15 => ?_)
        obtain ⟨rfl, ⟨rfl, cx15⟩ | ⟨rfl, cx15⟩⟩ := qx15
        · refine z_if_eq_F (M := M_X12_next) 87 dX12_next_87 94 rfl (by omega) ?_
          refine z_iconst (M := M_X12_next) 90 dX12_next_90 ?_
          refine z_goto (M := M_X12_next) 91 dX12_next_91 114 rfl ?_
          refine z_putIH (M := M_X12_next) 114 dX12_next_114 p_X12_234 o_108 rfl (u_108_11 G12 (by omega) (by omega)) (R12.up rfl) (fun h14 E14 G14 R14 => ?_)
          refine z_aload_n (M := M_X12_next) 117 dX12_next_117 rfl ?_
          refine z_getIE (M := M_X12_next) 118 dX12_next_118 f_X12_234 o_108 (by decide) (upE E14) ?_
          refine z_iconst (M := M_X12_next) 121 dX12_next_121 ?_
          refine z_icmp_ne_T (M := M_X12_next) 122 dX12_next_122 149 rfl (by omega) ?_
          have w16 : h0 108 8 = y_108_8 := (R14 108 8 rfl).symm.trans ((upN E14 (fun q => absurd q.2 (by decide))).trans ((upN E12 (fun q => absurd q.2 (by decide))).trans ((upN E11 (fun q => absurd q.2 (by decide))).trans t_108_8)))
          exact z_mask [true] rfl (ih.2.1 y_108_8 y_108_9 y_108_9 1 0 h14 G14 R14 (by omega) (by omega) (by omega) (by omega) (by omega) (by omega) (by omega) (by omega) (by omega) (by omega) ((upN E14 (fun q => absurd q.2 (by decide))).trans ((upN E12 (fun q => absurd q.2 (by decide))).trans ((upN E11 (fun q => absurd q.2 (by decide))).trans t_108_8))) ((upN E14 (fun q => absurd q.2 (by decide))).trans ((upN E12 (fun q => absurd q.2 (by decide))).trans ((upN E11 (fun q => absurd q.2 (by decide))).trans t_108_9))) ((upN E14 (fun q => absurd q.2 (by decide))).trans ((upN E12 (fun q => absurd q.2 (by decide))).trans (upE E11))) (upE E14) ((upN E14 (fun q => absurd q.2 (by decide))).trans (upE E12)) (by first | exact Sk_of i0 (fun _ => ne_of ((R 113 _ rfl).symm.trans ex11) (by omega)) | exact Sk_of i0 (fun q => absurd q (by omega)) | (exfalso; omega)) (by first | exact M1_1 (by omega) ((R12 113 _ rfl).symm.trans ex14) (by omega) | (exfalso; omega)) (by omega) (by omega))
        · refine z_if_eq_T (M := M_X12_next) 87 dX12_next_87 94 rfl (by omega) ?_
          refine z_aload_n (M := M_X12_next) 94 dX12_next_94 rfl ?_
          refine z_getR (M := M_X12_next) 95 dX12_next_95 f_X12_23 o_108 rfl (g_108_7 G12) ?_
          refine z_aload_n (M := M_X12_next) 98 dX12_next_98 rfl ?_
          refine z_getIE (M := M_X12_next) 99 dX12_next_99 f_X12_221 o_108 (by decide) ((upN E12 (fun q => absurd q.2 (by decide))).trans ((upN E11 (fun q => absurd q.2 (by decide))).trans t_108_9)) ?_
          refine z_ialdE (M := M_X12_next) 102 dX12_next_102 o_113 (by omega) (by omega) ex14 ?_
          refine z_sI (M := M_X12_next) 103 dX12_next_103 t_X12_isDigit l_X12_231 (m_rr_of rfl) (rest := [mR 108]) (c_X12_isDigit h12 x14 G12) rfl rfl (Nat.le_of_ble_eq_true rfl) ⟨rfl, rfl⟩ (fun x17 h15 qx17 => ?_)
          obtain ⟨rfl, ⟨rfl, cx17⟩ | ⟨rfl, cx17⟩⟩ := qx17
          · refine z_if_eq_F (M := M_X12_next) 106 dX12_next_106 113 rfl (by omega) ?_
            refine z_iconst (M := M_X12_next) 109 dX12_next_109 ?_
            refine z_goto (M := M_X12_next) 110 dX12_next_110 114 rfl ?_
            refine z_putIH (M := M_X12_next) 114 dX12_next_114 p_X12_234 o_108 rfl (u_108_11 G12 (by omega) (by omega)) (R12.up rfl) (fun h16 E16 G16 R16 => ?_)
            refine z_aload_n (M := M_X12_next) 117 dX12_next_117 rfl ?_
            refine z_getIE (M := M_X12_next) 118 dX12_next_118 f_X12_234 o_108 (by decide) (upE E16) ?_
            refine z_iconst (M := M_X12_next) 121 dX12_next_121 ?_
            refine z_icmp_ne_T (M := M_X12_next) 122 dX12_next_122 149 rfl (by omega) ?_
            have w18 : h0 108 8 = y_108_8 := (R16 108 8 rfl).symm.trans ((upN E16 (fun q => absurd q.2 (by decide))).trans ((upN E12 (fun q => absurd q.2 (by decide))).trans ((upN E11 (fun q => absurd q.2 (by decide))).trans t_108_8)))
            exact z_mask [true] rfl (ih.2.1 y_108_8 y_108_9 y_108_9 2 0 h16 G16 R16 (by omega) (by omega) (by omega) (by omega) (by omega) (by omega) (by omega) (by omega) (by omega) (by omega) ((upN E16 (fun q => absurd q.2 (by decide))).trans ((upN E12 (fun q => absurd q.2 (by decide))).trans ((upN E11 (fun q => absurd q.2 (by decide))).trans t_108_8))) ((upN E16 (fun q => absurd q.2 (by decide))).trans ((upN E12 (fun q => absurd q.2 (by decide))).trans ((upN E11 (fun q => absurd q.2 (by decide))).trans t_108_9))) ((upN E16 (fun q => absurd q.2 (by decide))).trans ((upN E12 (fun q => absurd q.2 (by decide))).trans (upE E11))) (upE E16) ((upN E16 (fun q => absurd q.2 (by decide))).trans (upE E12)) (by first | exact Sk_of i0 (fun _ => ne_of ((R 113 _ rfl).symm.trans ex11) (by omega)) | exact Sk_of i0 (fun q => absurd q (by omega)) | (exfalso; omega)) (by first | exact M1_2 (by omega) ((R12 113 _ rfl).symm.trans ex14) (by omega) | (exfalso; omega)) (by omega) (by omega))
          · refine z_if_eq_T (M := M_X12_next) 106 dX12_next_106 113 rfl (by omega) ?_
            refine z_iconst (M := M_X12_next) 113 dX12_next_113 ?_
            refine z_putIH (M := M_X12_next) 114 dX12_next_114 p_X12_234 o_108 rfl (u_108_11 G12 (by omega) (by omega)) (R12.up rfl) (fun h17 E17 G17 R17 => ?_)
            refine z_aload_n (M := M_X12_next) 117 dX12_next_117 rfl ?_
            refine z_getIE (M := M_X12_next) 118 dX12_next_118 f_X12_234 o_108 (by decide) (upE E17) ?_
            refine z_iconst (M := M_X12_next) 121 dX12_next_121 ?_
            refine z_icmp_ne_F (M := M_X12_next) 122 dX12_next_122 149 rfl (by omega) ?_
            refine z_aload_n (M := M_X12_next) 125 dX12_next_125 rfl ?_
            refine z_aload_n (M := M_X12_next) 126 dX12_next_126 rfl ?_
            refine z_getR (M := M_X12_next) 127 dX12_next_127 f_X12_23 o_108 rfl (g_108_7 G17) ?_
            refine z_aload_n (M := M_X12_next) 130 dX12_next_130 rfl ?_
            refine z_getIE (M := M_X12_next) 131 dX12_next_131 f_X12_221 o_108 (by decide) ((upN E17 (fun q => absurd q.2 (by decide))).trans ((upN E12 (fun q => absurd q.2 (by decide))).trans ((upN E11 (fun q => absurd q.2 (by decide))).trans t_108_9))) ?_
            refine z_ialdG (M := M_X12_next) 134 dX12_next_134 o_113 (by omega) (by omega) (g_113 G17 (by omega)) (fun x19 ex19 ax19 bx19 => ?_)
            refine z_i2l (M := M_X12_next) 135 dX12_next_135 ?_
            refine z_putJH (M := M_X12_next) 136 dX12_next_136 p_X12_224 o_108 rfl (u_108_12 G17) (R17.up rfl) (fun h18 E18 G18 R18 => ?_)
            refine z_aload_n (M := M_X12_next) 139 dX12_next_139 rfl ?_
            refine z_dup (M := M_X12_next) 140 dX12_next_140 rfl ?_
            refine z_getIE (M := M_X12_next) 141 dX12_next_141 f_X12_211 o_108 (by decide) ((upN E18 (fun q => absurd q.2 (by decide))).trans ((upN E17 (fun q => absurd q.2 (by decide))).trans ((upN E12 (fun q => absurd q.2 (by decide))).trans (upE E11)))) ?_
            refine z_iconst (M := M_X12_next) 144 dX12_next_144 ?_
            refine z_iaddN (M := M_X12_next) 145 dX12_next_145 (by omega) (by omega) ?_
            refine z_putIH (M := M_X12_next) 146 dX12_next_146 p_X12_211 o_108 rfl (u_108_10 G18 (by omega) (by omega)) (R18.up rfl) (fun h19 E19 G19 R19 => ?_)
            have w20 : h0 108 8 = y_108_8 := (R19 108 8 rfl).symm.trans ((upN E19 (fun q => absurd q.2 (by decide))).trans ((upN E18 (fun q => absurd q.2 (by decide))).trans ((upN E17 (fun q => absurd q.2 (by decide))).trans ((upN E12 (fun q => absurd q.2 (by decide))).trans ((upN E11 (fun q => absurd q.2 (by decide))).trans t_108_8)))))
            exact z_mask [true] rfl (ih.2.1 y_108_8 y_108_9 (y_108_9 + 1) 3 x19 h19 G19 R19 (by omega) (by omega) (by omega) (by omega) (by omega) (by omega) (by omega) (by omega) (by omega) (by omega) ((upN E19 (fun q => absurd q.2 (by decide))).trans ((upN E18 (fun q => absurd q.2 (by decide))).trans ((upN E17 (fun q => absurd q.2 (by decide))).trans ((upN E12 (fun q => absurd q.2 (by decide))).trans ((upN E11 (fun q => absurd q.2 (by decide))).trans t_108_8))))) ((upN E19 (fun q => absurd q.2 (by decide))).trans ((upN E18 (fun q => absurd q.2 (by decide))).trans ((upN E17 (fun q => absurd q.2 (by decide))).trans ((upN E12 (fun q => absurd q.2 (by decide))).trans ((upN E11 (fun q => absurd q.2 (by decide))).trans t_108_9))))) (upE E19) ((upN E19 (fun q => absurd q.2 (by decide))).trans ((upN E18 (fun q => absurd q.2 (by decide))).trans (upE E17))) ((upN E19 (fun q => absurd q.2 (by decide))).trans (upE E18)) (by first | exact Sk_of i0 (fun _ => ne_of ((R 113 _ rfl).symm.trans ex11) (by omega)) | exact Sk_of i0 (fun q => absurd q (by omega)) | (exfalso; omega)) (by first | exact M1_3' (by omega) ((R12 113 _ rfl).symm.trans ex14) ((R17 113 _ rfl).symm.trans ex19) (by omega) (by omega) | (exfalso; omega)) (by omega) (by omega))
      · refine z_iconst (M := M_X12_next) 71 dX12_next_71 ?_
        refine z_goto (M := M_X12_next) 72 dX12_next_72 114 rfl ?_
        refine z_putIH (M := M_X12_next) 114 dX12_next_114 p_X12_234 o_108 rfl (u_108_11 G12 (by omega) (by omega)) (R12.up rfl) (fun h20 E20 G20 R20 => ?_)
        refine z_aload_n (M := M_X12_next) 117 dX12_next_117 rfl ?_
        refine z_getIE (M := M_X12_next) 118 dX12_next_118 f_X12_234 o_108 (by decide) (upE E20) ?_
        refine z_iconst (M := M_X12_next) 121 dX12_next_121 ?_
        refine z_icmp_ne_T (M := M_X12_next) 122 dX12_next_122 149 rfl (by omega) ?_
        have w21 : h0 108 8 = y_108_8 := (R20 108 8 rfl).symm.trans ((upN E20 (fun q => absurd q.2 (by decide))).trans ((upN E12 (fun q => absurd q.2 (by decide))).trans ((upN E11 (fun q => absurd q.2 (by decide))).trans t_108_8)))
        exact z_mask [true] rfl (ih.2.1 y_108_8 y_108_9 y_108_9 0 0 h20 G20 R20 (by omega) (by omega) (by omega) (by omega) (by omega) (by omega) (by omega) (by omega) (by omega) (by omega) ((upN E20 (fun q => absurd q.2 (by decide))).trans ((upN E12 (fun q => absurd q.2 (by decide))).trans ((upN E11 (fun q => absurd q.2 (by decide))).trans t_108_8))) ((upN E20 (fun q => absurd q.2 (by decide))).trans ((upN E12 (fun q => absurd q.2 (by decide))).trans ((upN E11 (fun q => absurd q.2 (by decide))).trans t_108_9))) ((upN E20 (fun q => absurd q.2 (by decide))).trans ((upN E12 (fun q => absurd q.2 (by decide))).trans (upE E11))) (upE E20) ((upN E20 (fun q => absurd q.2 (by decide))).trans (upE E12)) (by first | exact Sk_of i0 (fun _ => ne_of ((R 113 _ rfl).symm.trans ex11) (by omega)) | exact Sk_of i0 (fun q => absurd q (by omega)) | (exfalso; omega)) (by first | exact M1_0 (by omega) | (exfalso; omega)) (by omega) (by omega))
    · refine z_aload_n (M := M_X12_next) 33 dX12_next_33 rfl ?_
      refine z_dup (M := M_X12_next) 34 dX12_next_34 rfl ?_
      refine z_getIE (M := M_X12_next) 35 dX12_next_35 f_X12_221 o_108 (by decide) t_108_9 ?_
      refine z_iconst (M := M_X12_next) 38 dX12_next_38 ?_
      refine z_iaddN (M := M_X12_next) 39 dX12_next_39 (by omega) (by omega) ?_
      refine z_putIH (M := M_X12_next) 40 dX12_next_40 p_X12_221 o_108 rfl (u_108_9 G (by omega) (by omega)) (R.up rfl) (fun h21 E21 G21 R21 => ?_)
      refine z_goto (M := M_X12_next) 43 dX12_next_43 8 rfl ?_
      have w22 : h0 108 8 = y_108_8 := (R21 108 8 rfl).symm.trans ((upN E21 (fun q => absurd q.2 (by decide))).trans t_108_8)
      exact z_mask [true] rfl (ih.1 y_108_8 (y_108_9 + 1) h21 G21 R21 (by omega) (by omega) (by omega) (by omega) ((upN E21 (fun q => absurd q.2 (by decide))).trans t_108_8) (upE E21) (Sp_s i0 (by omega) (by omega) (((R 113 _ rfl).symm.trans ex11).trans (by omega))) (by omega) (by omega))
set_option maxHeartbeats 4000000 in
set_option maxRecDepth 100000 in
theorem s_X12_next2_149 (h0 : m_H) (G0 : GI h0) (ht : h0 108 10 ≤ h0 108 8) (n : Nat) (ih : q_X12_next2 h0 n) : ∀ (y_108_8 y_108_9 y_108_10 y_108_11 y_108_12 : Int) (h : m_H), GI h → FR [] [(108, 9), (108, 10), (108, 11), (108, 12)] h0 h → 0 ≤ y_108_8 → y_108_8 ≤ 400 → 0 ≤ y_108_9 → y_108_9 ≤ 400 → 0 ≤ y_108_10 → y_108_10 ≤ 400 → 0 ≤ y_108_11 → y_108_11 ≤ 3 → (-1) ≤ y_108_12 → y_108_12 ≤ 1125899906842624 → (h 108 8 = y_108_8) → (h 108 9 = y_108_9) → (h 108 10 = y_108_10) → (h 108 11 = y_108_11) → (h 108 12 = y_108_12) → (Sk (h0 113) (h0 108 8) (h0 108 10) y_108_9) → (M1 (h0 113) (h0 108 8) y_108_9 y_108_10 y_108_11 y_108_12) → (h0 108 10 ≤ y_108_9 ∧ y_108_9 ≤ y_108_10 ∧ y_108_10 ≤ y_108_8) → 2 * (400 - y_108_10) + (804) ≤ ((n + 1 : Nat) : Int) → m_Z oF M_X12_next 149 [some (mR 108)] [] h (m_QV (P_X12_next2 h0)) := by
  intro y_108_8 y_108_9 y_108_10 y_108_11 y_108_12 h G R v0 v1 v2 v3 v4 v5 v6 v7 v8 v9 t_108_8 t_108_9 t_108_10 t_108_11 t_108_12 i0 i1 i2 hr
  refine z_aload_n (M := M_X12_next) 149 dX12_next_149 rfl ?_
  refine z_getIE (M := M_X12_next) 150 dX12_next_150 f_X12_234 o_108 (by decide) t_108_11 ?_
  refine z_iconst (M := M_X12_next) 153 dX12_next_153 ?_
  refine z_icmp_ne (M := M_X12_next) 154 dX12_next_154 243 rfl (fun c1 => ?_) (fun c1 => ?_)
  · have w2 : h0 108 8 = y_108_8 := (R 108 8 rfl).symm.trans t_108_8
    exact z_mask [true] rfl (ih.2.2 y_108_8 y_108_9 y_108_10 y_108_11 y_108_12 h G R (by omega) (by omega) (by omega) (by omega) (by omega) (by omega) (by omega) (by omega) (by omega) (by omega) t_108_8 t_108_9 t_108_10 t_108_11 t_108_12 i0 (M1_e i1 (by omega) (fun q => absurd q (by omega))) (by omega) (by omega))
  · refine z_aload_n (M := M_X12_next) 157 dX12_next_157 rfl ?_
    refine z_getIE (M := M_X12_next) 158 dX12_next_158 f_X12_211 o_108 (by decide) t_108_10 ?_
    refine z_aload_n (M := M_X12_next) 161 dX12_next_161 rfl ?_
    refine z_getIE (M := M_X12_next) 162 dX12_next_162 f_X12_201 o_108 (by decide) t_108_8 ?_
    refine z_icmp_ge (M := M_X12_next) 165 dX12_next_165 243 rfl (fun c3 => ?_) (fun c3 => ?_)
    · have w4 : h0 108 8 = y_108_8 := (R 108 8 rfl).symm.trans t_108_8
      exact z_mask [true] rfl (ih.2.2 y_108_8 y_108_9 y_108_10 y_108_11 y_108_12 h G R (by omega) (by omega) (by omega) (by omega) (by omega) (by omega) (by omega) (by omega) (by omega) (by omega) t_108_8 t_108_9 t_108_10 t_108_11 t_108_12 i0 (M1_e i1 (by omega) (fun _ q => absurd q (by omega))) (by omega) (by omega))
    · refine z_aload_n (M := M_X12_next) 168 dX12_next_168 rfl ?_
      refine z_getR (M := M_X12_next) 169 dX12_next_169 f_X12_23 o_108 rfl (g_108_7 G) ?_
      refine z_aload_n (M := M_X12_next) 172 dX12_next_172 rfl ?_
      refine z_getIE (M := M_X12_next) 173 dX12_next_173 f_X12_211 o_108 (by decide) t_108_10 ?_
      refine z_ialdG (M := M_X12_next) 176 dX12_next_176 o_113 (by omega) (by omega) (g_113 G (by omega)) (fun x5 ex5 ax5 bx5 => ?_)
      refine z_sI (M := M_X12_next) 177 dX12_next_177 t_X12_isSmall l_X12_228 (m_rr_of rfl) (rest := []) (c_X12_isSmall h x5 G) rfl rfl (Nat.le_of_ble_eq_true rfl) ⟨rfl, rfl⟩ (fun x6 h1 qx6 => ?_)
      obtain ⟨rfl, ⟨rfl, cx6⟩ | ⟨rfl, cx6⟩⟩ := qx6
      · refine z_if_eq_F (M := M_X12_next) 180 dX12_next_180 243 rfl (by omega) ?_
        refine z_aload_n (M := M_X12_next) 183 dX12_next_183 rfl ?_
        refine z_aload_n (M := M_X12_next) 184 dX12_next_184 rfl ?_
        refine z_getIE (M := M_X12_next) 185 dX12_next_185 f_X12_211 o_108 (by decide) t_108_10 ?_
        refine z_aload_n (M := M_X12_next) 188 dX12_next_188 rfl ?_
        refine z_getIE (M := M_X12_next) 189 dX12_next_189 f_X12_221 o_108 (by decide) t_108_9 ?_
        refine z_isubN (M := M_X12_next) 192 dX12_next_192 (by omega) (by omega) ?_
        refine z_bipush (M := M_X12_next) 193 dX12_next_193 ?_
        refine z_icmp_ge (M := M_X12_next) 195 dX12_next_195 224 rfl (fun c7 => ?_) (fun c7 => ?_)
        · refine z_ldc2 (M := M_X12_next) 224 dX12_next_224 k_X12_160 ?_
          refine z_putJH (M := M_X12_next) 227 dX12_next_227 p_X12_224 o_108 rfl (u_108_12 G) (R.up rfl) (fun h2 E2 G2 R2 => ?_)
          refine z_aload_n (M := M_X12_next) 230 dX12_next_230 rfl ?_
          refine z_dup (M := M_X12_next) 231 dX12_next_231 rfl ?_
          refine z_getIE (M := M_X12_next) 232 dX12_next_232 f_X12_211 o_108 (by decide) ((upN E2 (fun q => absurd q.2 (by decide))).trans t_108_10) ?_
          refine z_iconst (M := M_X12_next) 235 dX12_next_235 ?_
          refine z_iaddN (M := M_X12_next) 236 dX12_next_236 (by omega) (by omega) ?_
          refine z_putIH (M := M_X12_next) 237 dX12_next_237 p_X12_211 o_108 rfl (u_108_10 G2 (by omega) (by omega)) (R2.up rfl) (fun h3 E3 G3 R3 => ?_)
          refine z_goto (M := M_X12_next) 240 dX12_next_240 149 rfl ?_
          have w8 : h0 108 8 = y_108_8 := (R3 108 8 rfl).symm.trans ((upN E3 (fun q => absurd q.2 (by decide))).trans ((upN E2 (fun q => absurd q.2 (by decide))).trans t_108_8))
          have ms := M1_s (w' := (-1)) i1 (by omega) (by omega) (by omega) ((R 113 _ rfl).symm.trans ex5) (by omega) (by first | (left; exact ⟨by omega, by omega⟩) | (right; exact ⟨by omega, by omega⟩))
          exact z_mask [true] rfl (ih.2.1 y_108_8 y_108_9 (y_108_10 + 1) y_108_11 (-1) h3 G3 R3 (by omega) (by omega) (by omega) (by omega) (by omega) (by omega) (by omega) (by omega) (by omega) (by omega) ((upN E3 (fun q => absurd q.2 (by decide))).trans ((upN E2 (fun q => absurd q.2 (by decide))).trans t_108_8)) ((upN E3 (fun q => absurd q.2 (by decide))).trans ((upN E2 (fun q => absurd q.2 (by decide))).trans t_108_9)) (upE E3) ((upN E3 (fun q => absurd q.2 (by decide))).trans ((upN E2 (fun q => absurd q.2 (by decide))).trans t_108_11)) ((upN E3 (fun q => absurd q.2 (by decide))).trans (upE E2)) i0 ms.1 (by omega) (by omega))
        · refine z_aload_n (M := M_X12_next) 198 dX12_next_198 rfl ?_
          refine z_getJE (M := M_X12_next) 199 dX12_next_199 f_X12_224 o_108 rfl t_108_12 ?_
          refine z_ldc2 (M := M_X12_next) 202 dX12_next_202 k_X12_237 ?_
          refine z_lmulN (M := M_X12_next) 205 dX12_next_205 (by omega) (by omega) ?_
          refine z_aload_n (M := M_X12_next) 206 dX12_next_206 rfl ?_
          refine z_getR (M := M_X12_next) 207 dX12_next_207 f_X12_23 o_108 rfl (g_108_7 G) ?_
          refine z_aload_n (M := M_X12_next) 210 dX12_next_210 rfl ?_
          refine z_getIE (M := M_X12_next) 211 dX12_next_211 f_X12_211 o_108 (by decide) t_108_10 ?_
          refine z_ialdE (M := M_X12_next) 214 dX12_next_214 o_113 (by omega) (by omega) ex5 ?_
          refine z_i2l (M := M_X12_next) 215 dX12_next_215 ?_
          refine z_laddN (M := M_X12_next) 216 dX12_next_216 (by omega) (by omega) ?_
          refine z_ldc2 (M := M_X12_next) 217 dX12_next_217 k_X12_239 ?_
          refine z_lsubN (M := M_X12_next) 220 dX12_next_220 (by omega) (by omega) ?_
          refine z_goto (M := M_X12_next) 221 dX12_next_221 227 rfl ?_
          refine z_putJH (M := M_X12_next) 227 dX12_next_227 p_X12_224 o_108 rfl (u_108_12 G) (R.up rfl) (fun h4 E4 G4 R4 => ?_)
          refine z_aload_n (M := M_X12_next) 230 dX12_next_230 rfl ?_
          refine z_dup (M := M_X12_next) 231 dX12_next_231 rfl ?_
          refine z_getIE (M := M_X12_next) 232 dX12_next_232 f_X12_211 o_108 (by decide) ((upN E4 (fun q => absurd q.2 (by decide))).trans t_108_10) ?_
          refine z_iconst (M := M_X12_next) 235 dX12_next_235 ?_
          refine z_iaddN (M := M_X12_next) 236 dX12_next_236 (by omega) (by omega) ?_
          refine z_putIH (M := M_X12_next) 237 dX12_next_237 p_X12_211 o_108 rfl (u_108_10 G4 (by omega) (by omega)) (R4.up rfl) (fun h5 E5 G5 R5 => ?_)
          refine z_goto (M := M_X12_next) 240 dX12_next_240 149 rfl ?_
          have w9 : h0 108 8 = y_108_8 := (R5 108 8 rfl).symm.trans ((upN E5 (fun q => absurd q.2 (by decide))).trans ((upN E4 (fun q => absurd q.2 (by decide))).trans t_108_8))
          have ms := M1_s (w' := (((y_108_12 * 32) + x5) - 96)) i1 (by omega) (by omega) (by omega) ((R 113 _ rfl).symm.trans ex5) (by omega) (by first | (left; exact ⟨by omega, by omega⟩) | (right; exact ⟨by omega, by omega⟩))
          exact z_mask [true] rfl (ih.2.1 y_108_8 y_108_9 (y_108_10 + 1) y_108_11 (((y_108_12 * 32) + x5) - 96) h5 G5 R5 (by omega) (by omega) (by omega) (by omega) (by omega) (by omega) (by omega) (by omega) (by omega) (by omega) ((upN E5 (fun q => absurd q.2 (by decide))).trans ((upN E4 (fun q => absurd q.2 (by decide))).trans t_108_8)) ((upN E5 (fun q => absurd q.2 (by decide))).trans ((upN E4 (fun q => absurd q.2 (by decide))).trans t_108_9)) (upE E5) ((upN E5 (fun q => absurd q.2 (by decide))).trans ((upN E4 (fun q => absurd q.2 (by decide))).trans t_108_11)) ((upN E5 (fun q => absurd q.2 (by decide))).trans (upE E4)) i0 ms.1 (by omega) (by omega))
      · refine z_if_eq_T (M := M_X12_next) 180 dX12_next_180 243 rfl (by omega) ?_
        have w10 : h0 108 8 = y_108_8 := (R 108 8 rfl).symm.trans t_108_8
        exact z_mask [true] rfl (ih.2.2 y_108_8 y_108_9 y_108_10 y_108_11 y_108_12 h G R (by omega) (by omega) (by omega) (by omega) (by omega) (by omega) (by omega) (by omega) (by omega) (by omega) t_108_8 t_108_9 t_108_10 t_108_11 t_108_12 i0 (M1_e i1 (by omega) (fun _ _ => fam_n1 ((R 113 _ rfl).symm.trans ex5) (by omega))) (by omega) (by omega))
set_option maxHeartbeats 4000000 in
set_option maxRecDepth 100000 in
theorem s_X12_next2_243 (h0 : m_H) (G0 : GI h0) (ht : h0 108 10 ≤ h0 108 8) (n : Nat) (ih : q_X12_next2 h0 n) : ∀ (y_108_8 y_108_9 y_108_10 y_108_11 y_108_12 : Int) (h : m_H), GI h → FR [] [(108, 9), (108, 10), (108, 11), (108, 12)] h0 h → 0 ≤ y_108_8 → y_108_8 ≤ 400 → 0 ≤ y_108_9 → y_108_9 ≤ 400 → 0 ≤ y_108_10 → y_108_10 ≤ 400 → 0 ≤ y_108_11 → y_108_11 ≤ 3 → (-1) ≤ y_108_12 → y_108_12 ≤ 1125899906842624 → (h 108 8 = y_108_8) → (h 108 9 = y_108_9) → (h 108 10 = y_108_10) → (h 108 11 = y_108_11) → (h 108 12 = y_108_12) → (Sk (h0 113) (h0 108 8) (h0 108 10) y_108_9) → (M2 (h0 113) (h0 108 8) y_108_9 y_108_10 y_108_11 y_108_12) → (h0 108 10 ≤ y_108_9 ∧ y_108_9 ≤ y_108_10 ∧ y_108_10 ≤ y_108_8) → 2 * (400 - y_108_10) + (1) ≤ ((n + 1 : Nat) : Int) → m_Z oF M_X12_next 243 [some (mR 108)] [] h (m_QV (P_X12_next2 h0)) := by
  intro y_108_8 y_108_9 y_108_10 y_108_11 y_108_12 h G R v0 v1 v2 v3 v4 v5 v6 v7 v8 v9 t_108_8 t_108_9 t_108_10 t_108_11 t_108_12 i0 i1 i2 hr
  refine z_aload_n (M := M_X12_next) 243 dX12_next_243 rfl ?_
  refine z_getIE (M := M_X12_next) 244 dX12_next_244 f_X12_234 o_108 (by decide) t_108_11 ?_
  refine z_iconst (M := M_X12_next) 247 dX12_next_247 ?_
  refine z_icmp_ne (M := M_X12_next) 248 dX12_next_248 335 rfl (fun c1 => ?_) (fun c1 => ?_)
  · have w2 : h0 108 8 = y_108_8 := (R 108 8 rfl).symm.trans t_108_8
    have me := M2_e (h' := h) i0 i1 (by omega) (by omega) (fun q => absurd q (by omega)) (rowz R (fun _ => rfl)) (R 108 8 rfl) t_108_9 t_108_10 t_108_11 t_108_12
    exact z_retV (M := M_X12_next) 335 dX12_next_335 rfl ⟨G, R, me.1, me.2⟩
  · refine z_aload_n (M := M_X12_next) 251 dX12_next_251 rfl ?_
    refine z_getIE (M := M_X12_next) 252 dX12_next_252 f_X12_211 o_108 (by decide) t_108_10 ?_
    refine z_aload_n (M := M_X12_next) 255 dX12_next_255 rfl ?_
    refine z_getIE (M := M_X12_next) 256 dX12_next_256 f_X12_201 o_108 (by decide) t_108_8 ?_
    refine z_icmp_ge (M := M_X12_next) 259 dX12_next_259 335 rfl (fun c3 => ?_) (fun c3 => ?_)
    · have w4 : h0 108 8 = y_108_8 := (R 108 8 rfl).symm.trans t_108_8
      have me := M2_e (h' := h) i0 i1 (by omega) (by omega) (fun _ q => absurd q (by omega)) (rowz R (fun _ => rfl)) (R 108 8 rfl) t_108_9 t_108_10 t_108_11 t_108_12
      exact z_retV (M := M_X12_next) 335 dX12_next_335 rfl ⟨G, R, me.1, me.2⟩
    · refine z_aload_n (M := M_X12_next) 262 dX12_next_262 rfl ?_
      refine z_getR (M := M_X12_next) 263 dX12_next_263 f_X12_23 o_108 rfl (g_108_7 G) ?_
      refine z_aload_n (M := M_X12_next) 266 dX12_next_266 rfl ?_
      refine z_getIE (M := M_X12_next) 267 dX12_next_267 f_X12_211 o_108 (by decide) t_108_10 ?_
      refine z_ialdG (M := M_X12_next) 270 dX12_next_270 o_113 (by omega) (by omega) (g_113 G (by omega)) (fun x5 ex5 ax5 bx5 => ?_)
      refine z_sI (M := M_X12_next) 271 dX12_next_271 t_X12_isDigit l_X12_231 (m_rr_of rfl) (rest := []) (c_X12_isDigit h x5 G) rfl rfl (Nat.le_of_ble_eq_true rfl) ⟨rfl, rfl⟩ (fun x6 h1 qx6 => ?_)
      obtain ⟨rfl, ⟨rfl, cx6⟩ | ⟨rfl, cx6⟩⟩ := qx6
      · refine z_if_eq_F (M := M_X12_next) 274 dX12_next_274 335 rfl (by omega) ?_
        refine z_aload_n (M := M_X12_next) 277 dX12_next_277 rfl ?_
        refine z_aload_n (M := M_X12_next) 278 dX12_next_278 rfl ?_
        refine z_getJE (M := M_X12_next) 279 dX12_next_279 f_X12_224 o_108 rfl t_108_12 ?_
        refine z_ldc2 (M := M_X12_next) 282 dX12_next_282 k_X12_241 ?_
        refine z_lcmp (M := M_X12_next) 285 dX12_next_285 ?_
        refine z_if_le (M := M_X12_next) 286 dX12_next_286 296 rfl (fun c7 => ?_) (fun c7 => ?_)
        · rw [m_cmp_le] at c7
          refine z_aload_n (M := M_X12_next) 296 dX12_next_296 rfl ?_
          refine z_getJE (M := M_X12_next) 297 dX12_next_297 f_X12_224 o_108 rfl t_108_12 ?_
          refine z_ldc2 (M := M_X12_next) 300 dX12_next_300 k_X12_243 ?_
          refine z_lmulN (M := M_X12_next) 303 dX12_next_303 (by omega) (by omega) ?_
          refine z_aload_n (M := M_X12_next) 304 dX12_next_304 rfl ?_
          refine z_getR (M := M_X12_next) 305 dX12_next_305 f_X12_23 o_108 rfl (g_108_7 G) ?_
          refine z_aload_n (M := M_X12_next) 308 dX12_next_308 rfl ?_
          refine z_getIE (M := M_X12_next) 309 dX12_next_309 f_X12_211 o_108 (by decide) t_108_10 ?_
          refine z_ialdE (M := M_X12_next) 312 dX12_next_312 o_113 (by omega) (by omega) ex5 ?_
          refine z_i2l (M := M_X12_next) 313 dX12_next_313 ?_
          refine z_laddN (M := M_X12_next) 314 dX12_next_314 (by omega) (by omega) ?_
          refine z_ldc2 (M := M_X12_next) 315 dX12_next_315 k_X12_245 ?_
          refine z_lsubN (M := M_X12_next) 318 dX12_next_318 (by omega) (by omega) ?_
          refine z_putJH (M := M_X12_next) 319 dX12_next_319 p_X12_224 o_108 rfl (u_108_12 G) (R.up rfl) (fun h2 E2 G2 R2 => ?_)
          refine z_aload_n (M := M_X12_next) 322 dX12_next_322 rfl ?_
          refine z_dup (M := M_X12_next) 323 dX12_next_323 rfl ?_
          refine z_getIE (M := M_X12_next) 324 dX12_next_324 f_X12_211 o_108 (by decide) ((upN E2 (fun q => absurd q.2 (by decide))).trans t_108_10) ?_
          refine z_iconst (M := M_X12_next) 327 dX12_next_327 ?_
          refine z_iaddN (M := M_X12_next) 328 dX12_next_328 (by omega) (by omega) ?_
          refine z_putIH (M := M_X12_next) 329 dX12_next_329 p_X12_211 o_108 rfl (u_108_10 G2 (by omega) (by omega)) (R2.up rfl) (fun h3 E3 G3 R3 => ?_)
          refine z_goto (M := M_X12_next) 332 dX12_next_332 243 rfl ?_
          have w8 : h0 108 8 = y_108_8 := (R3 108 8 rfl).symm.trans ((upN E3 (fun q => absurd q.2 (by decide))).trans ((upN E2 (fun q => absurd q.2 (by decide))).trans t_108_8))
          have ms := M2_s (w' := (((y_108_12 * 10) + x5) - 48)) i1 (by omega) (by omega) (by omega) ((R 113 _ rfl).symm.trans ex5) (by omega) (by first | (left; exact ⟨by omega, rfl⟩) | (right; exact ⟨by omega, by omega⟩))
          exact z_mask [true] rfl (ih.2.2 y_108_8 y_108_9 (y_108_10 + 1) y_108_11 (((y_108_12 * 10) + x5) - 48) h3 G3 R3 (by omega) (by omega) (by omega) (by omega) (by omega) (by omega) (by omega) (by omega) (by omega) (by omega) ((upN E3 (fun q => absurd q.2 (by decide))).trans ((upN E2 (fun q => absurd q.2 (by decide))).trans t_108_8)) ((upN E3 (fun q => absurd q.2 (by decide))).trans ((upN E2 (fun q => absurd q.2 (by decide))).trans t_108_9)) (upE E3) ((upN E3 (fun q => absurd q.2 (by decide))).trans ((upN E2 (fun q => absurd q.2 (by decide))).trans t_108_11)) ((upN E3 (fun q => absurd q.2 (by decide))).trans (upE E2)) i0 ms.1 (by omega) (by omega))
        · rw [m_cmp_le] at c7
          refine z_aload_n (M := M_X12_next) 289 dX12_next_289 rfl ?_
          refine z_getJE (M := M_X12_next) 290 dX12_next_290 f_X12_224 o_108 rfl t_108_12 ?_
          refine z_goto (M := M_X12_next) 293 dX12_next_293 319 rfl ?_
          refine z_putJH (M := M_X12_next) 319 dX12_next_319 p_X12_224 o_108 rfl (u_108_12 G) (R.up rfl) (fun h4 E4 G4 R4 => ?_)
          refine z_aload_n (M := M_X12_next) 322 dX12_next_322 rfl ?_
          refine z_dup (M := M_X12_next) 323 dX12_next_323 rfl ?_
          refine z_getIE (M := M_X12_next) 324 dX12_next_324 f_X12_211 o_108 (by decide) ((upN E4 (fun q => absurd q.2 (by decide))).trans t_108_10) ?_
          refine z_iconst (M := M_X12_next) 327 dX12_next_327 ?_
          refine z_iaddN (M := M_X12_next) 328 dX12_next_328 (by omega) (by omega) ?_
          refine z_putIH (M := M_X12_next) 329 dX12_next_329 p_X12_211 o_108 rfl (u_108_10 G4 (by omega) (by omega)) (R4.up rfl) (fun h5 E5 G5 R5 => ?_)
          refine z_goto (M := M_X12_next) 332 dX12_next_332 243 rfl ?_
          have w9 : h0 108 8 = y_108_8 := (R5 108 8 rfl).symm.trans ((upN E5 (fun q => absurd q.2 (by decide))).trans ((upN E4 (fun q => absurd q.2 (by decide))).trans t_108_8))
          have ms := M2_s (w' := y_108_12) i1 (by omega) (by omega) (by omega) ((R 113 _ rfl).symm.trans ex5) (by omega) (by first | (left; exact ⟨by omega, rfl⟩) | (right; exact ⟨by omega, by omega⟩))
          exact z_mask [true] rfl (ih.2.2 y_108_8 y_108_9 (y_108_10 + 1) y_108_11 y_108_12 h5 G5 R5 (by omega) (by omega) (by omega) (by omega) (by omega) (by omega) (by omega) (by omega) (by omega) (by omega) ((upN E5 (fun q => absurd q.2 (by decide))).trans ((upN E4 (fun q => absurd q.2 (by decide))).trans t_108_8)) ((upN E5 (fun q => absurd q.2 (by decide))).trans ((upN E4 (fun q => absurd q.2 (by decide))).trans t_108_9)) (upE E5) ((upN E5 (fun q => absurd q.2 (by decide))).trans ((upN E4 (fun q => absurd q.2 (by decide))).trans t_108_11)) ((upN E5 (fun q => absurd q.2 (by decide))).trans (upE E4)) i0 ms.1 (by omega) (by omega))
      · refine z_if_eq_T (M := M_X12_next) 274 dX12_next_274 335 rfl (by omega) ?_
        have w10 : h0 108 8 = y_108_8 := (R 108 8 rfl).symm.trans t_108_8
        have me := M2_e (h' := h) i0 i1 (by omega) (by omega) (fun _ _ => fam_n2 ((R 113 _ rfl).symm.trans ex5) (by omega)) (rowz R (fun _ => rfl)) (R 108 8 rfl) t_108_9 t_108_10 t_108_11 t_108_12
        exact z_retV (M := M_X12_next) 335 dX12_next_335 rfl ⟨G, R, me.1, me.2⟩
theorem a_X12_next2 (h0 : m_H) (G0 : GI h0) (ht : h0 108 10 ≤ h0 108 8) : ∀ n, q_X12_next2 h0 n := by
  intro n
  induction n with
  | zero => unfold q_X12_next2; refine ⟨?_, ?_, ?_⟩ <;> (intros; omega)
  | succ n ih => exact ⟨s_X12_next2_8 h0 G0 ht n ih, s_X12_next2_149 h0 G0 ht n ih, s_X12_next2_243 h0 G0 ht n ih⟩
set_option maxHeartbeats 4000000 in
set_option maxRecDepth 100000 in
theorem c_X12_next2 (h0 : m_H) (G0 : GI h0) (ht : h0 108 10 ≤ h0 108 8) : m_CV M_X12_next [mR 108] h0 (P_X12_next2 h0) := by
  refine m_CV_of ⟨by decide, rfl, by simp [m_arg, m_isL, M_X12_next], ⟨rfl, rfl⟩, rfl, rfl⟩ (ls := [some (mR 108)]) rfl ?_
  have ih := a_X12_next2 h0 G0 ht 2414
  obtain ⟨x1, ex1⟩ : ∃ y : Int, h0 108 10 = y := ⟨_, rfl⟩
  have bx1 : 0 ≤ x1 ∧ x1 ≤ 400 := ex1 ▸ g_108_10 G0
  obtain ⟨x2, ex2⟩ : ∃ y : Int, h0 108 8 = y := ⟨_, rfl⟩
  have bx2 : 0 ≤ x2 ∧ x2 ≤ 400 := ex2 ▸ g_108_8 G0
  refine z_aload_n (M := M_X12_next) 0 dX12_next_0 rfl ?_
  refine z_aload_n (M := M_X12_next) 1 dX12_next_1 rfl ?_
  refine z_getIE (M := M_X12_next) 2 dX12_next_2 f_X12_211 o_108 (by decide) ex1 ?_
  refine z_putIH (M := M_X12_next) 5 dX12_next_5 p_X12_221 o_108 rfl (u_108_9 G0 (by omega) (by omega)) ((FR.rf (cs := []) (ss := [(108, 9), (108, 10), (108, 11), (108, 12)]) (h := h0)).up rfl) (fun h1 E1 G1 R1 => ?_)
  have w3 : h0 108 8 = x2 := (R1 108 8 rfl).symm.trans ((upN E1 (fun q => absurd q.2 (by decide))).trans ex2)
  exact z_mask [true] rfl (ih.1 x2 x1 h1 G1 R1 (by omega) (by omega) (by omega) (by omega) ((upN E1 (fun q => absurd q.2 (by decide))).trans ex2) (upE E1) (Sp_0 ex1) (by omega) (by omega))
theorem num_c {h : m_H} {b : Nat → Int} {n lo hi t v : Int} {q : Int × Int} (eb : h 113 = b) (en : h 108 8 = n) (eq : Qm h = q) (k : (nOk (h 113) (h 108 8) (h 108 9, h 108 10) lo hi ↔ (t = 2 ∧ lo ≤ v ∧ v ≤ hi)) ∧ ((t = 2 ∧ lo ≤ v ∧ v ≤ hi) → v = num (h 113) (h 108 9, h 108 10))) : (nOk b n q lo hi ↔ (t = 2 ∧ lo ≤ v ∧ v ≤ hi)) ∧ ((t = 2 ∧ lo ≤ v ∧ v ≤ hi) → v = num b q) := by
  subst eb en eq; exact k
theorem iS_v {x a b : Int} {r r' : Nat → Int} (e : r = r') (i : x = 1 ↔ iS r a b) : x = 1 ↔ iS r' a b := e ▸ i
theorem fst_m {h : m_H} {q : Int × Int} (e : Qm h = q) : h 108 9 = q.1 := congrArg Prod.fst e
theorem nx_mm {h h' : m_H} {b : Nat → Int} {n : Int} {q : Int × Int} (eb : h 113 = b) (en : h 108 8 = n) (eq : Qm h = q) (K : Qm h' = nx (h 113) (h 108 8) (h 108 10)) : Qm h' = nxt b n q := by
  subst eb en eq; exact K
def nmQ (lo hi x : Int) (h0 h' : m_H) : Prop := (nOk (h0 113) (h0 108 8) (Qm h0) lo hi ∧ x = num (h0 113) (Qm h0) ∧ h' 108 14 = 0 ∧ MTk h' ∧ Qm h' = nx (h0 113) (h0 108 8) (h0 108 10) ∧ h0 108 10 ≤ h' 108 9 ∧ h0 108 9 < h0 108 10 ∧ h' 108 13 = h0 108 13) ∨ (¬ nOk (h0 113) (h0 108 8) (Qm h0) lo hi ∧ h' 108 14 = 1 ∧ h' 108 13 = h0 108 9 ∧ h' 108 9 = h0 108 9)
theorem nm_c {lo hi x : Int} {b : Nat → Int} {n : Int} {q : Int × Int} {h h' : m_H} (eb : h 113 = b) (en : h 108 8 = n) (eq : Qm h = q) (D : nmQ lo hi x h h') : (nOk b n q lo hi ∧ x = num b q ∧ h' 108 14 = 0 ∧ MTk h' ∧ Qm h' = nxt b n q ∧ h 108 10 ≤ h' 108 9 ∧ h 108 9 < h 108 10 ∧ h' 108 13 = h 108 13) ∨ (¬ nOk b n q lo hi ∧ h' 108 14 = 1 ∧ h' 108 13 = h 108 9 ∧ h' 108 9 = h 108 9) := by
  subst eb en eq; exact D
theorem fr_j {j : Nat} (h : j ≠ 16) : fr [114] [(108, 16)] 108 j = false := by
  unfold fr
  have e : ((16 : Nat) == j) = false := by rw [beq_eq_false_iff_ne]; exact Ne.symm h
  simp [e]
theorem Qm_S {cs : List Nat} {ss : List (Nat × Nat)} {h h' : m_H} (S : FR cs ss h h') (e1 : fr cs ss 108 9 = false) (e2 : fr cs ss 108 10 = false) : Qm h' = Qm h := by unfold Qm; rw [S _ _ e1, S _ _ e2]
theorem Qm_up {h h' : m_H} {j : Nat} {v : Int} (E : h' = m_up h 108 j v) (hj : 12 < j) : Qm h' = Qm h := by unfold Qm; rw [upN E (fun z => by have := z.2; omega), upN E (fun z => by have := z.2; omega)]
theorem MTk.up {h h' : m_H} {j : Nat} {v : Int} (M : MTk h) (E : h' = m_up h 108 j v) (hj : 12 < j) : MTk h' := M.same (tl_r E (by decide)) (fun k u w => upN E (fun z => by have := z.2; omega))
def mdQ (z : Except Int ((Int × Int) × (Nat → Int))) (h0 h' : m_H) : Prop := match z with
  | .ok p => h' 108 14 = 0 ∧ MTk h' ∧ AI h' ∧ 2 * h' 108 16 ≤ h' 108 9 ∧ Qm h' = p.1 ∧ vr h' = p.2 ∧ h' 108 13 = h0 108 13
  | .error e => h' 108 14 = 1 ∧ h' 108 13 = e
theorem md_ok {z : Except Int ((Int × Int) × (Nat → Int))} {p : (Int × Int) × (Nat → Int)} {h0 h' : m_H} (e : z = .ok p) (hb : h' 108 14 = 0) (M : MTk h') (A : AI h') (N : 2 * h' 108 16 ≤ h' 108 9) (q : Qm h' = p.1) (v : vr h' = p.2) (u : h' 108 13 = h0 108 13) : mdQ z h0 h' := by rw [e]; exact ⟨hb, M, A, N, q, v, u⟩
theorem md_er {z : Except Int ((Int × Int) × (Nat → Int))} {e : Int} {h0 h' : m_H} (ez : z = .error e) (hb : h' 108 14 = 1) (f : h' 108 13 = e) : mdQ z h0 h' := by rw [ez]; exact ⟨hb, f⟩
theorem md_c {F : (Nat → Int) → Int → Int × Int → (Nat → Int) → Except Int ((Int × Int) × (Nat → Int))} {b : Nat → Int} {n : Int} {q : Int × Int} {r : Nat → Int} {h h' : m_H} (eb : h 113 = b) (en : h 108 8 = n) (eq : Qm h = q) (er : vr h = r) (K : mdQ (F (h 113) (h 108 8) (Qm h) (vr h)) h h') : mdQ (F b n q r) h h' := by subst eb en eq er; exact K
theorem md_cs {z : Except Int ((Int × Int) × (Nat → Int))} {h0 h' : m_H} (K : mdQ z h0 h') : (∃ p, z = .ok p ∧ h' 108 14 = 0 ∧ MTk h' ∧ AI h' ∧ 2 * h' 108 16 ≤ h' 108 9 ∧ Qm h' = p.1 ∧ vr h' = p.2 ∧ h' 108 13 = h0 108 13) ∨ (∃ e, z = .error e ∧ h' 108 14 = 1 ∧ h' 108 13 = e) := by
  unfold mdQ at K
  cases z with
  | ok p => exact Or.inl ⟨p, rfl, K⟩
  | error e => exact Or.inr ⟨e, rfl, K⟩
theorem act1_k0 {a b c d : Int} {r : Nat → Int} : act1 0 a b c d r = rW r a b c := if_pos rfl
theorem act1_k1 {a b c d : Int} {r : Nat → Int} : act1 1 a b c d r = rS r a b := (if_neg (by decide)).trans (if_pos rfl)
theorem act1_k2 {a b c d : Int} {r : Nat → Int} : act1 2 a b c d r = rU r (42 + a).toNat b := (if_neg (by decide)).trans ((if_neg (by decide)).trans (if_pos rfl))
theorem act1_k3 {a b c d : Int} {r : Nat → Int} : act1 3 a b c d r = rE r a b c d := (if_neg (by decide)).trans ((if_neg (by decide)).trans (if_neg (by decide)))
abbrev P_X12_must_1 (h0 : m_H) (a1 : Int) : m_H → Prop := fun h' => GI h' ∧ FR [] [(108, 9), (108, 10), (108, 11), (108, 12)] h0 h' ∧ MTk h' ∧ Qm h' = nx (h0 113) (h0 108 8) (h0 108 10) ∧ h0 108 10 ≤ h' 108 9
set_option maxHeartbeats 4000000 in
set_option maxRecDepth 100000 in
theorem c_X12_must_1 (h0 : m_H) (a1 : Int) (G0 : GI h0) (pa1 : 1 ≤ a1 ∧ a1 ≤ 1) (hb : h0 108 14 = 0) (M0 : MTk h0) (hs : h0 108 11 ≠ 0) : m_CV M_X12_must [mR 108, mI a1] h0 (P_X12_must_1 h0 a1) := by
  refine m_CV_of ⟨by decide, rfl, by simp [m_arg, m_isL, M_X12_must], ⟨rfl, rfl⟩, rfl, rfl⟩ (ls := [some (mR 108), some (mI a1)]) rfl ?_
  refine z_aload_n (M := M_X12_must) 0 dX12_must_0 rfl ?_
  refine z_getIE (M := M_X12_must) 1 dX12_must_1 f_X12_214 o_108 (by decide) hb ?_
  refine z_if_ne_F (M := M_X12_must) 4 dX12_must_4 24 rfl (by omega) ?_
  refine z_iload_n (M := M_X12_must) 7 dX12_must_7 rfl ?_
  refine z_if_ne_T (M := M_X12_must) 8 dX12_must_8 24 rfl (by omega) ?_
  refine z_aload_n (M := M_X12_must) 24 dX12_must_24 rfl ?_
  refine z_getIE (M := M_X12_must) 25 dX12_must_25 f_X12_214 o_108 (by decide) hb ?_
  refine z_if_ne_F (M := M_X12_must) 28 dX12_must_28 35 rfl (by omega) ?_
  refine z_aload_n (M := M_X12_must) 31 dX12_must_31 rfl ?_
  refine z_vV (M := M_X12_must) 32 dX12_must_32 t_X12_next l_X12_218 (m_rr_of rfl) (rest := []) (c_X12_next2 h0 G0 M0.2.2.2) o_108 rfl rfl rfl (Nat.le_of_ble_eq_true rfl) ⟨rfl, rfl⟩ (fun h1 qx1 => ?_)
  obtain ⟨G1, S1, Tx1, Mx1⟩ := qx1
  have R1 := (FR.rf (cs := []) (ss := [(108, 9), (108, 10), (108, 11), (108, 12)]) (h := h0)).call S1 (by decide +kernel)
  have Qx1 : Qm h1 = (nxt (h0 113) (h0 108 8) (Qm h0)) := nx_m (rowz (FR.rf (cs := []) (ss := [(108, 9), (108, 10), (108, 11), (108, 12)]) (h := h0)) (fun _ => rfl)) ((FR.rf (cs := []) (ss := [(108, 9), (108, 10), (108, 11), (108, 12)]) (h := h0)) 108 8 rfl) rfl (g_108_10 G0).1 Tx1
  have Px1 : h0 108 10 ≤ h1 108 9 := Tx1.1.1
  have Lx1 : h0 108 9 < h0 108 10 := M0.lt (by omega)
  have na1 : h1 108 16 = h0 108 16 := S1 108 16 rfl
  have V1 : vr h1 = (vr h0) := (vr_S S1 (fun _ => rfl) rfl (fun _ => rfl)).trans rfl
  exact z_retV (M := M_X12_must) 35 dX12_must_35 rfl ⟨G1, R1, Mx1, Qx1, Px1⟩
abbrev P_X12_must_0 (h0 : m_H) (a1 : Int) : m_H → Prop := fun h' => GI h' ∧ FR [] [(108, 13), (108, 14)] h0 h' ∧ h' 108 14 = 1 ∧ h' 108 13 = h0 108 9
set_option maxHeartbeats 4000000 in
set_option maxRecDepth 100000 in
theorem c_X12_must_0 (h0 : m_H) (a1 : Int) (G0 : GI h0) (pa1 : 0 ≤ a1 ∧ a1 ≤ 0) (hb : h0 108 14 = 0) : m_CV M_X12_must [mR 108, mI a1] h0 (P_X12_must_0 h0 a1) := by
  refine m_CV_of ⟨by decide, rfl, by simp [m_arg, m_isL, M_X12_must], ⟨rfl, rfl⟩, rfl, rfl⟩ (ls := [some (mR 108), some (mI a1)]) rfl ?_
  obtain ⟨x1, ex1⟩ : ∃ y : Int, h0 108 9 = y := ⟨_, rfl⟩
  have bx1 : 0 ≤ x1 ∧ x1 ≤ 400 := ex1 ▸ g_108_9 G0
  refine z_aload_n (M := M_X12_must) 0 dX12_must_0 rfl ?_
  refine z_getIE (M := M_X12_must) 1 dX12_must_1 f_X12_214 o_108 (by decide) hb ?_
  refine z_if_ne_F (M := M_X12_must) 4 dX12_must_4 24 rfl (by omega) ?_
  refine z_iload_n (M := M_X12_must) 7 dX12_must_7 rfl ?_
  refine z_if_ne_F (M := M_X12_must) 8 dX12_must_8 24 rfl (by omega) ?_
  refine z_aload_n (M := M_X12_must) 11 dX12_must_11 rfl ?_
  refine z_iconst (M := M_X12_must) 12 dX12_must_12 ?_
  refine z_putZH (M := M_X12_must) 13 dX12_must_13 p_X12_214 o_108 rfl (by omega) (u_108_14 G0 (by omega) (by omega)) ((FR.rf (cs := []) (ss := [(108, 13), (108, 14)]) (h := h0)).up rfl) (fun h1 E1 G1 R1 => ?_)
  refine z_aload_n (M := M_X12_must) 16 dX12_must_16 rfl ?_
  refine z_aload_n (M := M_X12_must) 17 dX12_must_17 rfl ?_
  refine z_getIE (M := M_X12_must) 18 dX12_must_18 f_X12_221 o_108 (by decide) ((upN E1 (fun q => absurd q.2 (by decide))).trans ex1) ?_
  refine z_putIH (M := M_X12_must) 21 dX12_must_21 p_X12_26 o_108 rfl (u_108_13 G1) (R1.up rfl) (fun h2 E2 G2 R2 => ?_)
  refine z_aload_n (M := M_X12_must) 24 dX12_must_24 rfl ?_
  refine z_getIE (M := M_X12_must) 25 dX12_must_25 f_X12_214 o_108 (by decide) ((upN E2 (fun q => absurd q.2 (by decide))).trans (upE E1)) ?_
  refine z_if_ne_T (M := M_X12_must) 28 dX12_must_28 35 rfl (by omega) ?_
  exact z_retV (M := M_X12_must) 35 dX12_must_35 rfl ⟨G2, R2, ((upN E2 (fun q => absurd q.2 (by decide))).trans (upE E1)), (upE E2).trans ex1.symm⟩
abbrev P_X12_must_b (h0 : m_H) (a1 : Int) : m_H → Prop := fun h' => GI h' ∧ FR [] [] h0 h'
set_option maxHeartbeats 4000000 in
set_option maxRecDepth 100000 in
theorem c_X12_must_b (h0 : m_H) (a1 : Int) (G0 : GI h0) (pa1 : 0 ≤ a1 ∧ a1 ≤ 1) (hb1 : h0 108 14 = 1) : m_CV M_X12_must [mR 108, mI a1] h0 (P_X12_must_b h0 a1) := by
  refine m_CV_of ⟨by decide, rfl, by simp [m_arg, m_isL, M_X12_must], ⟨rfl, rfl⟩, rfl, rfl⟩ (ls := [some (mR 108), some (mI a1)]) rfl ?_
  refine z_aload_n (M := M_X12_must) 0 dX12_must_0 rfl ?_
  refine z_getIE (M := M_X12_must) 1 dX12_must_1 f_X12_214 o_108 (by decide) hb1 ?_
  refine z_if_ne_T (M := M_X12_must) 4 dX12_must_4 24 rfl (by omega) ?_
  refine z_aload_n (M := M_X12_must) 24 dX12_must_24 rfl ?_
  refine z_getIE (M := M_X12_must) 25 dX12_must_25 f_X12_214 o_108 (by decide) hb1 ?_
  refine z_if_ne_T (M := M_X12_must) 28 dX12_must_28 35 rfl (by omega) ?_
  exact z_retV (M := M_X12_must) 35 dX12_must_35 rfl ⟨G0, (FR.rf (cs := []) (ss := []) (h := h0))⟩
abbrev P_X12_number_g (h0 : m_H) (a1 a2 : Int) : Int → m_H → Prop := fun x h' => GI h' ∧ FR [] [(108, 9), (108, 10), (108, 11), (108, 12), (108, 13), (108, 14)] h0 h' ∧ nmQ a1 a2 x h0 h'
set_option maxHeartbeats 4000000 in
set_option maxRecDepth 100000 in
theorem c_X12_number_g (h0 : m_H) (a1 a2 : Int) (G0 : GI h0) (pa1 : 0 ≤ a1 ∧ a1 ≤ 1000) (pa2 : 0 ≤ a2 ∧ a2 ≤ 999) (hb : h0 108 14 = 0) (M0 : MTk h0) : m_CI M_X12_number [mR 108, mJ a1, mJ a2] h0 (P_X12_number_g h0 a1 a2) := by
  refine m_CI_of ⟨by decide, rfl, by simp [m_arg, m_isL, M_X12_number], ⟨rfl, rfl⟩, rfl, rfl⟩ (ls := [some (mR 108), some (mJ a1), none, some (mJ a2), none, none]) rfl ?_
  refine z_aload_n (M := M_X12_number) 0 dX12_number_0 rfl ?_
  refine z_getJV (M := M_X12_number) 1 dX12_number_1 f_X12_224 o_108 rfl (fun x1 ex1 => ?_)
  refine z_l2i (M := M_X12_number) 4 dX12_number_4 ?_
  refine z_topm (fun x2 ex2 ox2 => ?_)
  unfold m_32 at ox2
  refine z_istore (M := M_X12_number) 5 dX12_number_5 (ls' := [some (mR 108), some (mJ a1), none, some (mJ a2), none, some (mI x2)]) (by decide) rfl ?_
  refine z_aload_n (M := M_X12_number) 7 dX12_number_7 rfl ?_
  refine z_aload_n (M := M_X12_number) 8 dX12_number_8 rfl ?_
  refine z_getIG (M := M_X12_number) 9 dX12_number_9 f_X12_234 o_108 (by decide) (g_108_11 G0) (fun x3 ex3 ax3 bx3 => ?_)
  refine z_iconst (M := M_X12_number) 12 dX12_number_12 ?_
  refine z_icmp_ne (M := M_X12_number) 13 dX12_number_13 32 rfl (fun c4 => ?_) (fun c4 => ?_)
  · refine z_iconst (M := M_X12_number) 32 dX12_number_32 ?_
    refine z_vV (M := M_X12_number) 33 dX12_number_33 t_X12_must l_X12_247 (m_rr_of rfl) (rest := []) (c_X12_must_0 h0 0 G0 ⟨by omega, by omega⟩ hb) o_108 rfl rfl rfl (Nat.le_of_ble_eq_true rfl) ⟨rfl, rfl⟩ (fun h1 qx5 => ?_)
    obtain ⟨G1, S1, bx5, fx5⟩ := qx5
    have R1 := (FR.rf (cs := []) (ss := [(108, 9), (108, 10), (108, 11), (108, 12), (108, 13), (108, 14)]) (h := h0)).call S1 (by decide +kernel)
    have Px5 : h1 108 9 = h0 108 9 := S1 108 9 rfl
    have fpx5 : h1 108 13 = (Qm h0).1 := fx5.trans (fst_m rfl)
    refine z_iload (M := M_X12_number) 36 dX12_number_36 rfl ?_
    exact z_retI (M := M_X12_number) 38 dX12_number_38 rfl ⟨G1, R1, Or.inr ⟨fun z => by have q := (nk (lo := a1) (hi := a2) (g_108_9 G0).1 M0.1 M0.2.1 (by omega) (by omega)).1.mp z; omega, bx5, fpx5, S1 108 9 rfl⟩⟩
  · refine z_aload_n (M := M_X12_number) 16 dX12_number_16 rfl ?_
    refine z_getJE (M := M_X12_number) 17 dX12_number_17 f_X12_224 o_108 rfl ex1 ?_
    refine z_lload_n (M := M_X12_number) 20 dX12_number_20 rfl ?_
    refine z_lload_n (M := M_X12_number) 21 dX12_number_21 rfl ?_
    refine z_sI (M := M_X12_number) 22 dX12_number_22 t_X12_in l_X12_143 (m_rr_of rfl) (rest := [mR 108]) (c_X12_in h0 x1 a1 a2 G0) rfl rfl (Nat.le_of_ble_eq_true rfl) ⟨rfl, rfl⟩ (fun x6 h2 qx6 => ?_)
    obtain ⟨rfl, ⟨rfl, cx6⟩ | ⟨rfl, cx6⟩⟩ := qx6
    · refine z_if_eq_F (M := M_X12_number) 25 dX12_number_25 32 rfl (by omega) ?_
      refine z_iconst (M := M_X12_number) 28 dX12_number_28 ?_
      refine z_goto (M := M_X12_number) 29 dX12_number_29 33 rfl ?_
      have mwid : x2 = x1 := by have z := m_w_or ex2; omega
      refine z_vV (M := M_X12_number) 33 dX12_number_33 t_X12_must l_X12_247 (m_rr_of rfl) (rest := []) (c_X12_must_1 h0 1 G0 ⟨by omega, by omega⟩ hb M0 (by omega)) o_108 rfl rfl rfl (Nat.le_of_ble_eq_true rfl) ⟨rfl, rfl⟩ (fun h3 qx7 => ?_)
      obtain ⟨G3, S3, Mx7, Kx7, Px7⟩ := qx7
      have R3 := (FR.rf (cs := []) (ss := [(108, 9), (108, 10), (108, 11), (108, 12), (108, 13), (108, 14)]) (h := h0)).call S3 (by decide +kernel)
      have Qx7 : Qm h3 = (nxt (h0 113) (h0 108 8) (Qm h0)) := nx_mm (rowz (FR.rf (cs := []) (ss := [(108, 9), (108, 10), (108, 11), (108, 12), (108, 13), (108, 14)]) (h := h0)) (fun _ => rfl)) ((FR.rf (cs := []) (ss := [(108, 9), (108, 10), (108, 11), (108, 12), (108, 13), (108, 14)]) (h := h0)) 108 8 rfl) rfl Kx7
      have Lx7 : h0 108 9 < h0 108 10 := M0.lt (by omega)
      have na3 : h3 108 16 = h0 108 16 := S3 108 16 rfl
      have V3 : vr h3 = (vr h0) := (vr_S S3 (fun _ => rfl) rfl (fun _ => rfl)).trans rfl
      refine z_iload (M := M_X12_number) 36 dX12_number_36 rfl ?_
      exact z_retI (M := M_X12_number) 38 dX12_number_38 rfl ⟨G3, R3, Or.inl ⟨(nk (lo := a1) (hi := a2) (g_108_9 G0).1 M0.1 M0.2.1 (by omega) (by omega)).1.mpr ⟨by omega, by omega, by omega⟩, (mwid.trans (ex1.symm.trans ((nk (lo := a1) (hi := a2) (g_108_9 G0).1 M0.1 M0.2.1 (by omega) (by omega)).2 ⟨by omega, by omega, by omega⟩))), ((S3 108 14 rfl).trans hb), Mx7, Kx7, Px7, Lx7, S3 108 13 rfl⟩⟩
    · refine z_if_eq_T (M := M_X12_number) 25 dX12_number_25 32 rfl (by omega) ?_
      refine z_iconst (M := M_X12_number) 32 dX12_number_32 ?_
      refine z_vV (M := M_X12_number) 33 dX12_number_33 t_X12_must l_X12_247 (m_rr_of rfl) (rest := []) (c_X12_must_0 h0 0 G0 ⟨by omega, by omega⟩ hb) o_108 rfl rfl rfl (Nat.le_of_ble_eq_true rfl) ⟨rfl, rfl⟩ (fun h4 qx8 => ?_)
      obtain ⟨G4, S4, bx8, fx8⟩ := qx8
      have R4 := (FR.rf (cs := []) (ss := [(108, 9), (108, 10), (108, 11), (108, 12), (108, 13), (108, 14)]) (h := h0)).call S4 (by decide +kernel)
      have Px8 : h4 108 9 = h0 108 9 := S4 108 9 rfl
      have fpx8 : h4 108 13 = (Qm h0).1 := fx8.trans (fst_m rfl)
      refine z_iload (M := M_X12_number) 36 dX12_number_36 rfl ?_
      exact z_retI (M := M_X12_number) 38 dX12_number_38 rfl ⟨G4, R4, Or.inr ⟨fun z => by have q := (nk (lo := a1) (hi := a2) (g_108_9 G0).1 M0.1 M0.2.1 (by omega) (by omega)).1.mp z; omega, bx8, fpx8, S4 108 9 rfl⟩⟩
abbrev P_X12_number_b (h0 : m_H) (a1 a2 : Int) : Int → m_H → Prop := fun x h' => GI h' ∧ FR [] [] h0 h'
set_option maxHeartbeats 4000000 in
set_option maxRecDepth 100000 in
theorem c_X12_number_b (h0 : m_H) (a1 a2 : Int) (G0 : GI h0) (pa1 : 0 ≤ a1 ∧ a1 ≤ 1000) (pa2 : 0 ≤ a2 ∧ a2 ≤ 999) (hb1 : h0 108 14 = 1) : m_CI M_X12_number [mR 108, mJ a1, mJ a2] h0 (P_X12_number_b h0 a1 a2) := by
  refine m_CI_of ⟨by decide, rfl, by simp [m_arg, m_isL, M_X12_number], ⟨rfl, rfl⟩, rfl, rfl⟩ (ls := [some (mR 108), some (mJ a1), none, some (mJ a2), none, none]) rfl ?_
  refine z_aload_n (M := M_X12_number) 0 dX12_number_0 rfl ?_
  refine z_getJV (M := M_X12_number) 1 dX12_number_1 f_X12_224 o_108 rfl (fun x1 ex1 => ?_)
  refine z_l2i (M := M_X12_number) 4 dX12_number_4 ?_
  refine z_topm (fun x2 ex2 ox2 => ?_)
  unfold m_32 at ox2
  refine z_istore (M := M_X12_number) 5 dX12_number_5 (ls' := [some (mR 108), some (mJ a1), none, some (mJ a2), none, some (mI x2)]) (by decide) rfl ?_
  refine z_aload_n (M := M_X12_number) 7 dX12_number_7 rfl ?_
  refine z_aload_n (M := M_X12_number) 8 dX12_number_8 rfl ?_
  refine z_getIG (M := M_X12_number) 9 dX12_number_9 f_X12_234 o_108 (by decide) (g_108_11 G0) (fun x3 ex3 ax3 bx3 => ?_)
  refine z_iconst (M := M_X12_number) 12 dX12_number_12 ?_
  refine z_icmp_ne (M := M_X12_number) 13 dX12_number_13 32 rfl (fun c4 => ?_) (fun c4 => ?_)
  · refine z_iconst (M := M_X12_number) 32 dX12_number_32 ?_
    refine z_vV (M := M_X12_number) 33 dX12_number_33 t_X12_must l_X12_247 (m_rr_of rfl) (rest := []) (c_X12_must_b h0 0 G0 ⟨by omega, by omega⟩ hb1) o_108 rfl rfl rfl (Nat.le_of_ble_eq_true rfl) ⟨rfl, rfl⟩ (fun h1 qx5 => ?_)
    obtain ⟨G1, S1⟩ := qx5
    have R1 := (FR.rf (cs := []) (ss := []) (h := h0)).call S1 (by decide +kernel)
    have P1_ : h1 108 9 = h0 108 9 := S1 108 9 rfl
    refine z_iload (M := M_X12_number) 36 dX12_number_36 rfl ?_
    exact z_retI (M := M_X12_number) 38 dX12_number_38 rfl ⟨G1, R1⟩
  · refine z_aload_n (M := M_X12_number) 16 dX12_number_16 rfl ?_
    refine z_getJE (M := M_X12_number) 17 dX12_number_17 f_X12_224 o_108 rfl ex1 ?_
    refine z_lload_n (M := M_X12_number) 20 dX12_number_20 rfl ?_
    refine z_lload_n (M := M_X12_number) 21 dX12_number_21 rfl ?_
    refine z_sI (M := M_X12_number) 22 dX12_number_22 t_X12_in l_X12_143 (m_rr_of rfl) (rest := [mR 108]) (c_X12_in h0 x1 a1 a2 G0) rfl rfl (Nat.le_of_ble_eq_true rfl) ⟨rfl, rfl⟩ (fun x6 h2 qx6 => ?_)
    obtain ⟨rfl, ⟨rfl, cx6⟩ | ⟨rfl, cx6⟩⟩ := qx6
    · refine z_if_eq_F (M := M_X12_number) 25 dX12_number_25 32 rfl (by omega) ?_
      refine z_iconst (M := M_X12_number) 28 dX12_number_28 ?_
      refine z_goto (M := M_X12_number) 29 dX12_number_29 33 rfl ?_
      refine z_vV (M := M_X12_number) 33 dX12_number_33 t_X12_must l_X12_247 (m_rr_of rfl) (rest := []) (c_X12_must_b h0 1 G0 ⟨by omega, by omega⟩ hb1) o_108 rfl rfl rfl (Nat.le_of_ble_eq_true rfl) ⟨rfl, rfl⟩ (fun h3 qx7 => ?_)
      obtain ⟨G3, S3⟩ := qx7
      have R3 := (FR.rf (cs := []) (ss := []) (h := h0)).call S3 (by decide +kernel)
      have P3_ : h3 108 9 = h0 108 9 := S3 108 9 rfl
      refine z_iload (M := M_X12_number) 36 dX12_number_36 rfl ?_
      exact z_retI (M := M_X12_number) 38 dX12_number_38 rfl ⟨G3, R3⟩
    · refine z_if_eq_T (M := M_X12_number) 25 dX12_number_25 32 rfl (by omega) ?_
      refine z_iconst (M := M_X12_number) 32 dX12_number_32 ?_
      refine z_vV (M := M_X12_number) 33 dX12_number_33 t_X12_must l_X12_247 (m_rr_of rfl) (rest := []) (c_X12_must_b h0 0 G0 ⟨by omega, by omega⟩ hb1) o_108 rfl rfl rfl (Nat.le_of_ble_eq_true rfl) ⟨rfl, rfl⟩ (fun h4 qx8 => ?_)
      obtain ⟨G4, S4⟩ := qx8
      have R4 := (FR.rf (cs := []) (ss := []) (h := h0)).call S4 (by decide +kernel)
      have P4_ : h4 108 9 = h0 108 9 := S4 108 9 rfl
      refine z_iload (M := M_X12_number) 36 dX12_number_36 rfl ?_
      exact z_retI (M := M_X12_number) 38 dX12_number_38 rfl ⟨G4, R4⟩
abbrev P_X12_act_b (h0 : m_H) (a1 a2 a3 a4 a5 : Int) : m_H → Prop := fun h' => GI h' ∧ FR [] [] h0 h'
set_option maxHeartbeats 4000000 in
set_option maxRecDepth 100000 in
theorem c_X12_act_b (h0 : m_H) (a1 a2 a3 a4 a5 : Int) (G0 : GI h0) (hb1 : h0 108 14 = 1) : m_CV M_X12_act [mR 108, mI a1, mI a2, mI a3, mI a4, mI a5] h0 (P_X12_act_b h0 a1 a2 a3 a4 a5) := by
  refine m_CV_of ⟨by decide, rfl, by simp [m_arg, m_isL, M_X12_act], ⟨rfl, rfl⟩, rfl, rfl⟩ (ls := [some (mR 108), some (mI a1), some (mI a2), some (mI a3), some (mI a4), some (mI a5), none]) rfl ?_
  refine z_ok (fun _ _ ok => ?_)
  have oa1 : m_32 a1 := ok 1 _ rfl
  unfold m_32 at oa1
  have oa2 : m_32 a2 := ok 2 _ rfl
  unfold m_32 at oa2
  have oa3 : m_32 a3 := ok 3 _ rfl
  unfold m_32 at oa3
  have oa4 : m_32 a4 := ok 4 _ rfl
  unfold m_32 at oa4
  have oa5 : m_32 a5 := ok 5 _ rfl
  unfold m_32 at oa5
  refine z_aload_n (M := M_X12_act) 0 dX12_act_0 rfl ?_
  refine z_getIE (M := M_X12_act) 1 dX12_act_1 f_X12_214 o_108 (by decide) hb1 ?_
  refine z_if_eq_F (M := M_X12_act) 4 dX12_act_4 8 rfl (by omega) ?_
  exact z_retV (M := M_X12_act) 7 dX12_act_7 rfl ⟨G0, (FR.rf (cs := []) (ss := []) (h := h0))⟩
theorem sh_st {r : Nat → Int} {l a b : Int} (i : ∀ j : Nat, (j : Int) < l → ¬ (r (2 * j + 48) = a ∧ r (2 * j + 49) = b)) (h0 : 0 ≤ l) (h : ¬ (r (48 + (2 * l)).toNat = a ∧ r ((48 + (2 * l)) + 1).toNat = b)) : ∀ j : Nat, (j : Int) < l + 1 → ¬ (r (2 * j + 48) = a ∧ r (2 * j + 49) = b) := by
  intro j hj
  by_cases g : (j : Int) = l
  · have e1 : (48 + (2 * l)).toNat = 2 * j + 48 := by omega
    have e2 : ((48 + (2 * l)) + 1).toNat = 2 * j + 49 := by omega
    rw [e1, e2] at h; exact h
  · exact i j (by omega)
theorem sh_no {r : Nat → Int} {l a b x : Int} (i : ∀ j : Nat, (j : Int) < l → ¬ (r (2 * j + 48) = a ∧ r (2 * j + 49) = b)) (hl : r 1 = x) (h : x ≤ l) : (0 : Int) = 1 ↔ iS r a b := by
  constructor
  · intro z; omega
  · rintro ⟨k, u, v, w⟩; exact absurd ⟨v, w⟩ (i k (by omega))
theorem sh_yes {r : Nat → Int} {l a b x : Int} (h0 : 0 ≤ l) (hl : r 1 = x) (h : l < x) (e1 : r (48 + (2 * l)).toNat = a) (e2 : r ((48 + (2 * l)) + 1).toNat = b) : (1 : Int) = 1 ↔ iS r a b := by
  have z1 : (48 + (2 * l)).toNat = 2 * l.toNat + 48 := by omega
  have z2 : ((48 + (2 * l)) + 1).toNat = 2 * l.toNat + 49 := by omega
  rw [z1] at e1; rw [z2] at e2
  exact ⟨fun _ => ⟨l.toNat, by omega, e1, e2⟩, fun _ => rfl⟩
theorem iS_act {k a b c d u v : Int} {r : Nat → Int} (ok : okA k a b c d) (h0 : 0 ≤ r 1) (h1 : k = 1 → r 1 ≤ 5) (h6 : r 1 ≤ 6) (h00 : 0 ≤ r 0) : iS (act1 k a b c d r) u v ↔ (iS r u v ∨ (k = 1 ∧ u = a ∧ v = b)) := by
  have gen : ∀ r' : Nat → Int, (∀ j : Nat, j = 1 ∨ (48 ≤ j ∧ j ≤ 59) → r' j = r j) → (iS r' u v ↔ iS r u v) := by
    intro r' e
    unfold iS
    rw [e 1 (Or.inl rfl)]
    constructor
    · rintro ⟨j, x, y, z⟩
      rw [e _ (Or.inr (by omega))] at y z
      exact ⟨j, x, y, z⟩
    · rintro ⟨j, x, y, z⟩
      exact ⟨j, x, by rw [e _ (Or.inr (by omega))]; exact y, by rw [e _ (Or.inr (by omega))]; exact z⟩
  unfold okA at ok
  rcases ok with ⟨e, u1, u2, u3⟩ | ⟨e, u1, u2⟩ | ⟨e, u1, u2⟩ | ⟨e, _⟩
  · subst e
    rw [act1_k0, gen _ (fun j hj => by unfold rW; rw [if_neg (by omega)])]
    exact ⟨Or.inl, fun z => z.elim id (fun z => absurd z.1 (by decide))⟩
  · subst e
    rw [act1_k1, iS_add h0 (h1 rfl)]
    exact ⟨fun z => z.elim Or.inl (fun z => Or.inr ⟨rfl, z⟩), fun z => z.elim Or.inl (fun z => Or.inr z.2)⟩
  · subst e
    rw [act1_k2, gen _ (fun j hj => by unfold rU; rw [if_neg (by omega)])]
    exact ⟨Or.inl, fun z => z.elim id (fun z => absurd z.1 (by decide))⟩
  · subst e
    rw [act1_k3, gen _ (fun j hj => by unfold rE; rw [if_neg (by omega), if_neg (by omega), if_neg (by omega), if_neg (by omega), if_neg (by omega), if_neg (by omega)])]
    exact ⟨Or.inl, fun z => z.elim id (fun z => absurd z.1 (by decide))⟩
theorem iS_ap {h : m_H} {u v k : Int} (G : GI h) (A : AI h) (h0 : 0 ≤ k) (hk : k < h 108 16) : iS (apA (h 114) (k + 1).toNat (h 110)) u v ↔ (iS (apA (h 114) k.toNat (h 110)) u v ∨ (h 114 (5 * k).toNat = 1 ∧ h 114 (5 * k + 1).toNat = u ∧ h 114 (5 * k + 2).toNat = v)) := by
  have z := apA_01 (h := h) (r := h 110) k.toNat (fun j hj => A.1 j (by omega))
  have m1 := cN_mono (kd := 1) (h := h) (show k.toNat + 1 ≤ (h 108 16).toNat by omega)
  have m0 := cN_mono (kd := 1) (h := h) (show 0 ≤ k.toNat by omega)
  have m3 := cN_mono (kd := 3) (h := h) (show 0 ≤ k.toNat by omega)
  have t1 := A.2.2.1
  have r1 := A.rooms.2
  have b1 := gw_1 G
  have b0 := gw_0 G
  have mm := cN_mono (kd := 1) (h := h) (show k.toNat ≤ (h 108 16).toNat by omega)
  have c0 : cN 1 h 0 = 0 := rfl
  have c3 : cN 3 h 0 = 0 := rfl
  have b1' : 0 ≤ h 110 1 := b1.1
  have b0' : 0 ≤ h 110 0 := b0.1
  rw [show (k + 1).toNat = k.toNat + 1 by omega, show (5 * k).toNat = 5 * k.toNat by omega, show (5 * k + 1).toNat = 5 * k.toNat + 1 by omega, show (5 * k + 2).toNat = 5 * k.toNat + 2 by omega]
  show iS (act1 _ _ _ _ _ (apA (h 114) k.toNat (h 110))) u v ↔ _
  rw [iS_act (A.1 k.toNat (by omega)) (by rw [z.2]; omega) (fun e => by
    simp only [cN] at m1; rw [if_pos e] at m1; rw [z.2]; omega) (by rw [z.2]; omega) (by rw [z.1]; omega)]
  constructor
  · rintro (x | ⟨x, y, w⟩)
    · exact Or.inl x
    · exact Or.inr ⟨x, y.symm, w.symm⟩
  · rintro (x | ⟨x, y, w⟩)
    · exact Or.inl x
    · exact Or.inr ⟨x, y.symm, w.symm⟩
abbrev P_X12_isShorter2 (h0 : m_H) (a1 a2 : Int) : Int → m_H → Prop := fun x h' => GI h' ∧ FR [] [] h0 h' ∧ 0 ≤ x ∧ x ≤ 1 ∧ (x = 1 ↔ iS (h0 110) a1 a2)
def q_X12_isShorter2 (h0 : m_H) (a1 a2 : Int) (n : Nat) : Prop := (∀ (l3 : Int) (h : m_H), GI h → FR [] [] h0 h → 0 ≤ l3 → l3 ≤ 6 → (-2147483648) ≤ a1 → a1 ≤ 2147483647 → (-2147483648) ≤ a2 → a2 ≤ 2147483647 → (∀ j : Nat, (j : Int) < l3 → ¬ (h0 110 (2 * j + 48) = a1 ∧ h0 110 (2 * j + 49) = a2)) → 2 * (6 - l3) + (1) ≤ (n : Int) → m_Z oF M_X12_isShorter 2 [some (mR 108), some (mI a1), some (mI a2), some (mI l3)] [] h (m_QI (P_X12_isShorter2 h0 a1 a2)))
set_option maxHeartbeats 4000000 in
set_option maxRecDepth 100000 in
theorem s_X12_isShorter2_2 (h0 : m_H) (a1 a2 : Int) (G0 : GI h0) (n : Nat) (ih : q_X12_isShorter2 h0 a1 a2 n) : ∀ (l3 : Int) (h : m_H), GI h → FR [] [] h0 h → 0 ≤ l3 → l3 ≤ 6 → (-2147483648) ≤ a1 → a1 ≤ 2147483647 → (-2147483648) ≤ a2 → a2 ≤ 2147483647 → (∀ j : Nat, (j : Int) < l3 → ¬ (h0 110 (2 * j + 48) = a1 ∧ h0 110 (2 * j + 49) = a2)) → 2 * (6 - l3) + (1) ≤ ((n + 1 : Nat) : Int) → m_Z oF M_X12_isShorter 2 [some (mR 108), some (mI a1), some (mI a2), some (mI l3)] [] h (m_QI (P_X12_isShorter2 h0 a1 a2)) := by
  intro l3 h G R v0 v1 v2 v3 v4 v5 i0 hr
  refine z_iload_n (M := M_X12_isShorter) 2 dX12_isShorter_2 rfl ?_
  refine z_aload_n (M := M_X12_isShorter) 3 dX12_isShorter_3 rfl ?_
  refine z_getR (M := M_X12_isShorter) 4 dX12_isShorter_4 f_X12_13 o_108 rfl (g_108_3 G) ?_
  refine z_iconst (M := M_X12_isShorter) 7 dX12_isShorter_7 ?_
  refine z_ialdG (M := M_X12_isShorter) 8 dX12_isShorter_8 o_110 (by omega) (by omega) (gw_1 G) (fun x1 ex1 ax1 bx1 => ?_)
  refine z_icmp_ge (M := M_X12_isShorter) 9 dX12_isShorter_9 52 rfl (fun c2 => ?_) (fun c2 => ?_)
  · refine z_iconst (M := M_X12_isShorter) 52 dX12_isShorter_52 ?_
    exact z_retZ (M := M_X12_isShorter) 53 dX12_isShorter_53 rfl (by omega) ⟨G, R, by omega, by omega, sh_no i0 ((R 110 1 rfl).symm.trans ex1) (by omega)⟩
  · refine z_aload_n (M := M_X12_isShorter) 12 dX12_isShorter_12 rfl ?_
    refine z_getR (M := M_X12_isShorter) 13 dX12_isShorter_13 f_X12_13 o_108 rfl (g_108_3 G) ?_
    refine z_bipush (M := M_X12_isShorter) 16 dX12_isShorter_16 ?_
    refine z_iconst (M := M_X12_isShorter) 18 dX12_isShorter_18 ?_
    refine z_iload_n (M := M_X12_isShorter) 19 dX12_isShorter_19 rfl ?_
    refine z_imulN (M := M_X12_isShorter) 20 dX12_isShorter_20 (by omega) (by omega) ?_
    refine z_iaddN (M := M_X12_isShorter) 21 dX12_isShorter_21 (by omega) (by omega) ?_
    refine z_ialdG (M := M_X12_isShorter) 22 dX12_isShorter_22 o_110 (by omega) (by omega) (gw_s G (by omega) (by omega)) (fun x3 ex3 ax3 bx3 => ?_)
    refine z_iload_n (M := M_X12_isShorter) 23 dX12_isShorter_23 rfl ?_
    refine z_icmp_ne (M := M_X12_isShorter) 24 dX12_isShorter_24 46 rfl (fun c4 => ?_) (fun c4 => ?_)
    · refine z_iincN (M := M_X12_isShorter) 46 dX12_isShorter_46 (ls' := [some (mR 108), some (mI a1), some (mI a2), some (mI (l3 + 1))]) (by decide) rfl (by (unfold m_32; decide)) (by omega) (by omega) rfl ?_
      refine z_goto (M := M_X12_isShorter) 49 dX12_isShorter_49 2 rfl ?_
      exact z_mask [true, true, true, true] rfl (ih (l3 + 1) h G R (by omega) (by omega) (by omega) (by omega) (by omega) (by omega) (sh_st i0 (by omega) (fun z => absurd z.1 (by rw [← R 110 _ rfl, ex3]; omega))) (by omega))
    · refine z_aload_n (M := M_X12_isShorter) 27 dX12_isShorter_27 rfl ?_
      refine z_getR (M := M_X12_isShorter) 28 dX12_isShorter_28 f_X12_13 o_108 rfl (g_108_3 G) ?_
      refine z_bipush (M := M_X12_isShorter) 31 dX12_isShorter_31 ?_
      refine z_iconst (M := M_X12_isShorter) 33 dX12_isShorter_33 ?_
      refine z_iload_n (M := M_X12_isShorter) 34 dX12_isShorter_34 rfl ?_
      refine z_imulN (M := M_X12_isShorter) 35 dX12_isShorter_35 (by omega) (by omega) ?_
      refine z_iaddN (M := M_X12_isShorter) 36 dX12_isShorter_36 (by omega) (by omega) ?_
      refine z_iconst (M := M_X12_isShorter) 37 dX12_isShorter_37 ?_
      refine z_iaddN (M := M_X12_isShorter) 38 dX12_isShorter_38 (by omega) (by omega) ?_
      refine z_ialdG (M := M_X12_isShorter) 39 dX12_isShorter_39 o_110 (by omega) (by omega) (gw_s G (by omega) (by omega)) (fun x5 ex5 ax5 bx5 => ?_)
      refine z_iload_n (M := M_X12_isShorter) 40 dX12_isShorter_40 rfl ?_
      refine z_icmp_ne (M := M_X12_isShorter) 41 dX12_isShorter_41 46 rfl (fun c6 => ?_) (fun c6 => ?_)
      · refine z_iincN (M := M_X12_isShorter) 46 dX12_isShorter_46 (ls' := [some (mR 108), some (mI a1), some (mI a2), some (mI (l3 + 1))]) (by decide) rfl (by (unfold m_32; decide)) (by omega) (by omega) rfl ?_
        refine z_goto (M := M_X12_isShorter) 49 dX12_isShorter_49 2 rfl ?_
        exact z_mask [true, true, true, true] rfl (ih (l3 + 1) h G R (by omega) (by omega) (by omega) (by omega) (by omega) (by omega) (sh_st i0 (by omega) (fun z => absurd z.2 (by rw [← R 110 _ rfl, ex5]; omega))) (by omega))
      · refine z_iconst (M := M_X12_isShorter) 44 dX12_isShorter_44 ?_
        exact z_retZ (M := M_X12_isShorter) 45 dX12_isShorter_45 rfl (by omega) ⟨G, R, by omega, by omega, sh_yes (by omega) ((R 110 1 rfl).symm.trans ex1) (by omega) ((R 110 _ rfl).symm.trans (ex3.trans (by omega))) ((R 110 _ rfl).symm.trans (ex5.trans (by omega)))⟩
theorem a_X12_isShorter2 (h0 : m_H) (a1 a2 : Int) (G0 : GI h0) : ∀ n, q_X12_isShorter2 h0 a1 a2 n := by
  intro n
  induction n with
  | zero => unfold q_X12_isShorter2; intros; omega
  | succ n ih => exact s_X12_isShorter2_2 h0 a1 a2 G0 n ih
set_option maxHeartbeats 4000000 in
set_option maxRecDepth 100000 in
theorem c_X12_isShorter2 (h0 : m_H) (a1 a2 : Int) (G0 : GI h0) : m_CI M_X12_isShorter [mR 108, mI a1, mI a2] h0 (P_X12_isShorter2 h0 a1 a2) := by
  refine m_CI_of ⟨by decide, rfl, by simp [m_arg, m_isL, M_X12_isShorter], ⟨rfl, rfl⟩, rfl, rfl⟩ (ls := [some (mR 108), some (mI a1), some (mI a2), none]) rfl ?_
  have ih := a_X12_isShorter2 h0 a1 a2 G0 20
  refine z_ok (fun _ _ ok => ?_)
  have oa1 : m_32 a1 := ok 1 _ rfl
  unfold m_32 at oa1
  have oa2 : m_32 a2 := ok 2 _ rfl
  unfold m_32 at oa2
  refine z_iconst (M := M_X12_isShorter) 0 dX12_isShorter_0 ?_
  refine z_istore_n (M := M_X12_isShorter) 1 dX12_isShorter_1 (ls' := [some (mR 108), some (mI a1), some (mI a2), some (mI 0)]) (by decide) rfl ?_
  exact z_mask [true, true, true, true] rfl (ih 0 h0 G0 (FR.rf (cs := []) (ss := []) (h := h0)) (by omega) (by omega) (by omega) (by omega) (by omega) (by omega) (fun j hj => by omega) (by omega))
abbrev P_X12_isDrafted2 (h0 : m_H) (a1 a2 : Int) : Int → m_H → Prop := fun x h' => GI h' ∧ FR [] [] h0 h' ∧ 0 ≤ x ∧ x ≤ 1 ∧ (x = 1 ↔ iS (vr h0) a1 a2)
def q_X12_isDrafted2 (h0 : m_H) (a1 a2 : Int) (n : Nat) : Prop := (∀ (l3 l4 y_108_16 : Int) (h : m_H), GI h → FR [] [] h0 h → 0 ≤ l3 → l3 ≤ 1 → 0 ≤ l4 → l4 ≤ 200 → 0 ≤ y_108_16 → y_108_16 ≤ 200 → (-2147483648) ≤ a1 → a1 ≤ 2147483647 → (-2147483648) ≤ a2 → a2 ≤ 2147483647 → (h 108 16 = y_108_16) → ((l3 = 1 ↔ iS (apA (h0 114) l4.toNat (h0 110)) a1 a2)) → (l4 ≤ y_108_16) → 2 * (200 - l4) + (1) ≤ (n : Int) → m_Z oF M_X12_isDrafted 10 [some (mR 108), some (mI a1), some (mI a2), some (mI l3), some (mI l4)] [] h (m_QI (P_X12_isDrafted2 h0 a1 a2)))
set_option maxHeartbeats 4000000 in
set_option maxRecDepth 100000 in
theorem s_X12_isDrafted2_10 (h0 : m_H) (a1 a2 : Int) (G0 : GI h0) (A0 : AI h0) (n : Nat) (ih : q_X12_isDrafted2 h0 a1 a2 n) : ∀ (l3 l4 y_108_16 : Int) (h : m_H), GI h → FR [] [] h0 h → 0 ≤ l3 → l3 ≤ 1 → 0 ≤ l4 → l4 ≤ 200 → 0 ≤ y_108_16 → y_108_16 ≤ 200 → (-2147483648) ≤ a1 → a1 ≤ 2147483647 → (-2147483648) ≤ a2 → a2 ≤ 2147483647 → (h 108 16 = y_108_16) → ((l3 = 1 ↔ iS (apA (h0 114) l4.toNat (h0 110)) a1 a2)) → (l4 ≤ y_108_16) → 2 * (200 - l4) + (1) ≤ ((n + 1 : Nat) : Int) → m_Z oF M_X12_isDrafted 10 [some (mR 108), some (mI a1), some (mI a2), some (mI l3), some (mI l4)] [] h (m_QI (P_X12_isDrafted2 h0 a1 a2)) := by
  intro l3 l4 y_108_16 h G R v0 v1 v2 v3 v4 v5 v6 v7 v8 v9 t_108_16 i0 i1 hr
  refine z_iload (M := M_X12_isDrafted) 10 dX12_isDrafted_10 rfl ?_
  refine z_aload_n (M := M_X12_isDrafted) 12 dX12_isDrafted_12 rfl ?_
  refine z_getIE (M := M_X12_isDrafted) 13 dX12_isDrafted_13 f_X12_251 o_108 (by decide) t_108_16 ?_
  refine z_icmp_ge (M := M_X12_isDrafted) 16 dX12_isDrafted_16 78 rfl (fun c1 => ?_) (fun c1 => ?_)
  · refine z_iload_n (M := M_X12_isDrafted) 78 dX12_isDrafted_78 rfl ?_
    exact z_retZ (M := M_X12_isDrafted) 79 dX12_isDrafted_79 rfl (by omega) ⟨G, R, by omega, by omega, by unfold vr; rw [show (h0 108 16).toNat = l4.toNat by have := R 108 16 rfl; omega]; exact i0⟩
  · refine z_iload_n (M := M_X12_isDrafted) 19 dX12_isDrafted_19 rfl ?_
    refine z_if_ne (M := M_X12_isDrafted) 20 dX12_isDrafted_20 66 rfl (fun c2 => ?_) (fun c2 => ?_)
    · refine z_iconst (M := M_X12_isDrafted) 66 dX12_isDrafted_66 ?_
      refine z_goto (M := M_X12_isDrafted) 67 dX12_isDrafted_67 71 rfl ?_
      refine z_istore_n (M := M_X12_isDrafted) 71 dX12_isDrafted_71 (ls' := [some (mR 108), some (mI a1), some (mI a2), some (mI 1), some (mI l4)]) (by decide) rfl ?_
      refine z_iincN (M := M_X12_isDrafted) 72 dX12_isDrafted_72 (ls' := [some (mR 108), some (mI a1), some (mI a2), some (mI 1), some (mI (l4 + 1))]) (by decide) rfl (by (unfold m_32; decide)) (by omega) (by omega) rfl ?_
      refine z_goto (M := M_X12_isDrafted) 75 dX12_isDrafted_75 10 rfl ?_
      have ia := iS_ap (u := a1) (v := a2) (k := l4) G0 A0 (by omega) (by have := R 108 16 rfl; omega)
      exact z_mask [true, true, true, true, true] rfl (ih 1 (l4 + 1) y_108_16 h G R (by omega) (by omega) (by omega) (by omega) (by omega) (by omega) (by omega) (by omega) (by omega) (by omega) t_108_16 (by rw [ia]; exact ⟨fun _ => Or.inl (i0.mp (by omega)), fun _ => rfl⟩) (by omega) (by omega))
    · refine z_aload_n (M := M_X12_isDrafted) 23 dX12_isDrafted_23 rfl ?_
      refine z_getR (M := M_X12_isDrafted) 24 dX12_isDrafted_24 f_X12_30 o_108 rfl (g_108_15 G) ?_
      refine z_iconst (M := M_X12_isDrafted) 27 dX12_isDrafted_27 ?_
      refine z_iload (M := M_X12_isDrafted) 28 dX12_isDrafted_28 rfl ?_
      refine z_imulN (M := M_X12_isDrafted) 30 dX12_isDrafted_30 (by omega) (by omega) ?_
      refine z_ialdV (M := M_X12_isDrafted) 31 dX12_isDrafted_31 o_114 (by omega) (by omega) (fun x3 ex3 => ?_)
      refine z_ok (fun ox3 _ _ => ?_)
      have ox3 := ox3.1; unfold m_ok m_32 at ox3
      refine z_iconst (M := M_X12_isDrafted) 32 dX12_isDrafted_32 ?_
      refine z_icmp_ne (M := M_X12_isDrafted) 33 dX12_isDrafted_33 70 rfl (fun c4 => ?_) (fun c4 => ?_)
      · refine z_iconst (M := M_X12_isDrafted) 70 dX12_isDrafted_70 ?_
        refine z_istore_n (M := M_X12_isDrafted) 71 dX12_isDrafted_71 (ls' := [some (mR 108), some (mI a1), some (mI a2), some (mI 0), some (mI l4)]) (by decide) rfl ?_
        refine z_iincN (M := M_X12_isDrafted) 72 dX12_isDrafted_72 (ls' := [some (mR 108), some (mI a1), some (mI a2), some (mI 0), some (mI (l4 + 1))]) (by decide) rfl (by (unfold m_32; decide)) (by omega) (by omega) rfl ?_
        refine z_goto (M := M_X12_isDrafted) 75 dX12_isDrafted_75 10 rfl ?_
        have ia := iS_ap (u := a1) (v := a2) (k := l4) G0 A0 (by omega) (by have := R 108 16 rfl; omega)
        have r31_ : h0 114 (5 * l4).toNat = x3 := (R 114 _ rfl).symm.trans ex3
        exact z_mask [true, true, true, true, true] rfl (ih 0 (l4 + 1) y_108_16 h G R (by omega) (by omega) (by omega) (by omega) (by omega) (by omega) (by omega) (by omega) (by omega) (by omega) t_108_16 (by rw [ia]; exact ⟨fun z => by omega, fun z => z.elim (fun z => by have := i0.mpr z; omega) (fun z => by omega)⟩) (by omega) (by omega))
      · refine z_aload_n (M := M_X12_isDrafted) 36 dX12_isDrafted_36 rfl ?_
        refine z_getR (M := M_X12_isDrafted) 37 dX12_isDrafted_37 f_X12_30 o_108 rfl (g_108_15 G) ?_
        refine z_iconst (M := M_X12_isDrafted) 40 dX12_isDrafted_40 ?_
        refine z_iload (M := M_X12_isDrafted) 41 dX12_isDrafted_41 rfl ?_
        refine z_imulN (M := M_X12_isDrafted) 43 dX12_isDrafted_43 (by omega) (by omega) ?_
        refine z_iconst (M := M_X12_isDrafted) 44 dX12_isDrafted_44 ?_
        refine z_iaddN (M := M_X12_isDrafted) 45 dX12_isDrafted_45 (by omega) (by omega) ?_
        refine z_ialdV (M := M_X12_isDrafted) 46 dX12_isDrafted_46 o_114 (by omega) (by omega) (fun x5 ex5 => ?_)
        refine z_ok (fun ox5 _ _ => ?_)
        have ox5 := ox5.1; unfold m_ok m_32 at ox5
        refine z_iload_n (M := M_X12_isDrafted) 47 dX12_isDrafted_47 rfl ?_
        refine z_icmp_ne (M := M_X12_isDrafted) 48 dX12_isDrafted_48 70 rfl (fun c6 => ?_) (fun c6 => ?_)
        · refine z_iconst (M := M_X12_isDrafted) 70 dX12_isDrafted_70 ?_
          refine z_istore_n (M := M_X12_isDrafted) 71 dX12_isDrafted_71 (ls' := [some (mR 108), some (mI a1), some (mI a2), some (mI 0), some (mI l4)]) (by decide) rfl ?_
          refine z_iincN (M := M_X12_isDrafted) 72 dX12_isDrafted_72 (ls' := [some (mR 108), some (mI a1), some (mI a2), some (mI 0), some (mI (l4 + 1))]) (by decide) rfl (by (unfold m_32; decide)) (by omega) (by omega) rfl ?_
          refine z_goto (M := M_X12_isDrafted) 75 dX12_isDrafted_75 10 rfl ?_
          have ia := iS_ap (u := a1) (v := a2) (k := l4) G0 A0 (by omega) (by have := R 108 16 rfl; omega)
          have r31_ : h0 114 (5 * l4).toNat = x3 := (R 114 _ rfl).symm.trans ex3
          have r46_ : h0 114 (5 * l4 + 1).toNat = x5 := (R 114 _ rfl).symm.trans ex5
          exact z_mask [true, true, true, true, true] rfl (ih 0 (l4 + 1) y_108_16 h G R (by omega) (by omega) (by omega) (by omega) (by omega) (by omega) (by omega) (by omega) (by omega) (by omega) t_108_16 (by rw [ia]; exact ⟨fun z => by omega, fun z => z.elim (fun z => by have := i0.mpr z; omega) (fun z => by omega)⟩) (by omega) (by omega))
        · refine z_aload_n (M := M_X12_isDrafted) 51 dX12_isDrafted_51 rfl ?_
          refine z_getR (M := M_X12_isDrafted) 52 dX12_isDrafted_52 f_X12_30 o_108 rfl (g_108_15 G) ?_
          refine z_iconst (M := M_X12_isDrafted) 55 dX12_isDrafted_55 ?_
          refine z_iload (M := M_X12_isDrafted) 56 dX12_isDrafted_56 rfl ?_
          refine z_imulN (M := M_X12_isDrafted) 58 dX12_isDrafted_58 (by omega) (by omega) ?_
          refine z_iconst (M := M_X12_isDrafted) 59 dX12_isDrafted_59 ?_
          refine z_iaddN (M := M_X12_isDrafted) 60 dX12_isDrafted_60 (by omega) (by omega) ?_
          refine z_ialdV (M := M_X12_isDrafted) 61 dX12_isDrafted_61 o_114 (by omega) (by omega) (fun x7 ex7 => ?_)
          refine z_ok (fun ox7 _ _ => ?_)
          have ox7 := ox7.1; unfold m_ok m_32 at ox7
          refine z_iload_n (M := M_X12_isDrafted) 62 dX12_isDrafted_62 rfl ?_
          refine z_icmp_ne (M := M_X12_isDrafted) 63 dX12_isDrafted_63 70 rfl (fun c8 => ?_) (fun c8 => ?_)
          · refine z_iconst (M := M_X12_isDrafted) 70 dX12_isDrafted_70 ?_
            refine z_istore_n (M := M_X12_isDrafted) 71 dX12_isDrafted_71 (ls' := [some (mR 108), some (mI a1), some (mI a2), some (mI 0), some (mI l4)]) (by decide) rfl ?_
            refine z_iincN (M := M_X12_isDrafted) 72 dX12_isDrafted_72 (ls' := [some (mR 108), some (mI a1), some (mI a2), some (mI 0), some (mI (l4 + 1))]) (by decide) rfl (by (unfold m_32; decide)) (by omega) (by omega) rfl ?_
            refine z_goto (M := M_X12_isDrafted) 75 dX12_isDrafted_75 10 rfl ?_
            have ia := iS_ap (u := a1) (v := a2) (k := l4) G0 A0 (by omega) (by have := R 108 16 rfl; omega)
            have r31_ : h0 114 (5 * l4).toNat = x3 := (R 114 _ rfl).symm.trans ex3
            have r46_ : h0 114 (5 * l4 + 1).toNat = x5 := (R 114 _ rfl).symm.trans ex5
            have r61_ : h0 114 (5 * l4 + 2).toNat = x7 := (R 114 _ rfl).symm.trans ex7
            exact z_mask [true, true, true, true, true] rfl (ih 0 (l4 + 1) y_108_16 h G R (by omega) (by omega) (by omega) (by omega) (by omega) (by omega) (by omega) (by omega) (by omega) (by omega) t_108_16 (by rw [ia]; exact ⟨fun z => by omega, fun z => z.elim (fun z => by have := i0.mpr z; omega) (fun z => by omega)⟩) (by omega) (by omega))
          · refine z_iconst (M := M_X12_isDrafted) 66 dX12_isDrafted_66 ?_
            refine z_goto (M := M_X12_isDrafted) 67 dX12_isDrafted_67 71 rfl ?_
            refine z_istore_n (M := M_X12_isDrafted) 71 dX12_isDrafted_71 (ls' := [some (mR 108), some (mI a1), some (mI a2), some (mI 1), some (mI l4)]) (by decide) rfl ?_
            refine z_iincN (M := M_X12_isDrafted) 72 dX12_isDrafted_72 (ls' := [some (mR 108), some (mI a1), some (mI a2), some (mI 1), some (mI (l4 + 1))]) (by decide) rfl (by (unfold m_32; decide)) (by omega) (by omega) rfl ?_
            refine z_goto (M := M_X12_isDrafted) 75 dX12_isDrafted_75 10 rfl ?_
            have ia := iS_ap (u := a1) (v := a2) (k := l4) G0 A0 (by omega) (by have := R 108 16 rfl; omega)
            have r31_ : h0 114 (5 * l4).toNat = x3 := (R 114 _ rfl).symm.trans ex3
            have r46_ : h0 114 (5 * l4 + 1).toNat = x5 := (R 114 _ rfl).symm.trans ex5
            have r61_ : h0 114 (5 * l4 + 2).toNat = x7 := (R 114 _ rfl).symm.trans ex7
            exact z_mask [true, true, true, true, true] rfl (ih 1 (l4 + 1) y_108_16 h G R (by omega) (by omega) (by omega) (by omega) (by omega) (by omega) (by omega) (by omega) (by omega) (by omega) t_108_16 (by rw [ia]; exact ⟨fun _ => Or.inr ⟨by omega, by omega, by omega⟩, fun _ => rfl⟩) (by omega) (by omega))
theorem a_X12_isDrafted2 (h0 : m_H) (a1 a2 : Int) (G0 : GI h0) (A0 : AI h0) : ∀ n, q_X12_isDrafted2 h0 a1 a2 n := by
  intro n
  induction n with
  | zero => unfold q_X12_isDrafted2; intros; omega
  | succ n ih => exact s_X12_isDrafted2_10 h0 a1 a2 G0 A0 n ih
set_option maxHeartbeats 4000000 in
set_option maxRecDepth 100000 in
theorem c_X12_isDrafted2 (h0 : m_H) (a1 a2 : Int) (G0 : GI h0) (A0 : AI h0) : m_CI M_X12_isDrafted [mR 108, mI a1, mI a2] h0 (P_X12_isDrafted2 h0 a1 a2) := by
  refine m_CI_of ⟨by decide, rfl, by simp [m_arg, m_isL, M_X12_isDrafted], ⟨rfl, rfl⟩, rfl, rfl⟩ (ls := [some (mR 108), some (mI a1), some (mI a2), none, none]) rfl ?_
  have ih := a_X12_isDrafted2 h0 a1 a2 G0 A0 408
  refine z_ok (fun _ _ ok => ?_)
  have oa1 : m_32 a1 := ok 1 _ rfl
  unfold m_32 at oa1
  have oa2 : m_32 a2 := ok 2 _ rfl
  unfold m_32 at oa2
  obtain ⟨x1, ex1⟩ : ∃ y : Int, h0 108 16 = y := ⟨_, rfl⟩
  have bx1 : 0 ≤ x1 ∧ x1 ≤ 200 := ex1 ▸ g_108_16 G0
  refine z_aload_n (M := M_X12_isDrafted) 0 dX12_isDrafted_0 rfl ?_
  refine z_iload_n (M := M_X12_isDrafted) 1 dX12_isDrafted_1 rfl ?_
  refine z_iload_n (M := M_X12_isDrafted) 2 dX12_isDrafted_2 rfl ?_
  refine z_vI (M := M_X12_isDrafted) 3 dX12_isDrafted_3 t_X12_isShorter l_X12_172 (m_rr_of rfl) (rest := []) (c_X12_isShorter2 h0 a1 a2 G0) o_108 rfl rfl rfl (Nat.le_of_ble_eq_true rfl) ⟨rfl, rfl⟩ (fun x2 h1 qx2 => ?_)
  obtain ⟨G1, S1, ax2, bx2, fx2_0⟩ := qx2
  have R1 := (FR.rf (cs := []) (ss := []) (h := h0)).call S1 (by decide +kernel)
  refine z_istore_n (M := M_X12_isDrafted) 6 dX12_isDrafted_6 (ls' := [some (mR 108), some (mI a1), some (mI a2), some (mI x2), none]) (by decide) rfl ?_
  refine z_iconst (M := M_X12_isDrafted) 7 dX12_isDrafted_7 ?_
  refine z_istore (M := M_X12_isDrafted) 8 dX12_isDrafted_8 (ls' := [some (mR 108), some (mI a1), some (mI a2), some (mI x2), some (mI 0)]) (by decide) rfl ?_
  exact z_mask [true, true, true, true, true] rfl (ih x2 0 x1 h1 G1 R1 (by omega) (by omega) (by omega) (by omega) (by omega) (by omega) (by omega) (by omega) (by omega) (by omega) ((S1 108 16 rfl).trans ex1) fx2_0 (by omega) (by omega))
