abbrev P_X12_asIsX (h0 : m_H) : m_H → Prop := fun h' => GI h' ∧ FR [122, 123] [] h0 h' ∧ asQ h0 h' 32 6
def q_X12_asIsX (h0 : m_H) (n : Nat) : Prop := (∀ (l1 : Int) (h : m_H), GI h → FR [122, 123] [] h0 h → 0 ≤ l1 → l1 ≤ 32 → (asQ h0 h l1 0) → 2 * (32 - l1) + (16) ≤ (n : Int) → m_Z oF M_X12_asIs 2 [some (mR 108), some (mI l1)] [] h (m_QV (P_X12_asIsX h0))) ∧ (∀ (l1 : Int) (h : m_H), GI h → FR [122, 123] [] h0 h → 0 ≤ l1 → l1 ≤ 6 → (asQ h0 h 32 l1) → 2 * (6 - l1) + (1) ≤ (n : Int) → m_Z oF M_X12_asIs 31 [some (mR 108), some (mI l1)] [] h (m_QV (P_X12_asIsX h0)))
set_option maxHeartbeats 4000000 in
set_option maxRecDepth 100000 in
theorem s_X12_asIsX_2 (h0 : m_H) (G0 : GI h0) (n : Nat) (ih : q_X12_asIsX h0 n) : ∀ (l1 : Int) (h : m_H), GI h → FR [122, 123] [] h0 h → 0 ≤ l1 → l1 ≤ 32 → (asQ h0 h l1 0) → 2 * (32 - l1) + (16) ≤ ((n + 1 : Nat) : Int) → m_Z oF M_X12_asIs 2 [some (mR 108), some (mI l1)] [] h (m_QV (P_X12_asIsX h0)) := by
  intro l1 h G R v0 v1 i0 hr
  refine z_iload_n (M := M_X12_asIs) 2 dX12_asIs_2 rfl ?_
  refine z_bipush (M := M_X12_asIs) 3 dX12_asIs_3 ?_
  refine z_icmp_ge (M := M_X12_asIs) 5 dX12_asIs_5 29 rfl (fun c1 => ?_) (fun c1 => ?_)
  · refine z_iconst (M := M_X12_asIs) 29 dX12_asIs_29 ?_
    refine z_istore_n (M := M_X12_asIs) 30 dX12_asIs_30 (ls' := [some (mR 108), some (mI 0)]) (by decide) rfl ?_
    exact z_mask [true, true] rfl (ih.2 0 h G R (by omega) (by omega) ((show l1 = 32 by omega) ▸ i0) (by omega))
  · refine z_aload_n (M := M_X12_asIs) 8 dX12_asIs_8 rfl ?_
    refine z_getR (M := M_X12_asIs) 9 dX12_asIs_9 f_X12_55 o_108 rfl (g_108_27 G) ?_
    refine z_iload_n (M := M_X12_asIs) 12 dX12_asIs_12 rfl ?_
    refine z_aload_n (M := M_X12_asIs) 13 dX12_asIs_13 rfl ?_
    refine z_getR (M := M_X12_asIs) 14 dX12_asIs_14 f_X12_13 o_108 rfl (g_108_3 G) ?_
    refine z_bipush (M := M_X12_asIs) 17 dX12_asIs_17 ?_
    refine z_iload_n (M := M_X12_asIs) 19 dX12_asIs_19 rfl ?_
    refine z_iaddN (M := M_X12_asIs) 20 dX12_asIs_20 (by omega) (by omega) ?_
    refine z_ialdG (M := M_X12_asIs) 21 dX12_asIs_21 o_110 (by omega) (by omega) (gw_w G (by omega) (by omega)) (fun x2 ex2 ax2 bx2 => ?_)
    refine z_iastH (M := M_X12_asIs) 22 dX12_asIs_22 o_122 (by omega) (by omega) (u_122 G (by omega) (by omega)) (R.up rfl) (fun h1 E1 G1 R1 => ?_)
    refine z_iincN (M := M_X12_asIs) 23 dX12_asIs_23 (ls' := [some (mR 108), some (mI (l1 + 1))]) (by decide) rfl (by (unfold m_32; decide)) (by omega) (by omega) rfl ?_
    refine z_goto (M := M_X12_asIs) 26 dX12_asIs_26 2 rfl ?_
    exact z_mask [true, true] rfl (ih.1 (l1 + 1) h1 G1 R1 (by omega) (by omega) (as_1 (by omega) i0 ((R 110 _ rfl).symm.trans ex2) E1) (by omega))
set_option maxHeartbeats 4000000 in
set_option maxRecDepth 100000 in
theorem s_X12_asIsX_31 (h0 : m_H) (G0 : GI h0) (n : Nat) (ih : q_X12_asIsX h0 n) : ∀ (l1 : Int) (h : m_H), GI h → FR [122, 123] [] h0 h → 0 ≤ l1 → l1 ≤ 6 → (asQ h0 h 32 l1) → 2 * (6 - l1) + (1) ≤ ((n + 1 : Nat) : Int) → m_Z oF M_X12_asIs 31 [some (mR 108), some (mI l1)] [] h (m_QV (P_X12_asIsX h0)) := by
  intro l1 h G R v0 v1 i0 hr
  refine z_iload_n (M := M_X12_asIs) 31 dX12_asIs_31 rfl ?_
  refine z_bipush (M := M_X12_asIs) 32 dX12_asIs_32 ?_
  refine z_icmp_ge (M := M_X12_asIs) 34 dX12_asIs_34 58 rfl (fun c1 => ?_) (fun c1 => ?_)
  · exact z_retV (M := M_X12_asIs) 58 dX12_asIs_58 rfl ⟨G, R, (show l1 = 6 by omega) ▸ i0⟩
  · refine z_aload_n (M := M_X12_asIs) 37 dX12_asIs_37 rfl ?_
    refine z_getR (M := M_X12_asIs) 38 dX12_asIs_38 f_X12_58 o_108 rfl (g_108_28 G) ?_
    refine z_iload_n (M := M_X12_asIs) 41 dX12_asIs_41 rfl ?_
    refine z_aload_n (M := M_X12_asIs) 42 dX12_asIs_42 rfl ?_
    refine z_getR (M := M_X12_asIs) 43 dX12_asIs_43 f_X12_13 o_108 rfl (g_108_3 G) ?_
    refine z_bipush (M := M_X12_asIs) 46 dX12_asIs_46 ?_
    refine z_iload_n (M := M_X12_asIs) 48 dX12_asIs_48 rfl ?_
    refine z_iaddN (M := M_X12_asIs) 49 dX12_asIs_49 (by omega) (by omega) ?_
    refine z_ialdG (M := M_X12_asIs) 50 dX12_asIs_50 o_110 (by omega) (by omega) (gw_c G (by omega) (by omega)) (fun x2 ex2 ax2 bx2 => ?_)
    refine z_iastH (M := M_X12_asIs) 51 dX12_asIs_51 o_123 (by omega) (by omega) (u_123 G (by omega) (by omega)) (R.up rfl) (fun h1 E1 G1 R1 => ?_)
    refine z_iincN (M := M_X12_asIs) 52 dX12_asIs_52 (ls' := [some (mR 108), some (mI (l1 + 1))]) (by decide) rfl (by (unfold m_32; decide)) (by omega) (by omega) rfl ?_
    refine z_goto (M := M_X12_asIs) 55 dX12_asIs_55 31 rfl ?_
    exact z_mask [true, true] rfl (ih.2 (l1 + 1) h1 G1 R1 (by omega) (by omega) (as_2 (by omega) i0 ((R 110 _ rfl).symm.trans ex2) E1) (by omega))
theorem a_X12_asIsX (h0 : m_H) (G0 : GI h0) : ∀ n, q_X12_asIsX h0 n := by
  intro n
  induction n with
  | zero => unfold q_X12_asIsX; refine ⟨?_, ?_⟩ <;> (intros; omega)
  | succ n ih => exact ⟨s_X12_asIsX_2 h0 G0 n ih, s_X12_asIsX_31 h0 G0 n ih⟩
set_option maxHeartbeats 4000000 in
set_option maxRecDepth 100000 in
theorem c_X12_asIsX (h0 : m_H) (G0 : GI h0) : m_CV M_X12_asIs [mR 108] h0 (P_X12_asIsX h0) := by
  refine m_CV_of ⟨by decide, rfl, by simp [m_arg, m_isL, M_X12_asIs], ⟨rfl, rfl⟩, rfl, rfl⟩ (ls := [some (mR 108), none]) rfl ?_
  have ih := a_X12_asIsX h0 G0 87
  refine z_iconst (M := M_X12_asIs) 0 dX12_asIs_0 ?_
  refine z_istore_n (M := M_X12_asIs) 1 dX12_asIs_1 (ls' := [some (mR 108), some (mI 0)]) (by decide) rfl ?_
  exact z_mask [true, true] rfl (ih.1 0 h0 G0 (FR.rf (cs := [122, 123]) (ss := []) (h := h0)) (by omega) (by omega) ⟨fun j hj => by omega, fun j hj => by omega⟩ (by omega))
abbrev P_X12_countingX (h0 : m_H) : Int → m_H → Prop := fun x h' => GI h' ∧ FR [] [] h0 h' ∧ x = cF (h0 110)
def q_X12_countingX (h0 : m_H) (n : Nat) : Prop := (∀ (l1 l2 : Int) (h : m_H), GI h → FR [] [] h0 h → 0 ≤ l2 → l2 ≤ 24 → (l1 = cS (h0 110) l2.toNat) → (l2 ≤ h0 110 (0 : Int).toNat) → 2 * (24 - l2) + (1) ≤ (n : Int) → m_Z oF M_X12_counting 4 [some (mR 108), some (mI l1), some (mI l2)] [] h (m_QI (P_X12_countingX h0)))
set_option maxHeartbeats 4000000 in
set_option maxRecDepth 100000 in
theorem s_X12_countingX_4 (h0 : m_H) (G0 : GI h0) (n : Nat) (ih : q_X12_countingX h0 n) : ∀ (l1 l2 : Int) (h : m_H), GI h → FR [] [] h0 h → 0 ≤ l2 → l2 ≤ 24 → (l1 = cS (h0 110) l2.toNat) → (l2 ≤ h0 110 (0 : Int).toNat) → 2 * (24 - l2) + (1) ≤ ((n + 1 : Nat) : Int) → m_Z oF M_X12_counting 4 [some (mR 108), some (mI l1), some (mI l2)] [] h (m_QI (P_X12_countingX h0)) := by
  intro l1 l2 h G R v0 v1 i0 i1 hr
  refine z_ok (fun ostk _ olocs => ?_)
  have ol1 : m_32 l1 := olocs 1 _ rfl
  unfold m_32 at ol1
  refine z_iload_n (M := M_X12_counting) 4 dX12_counting_4 rfl ?_
  refine z_aload_n (M := M_X12_counting) 5 dX12_counting_5 rfl ?_
  refine z_getR (M := M_X12_counting) 6 dX12_counting_6 f_X12_13 o_108 rfl (g_108_3 G) ?_
  refine z_iconst (M := M_X12_counting) 9 dX12_counting_9 ?_
  refine z_ialdG (M := M_X12_counting) 10 dX12_counting_10 o_110 (by omega) (by omega) (gw_0 G) (fun x1 ex1 ax1 bx1 => ?_)
  refine z_icmp_ge (M := M_X12_counting) 11 dX12_counting_11 40 rfl (fun c2 => ?_) (fun c2 => ?_)
  · refine z_iload_n (M := M_X12_counting) 40 dX12_counting_40 rfl ?_
    exact z_retI (M := M_X12_counting) 41 dX12_counting_41 rfl ⟨G, R, by have r0 := R 110 (0 : Int).toNat rfl; have q1 : l2 = h0 110 (0 : Int).toNat := (by omega); rw [q1] at i0; exact i0⟩
  · refine z_iload_n (M := M_X12_counting) 14 dX12_counting_14 rfl ?_
    refine z_aload_n (M := M_X12_counting) 15 dX12_counting_15 rfl ?_
    refine z_iload_n (M := M_X12_counting) 16 dX12_counting_16 rfl ?_
    refine z_iconst (M := M_X12_counting) 17 dX12_counting_17 ?_
    refine z_vI (M := M_X12_counting) 18 dX12_counting_18 t_X12_ofEntry l_X12_195 (m_rr_of rfl) (rest := [mI l1]) (c_X12_ofEntry h l2 4 G ⟨by omega, by omega⟩ ⟨by omega, by omega⟩) o_108 rfl rfl rfl (Nat.le_of_ble_eq_true rfl) ⟨rfl, rfl⟩ (fun x3 h1 qx3 => ?_)
    obtain ⟨rfl, fx3⟩ := qx3
    have gx3 := gw_e4 G (i := (80 + 5 * l2 + 4)) (e := l2) (by omega) (by omega) (by omega)
    rw [fx3] at gx3
    refine z_iconst (M := M_X12_counting) 21 dX12_counting_21 ?_
    refine z_icmp_ne (M := M_X12_counting) 22 dX12_counting_22 31 rfl (fun c4 => ?_) (fun c4 => ?_)
    · refine z_iconst (M := M_X12_counting) 31 dX12_counting_31 ?_
      refine z_ior (M := M_X12_counting) 32 dX12_counting_32 ?_
      refine z_topm (fun x5 ex5 ox5 => ?_)
      unfold m_32 at ox5
      refine z_istore_n (M := M_X12_counting) 33 dX12_counting_33 (ls' := [some (mR 108), some (mI x5), some (mI l2)]) (by decide) rfl ?_
      refine z_iincN (M := M_X12_counting) 34 dX12_counting_34 (ls' := [some (mR 108), some (mI x5), some (mI (l2 + 1))]) (by decide) rfl (by (unfold m_32; decide)) (by omega) (by omega) rfl ?_
      refine z_goto (M := M_X12_counting) 37 dX12_counting_37 4 rfl ?_
      exact z_mask [true, true, true] rfl (ih x5 (l2 + 1) h G R (by omega) (by omega) (cS_0 (by omega) i0 ((R 110 _ rfl).symm.trans fx3) (by omega) ex5) (by have r0 := R 110 (0 : Int).toNat rfl; omega) (by omega))
    · refine z_iconst (M := M_X12_counting) 25 dX12_counting_25 ?_
      refine z_iload_n (M := M_X12_counting) 26 dX12_counting_26 rfl ?_
      refine z_ishl (M := M_X12_counting) 27 dX12_counting_27 ?_
      refine z_topm (fun x6 ex6 ox6 => ?_)
      unfold m_32 at ox6
      refine z_goto (M := M_X12_counting) 28 dX12_counting_28 32 rfl ?_
      refine z_ior (M := M_X12_counting) 32 dX12_counting_32 ?_
      refine z_topm (fun x7 ex7 ox7 => ?_)
      unfold m_32 at ox7
      refine z_istore_n (M := M_X12_counting) 33 dX12_counting_33 (ls' := [some (mR 108), some (mI x7), some (mI l2)]) (by decide) rfl ?_
      refine z_iincN (M := M_X12_counting) 34 dX12_counting_34 (ls' := [some (mR 108), some (mI x7), some (mI (l2 + 1))]) (by decide) rfl (by (unfold m_32; decide)) (by omega) (by omega) rfl ?_
      refine z_goto (M := M_X12_counting) 37 dX12_counting_37 4 rfl ?_
      exact z_mask [true, true, true] rfl (ih x7 (l2 + 1) h G R (by omega) (by omega) (cS_1 (by omega) i0 ((R 110 _ rfl).symm.trans fx3) (by omega) ex6 ex7) (by have r0 := R 110 (0 : Int).toNat rfl; omega) (by omega))
theorem a_X12_countingX (h0 : m_H) (G0 : GI h0) : ∀ n, q_X12_countingX h0 n := by
  intro n
  induction n with
  | zero => unfold q_X12_countingX; intros; omega
  | succ n ih => exact s_X12_countingX_4 h0 G0 n ih
set_option maxHeartbeats 4000000 in
set_option maxRecDepth 100000 in
theorem c_X12_countingX (h0 : m_H) (G0 : GI h0) : m_CI M_X12_counting [mR 108] h0 (P_X12_countingX h0) := by
  refine m_CI_of ⟨by decide, rfl, by simp [m_arg, m_isL, M_X12_counting], ⟨rfl, rfl⟩, rfl, rfl⟩ (ls := [some (mR 108), none, none]) rfl ?_
  have ih := a_X12_countingX h0 G0 56
  refine z_iconst (M := M_X12_counting) 0 dX12_counting_0 ?_
  refine z_istore_n (M := M_X12_counting) 1 dX12_counting_1 (ls' := [some (mR 108), some (mI 0), none]) (by decide) rfl ?_
  refine z_iconst (M := M_X12_counting) 2 dX12_counting_2 ?_
  refine z_istore_n (M := M_X12_counting) 3 dX12_counting_3 (ls' := [some (mR 108), some (mI 0), some (mI 0)]) (by decide) rfl ?_
  exact z_mask [true, true, true] rfl (ih 0 0 h0 G0 (FR.rf (cs := []) (ss := []) (h := h0)) (by omega) (by omega) rfl (gw_0 G0).1 (by omega))
abbrev P_X12_edgeX (h0 : m_H) (a1 a2 a3 a4 a5 : Int) : m_H → Prop := fun h' => GI h' ∧ FR [117, 118, 119, 120, 121] [(108, 21)] h0 h' ∧ h' 108 21 = h0 108 21 + 1 ∧ edQ h0 h' a1 a2 a3 a4 a5
set_option maxHeartbeats 4000000 in
set_option maxRecDepth 100000 in
theorem c_X12_edgeX (h0 : m_H) (a1 a2 a3 a4 a5 : Int) (G0 : GI h0) (pa1 : 0 ≤ a1 ∧ a1 ≤ 15) (pa2 : 0 ≤ a2 ∧ a2 ≤ 15) (pa3 : 0 ≤ a3 ∧ a3 ≤ 199) (pa4 : 0 ≤ a4 ∧ a4 ≤ 199) (pa5 : 0 ≤ a5 ∧ a5 ≤ 1) (he : h0 108 21 ≤ 59) : m_CV M_X12_edge [mR 108, mI a1, mI a2, mI a3, mI a4, mI a5] h0 (P_X12_edgeX h0 a1 a2 a3 a4 a5) := by
  refine m_CV_of ⟨by decide, rfl, by simp [m_arg, m_isL, M_X12_edge], ⟨rfl, rfl⟩, rfl, rfl⟩ (ls := [some (mR 108), some (mI a1), some (mI a2), some (mI a3), some (mI a4), some (mI a5)]) rfl ?_
  obtain ⟨x1, ex1⟩ : ∃ y : Int, h0 108 21 = y := ⟨_, rfl⟩
  have bx1 : 0 ≤ x1 ∧ x1 ≤ 60 := ex1 ▸ g_108_21 G0
  refine z_aload_n (M := M_X12_edge) 0 dX12_edge_0 rfl ?_
  refine z_getR (M := M_X12_edge) 1 dX12_edge_1 f_X12_40 o_108 rfl (g_108_22 G0) ?_
  refine z_aload_n (M := M_X12_edge) 4 dX12_edge_4 rfl ?_
  refine z_getIE (M := M_X12_edge) 5 dX12_edge_5 f_X12_333 o_108 (by decide) ex1 ?_
  refine z_iload_n (M := M_X12_edge) 8 dX12_edge_8 rfl ?_
  refine z_iastH (M := M_X12_edge) 9 dX12_edge_9 o_117 (by omega) (by omega) (u_117 G0 (by omega) (by omega)) ((FR.rf (cs := [117, 118, 119, 120, 121]) (ss := [(108, 21)]) (h := h0)).up rfl) (fun h1 E1 G1 R1 => ?_)
  refine z_aload_n (M := M_X12_edge) 10 dX12_edge_10 rfl ?_
  refine z_getR (M := M_X12_edge) 11 dX12_edge_11 f_X12_43 o_108 rfl (g_108_23 G1) ?_
  refine z_aload_n (M := M_X12_edge) 14 dX12_edge_14 rfl ?_
  refine z_getIE (M := M_X12_edge) 15 dX12_edge_15 f_X12_333 o_108 (by decide) ((upN E1 (fun q => absurd q.1 (by decide))).trans ex1) ?_
  refine z_iload_n (M := M_X12_edge) 18 dX12_edge_18 rfl ?_
  refine z_iastH (M := M_X12_edge) 19 dX12_edge_19 o_118 (by omega) (by omega) (u_118 G1 (by omega) (by omega)) (R1.up rfl) (fun h2 E2 G2 R2 => ?_)
  refine z_aload_n (M := M_X12_edge) 20 dX12_edge_20 rfl ?_
  refine z_getR (M := M_X12_edge) 21 dX12_edge_21 f_X12_46 o_108 rfl (g_108_24 G2) ?_
  refine z_aload_n (M := M_X12_edge) 24 dX12_edge_24 rfl ?_
  refine z_getIE (M := M_X12_edge) 25 dX12_edge_25 f_X12_333 o_108 (by decide) ((upN E2 (fun q => absurd q.1 (by decide))).trans ((upN E1 (fun q => absurd q.1 (by decide))).trans ex1)) ?_
  refine z_iload_n (M := M_X12_edge) 28 dX12_edge_28 rfl ?_
  refine z_iastH (M := M_X12_edge) 29 dX12_edge_29 o_119 (by omega) (by omega) (u_119 G2 (by omega) (by omega)) (R2.up rfl) (fun h3 E3 G3 R3 => ?_)
  refine z_aload_n (M := M_X12_edge) 30 dX12_edge_30 rfl ?_
  refine z_getR (M := M_X12_edge) 31 dX12_edge_31 f_X12_49 o_108 rfl (g_108_25 G3) ?_
  refine z_aload_n (M := M_X12_edge) 34 dX12_edge_34 rfl ?_
  refine z_getIE (M := M_X12_edge) 35 dX12_edge_35 f_X12_333 o_108 (by decide) ((upN E3 (fun q => absurd q.1 (by decide))).trans ((upN E2 (fun q => absurd q.1 (by decide))).trans ((upN E1 (fun q => absurd q.1 (by decide))).trans ex1))) ?_
  refine z_iload (M := M_X12_edge) 38 dX12_edge_38 rfl ?_
  refine z_iastH (M := M_X12_edge) 40 dX12_edge_40 o_120 (by omega) (by omega) (u_120 G3 (by omega) (by omega)) (R3.up rfl) (fun h4 E4 G4 R4 => ?_)
  refine z_aload_n (M := M_X12_edge) 41 dX12_edge_41 rfl ?_
  refine z_getR (M := M_X12_edge) 42 dX12_edge_42 f_X12_52 o_108 rfl (g_108_26 G4) ?_
  refine z_aload_n (M := M_X12_edge) 45 dX12_edge_45 rfl ?_
  refine z_getIE (M := M_X12_edge) 46 dX12_edge_46 f_X12_333 o_108 (by decide) ((upN E4 (fun q => absurd q.1 (by decide))).trans ((upN E3 (fun q => absurd q.1 (by decide))).trans ((upN E2 (fun q => absurd q.1 (by decide))).trans ((upN E1 (fun q => absurd q.1 (by decide))).trans ex1)))) ?_
  refine z_iload (M := M_X12_edge) 49 dX12_edge_49 rfl ?_
  refine z_zastH (M := M_X12_edge) 51 dX12_edge_51 o_121 (by omega) (by omega) (by omega) (u_121 G4 (by omega) (by omega)) (R4.up rfl) (fun h5 E5 G5 R5 => ?_)
  refine z_aload_n (M := M_X12_edge) 52 dX12_edge_52 rfl ?_
  refine z_dup (M := M_X12_edge) 53 dX12_edge_53 rfl ?_
  refine z_getIE (M := M_X12_edge) 54 dX12_edge_54 f_X12_333 o_108 (by decide) ((upN E5 (fun q => absurd q.1 (by decide))).trans ((upN E4 (fun q => absurd q.1 (by decide))).trans ((upN E3 (fun q => absurd q.1 (by decide))).trans ((upN E2 (fun q => absurd q.1 (by decide))).trans ((upN E1 (fun q => absurd q.1 (by decide))).trans ex1))))) ?_
  refine z_iconst (M := M_X12_edge) 57 dX12_edge_57 ?_
  refine z_iaddN (M := M_X12_edge) 58 dX12_edge_58 (by omega) (by omega) ?_
  refine z_putIH (M := M_X12_edge) 59 dX12_edge_59 p_X12_333 o_108 rfl (u_108_21 G5 (by omega) (by omega)) (R5.up rfl) (fun h6 E6 G6 R6 => ?_)
  have ze : h6 108 21 = (x1 + 1) := (upE E6)
  exact z_retV (M := M_X12_edge) 62 dX12_edge_62 rfl ⟨G6, R6, by omega, edQ_of ex1 E1 E2 E3 E4 E5 E6⟩
abbrev P_X12_startAtX (h0 : m_H) (a1 : Int) : m_H → Prop := fun h' => GI h' ∧ FR [124, 125, 126, 127] [] h0 h' ∧ ∀ l, l < 16 → aS h' l = ((1, 1), (0, if a1 = -1 ∨ (l : Int) = a1 then 1 else 0))
def q_X12_startAtX (h0 : m_H) (a1 : Int) (n : Nat) : Prop := (∀ (l2 : Int) (h : m_H), GI h → FR [124, 125, 126, 127] [] h0 h → 0 ≤ l2 → l2 ≤ 16 → (-2147483648) ≤ a1 → a1 ≤ 2147483647 → (stI h a1 (5 * l2) l2) → 15 * (16 - l2) + (14) ≤ (n : Int) → m_Z oF M_X12_startAt 2 [some (mR 108), some (mI a1), some (mI l2), none] [] h (m_QV (P_X12_startAtX h0 a1))) ∧ (∀ (l2 l3 : Int) (h : m_H), GI h → FR [124, 125, 126, 127] [] h0 h → 0 ≤ l2 → l2 ≤ 15 → 0 ≤ l3 → l3 ≤ 5 → (-2147483648) ≤ a1 → a1 ≤ 2147483647 → (stI h a1 (5 * l2 + l3) l2) → 15 * (16 - l2) + 2 * (5 - l3) + (1) ≤ (n : Int) → m_Z oF M_X12_startAt 10 [some (mR 108), some (mI a1), some (mI l2), some (mI l3)] [] h (m_QV (P_X12_startAtX h0 a1)))
set_option maxHeartbeats 4000000 in
set_option maxRecDepth 100000 in
theorem s_X12_startAtX_2 (h0 : m_H) (a1 : Int) (G0 : GI h0) (n : Nat) (ih : q_X12_startAtX h0 a1 n) : ∀ (l2 : Int) (h : m_H), GI h → FR [124, 125, 126, 127] [] h0 h → 0 ≤ l2 → l2 ≤ 16 → (-2147483648) ≤ a1 → a1 ≤ 2147483647 → (stI h a1 (5 * l2) l2) → 15 * (16 - l2) + (14) ≤ ((n + 1 : Nat) : Int) → m_Z oF M_X12_startAt 2 [some (mR 108), some (mI a1), some (mI l2), none] [] h (m_QV (P_X12_startAtX h0 a1)) := by
  intro l2 h G R v0 v1 v2 v3 i0 hr
  refine z_iload_n (M := M_X12_startAt) 2 dX12_startAt_2 rfl ?_
  refine z_bipush (M := M_X12_startAt) 3 dX12_startAt_3 ?_
  refine z_icmp_ge (M := M_X12_startAt) 5 dX12_startAt_5 93 rfl (fun c1 => ?_) (fun c1 => ?_)
  · exact z_retV (M := M_X12_startAt) 93 dX12_startAt_93 rfl ⟨G, R, stI_end (by omega) (by omega) i0⟩
  · refine z_iconst (M := M_X12_startAt) 8 dX12_startAt_8 ?_
    refine z_istore_n (M := M_X12_startAt) 9 dX12_startAt_9 (ls' := [some (mR 108), some (mI a1), some (mI l2), some (mI 0)]) (by decide) rfl ?_
    exact z_mask [true, true, true, true] rfl (ih.2 l2 0 h G R (by omega) (by omega) (by omega) (by omega) (by omega) (by omega) (by rw [Int.add_zero]; exact i0) (by omega))
set_option maxHeartbeats 4000000 in
set_option maxRecDepth 100000 in
theorem s_X12_startAtX_10 (h0 : m_H) (a1 : Int) (G0 : GI h0) (n : Nat) (ih : q_X12_startAtX h0 a1 n) : ∀ (l2 l3 : Int) (h : m_H), GI h → FR [124, 125, 126, 127] [] h0 h → 0 ≤ l2 → l2 ≤ 15 → 0 ≤ l3 → l3 ≤ 5 → (-2147483648) ≤ a1 → a1 ≤ 2147483647 → (stI h a1 (5 * l2 + l3) l2) → 15 * (16 - l2) + 2 * (5 - l3) + (1) ≤ ((n + 1 : Nat) : Int) → m_Z oF M_X12_startAt 10 [some (mR 108), some (mI a1), some (mI l2), some (mI l3)] [] h (m_QV (P_X12_startAtX h0 a1)) := by
  intro l2 l3 h G R v0 v1 v2 v3 v4 v5 i0 hr
  refine z_iload_n (M := M_X12_startAt) 10 dX12_startAt_10 rfl ?_
  refine z_iconst (M := M_X12_startAt) 11 dX12_startAt_11 ?_
  refine z_icmp_ge (M := M_X12_startAt) 12 dX12_startAt_12 59 rfl (fun c1 => ?_) (fun c1 => ?_)
  · refine z_aload_n (M := M_X12_startAt) 59 dX12_startAt_59 rfl ?_
    refine z_getR (M := M_X12_startAt) 60 dX12_startAt_60 f_X12_67 o_108 rfl (g_108_31 G) ?_
    refine z_iload_n (M := M_X12_startAt) 63 dX12_startAt_63 rfl ?_
    refine z_iconst (M := M_X12_startAt) 64 dX12_startAt_64 ?_
    refine z_zastH (M := M_X12_startAt) 65 dX12_startAt_65 o_126 (by omega) (by omega) (by omega) (u_126 G (by omega) (by omega)) (R.up rfl) (fun h1 E1 G1 R1 => ?_)
    refine z_aload_n (M := M_X12_startAt) 66 dX12_startAt_66 rfl ?_
    refine z_getR (M := M_X12_startAt) 67 dX12_startAt_67 f_X12_70 o_108 rfl (g_108_32 G1) ?_
    refine z_iload_n (M := M_X12_startAt) 70 dX12_startAt_70 rfl ?_
    refine z_iload_n (M := M_X12_startAt) 71 dX12_startAt_71 rfl ?_
    refine z_iconst (M := M_X12_startAt) 72 dX12_startAt_72 ?_
    refine z_icmp_eq (M := M_X12_startAt) 73 dX12_startAt_73 81 rfl (fun c2 => ?_) (fun c2 => ?_)
    · refine z_iconst (M := M_X12_startAt) 81 dX12_startAt_81 ?_
      refine z_goto (M := M_X12_startAt) 82 dX12_startAt_82 86 rfl ?_
      refine z_zastH (M := M_X12_startAt) 86 dX12_startAt_86 o_127 (by omega) (by omega) (by omega) (u_127 G1 (by omega) (by omega)) (R1.up rfl) (fun h2 E2 G2 R2 => ?_)
      refine z_iincN (M := M_X12_startAt) 87 dX12_startAt_87 (ls' := [some (mR 108), some (mI a1), some (mI (l2 + 1)), some (mI l3)]) (by decide) rfl (by (unfold m_32; decide)) (by omega) (by omega) rfl ?_
      refine z_goto (M := M_X12_startAt) 90 dX12_startAt_90 2 rfl ?_
      exact z_mask [true, true, true, false] rfl (ih.1 (l2 + 1) h2 G2 R2 (by omega) (by omega) (by omega) (by omega) (stI_b (by omega) (by omega) i0 (by split <;> omega) E1 E2) (by omega))
    · refine z_iload_n (M := M_X12_startAt) 76 dX12_startAt_76 rfl ?_
      refine z_iload_n (M := M_X12_startAt) 77 dX12_startAt_77 rfl ?_
      refine z_icmp_ne (M := M_X12_startAt) 78 dX12_startAt_78 85 rfl (fun c3 => ?_) (fun c3 => ?_)
      · refine z_iconst (M := M_X12_startAt) 85 dX12_startAt_85 ?_
        refine z_zastH (M := M_X12_startAt) 86 dX12_startAt_86 o_127 (by omega) (by omega) (by omega) (u_127 G1 (by omega) (by omega)) (R1.up rfl) (fun h3 E3 G3 R3 => ?_)
        refine z_iincN (M := M_X12_startAt) 87 dX12_startAt_87 (ls' := [some (mR 108), some (mI a1), some (mI (l2 + 1)), some (mI l3)]) (by decide) rfl (by (unfold m_32; decide)) (by omega) (by omega) rfl ?_
        refine z_goto (M := M_X12_startAt) 90 dX12_startAt_90 2 rfl ?_
        exact z_mask [true, true, true, false] rfl (ih.1 (l2 + 1) h3 G3 R3 (by omega) (by omega) (by omega) (by omega) (stI_b (by omega) (by omega) i0 (by split <;> omega) E1 E3) (by omega))
      · refine z_iconst (M := M_X12_startAt) 81 dX12_startAt_81 ?_
        refine z_goto (M := M_X12_startAt) 82 dX12_startAt_82 86 rfl ?_
        refine z_zastH (M := M_X12_startAt) 86 dX12_startAt_86 o_127 (by omega) (by omega) (by omega) (u_127 G1 (by omega) (by omega)) (R1.up rfl) (fun h4 E4 G4 R4 => ?_)
        refine z_iincN (M := M_X12_startAt) 87 dX12_startAt_87 (ls' := [some (mR 108), some (mI a1), some (mI (l2 + 1)), some (mI l3)]) (by decide) rfl (by (unfold m_32; decide)) (by omega) (by omega) rfl ?_
        refine z_goto (M := M_X12_startAt) 90 dX12_startAt_90 2 rfl ?_
        exact z_mask [true, true, true, false] rfl (ih.1 (l2 + 1) h4 G4 R4 (by omega) (by omega) (by omega) (by omega) (stI_b (by omega) (by omega) i0 (by split <;> omega) E1 E4) (by omega))
  · refine z_aload_n (M := M_X12_startAt) 15 dX12_startAt_15 rfl ?_
    refine z_getR (M := M_X12_startAt) 16 dX12_startAt_16 f_X12_61 o_108 rfl (g_108_29 G) ?_
    refine z_iconst (M := M_X12_startAt) 19 dX12_startAt_19 ?_
    refine z_iload_n (M := M_X12_startAt) 20 dX12_startAt_20 rfl ?_
    refine z_imulN (M := M_X12_startAt) 21 dX12_startAt_21 (by omega) (by omega) ?_
    refine z_iload_n (M := M_X12_startAt) 22 dX12_startAt_22 rfl ?_
    refine z_iaddN (M := M_X12_startAt) 23 dX12_startAt_23 (by omega) (by omega) ?_
    refine z_iload_n (M := M_X12_startAt) 24 dX12_startAt_24 rfl ?_
    refine z_if_ne (M := M_X12_startAt) 25 dX12_startAt_25 32 rfl (fun c4 => ?_) (fun c4 => ?_)
    · refine z_lconst (M := M_X12_startAt) 32 dX12_startAt_32 (v := 0) ?_
      refine z_lastH (M := M_X12_startAt) 33 dX12_startAt_33 o_124 (by omega) (by omega) (u_124 G (by omega) (by omega)) (R.up rfl) (fun h5 E5 G5 R5 => ?_)
      refine z_aload_n (M := M_X12_startAt) 34 dX12_startAt_34 rfl ?_
      refine z_getR (M := M_X12_startAt) 35 dX12_startAt_35 f_X12_64 o_108 rfl (g_108_30 G5) ?_
      refine z_iconst (M := M_X12_startAt) 38 dX12_startAt_38 ?_
      refine z_iload_n (M := M_X12_startAt) 39 dX12_startAt_39 rfl ?_
      refine z_imulN (M := M_X12_startAt) 40 dX12_startAt_40 (by omega) (by omega) ?_
      refine z_iload_n (M := M_X12_startAt) 41 dX12_startAt_41 rfl ?_
      refine z_iaddN (M := M_X12_startAt) 42 dX12_startAt_42 (by omega) (by omega) ?_
      refine z_iload_n (M := M_X12_startAt) 43 dX12_startAt_43 rfl ?_
      refine z_if_ne_T (M := M_X12_startAt) 44 dX12_startAt_44 51 rfl (by omega) ?_
      refine z_lconst (M := M_X12_startAt) 51 dX12_startAt_51 (v := 0) ?_
      refine z_lastH (M := M_X12_startAt) 52 dX12_startAt_52 o_125 (by omega) (by omega) (u_125 G5 (by omega) (by omega)) (R5.up rfl) (fun h6 E6 G6 R6 => ?_)
      refine z_iincN (M := M_X12_startAt) 53 dX12_startAt_53 (ls' := [some (mR 108), some (mI a1), some (mI l2), some (mI (l3 + 1))]) (by decide) rfl (by (unfold m_32; decide)) (by omega) (by omega) rfl ?_
      refine z_goto (M := M_X12_startAt) 56 dX12_startAt_56 10 rfl ?_
      exact z_mask [true, true, true, true] rfl (ih.2 l2 (l3 + 1) h6 G6 R6 (by omega) (by omega) (by omega) (by omega) (by omega) (by omega) (stI_a (by omega) (by omega) (by omega) i0 (by split <;> omega) E5 E6) (by omega))
    · refine z_lconst (M := M_X12_startAt) 28 dX12_startAt_28 (v := 1) ?_
      refine z_goto (M := M_X12_startAt) 29 dX12_startAt_29 33 rfl ?_
      refine z_lastH (M := M_X12_startAt) 33 dX12_startAt_33 o_124 (by omega) (by omega) (u_124 G (by omega) (by omega)) (R.up rfl) (fun h7 E7 G7 R7 => ?_)
      refine z_aload_n (M := M_X12_startAt) 34 dX12_startAt_34 rfl ?_
      refine z_getR (M := M_X12_startAt) 35 dX12_startAt_35 f_X12_64 o_108 rfl (g_108_30 G7) ?_
      refine z_iconst (M := M_X12_startAt) 38 dX12_startAt_38 ?_
      refine z_iload_n (M := M_X12_startAt) 39 dX12_startAt_39 rfl ?_
      refine z_imulN (M := M_X12_startAt) 40 dX12_startAt_40 (by omega) (by omega) ?_
      refine z_iload_n (M := M_X12_startAt) 41 dX12_startAt_41 rfl ?_
      refine z_iaddN (M := M_X12_startAt) 42 dX12_startAt_42 (by omega) (by omega) ?_
      refine z_iload_n (M := M_X12_startAt) 43 dX12_startAt_43 rfl ?_
      refine z_if_ne_F (M := M_X12_startAt) 44 dX12_startAt_44 51 rfl (by omega) ?_
      refine z_lconst (M := M_X12_startAt) 47 dX12_startAt_47 (v := 1) ?_
      refine z_goto (M := M_X12_startAt) 48 dX12_startAt_48 52 rfl ?_
      refine z_lastH (M := M_X12_startAt) 52 dX12_startAt_52 o_125 (by omega) (by omega) (u_125 G7 (by omega) (by omega)) (R7.up rfl) (fun h8 E8 G8 R8 => ?_)
      refine z_iincN (M := M_X12_startAt) 53 dX12_startAt_53 (ls' := [some (mR 108), some (mI a1), some (mI l2), some (mI (l3 + 1))]) (by decide) rfl (by (unfold m_32; decide)) (by omega) (by omega) rfl ?_
      refine z_goto (M := M_X12_startAt) 56 dX12_startAt_56 10 rfl ?_
      exact z_mask [true, true, true, true] rfl (ih.2 l2 (l3 + 1) h8 G8 R8 (by omega) (by omega) (by omega) (by omega) (by omega) (by omega) (stI_a (by omega) (by omega) (by omega) i0 (by split <;> omega) E7 E8) (by omega))
theorem a_X12_startAtX (h0 : m_H) (a1 : Int) (G0 : GI h0) : ∀ n, q_X12_startAtX h0 a1 n := by
  intro n
  induction n with
  | zero => unfold q_X12_startAtX; refine ⟨?_, ?_⟩ <;> (intros; omega)
  | succ n ih => exact ⟨s_X12_startAtX_2 h0 a1 G0 n ih, s_X12_startAtX_10 h0 a1 G0 n ih⟩
set_option maxHeartbeats 4000000 in
set_option maxRecDepth 100000 in
theorem c_X12_startAtX (h0 : m_H) (a1 : Int) (G0 : GI h0) : m_CV M_X12_startAt [mR 108, mI a1] h0 (P_X12_startAtX h0 a1) := by
  refine m_CV_of ⟨by decide, rfl, by simp [m_arg, m_isL, M_X12_startAt], ⟨rfl, rfl⟩, rfl, rfl⟩ (ls := [some (mR 108), some (mI a1), none, none]) rfl ?_
  have ih := a_X12_startAtX h0 a1 G0 261
  refine z_ok (fun _ _ ok => ?_)
  have oa1 : m_32 a1 := ok 1 _ rfl
  unfold m_32 at oa1
  refine z_iconst (M := M_X12_startAt) 0 dX12_startAt_0 ?_
  refine z_istore_n (M := M_X12_startAt) 1 dX12_startAt_1 (ls' := [some (mR 108), some (mI a1), some (mI 0), none]) (by decide) rfl ?_
  exact z_mask [true, true, true, false] rfl (ih.1 0 h0 G0 (FR.rf (cs := [124, 125, 126, 127]) (ss := []) (h := h0)) (by omega) (by omega) (by omega) (by omega) stI_0 (by omega))
abbrev P_X12_keep0 (h0 : m_H) (a1 : Int) : m_H → Prop := fun h' => GI h' ∧ FR [124, 125, 126, 127, 128, 129, 130, 131] [] h0 h' ∧ kp0 h0 h' 80 16
def q_X12_keep0 (h0 : m_H) (a1 : Int) (n : Nat) : Prop := (∀ (l2 : Int) (h : m_H), GI h → FR [124, 125, 126, 127, 128, 129, 130, 131] [] h0 h → 0 ≤ l2 → l2 ≤ 80 → (kp0 h0 h l2 0) → 2 * (80 - l2) + (36) ≤ (n : Int) → m_Z oF M_X12_keep 2 [some (mR 108), some (mI a1), some (mI l2)] [] h (m_QV (P_X12_keep0 h0 a1))) ∧ (∀ (l2 : Int) (h : m_H), GI h → FR [124, 125, 126, 127, 128, 129, 130, 131] [] h0 h → 0 ≤ l2 → l2 ≤ 16 → (kp0 h0 h 80 l2) → 2 * (16 - l2) + (1) ≤ (n : Int) → m_Z oF M_X12_keep 116 [some (mR 108), some (mI a1), some (mI l2)] [] h (m_QV (P_X12_keep0 h0 a1)))
set_option maxHeartbeats 4000000 in
set_option maxRecDepth 100000 in
theorem s_X12_keep0_2 (h0 : m_H) (a1 : Int) (G0 : GI h0) (pa1 : 0 ≤ a1 ∧ a1 ≤ 0) (n : Nat) (ih : q_X12_keep0 h0 a1 n) : ∀ (l2 : Int) (h : m_H), GI h → FR [124, 125, 126, 127, 128, 129, 130, 131] [] h0 h → 0 ≤ l2 → l2 ≤ 80 → (kp0 h0 h l2 0) → 2 * (80 - l2) + (36) ≤ ((n + 1 : Nat) : Int) → m_Z oF M_X12_keep 2 [some (mR 108), some (mI a1), some (mI l2)] [] h (m_QV (P_X12_keep0 h0 a1)) := by
  intro l2 h G R v0 v1 i0 hr
  refine z_iload_n (M := M_X12_keep) 2 dX12_keep_2 rfl ?_
  refine z_bipush (M := M_X12_keep) 3 dX12_keep_3 ?_
  refine z_icmp_ge (M := M_X12_keep) 5 dX12_keep_5 114 rfl (fun c1 => ?_) (fun c1 => ?_)
  · refine z_iconst (M := M_X12_keep) 114 dX12_keep_114 ?_
    refine z_istore_n (M := M_X12_keep) 115 dX12_keep_115 (ls' := [some (mR 108), some (mI a1), some (mI 0)]) (by decide) rfl ?_
    exact z_mask [true, true, true] rfl (ih.2 0 h G R (by omega) (by omega) ((show l2 = 80 by omega) ▸ i0) (by omega))
  · refine z_aload_n (M := M_X12_keep) 8 dX12_keep_8 rfl ?_
    refine z_getR (M := M_X12_keep) 9 dX12_keep_9 f_X12_73 o_108 rfl (g_108_33 G) ?_
    refine z_iload_n (M := M_X12_keep) 12 dX12_keep_12 rfl ?_
    refine z_iload_n (M := M_X12_keep) 13 dX12_keep_13 rfl ?_
    refine z_if_eq_T (M := M_X12_keep) 14 dX12_keep_14 26 rfl (by omega) ?_
    refine z_aload_n (M := M_X12_keep) 26 dX12_keep_26 rfl ?_
    refine z_getR (M := M_X12_keep) 27 dX12_keep_27 f_X12_61 o_108 rfl (g_108_29 G) ?_
    refine z_iload_n (M := M_X12_keep) 30 dX12_keep_30 rfl ?_
    refine z_laldG (M := M_X12_keep) 31 dX12_keep_31 o_124 (by omega) (by omega) (g_124 G (by omega)) (fun x2 ex2 ax2 bx2 => ?_)
    refine z_lastH (M := M_X12_keep) 32 dX12_keep_32 o_128 (by omega) (by omega) (u_128 G (by omega) (by omega)) (R.up rfl) (fun h1 E1 G1 R1 => ?_)
    refine z_aload_n (M := M_X12_keep) 33 dX12_keep_33 rfl ?_
    refine z_getR (M := M_X12_keep) 34 dX12_keep_34 f_X12_76 o_108 rfl (g_108_34 G1) ?_
    refine z_iload_n (M := M_X12_keep) 37 dX12_keep_37 rfl ?_
    refine z_iload_n (M := M_X12_keep) 38 dX12_keep_38 rfl ?_
    refine z_if_eq_T (M := M_X12_keep) 39 dX12_keep_39 51 rfl (by omega) ?_
    refine z_aload_n (M := M_X12_keep) 51 dX12_keep_51 rfl ?_
    refine z_getR (M := M_X12_keep) 52 dX12_keep_52 f_X12_64 o_108 rfl (g_108_30 G1) ?_
    refine z_iload_n (M := M_X12_keep) 55 dX12_keep_55 rfl ?_
    refine z_laldG (M := M_X12_keep) 56 dX12_keep_56 o_125 (by omega) (by omega) (g_125 G1 (by omega)) (fun x3 ex3 ax3 bx3 => ?_)
    refine z_lastH (M := M_X12_keep) 57 dX12_keep_57 o_129 (by omega) (by omega) (u_129 G1 (by omega) (by omega)) (R1.up rfl) (fun h2 E2 G2 R2 => ?_)
    refine z_aload_n (M := M_X12_keep) 58 dX12_keep_58 rfl ?_
    refine z_getR (M := M_X12_keep) 59 dX12_keep_59 f_X12_61 o_108 rfl (g_108_29 G2) ?_
    refine z_iload_n (M := M_X12_keep) 62 dX12_keep_62 rfl ?_
    refine z_iload_n (M := M_X12_keep) 63 dX12_keep_63 rfl ?_
    refine z_if_eq_T (M := M_X12_keep) 64 dX12_keep_64 76 rfl (by omega) ?_
    refine z_aload_n (M := M_X12_keep) 76 dX12_keep_76 rfl ?_
    refine z_getR (M := M_X12_keep) 77 dX12_keep_77 f_X12_61 o_108 rfl (g_108_29 G2) ?_
    refine z_iload_n (M := M_X12_keep) 80 dX12_keep_80 rfl ?_
    refine z_laldG (M := M_X12_keep) 81 dX12_keep_81 o_124 (by omega) (by omega) (g_124 G2 (by omega)) (fun x4 ex4 ax4 bx4 => ?_)
    refine z_lastH (M := M_X12_keep) 82 dX12_keep_82 o_124 (by omega) (by omega) (u_124 G2 (by omega) (by omega)) (R2.up rfl) (fun h3 E3 G3 R3 => ?_)
    refine z_aload_n (M := M_X12_keep) 83 dX12_keep_83 rfl ?_
    refine z_getR (M := M_X12_keep) 84 dX12_keep_84 f_X12_64 o_108 rfl (g_108_30 G3) ?_
    refine z_iload_n (M := M_X12_keep) 87 dX12_keep_87 rfl ?_
    refine z_iload_n (M := M_X12_keep) 88 dX12_keep_88 rfl ?_
    refine z_if_eq_T (M := M_X12_keep) 89 dX12_keep_89 101 rfl (by omega) ?_
    refine z_aload_n (M := M_X12_keep) 101 dX12_keep_101 rfl ?_
    refine z_getR (M := M_X12_keep) 102 dX12_keep_102 f_X12_64 o_108 rfl (g_108_30 G3) ?_
    refine z_iload_n (M := M_X12_keep) 105 dX12_keep_105 rfl ?_
    refine z_laldG (M := M_X12_keep) 106 dX12_keep_106 o_125 (by omega) (by omega) (g_125 G3 (by omega)) (fun x5 ex5 ax5 bx5 => ?_)
    refine z_lastH (M := M_X12_keep) 107 dX12_keep_107 o_125 (by omega) (by omega) (u_125 G3 (by omega) (by omega)) (R3.up rfl) (fun h4 E4 G4 R4 => ?_)
    refine z_iincN (M := M_X12_keep) 108 dX12_keep_108 (ls' := [some (mR 108), some (mI a1), some (mI (l2 + 1))]) (by decide) rfl (by (unfold m_32; decide)) (by omega) (by omega) rfl ?_
    refine z_goto (M := M_X12_keep) 111 dX12_keep_111 2 rfl ?_
    exact z_mask [true, true, true] rfl (ih.1 (l2 + 1) h4 G4 R4 (by omega) (by omega) (kp0_a (by omega) i0 ex2 E1 ex3 E2 ex4 E3 ex5 E4) (by omega))
set_option maxHeartbeats 4000000 in
set_option maxRecDepth 100000 in
theorem s_X12_keep0_116 (h0 : m_H) (a1 : Int) (G0 : GI h0) (pa1 : 0 ≤ a1 ∧ a1 ≤ 0) (n : Nat) (ih : q_X12_keep0 h0 a1 n) : ∀ (l2 : Int) (h : m_H), GI h → FR [124, 125, 126, 127, 128, 129, 130, 131] [] h0 h → 0 ≤ l2 → l2 ≤ 16 → (kp0 h0 h 80 l2) → 2 * (16 - l2) + (1) ≤ ((n + 1 : Nat) : Int) → m_Z oF M_X12_keep 116 [some (mR 108), some (mI a1), some (mI l2)] [] h (m_QV (P_X12_keep0 h0 a1)) := by
  intro l2 h G R v0 v1 i0 hr
  refine z_iload_n (M := M_X12_keep) 116 dX12_keep_116 rfl ?_
  refine z_bipush (M := M_X12_keep) 117 dX12_keep_117 ?_
  refine z_icmp_ge (M := M_X12_keep) 119 dX12_keep_119 228 rfl (fun c1 => ?_) (fun c1 => ?_)
  · exact z_retV (M := M_X12_keep) 228 dX12_keep_228 rfl ⟨G, R, (show l2 = 16 by omega) ▸ i0⟩
  · refine z_aload_n (M := M_X12_keep) 122 dX12_keep_122 rfl ?_
    refine z_getR (M := M_X12_keep) 123 dX12_keep_123 f_X12_79 o_108 rfl (g_108_35 G) ?_
    refine z_iload_n (M := M_X12_keep) 126 dX12_keep_126 rfl ?_
    refine z_iload_n (M := M_X12_keep) 127 dX12_keep_127 rfl ?_
    refine z_if_eq_T (M := M_X12_keep) 128 dX12_keep_128 140 rfl (by omega) ?_
    refine z_aload_n (M := M_X12_keep) 140 dX12_keep_140 rfl ?_
    refine z_getR (M := M_X12_keep) 141 dX12_keep_141 f_X12_67 o_108 rfl (g_108_31 G) ?_
    refine z_iload_n (M := M_X12_keep) 144 dX12_keep_144 rfl ?_
    refine z_zaldG (M := M_X12_keep) 145 dX12_keep_145 o_126 (by omega) (by omega) (g_126 G (by omega)) (fun x2 ex2 ax2 bx2 => ?_)
    refine z_zastH (M := M_X12_keep) 146 dX12_keep_146 o_130 (by omega) (by omega) (by omega) (u_130 G (by omega) (by omega)) (R.up rfl) (fun h1 E1 G1 R1 => ?_)
    refine z_aload_n (M := M_X12_keep) 147 dX12_keep_147 rfl ?_
    refine z_getR (M := M_X12_keep) 148 dX12_keep_148 f_X12_82 o_108 rfl (g_108_36 G1) ?_
    refine z_iload_n (M := M_X12_keep) 151 dX12_keep_151 rfl ?_
    refine z_iload_n (M := M_X12_keep) 152 dX12_keep_152 rfl ?_
    refine z_if_eq_T (M := M_X12_keep) 153 dX12_keep_153 165 rfl (by omega) ?_
    refine z_aload_n (M := M_X12_keep) 165 dX12_keep_165 rfl ?_
    refine z_getR (M := M_X12_keep) 166 dX12_keep_166 f_X12_70 o_108 rfl (g_108_32 G1) ?_
    refine z_iload_n (M := M_X12_keep) 169 dX12_keep_169 rfl ?_
    refine z_zaldG (M := M_X12_keep) 170 dX12_keep_170 o_127 (by omega) (by omega) (g_127 G1 (by omega)) (fun x3 ex3 ax3 bx3 => ?_)
    refine z_zastH (M := M_X12_keep) 171 dX12_keep_171 o_131 (by omega) (by omega) (by omega) (u_131 G1 (by omega) (by omega)) (R1.up rfl) (fun h2 E2 G2 R2 => ?_)
    refine z_aload_n (M := M_X12_keep) 172 dX12_keep_172 rfl ?_
    refine z_getR (M := M_X12_keep) 173 dX12_keep_173 f_X12_67 o_108 rfl (g_108_31 G2) ?_
    refine z_iload_n (M := M_X12_keep) 176 dX12_keep_176 rfl ?_
    refine z_iload_n (M := M_X12_keep) 177 dX12_keep_177 rfl ?_
    refine z_if_eq_T (M := M_X12_keep) 178 dX12_keep_178 190 rfl (by omega) ?_
    refine z_aload_n (M := M_X12_keep) 190 dX12_keep_190 rfl ?_
    refine z_getR (M := M_X12_keep) 191 dX12_keep_191 f_X12_67 o_108 rfl (g_108_31 G2) ?_
    refine z_iload_n (M := M_X12_keep) 194 dX12_keep_194 rfl ?_
    refine z_zaldG (M := M_X12_keep) 195 dX12_keep_195 o_126 (by omega) (by omega) (g_126 G2 (by omega)) (fun x4 ex4 ax4 bx4 => ?_)
    refine z_zastH (M := M_X12_keep) 196 dX12_keep_196 o_126 (by omega) (by omega) (by omega) (u_126 G2 (by omega) (by omega)) (R2.up rfl) (fun h3 E3 G3 R3 => ?_)
    refine z_aload_n (M := M_X12_keep) 197 dX12_keep_197 rfl ?_
    refine z_getR (M := M_X12_keep) 198 dX12_keep_198 f_X12_70 o_108 rfl (g_108_32 G3) ?_
    refine z_iload_n (M := M_X12_keep) 201 dX12_keep_201 rfl ?_
    refine z_iload_n (M := M_X12_keep) 202 dX12_keep_202 rfl ?_
    refine z_if_eq_T (M := M_X12_keep) 203 dX12_keep_203 215 rfl (by omega) ?_
    refine z_aload_n (M := M_X12_keep) 215 dX12_keep_215 rfl ?_
    refine z_getR (M := M_X12_keep) 216 dX12_keep_216 f_X12_70 o_108 rfl (g_108_32 G3) ?_
    refine z_iload_n (M := M_X12_keep) 219 dX12_keep_219 rfl ?_
    refine z_zaldG (M := M_X12_keep) 220 dX12_keep_220 o_127 (by omega) (by omega) (g_127 G3 (by omega)) (fun x5 ex5 ax5 bx5 => ?_)
    refine z_zastH (M := M_X12_keep) 221 dX12_keep_221 o_127 (by omega) (by omega) (by omega) (u_127 G3 (by omega) (by omega)) (R3.up rfl) (fun h4 E4 G4 R4 => ?_)
    refine z_iincN (M := M_X12_keep) 222 dX12_keep_222 (ls' := [some (mR 108), some (mI a1), some (mI (l2 + 1))]) (by decide) rfl (by (unfold m_32; decide)) (by omega) (by omega) rfl ?_
    refine z_goto (M := M_X12_keep) 225 dX12_keep_225 116 rfl ?_
    exact z_mask [true, true, true] rfl (ih.2 (l2 + 1) h4 G4 R4 (by omega) (by omega) (kp0_b (by omega) i0 ex2 E1 ex3 E2 ex4 E3 ex5 E4) (by omega))
theorem a_X12_keep0 (h0 : m_H) (a1 : Int) (G0 : GI h0) (pa1 : 0 ≤ a1 ∧ a1 ≤ 0) : ∀ n, q_X12_keep0 h0 a1 n := by
  intro n
  induction n with
  | zero => unfold q_X12_keep0; refine ⟨?_, ?_⟩ <;> (intros; omega)
  | succ n ih => exact ⟨s_X12_keep0_2 h0 a1 G0 pa1 n ih, s_X12_keep0_116 h0 a1 G0 pa1 n ih⟩
set_option maxHeartbeats 4000000 in
set_option maxRecDepth 100000 in
theorem c_X12_keep0 (h0 : m_H) (a1 : Int) (G0 : GI h0) (pa1 : 0 ≤ a1 ∧ a1 ≤ 0) : m_CV M_X12_keep [mR 108, mI a1] h0 (P_X12_keep0 h0 a1) := by
  refine m_CV_of ⟨by decide, rfl, by simp [m_arg, m_isL, M_X12_keep], ⟨rfl, rfl⟩, rfl, rfl⟩ (ls := [some (mR 108), some (mI a1), none]) rfl ?_
  have ih := a_X12_keep0 h0 a1 G0 pa1 203
  refine z_iconst (M := M_X12_keep) 0 dX12_keep_0 ?_
  refine z_istore_n (M := M_X12_keep) 1 dX12_keep_1 (ls' := [some (mR 108), some (mI a1), some (mI 0)]) (by decide) rfl ?_
  exact z_mask [true, true, true] rfl (ih.1 0 h0 G0 (FR.rf (cs := [124, 125, 126, 127, 128, 129, 130, 131]) (ss := []) (h := h0)) (by omega) (by omega) kp0_0 (by omega))
abbrev P_X12_keep1 (h0 : m_H) (a1 : Int) : m_H → Prop := fun h' => GI h' ∧ FR [124, 125, 126, 127, 128, 129, 130, 131] [] h0 h' ∧ kp1 h0 h' 80 16
def q_X12_keep1 (h0 : m_H) (a1 : Int) (n : Nat) : Prop := (∀ (l2 : Int) (h : m_H), GI h → FR [124, 125, 126, 127, 128, 129, 130, 131] [] h0 h → 0 ≤ l2 → l2 ≤ 80 → (kp1 h0 h l2 0) → 2 * (80 - l2) + (36) ≤ (n : Int) → m_Z oF M_X12_keep 2 [some (mR 108), some (mI a1), some (mI l2)] [] h (m_QV (P_X12_keep1 h0 a1))) ∧ (∀ (l2 : Int) (h : m_H), GI h → FR [124, 125, 126, 127, 128, 129, 130, 131] [] h0 h → 0 ≤ l2 → l2 ≤ 16 → (kp1 h0 h 80 l2) → 2 * (16 - l2) + (1) ≤ (n : Int) → m_Z oF M_X12_keep 116 [some (mR 108), some (mI a1), some (mI l2)] [] h (m_QV (P_X12_keep1 h0 a1)))
set_option maxHeartbeats 4000000 in
set_option maxRecDepth 100000 in
theorem s_X12_keep1_2 (h0 : m_H) (a1 : Int) (G0 : GI h0) (pa1 : 1 ≤ a1 ∧ a1 ≤ 1) (n : Nat) (ih : q_X12_keep1 h0 a1 n) : ∀ (l2 : Int) (h : m_H), GI h → FR [124, 125, 126, 127, 128, 129, 130, 131] [] h0 h → 0 ≤ l2 → l2 ≤ 80 → (kp1 h0 h l2 0) → 2 * (80 - l2) + (36) ≤ ((n + 1 : Nat) : Int) → m_Z oF M_X12_keep 2 [some (mR 108), some (mI a1), some (mI l2)] [] h (m_QV (P_X12_keep1 h0 a1)) := by
  intro l2 h G R v0 v1 i0 hr
  refine z_iload_n (M := M_X12_keep) 2 dX12_keep_2 rfl ?_
  refine z_bipush (M := M_X12_keep) 3 dX12_keep_3 ?_
  refine z_icmp_ge (M := M_X12_keep) 5 dX12_keep_5 114 rfl (fun c1 => ?_) (fun c1 => ?_)
  · refine z_iconst (M := M_X12_keep) 114 dX12_keep_114 ?_
    refine z_istore_n (M := M_X12_keep) 115 dX12_keep_115 (ls' := [some (mR 108), some (mI a1), some (mI 0)]) (by decide) rfl ?_
    exact z_mask [true, true, true] rfl (ih.2 0 h G R (by omega) (by omega) ((show l2 = 80 by omega) ▸ i0) (by omega))
  · refine z_aload_n (M := M_X12_keep) 8 dX12_keep_8 rfl ?_
    refine z_getR (M := M_X12_keep) 9 dX12_keep_9 f_X12_73 o_108 rfl (g_108_33 G) ?_
    refine z_iload_n (M := M_X12_keep) 12 dX12_keep_12 rfl ?_
    refine z_iload_n (M := M_X12_keep) 13 dX12_keep_13 rfl ?_
    refine z_if_eq_F (M := M_X12_keep) 14 dX12_keep_14 26 rfl (by omega) ?_
    refine z_aload_n (M := M_X12_keep) 17 dX12_keep_17 rfl ?_
    refine z_getR (M := M_X12_keep) 18 dX12_keep_18 f_X12_73 o_108 rfl (g_108_33 G) ?_
    refine z_iload_n (M := M_X12_keep) 21 dX12_keep_21 rfl ?_
    refine z_laldG (M := M_X12_keep) 22 dX12_keep_22 o_128 (by omega) (by omega) (g_128 G (by omega)) (fun x2 ex2 ax2 bx2 => ?_)
    refine z_goto (M := M_X12_keep) 23 dX12_keep_23 32 rfl ?_
    refine z_lastH (M := M_X12_keep) 32 dX12_keep_32 o_128 (by omega) (by omega) (u_128 G (by omega) (by omega)) (R.up rfl) (fun h1 E1 G1 R1 => ?_)
    refine z_aload_n (M := M_X12_keep) 33 dX12_keep_33 rfl ?_
    refine z_getR (M := M_X12_keep) 34 dX12_keep_34 f_X12_76 o_108 rfl (g_108_34 G1) ?_
    refine z_iload_n (M := M_X12_keep) 37 dX12_keep_37 rfl ?_
    refine z_iload_n (M := M_X12_keep) 38 dX12_keep_38 rfl ?_
    refine z_if_eq_F (M := M_X12_keep) 39 dX12_keep_39 51 rfl (by omega) ?_
    refine z_aload_n (M := M_X12_keep) 42 dX12_keep_42 rfl ?_
    refine z_getR (M := M_X12_keep) 43 dX12_keep_43 f_X12_76 o_108 rfl (g_108_34 G1) ?_
    refine z_iload_n (M := M_X12_keep) 46 dX12_keep_46 rfl ?_
    refine z_laldG (M := M_X12_keep) 47 dX12_keep_47 o_129 (by omega) (by omega) (g_129 G1 (by omega)) (fun x3 ex3 ax3 bx3 => ?_)
    refine z_goto (M := M_X12_keep) 48 dX12_keep_48 57 rfl ?_
    refine z_lastH (M := M_X12_keep) 57 dX12_keep_57 o_129 (by omega) (by omega) (u_129 G1 (by omega) (by omega)) (R1.up rfl) (fun h2 E2 G2 R2 => ?_)
    refine z_aload_n (M := M_X12_keep) 58 dX12_keep_58 rfl ?_
    refine z_getR (M := M_X12_keep) 59 dX12_keep_59 f_X12_61 o_108 rfl (g_108_29 G2) ?_
    refine z_iload_n (M := M_X12_keep) 62 dX12_keep_62 rfl ?_
    refine z_iload_n (M := M_X12_keep) 63 dX12_keep_63 rfl ?_
    refine z_if_eq_F (M := M_X12_keep) 64 dX12_keep_64 76 rfl (by omega) ?_
    refine z_aload_n (M := M_X12_keep) 67 dX12_keep_67 rfl ?_
    refine z_getR (M := M_X12_keep) 68 dX12_keep_68 f_X12_73 o_108 rfl (g_108_33 G2) ?_
    refine z_iload_n (M := M_X12_keep) 71 dX12_keep_71 rfl ?_
    refine z_laldG (M := M_X12_keep) 72 dX12_keep_72 o_128 (by omega) (by omega) (g_128 G2 (by omega)) (fun x4 ex4 ax4 bx4 => ?_)
    refine z_goto (M := M_X12_keep) 73 dX12_keep_73 82 rfl ?_
    refine z_lastH (M := M_X12_keep) 82 dX12_keep_82 o_124 (by omega) (by omega) (u_124 G2 (by omega) (by omega)) (R2.up rfl) (fun h3 E3 G3 R3 => ?_)
    refine z_aload_n (M := M_X12_keep) 83 dX12_keep_83 rfl ?_
    refine z_getR (M := M_X12_keep) 84 dX12_keep_84 f_X12_64 o_108 rfl (g_108_30 G3) ?_
    refine z_iload_n (M := M_X12_keep) 87 dX12_keep_87 rfl ?_
    refine z_iload_n (M := M_X12_keep) 88 dX12_keep_88 rfl ?_
    refine z_if_eq_F (M := M_X12_keep) 89 dX12_keep_89 101 rfl (by omega) ?_
    refine z_aload_n (M := M_X12_keep) 92 dX12_keep_92 rfl ?_
    refine z_getR (M := M_X12_keep) 93 dX12_keep_93 f_X12_76 o_108 rfl (g_108_34 G3) ?_
    refine z_iload_n (M := M_X12_keep) 96 dX12_keep_96 rfl ?_
    refine z_laldG (M := M_X12_keep) 97 dX12_keep_97 o_129 (by omega) (by omega) (g_129 G3 (by omega)) (fun x5 ex5 ax5 bx5 => ?_)
    refine z_goto (M := M_X12_keep) 98 dX12_keep_98 107 rfl ?_
    refine z_lastH (M := M_X12_keep) 107 dX12_keep_107 o_125 (by omega) (by omega) (u_125 G3 (by omega) (by omega)) (R3.up rfl) (fun h4 E4 G4 R4 => ?_)
    refine z_iincN (M := M_X12_keep) 108 dX12_keep_108 (ls' := [some (mR 108), some (mI a1), some (mI (l2 + 1))]) (by decide) rfl (by (unfold m_32; decide)) (by omega) (by omega) rfl ?_
    refine z_goto (M := M_X12_keep) 111 dX12_keep_111 2 rfl ?_
    exact z_mask [true, true, true] rfl (ih.1 (l2 + 1) h4 G4 R4 (by omega) (by omega) (kp1_a (by omega) i0 ex2 E1 ex3 E2 ex4 E3 ex5 E4) (by omega))
set_option maxHeartbeats 4000000 in
set_option maxRecDepth 100000 in
theorem s_X12_keep1_116 (h0 : m_H) (a1 : Int) (G0 : GI h0) (pa1 : 1 ≤ a1 ∧ a1 ≤ 1) (n : Nat) (ih : q_X12_keep1 h0 a1 n) : ∀ (l2 : Int) (h : m_H), GI h → FR [124, 125, 126, 127, 128, 129, 130, 131] [] h0 h → 0 ≤ l2 → l2 ≤ 16 → (kp1 h0 h 80 l2) → 2 * (16 - l2) + (1) ≤ ((n + 1 : Nat) : Int) → m_Z oF M_X12_keep 116 [some (mR 108), some (mI a1), some (mI l2)] [] h (m_QV (P_X12_keep1 h0 a1)) := by
  intro l2 h G R v0 v1 i0 hr
  refine z_iload_n (M := M_X12_keep) 116 dX12_keep_116 rfl ?_
  refine z_bipush (M := M_X12_keep) 117 dX12_keep_117 ?_
  refine z_icmp_ge (M := M_X12_keep) 119 dX12_keep_119 228 rfl (fun c1 => ?_) (fun c1 => ?_)
  · exact z_retV (M := M_X12_keep) 228 dX12_keep_228 rfl ⟨G, R, (show l2 = 16 by omega) ▸ i0⟩
  · refine z_aload_n (M := M_X12_keep) 122 dX12_keep_122 rfl ?_
    refine z_getR (M := M_X12_keep) 123 dX12_keep_123 f_X12_79 o_108 rfl (g_108_35 G) ?_
    refine z_iload_n (M := M_X12_keep) 126 dX12_keep_126 rfl ?_
    refine z_iload_n (M := M_X12_keep) 127 dX12_keep_127 rfl ?_
    refine z_if_eq_F (M := M_X12_keep) 128 dX12_keep_128 140 rfl (by omega) ?_
    refine z_aload_n (M := M_X12_keep) 131 dX12_keep_131 rfl ?_
    refine z_getR (M := M_X12_keep) 132 dX12_keep_132 f_X12_79 o_108 rfl (g_108_35 G) ?_
    refine z_iload_n (M := M_X12_keep) 135 dX12_keep_135 rfl ?_
    refine z_zaldG (M := M_X12_keep) 136 dX12_keep_136 o_130 (by omega) (by omega) (g_130 G (by omega)) (fun x2 ex2 ax2 bx2 => ?_)
    refine z_goto (M := M_X12_keep) 137 dX12_keep_137 146 rfl ?_
    refine z_zastH (M := M_X12_keep) 146 dX12_keep_146 o_130 (by omega) (by omega) (by omega) (u_130 G (by omega) (by omega)) (R.up rfl) (fun h1 E1 G1 R1 => ?_)
    refine z_aload_n (M := M_X12_keep) 147 dX12_keep_147 rfl ?_
    refine z_getR (M := M_X12_keep) 148 dX12_keep_148 f_X12_82 o_108 rfl (g_108_36 G1) ?_
    refine z_iload_n (M := M_X12_keep) 151 dX12_keep_151 rfl ?_
    refine z_iload_n (M := M_X12_keep) 152 dX12_keep_152 rfl ?_
    refine z_if_eq_F (M := M_X12_keep) 153 dX12_keep_153 165 rfl (by omega) ?_
    refine z_aload_n (M := M_X12_keep) 156 dX12_keep_156 rfl ?_
    refine z_getR (M := M_X12_keep) 157 dX12_keep_157 f_X12_82 o_108 rfl (g_108_36 G1) ?_
    refine z_iload_n (M := M_X12_keep) 160 dX12_keep_160 rfl ?_
    refine z_zaldG (M := M_X12_keep) 161 dX12_keep_161 o_131 (by omega) (by omega) (g_131 G1 (by omega)) (fun x3 ex3 ax3 bx3 => ?_)
    refine z_goto (M := M_X12_keep) 162 dX12_keep_162 171 rfl ?_
    refine z_zastH (M := M_X12_keep) 171 dX12_keep_171 o_131 (by omega) (by omega) (by omega) (u_131 G1 (by omega) (by omega)) (R1.up rfl) (fun h2 E2 G2 R2 => ?_)
    refine z_aload_n (M := M_X12_keep) 172 dX12_keep_172 rfl ?_
    refine z_getR (M := M_X12_keep) 173 dX12_keep_173 f_X12_67 o_108 rfl (g_108_31 G2) ?_
    refine z_iload_n (M := M_X12_keep) 176 dX12_keep_176 rfl ?_
    refine z_iload_n (M := M_X12_keep) 177 dX12_keep_177 rfl ?_
    refine z_if_eq_F (M := M_X12_keep) 178 dX12_keep_178 190 rfl (by omega) ?_
    refine z_aload_n (M := M_X12_keep) 181 dX12_keep_181 rfl ?_
    refine z_getR (M := M_X12_keep) 182 dX12_keep_182 f_X12_79 o_108 rfl (g_108_35 G2) ?_
    refine z_iload_n (M := M_X12_keep) 185 dX12_keep_185 rfl ?_
    refine z_zaldG (M := M_X12_keep) 186 dX12_keep_186 o_130 (by omega) (by omega) (g_130 G2 (by omega)) (fun x4 ex4 ax4 bx4 => ?_)
    refine z_goto (M := M_X12_keep) 187 dX12_keep_187 196 rfl ?_
    refine z_zastH (M := M_X12_keep) 196 dX12_keep_196 o_126 (by omega) (by omega) (by omega) (u_126 G2 (by omega) (by omega)) (R2.up rfl) (fun h3 E3 G3 R3 => ?_)
    refine z_aload_n (M := M_X12_keep) 197 dX12_keep_197 rfl ?_
    refine z_getR (M := M_X12_keep) 198 dX12_keep_198 f_X12_70 o_108 rfl (g_108_32 G3) ?_
    refine z_iload_n (M := M_X12_keep) 201 dX12_keep_201 rfl ?_
    refine z_iload_n (M := M_X12_keep) 202 dX12_keep_202 rfl ?_
    refine z_if_eq_F (M := M_X12_keep) 203 dX12_keep_203 215 rfl (by omega) ?_
    refine z_aload_n (M := M_X12_keep) 206 dX12_keep_206 rfl ?_
    refine z_getR (M := M_X12_keep) 207 dX12_keep_207 f_X12_82 o_108 rfl (g_108_36 G3) ?_
    refine z_iload_n (M := M_X12_keep) 210 dX12_keep_210 rfl ?_
    refine z_zaldG (M := M_X12_keep) 211 dX12_keep_211 o_131 (by omega) (by omega) (g_131 G3 (by omega)) (fun x5 ex5 ax5 bx5 => ?_)
    refine z_goto (M := M_X12_keep) 212 dX12_keep_212 221 rfl ?_
    refine z_zastH (M := M_X12_keep) 221 dX12_keep_221 o_127 (by omega) (by omega) (by omega) (u_127 G3 (by omega) (by omega)) (R3.up rfl) (fun h4 E4 G4 R4 => ?_)
    refine z_iincN (M := M_X12_keep) 222 dX12_keep_222 (ls' := [some (mR 108), some (mI a1), some (mI (l2 + 1))]) (by decide) rfl (by (unfold m_32; decide)) (by omega) (by omega) rfl ?_
    refine z_goto (M := M_X12_keep) 225 dX12_keep_225 116 rfl ?_
    exact z_mask [true, true, true] rfl (ih.2 (l2 + 1) h4 G4 R4 (by omega) (by omega) (kp1_b (by omega) i0 ex2 E1 ex3 E2 ex4 E3 ex5 E4) (by omega))
theorem a_X12_keep1 (h0 : m_H) (a1 : Int) (G0 : GI h0) (pa1 : 1 ≤ a1 ∧ a1 ≤ 1) : ∀ n, q_X12_keep1 h0 a1 n := by
  intro n
  induction n with
  | zero => unfold q_X12_keep1; refine ⟨?_, ?_⟩ <;> (intros; omega)
  | succ n ih => exact ⟨s_X12_keep1_2 h0 a1 G0 pa1 n ih, s_X12_keep1_116 h0 a1 G0 pa1 n ih⟩
set_option maxHeartbeats 4000000 in
set_option maxRecDepth 100000 in
theorem c_X12_keep1 (h0 : m_H) (a1 : Int) (G0 : GI h0) (pa1 : 1 ≤ a1 ∧ a1 ≤ 1) : m_CV M_X12_keep [mR 108, mI a1] h0 (P_X12_keep1 h0 a1) := by
  refine m_CV_of ⟨by decide, rfl, by simp [m_arg, m_isL, M_X12_keep], ⟨rfl, rfl⟩, rfl, rfl⟩ (ls := [some (mR 108), some (mI a1), none]) rfl ?_
  have ih := a_X12_keep1 h0 a1 G0 pa1 203
  refine z_iconst (M := M_X12_keep) 0 dX12_keep_0 ?_
  refine z_istore_n (M := M_X12_keep) 1 dX12_keep_1 (ls' := [some (mR 108), some (mI a1), some (mI 0)]) (by decide) rfl ?_
  exact z_mask [true, true, true] rfl (ih.1 0 h0 G0 (FR.rf (cs := [124, 125, 126, 127, 128, 129, 130, 131]) (ss := []) (h := h0)) (by omega) (by omega) kp1_0 (by omega))
abbrev P_X12_build (h0 : m_H) (a1 : Int) : m_H → Prop := fun h' => GI h' ∧ FR [117, 118, 119, 120, 121] [(108, 21)] h0 h' ∧ AR h' (bL (h0 110) (h0 122) (h0 123) a1)
def q_X12_build (h0 : m_H) (a1 : Int) (n : Nat) : Prop := (∀ (l2 y_108_21 : Int) (h : m_H), GI h → FR [117, 118, 119, 120, 121] [(108, 21)] h0 h → 0 ≤ l2 → l2 ≤ 24 → 0 ≤ y_108_21 → y_108_21 ≤ 60 → (-2147483648) ≤ a1 → a1 ≤ 2147483647 → (h 108 21 = y_108_21) → (AR h (eA (h0 110) (h0 122) (h0 123) a1 l2.toNat)) → (l2 ≤ h0 110 (0 : Int).toNat) → (y_108_21 ≤ 2 * l2) → 2 * (24 - l2) + (31) ≤ (n : Int) → m_Z oF M_X12_build 7 [some (mR 108), some (mI a1), some (mI l2), none, none, none, none, none, none, none, none] [] h (m_QV (P_X12_build h0 a1))) ∧ (∀ (l2 y_108_21 : Int) (h : m_H), GI h → FR [117, 118, 119, 120, 121] [(108, 21)] h0 h → 0 ≤ l2 → l2 ≤ 6 → 0 ≤ y_108_21 → y_108_21 ≤ 60 → (-2147483648) ≤ a1 → a1 ≤ 2147483647 → (h 108 21 = y_108_21) → (AR h (eA (h0 110) (h0 122) (h0 123) a1 (h0 110 0).toNat ++ sA (h0 110) l2.toNat)) → (l2 ≤ h0 110 (1 : Int).toNat) → (y_108_21 ≤ 48 + l2) → 2 * (6 - l2) + (16) ≤ (n : Int) → m_Z oF M_X12_build 215 [some (mR 108), none, some (mI l2), none, none, none, none, none, none, none, none] [] h (m_QV (P_X12_build h0 a1))) ∧ (∀ (l2 y_108_21 : Int) (h : m_H), GI h → FR [117, 118, 119, 120, 121] [(108, 21)] h0 h → 0 ≤ l2 → l2 ≤ 6 → 0 ≤ y_108_21 → y_108_21 ≤ 60 → (-2147483648) ≤ a1 → a1 ≤ 2147483647 → (h 108 21 = y_108_21) → (AR h (eA (h0 110) (h0 122) (h0 123) a1 (h0 110 0).toNat ++ sA (h0 110) (h0 110 1).toNat ++ cA (h0 123) l2.toNat)) → (y_108_21 ≤ 54 + l2) → 2 * (6 - l2) + (1) ≤ (n : Int) → m_Z oF M_X12_build 270 [some (mR 108), none, some (mI l2), none, none, none, none, none, none, none, none] [] h (m_QV (P_X12_build h0 a1)))
set_option maxHeartbeats 4000000 in
set_option maxRecDepth 100000 in
theorem s_X12_build_7 (h0 : m_H) (a1 : Int) (G0 : GI h0) (hN : NP h0) (n : Nat) (ih : q_X12_build h0 a1 n) : ∀ (l2 y_108_21 : Int) (h : m_H), GI h → FR [117, 118, 119, 120, 121] [(108, 21)] h0 h → 0 ≤ l2 → l2 ≤ 24 → 0 ≤ y_108_21 → y_108_21 ≤ 60 → (-2147483648) ≤ a1 → a1 ≤ 2147483647 → (h 108 21 = y_108_21) → (AR h (eA (h0 110) (h0 122) (h0 123) a1 l2.toNat)) → (l2 ≤ h0 110 (0 : Int).toNat) → (y_108_21 ≤ 2 * l2) → 2 * (24 - l2) + (31) ≤ ((n + 1 : Nat) : Int) → m_Z oF M_X12_build 7 [some (mR 108), some (mI a1), some (mI l2), none, none, none, none, none, none, none, none] [] h (m_QV (P_X12_build h0 a1)) := by
  intro l2 y_108_21 h G R v0 v1 v2 v3 v4 v5 t_108_21 i0 i1 i2 hr
  refine z_iload_n (M := M_X12_build) 7 dX12_build_7 rfl ?_
  refine z_aload_n (M := M_X12_build) 8 dX12_build_8 rfl ?_
  refine z_getR (M := M_X12_build) 9 dX12_build_9 f_X12_13 o_108 rfl (g_108_3 G) ?_
  refine z_iconst (M := M_X12_build) 12 dX12_build_12 ?_
  refine z_ialdG (M := M_X12_build) 13 dX12_build_13 o_110 (by omega) (by omega) (gw_0 G) (fun x1 ex1 ax1 bx1 => ?_)
  refine z_icmp_ge (M := M_X12_build) 14 dX12_build_14 213 rfl (fun c2 => ?_) (fun c2 => ?_)
  · refine z_iconst (M := M_X12_build) 213 dX12_build_213 ?_
    refine z_istore_n (M := M_X12_build) 214 dX12_build_214 (ls' := [some (mR 108), some (mI a1), some (mI 0), none, none, none, none, none, none, none, none]) (by decide) rfl ?_
    exact z_mask [true, false, true, false, false, false, false, false, false, false, false] rfl (ih.2.1 0 y_108_21 h G R (by omega) (by omega) (by omega) (by omega) (by omega) (by omega) t_108_21 (b_end1 i0 ((R 110 _ rfl).symm.trans ex1) (by omega) (by have r0 := R 110 (0 : Int).toNat rfl; omega)) (gw_1 G0).1 (by have r0 := R 110 (0 : Int).toNat rfl; omega) (by omega))
  · refine z_aload_n (M := M_X12_build) 17 dX12_build_17 rfl ?_
    refine z_getR (M := M_X12_build) 18 dX12_build_18 f_X12_55 o_108 rfl (g_108_27 G) ?_
    refine z_aload_n (M := M_X12_build) 21 dX12_build_21 rfl ?_
    refine z_iload_n (M := M_X12_build) 22 dX12_build_22 rfl ?_
    refine z_iconst (M := M_X12_build) 23 dX12_build_23 ?_
    refine z_vI (M := M_X12_build) 24 dX12_build_24 t_X12_ofEntry l_X12_195 (m_rr_of rfl) (rest := [mR 122]) (c_X12_ofEntry h l2 1 G ⟨by omega, by omega⟩ ⟨by omega, by omega⟩) o_108 rfl rfl rfl (Nat.le_of_ble_eq_true rfl) ⟨rfl, rfl⟩ (fun x3 h1 qx3 => ?_)
    obtain ⟨rfl, fx3⟩ := qx3
    have gx3 := gw_e1 G (i := (80 + 5 * l2 + 1)) (e := l2) (by omega) (by omega) (by omega)
    rw [fx3] at gx3
    refine z_ialdG (M := M_X12_build) 27 dX12_build_27 o_122 (by omega) (by omega) (g_122 G (by omega)) (fun x4 ex4 ax4 bx4 => ?_)
    refine z_istore_n (M := M_X12_build) 28 dX12_build_28 (ls' := [some (mR 108), some (mI a1), some (mI l2), some (mI x4), none, none, none, none, none, none, none]) (by decide) rfl ?_
    refine z_iload_n (M := M_X12_build) 29 dX12_build_29 rfl ?_
    refine z_iload_n (M := M_X12_build) 30 dX12_build_30 rfl ?_
    refine z_sI (M := M_X12_build) 31 dX12_build_31 t_X12_is l_X12_336 (m_rr_of rfl) (rest := []) (c_X12_is h a1 l2 G) rfl rfl (Nat.le_of_ble_eq_true rfl) ⟨rfl, rfl⟩ (fun x5 h2 qx5 => ?_)
    obtain ⟨rfl, ⟨rfl, cx5⟩ | ⟨rfl, cx5⟩⟩ := qx5
    · refine z_if_eq_F (M := M_X12_build) 34 dX12_build_34 207 rfl (by omega) ?_
      refine z_iload_n (M := M_X12_build) 37 dX12_build_37 rfl ?_
      refine z_iconst (M := M_X12_build) 38 dX12_build_38 ?_
      refine z_icmp_eq (M := M_X12_build) 39 dX12_build_39 207 rfl (fun c6 => ?_) (fun c6 => ?_)
      · refine z_iincN (M := M_X12_build) 207 dX12_build_207 (ls' := [some (mR 108), some (mI a1), some (mI (l2 + 1)), some (mI x4), none, none, none, none, none, none, none]) (by decide) rfl (by (unfold m_32; decide)) (by omega) (by omega) rfl ?_
        refine z_goto (M := M_X12_build) 210 dX12_build_210 7 rfl ?_
        exact z_mask [true, true, true, false, false, false, false, false, false, false, false] rfl (ih.1 (l2 + 1) y_108_21 h G R (by omega) (by omega) (by omega) (by omega) (by omega) (by omega) t_108_21 (b_ent0 (by omega) i0 (eR_no (by omega) ((R 110 _ rfl).symm.trans fx3) ((R 122 _ rfl).symm.trans ex4) (fun w => w.2 (by omega)))) (by have r0 := R 110 (0 : Int).toNat rfl; omega) (by omega) (by omega))
      · refine z_aload_n (M := M_X12_build) 42 dX12_build_42 rfl ?_
        refine z_iload_n (M := M_X12_build) 43 dX12_build_43 rfl ?_
        refine z_iconst (M := M_X12_build) 44 dX12_build_44 ?_
        refine z_vI (M := M_X12_build) 45 dX12_build_45 t_X12_ofEntry l_X12_195 (m_rr_of rfl) (rest := []) (c_X12_ofEntry h l2 0 G ⟨by omega, by omega⟩ ⟨by omega, by omega⟩) o_108 rfl rfl rfl (Nat.le_of_ble_eq_true rfl) ⟨rfl, rfl⟩ (fun x7 h3 qx7 => ?_)
        obtain ⟨rfl, fx7⟩ := qx7
        have gx7 := gw_e0 G (i := (80 + 5 * l2 + 0)) (e := l2) (by omega) (by omega) (by omega)
        rw [fx7] at gx7
        refine z_istore (M := M_X12_build) 48 dX12_build_48 (ls' := [some (mR 108), some (mI a1), some (mI l2), some (mI x4), some (mI x7), none, none, none, none, none, none]) (by decide) rfl ?_
        refine z_aload_n (M := M_X12_build) 50 dX12_build_50 rfl ?_
        refine z_getR (M := M_X12_build) 51 dX12_build_51 f_X12_58 o_108 rfl (g_108_28 G) ?_
        refine z_iload (M := M_X12_build) 54 dX12_build_54 rfl ?_
        refine z_ialdG (M := M_X12_build) 56 dX12_build_56 o_123 (by omega) (by omega) (g_123 G (by omega)) (fun x8 ex8 ax8 bx8 => ?_)
        refine z_iconst (M := M_X12_build) 57 dX12_build_57 ?_
        refine z_icmp_eq (M := M_X12_build) 58 dX12_build_58 85 rfl (fun c9 => ?_) (fun c9 => ?_)
        · refine z_iload (M := M_X12_build) 85 dX12_build_85 rfl ?_
          refine z_istore (M := M_X12_build) 87 dX12_build_87 (ls' := [some (mR 108), some (mI a1), some (mI l2), some (mI x4), some (mI x7), some (mI x7), none, none, none, none, none]) (by decide) rfl ?_
          refine z_aload_n (M := M_X12_build) 89 dX12_build_89 rfl ?_
          refine z_iload_n (M := M_X12_build) 90 dX12_build_90 rfl ?_
          refine z_iconst (M := M_X12_build) 91 dX12_build_91 ?_
          refine z_vI (M := M_X12_build) 92 dX12_build_92 t_X12_ofEntry l_X12_195 (m_rr_of rfl) (rest := []) (c_X12_ofEntry h l2 2 G ⟨by omega, by omega⟩ ⟨by omega, by omega⟩) o_108 rfl rfl rfl (Nat.le_of_ble_eq_true rfl) ⟨rfl, rfl⟩ (fun x10 h4 qx10 => ?_)
          obtain ⟨rfl, fx10⟩ := qx10
          have gx10 := gw_e2 G (i := (80 + 5 * l2 + 2)) (e := l2) (by omega) (by omega) (by omega)
          rw [fx10] at gx10
          have nx10 : 1 ≤ x10 := np_at hN R (fun _ => rfl) (by omega) (by omega) ex1 fx10
          refine z_istore (M := M_X12_build) 95 dX12_build_95 (ls' := [some (mR 108), some (mI a1), some (mI l2), some (mI x4), some (mI x7), some (mI x7), some (mI x10), none, none, none, none]) (by decide) rfl ?_
          refine z_aload_n (M := M_X12_build) 97 dX12_build_97 rfl ?_
          refine z_iload_n (M := M_X12_build) 98 dX12_build_98 rfl ?_
          refine z_iconst (M := M_X12_build) 99 dX12_build_99 ?_
          refine z_vI (M := M_X12_build) 100 dX12_build_100 t_X12_ofEntry l_X12_195 (m_rr_of rfl) (rest := []) (c_X12_ofEntry h l2 3 G ⟨by omega, by omega⟩ ⟨by omega, by omega⟩) o_108 rfl rfl rfl (Nat.le_of_ble_eq_true rfl) ⟨rfl, rfl⟩ (fun x11 h5 qx11 => ?_)
          obtain ⟨rfl, fx11⟩ := qx11
          have gx11 := gw_e3 G (i := (80 + 5 * l2 + 3)) (e := l2) (by omega) (by omega) (by omega)
          rw [fx11] at gx11
          refine z_istore (M := M_X12_build) 103 dX12_build_103 (ls' := [some (mR 108), some (mI a1), some (mI l2), some (mI x4), some (mI x7), some (mI x7), some (mI x10), some (mI x11), none, none, none]) (by decide) rfl ?_
          refine z_iload (M := M_X12_build) 105 dX12_build_105 rfl ?_
          refine z_iconst (M := M_X12_build) 107 dX12_build_107 ?_
          refine z_icmp_ne (M := M_X12_build) 108 dX12_build_108 120 rfl (fun c12 => ?_) (fun c12 => ?_)
          · refine z_iload (M := M_X12_build) 120 dX12_build_120 rfl ?_
            refine z_istore (M := M_X12_build) 122 dX12_build_122 (ls' := [some (mR 108), some (mI a1), some (mI l2), some (mI x4), some (mI x7), some (mI x7), some (mI x10), some (mI x11), some (mI x10), none, none]) (by decide) rfl ?_
            refine z_iload (M := M_X12_build) 124 dX12_build_124 rfl ?_
            refine z_if_ne (M := M_X12_build) 126 dX12_build_126 134 rfl (fun c13 => ?_) (fun c13 => ?_)
            · refine z_iload (M := M_X12_build) 134 dX12_build_134 rfl ?_
              refine z_iconst (M := M_X12_build) 136 dX12_build_136 ?_
              refine z_icmp_ne_F (M := M_X12_build) 137 dX12_build_137 147 rfl (by omega) ?_
              refine z_iload (M := M_X12_build) 140 dX12_build_140 rfl ?_
              refine z_iconst (M := M_X12_build) 142 dX12_build_142 ?_
              refine z_iaddN (M := M_X12_build) 143 dX12_build_143 (by omega) (by omega) ?_
              refine z_goto (M := M_X12_build) 144 dX12_build_144 153 rfl ?_
              refine z_istore (M := M_X12_build) 153 dX12_build_153 (ls' := [some (mR 108), some (mI a1), some (mI l2), some (mI x4), some (mI x7), some (mI x7), some (mI x10), some (mI x11), some (mI x10), some (mI (x10 + 1)), none]) (by decide) rfl ?_
              refine z_iload (M := M_X12_build) 155 dX12_build_155 rfl ?_
              refine z_iconst (M := M_X12_build) 157 dX12_build_157 ?_
              refine z_icmp_ne_T (M := M_X12_build) 158 dX12_build_158 165 rfl (by omega) ?_
              refine z_iconst (M := M_X12_build) 165 dX12_build_165 ?_
              refine z_istore (M := M_X12_build) 166 dX12_build_166 (ls' := [some (mR 108), some (mI a1), some (mI l2), some (mI x4), some (mI x7), some (mI x7), some (mI x10), some (mI x11), some (mI x10), some (mI (x10 + 1)), some (mI 1)]) (by decide) rfl ?_
              refine z_aload_n (M := M_X12_build) 168 dX12_build_168 rfl ?_
              refine z_bipush (M := M_X12_build) 169 dX12_build_169 ?_
              refine z_iload_n (M := M_X12_build) 171 dX12_build_171 rfl ?_
              refine z_iaddN (M := M_X12_build) 172 dX12_build_172 (by omega) (by omega) ?_
              refine z_iload (M := M_X12_build) 173 dX12_build_173 rfl ?_
              refine z_iload (M := M_X12_build) 175 dX12_build_175 rfl ?_
              refine z_iload (M := M_X12_build) 177 dX12_build_177 rfl ?_
              refine z_iconst (M := M_X12_build) 179 dX12_build_179 ?_
              refine z_vV (M := M_X12_build) 180 dX12_build_180 t_X12_edge l_X12_339 (m_rr_of rfl) (rest := []) (c_X12_edgeX h (12 + x4) x7 x10 1 0 G ⟨by omega, by omega⟩ ⟨by omega, by omega⟩ ⟨by omega, by omega⟩ ⟨by omega, by omega⟩ ⟨by omega, by omega⟩ (le_e t_108_21 (by omega))) o_108 rfl rfl rfl (Nat.le_of_ble_eq_true rfl) ⟨rfl, rfl⟩ (fun h6 qx14 => ?_)
              obtain ⟨G6, S6, fx14_0, fx14_1⟩ := qx14
              have R6 := R.call S6 (by decide +kernel)
              refine z_aload_n (M := M_X12_build) 183 dX12_build_183 rfl ?_
              refine z_iload (M := M_X12_build) 184 dX12_build_184 rfl ?_
              refine z_bipush (M := M_X12_build) 186 dX12_build_186 ?_
              refine z_iload_n (M := M_X12_build) 188 dX12_build_188 rfl ?_
              refine z_iaddN (M := M_X12_build) 189 dX12_build_189 (by omega) (by omega) ?_
              refine z_iload (M := M_X12_build) 190 dX12_build_190 rfl ?_
              refine z_iload (M := M_X12_build) 192 dX12_build_192 rfl ?_
              refine z_iload (M := M_X12_build) 194 dX12_build_194 rfl ?_
              refine z_if_le_F (M := M_X12_build) 196 dX12_build_196 203 rfl (by omega) ?_
              refine z_iconst (M := M_X12_build) 199 dX12_build_199 ?_
              refine z_goto (M := M_X12_build) 200 dX12_build_200 204 rfl ?_
              refine z_vV (M := M_X12_build) 204 dX12_build_204 t_X12_edge l_X12_339 (m_rr_of rfl) (rest := []) (c_X12_edgeX h6 x7 (12 + x4) 1 (x10 + 1) 1 G6 ⟨by omega, by omega⟩ ⟨by omega, by omega⟩ ⟨by omega, by omega⟩ ⟨by omega, by omega⟩ ⟨by omega, by omega⟩ (le_e (eq_ad fx14_0 t_108_21) (by omega))) o_108 rfl rfl rfl (Nat.le_of_ble_eq_true rfl) ⟨rfl, rfl⟩ (fun h7 qx15 => ?_)
              obtain ⟨G7, S7, fx15_0, fx15_1⟩ := qx15
              have R7 := R6.call S7 (by decide +kernel)
              refine z_iincN (M := M_X12_build) 207 dX12_build_207 (ls' := [some (mR 108), some (mI a1), some (mI (l2 + 1)), some (mI x4), some (mI x7), some (mI x7), some (mI x10), some (mI x11), some (mI x10), some (mI (x10 + 1)), some (mI 1)]) (by decide) rfl (by (unfold m_32; decide)) (by omega) (by omega) rfl ?_
              refine z_goto (M := M_X12_build) 210 dX12_build_210 7 rfl ?_
              exact z_mask [true, true, true, false, false, false, false, false, false, false, false] rfl (ih.1 (l2 + 1) ((y_108_21 + 1) + 1) h7 G7 R7 (by omega) (by omega) (by omega) (by omega) (by omega) (by omega) (eq_ad fx15_0 (eq_ad fx14_0 t_108_21)) (b_ent2 (by omega) i0 (by omega) (by omega) fx14_1 fx15_1 ((eR_of (by omega) ((R 110 _ rfl).symm.trans fx3) ((R 110 _ rfl).symm.trans fx7) ((R 122 _ rfl).symm.trans ex4) ((R 123 _ rfl).symm.trans ex8) ((R 110 _ rfl).symm.trans fx10) ((R 110 _ rfl).symm.trans fx11)).trans (eOf_yes cx5 (by omega) (by split <;> omega) (by split <;> omega) (by split <;> omega) (by split <;> (try split) <;> omega) (by split <;> omega)))) (by have r0 := R 110 (0 : Int).toNat rfl; omega) (by omega) (by omega))
            · refine z_iload (M := M_X12_build) 129 dX12_build_129 rfl ?_
              refine z_goto (M := M_X12_build) 131 dX12_build_131 153 rfl ?_
              refine z_istore (M := M_X12_build) 153 dX12_build_153 (ls' := [some (mR 108), some (mI a1), some (mI l2), some (mI x4), some (mI x7), some (mI x7), some (mI x10), some (mI x11), some (mI x10), some (mI x10), none]) (by decide) rfl ?_
              refine z_iload (M := M_X12_build) 155 dX12_build_155 rfl ?_
              refine z_iconst (M := M_X12_build) 157 dX12_build_157 ?_
              refine z_icmp_ne_T (M := M_X12_build) 158 dX12_build_158 165 rfl (by omega) ?_
              refine z_iconst (M := M_X12_build) 165 dX12_build_165 ?_
              refine z_istore (M := M_X12_build) 166 dX12_build_166 (ls' := [some (mR 108), some (mI a1), some (mI l2), some (mI x4), some (mI x7), some (mI x7), some (mI x10), some (mI x11), some (mI x10), some (mI x10), some (mI 1)]) (by decide) rfl ?_
              refine z_aload_n (M := M_X12_build) 168 dX12_build_168 rfl ?_
              refine z_bipush (M := M_X12_build) 169 dX12_build_169 ?_
              refine z_iload_n (M := M_X12_build) 171 dX12_build_171 rfl ?_
              refine z_iaddN (M := M_X12_build) 172 dX12_build_172 (by omega) (by omega) ?_
              refine z_iload (M := M_X12_build) 173 dX12_build_173 rfl ?_
              refine z_iload (M := M_X12_build) 175 dX12_build_175 rfl ?_
              refine z_iload (M := M_X12_build) 177 dX12_build_177 rfl ?_
              refine z_iconst (M := M_X12_build) 179 dX12_build_179 ?_
              refine z_vV (M := M_X12_build) 180 dX12_build_180 t_X12_edge l_X12_339 (m_rr_of rfl) (rest := []) (c_X12_edgeX h (12 + x4) x7 x10 1 0 G ⟨by omega, by omega⟩ ⟨by omega, by omega⟩ ⟨by omega, by omega⟩ ⟨by omega, by omega⟩ ⟨by omega, by omega⟩ (le_e t_108_21 (by omega))) o_108 rfl rfl rfl (Nat.le_of_ble_eq_true rfl) ⟨rfl, rfl⟩ (fun h8 qx16 => ?_)
              obtain ⟨G8, S8, fx16_0, fx16_1⟩ := qx16
              have R8 := R.call S8 (by decide +kernel)
              refine z_aload_n (M := M_X12_build) 183 dX12_build_183 rfl ?_
              refine z_iload (M := M_X12_build) 184 dX12_build_184 rfl ?_
              refine z_bipush (M := M_X12_build) 186 dX12_build_186 ?_
              refine z_iload_n (M := M_X12_build) 188 dX12_build_188 rfl ?_
              refine z_iaddN (M := M_X12_build) 189 dX12_build_189 (by omega) (by omega) ?_
              refine z_iload (M := M_X12_build) 190 dX12_build_190 rfl ?_
              refine z_iload (M := M_X12_build) 192 dX12_build_192 rfl ?_
              refine z_iload (M := M_X12_build) 194 dX12_build_194 rfl ?_
              refine z_if_le_T (M := M_X12_build) 196 dX12_build_196 203 rfl (by omega) ?_
              refine z_iconst (M := M_X12_build) 203 dX12_build_203 ?_
              refine z_vV (M := M_X12_build) 204 dX12_build_204 t_X12_edge l_X12_339 (m_rr_of rfl) (rest := []) (c_X12_edgeX h8 x7 (12 + x4) 1 x10 0 G8 ⟨by omega, by omega⟩ ⟨by omega, by omega⟩ ⟨by omega, by omega⟩ ⟨by omega, by omega⟩ ⟨by omega, by omega⟩ (le_e (eq_ad fx16_0 t_108_21) (by omega))) o_108 rfl rfl rfl (Nat.le_of_ble_eq_true rfl) ⟨rfl, rfl⟩ (fun h9 qx17 => ?_)
              obtain ⟨G9, S9, fx17_0, fx17_1⟩ := qx17
              have R9 := R8.call S9 (by decide +kernel)
              refine z_iincN (M := M_X12_build) 207 dX12_build_207 (ls' := [some (mR 108), some (mI a1), some (mI (l2 + 1)), some (mI x4), some (mI x7), some (mI x7), some (mI x10), some (mI x11), some (mI x10), some (mI x10), some (mI 1)]) (by decide) rfl (by (unfold m_32; decide)) (by omega) (by omega) rfl ?_
              refine z_goto (M := M_X12_build) 210 dX12_build_210 7 rfl ?_
              exact z_mask [true, true, true, false, false, false, false, false, false, false, false] rfl (ih.1 (l2 + 1) ((y_108_21 + 1) + 1) h9 G9 R9 (by omega) (by omega) (by omega) (by omega) (by omega) (by omega) (eq_ad fx17_0 (eq_ad fx16_0 t_108_21)) (b_ent2 (by omega) i0 (by omega) (by omega) fx16_1 fx17_1 ((eR_of (by omega) ((R 110 _ rfl).symm.trans fx3) ((R 110 _ rfl).symm.trans fx7) ((R 122 _ rfl).symm.trans ex4) ((R 123 _ rfl).symm.trans ex8) ((R 110 _ rfl).symm.trans fx10) ((R 110 _ rfl).symm.trans fx11)).trans (eOf_yes cx5 (by omega) (by split <;> omega) (by split <;> omega) (by split <;> omega) (by split <;> (try split) <;> omega) (by split <;> omega)))) (by have r0 := R 110 (0 : Int).toNat rfl; omega) (by omega) (by omega))
          · refine z_iconst (M := M_X12_build) 111 dX12_build_111 ?_
            refine z_iload (M := M_X12_build) 112 dX12_build_112 rfl ?_
            refine z_imulN (M := M_X12_build) 114 dX12_build_114 (by omega) (by omega) ?_
            refine z_iconst (M := M_X12_build) 115 dX12_build_115 ?_
            refine z_isubN (M := M_X12_build) 116 dX12_build_116 (by omega) (by omega) ?_
            refine z_goto (M := M_X12_build) 117 dX12_build_117 122 rfl ?_
            refine z_istore (M := M_X12_build) 122 dX12_build_122 (ls' := [some (mR 108), some (mI a1), some (mI l2), some (mI x4), some (mI x7), some (mI x7), some (mI x10), some (mI x11), some (mI ((2 * x10) - 1)), none, none]) (by decide) rfl ?_
            refine z_iload (M := M_X12_build) 124 dX12_build_124 rfl ?_
            refine z_if_ne_T (M := M_X12_build) 126 dX12_build_126 134 rfl (by omega) ?_
            refine z_iload (M := M_X12_build) 134 dX12_build_134 rfl ?_
            refine z_iconst (M := M_X12_build) 136 dX12_build_136 ?_
            refine z_icmp_ne_T (M := M_X12_build) 137 dX12_build_137 147 rfl (by omega) ?_
            refine z_iconst (M := M_X12_build) 147 dX12_build_147 ?_
            refine z_iload (M := M_X12_build) 148 dX12_build_148 rfl ?_
            refine z_imulN (M := M_X12_build) 150 dX12_build_150 (by omega) (by omega) ?_
            refine z_iconst (M := M_X12_build) 151 dX12_build_151 ?_
            refine z_iaddN (M := M_X12_build) 152 dX12_build_152 (by omega) (by omega) ?_
            refine z_istore (M := M_X12_build) 153 dX12_build_153 (ls' := [some (mR 108), some (mI a1), some (mI l2), some (mI x4), some (mI x7), some (mI x7), some (mI x10), some (mI x11), some (mI ((2 * x10) - 1)), some (mI ((2 * x10) + 1)), none]) (by decide) rfl ?_
            refine z_iload (M := M_X12_build) 155 dX12_build_155 rfl ?_
            refine z_iconst (M := M_X12_build) 157 dX12_build_157 ?_
            refine z_icmp_ne_F (M := M_X12_build) 158 dX12_build_158 165 rfl (by omega) ?_
            refine z_iconst (M := M_X12_build) 161 dX12_build_161 ?_
            refine z_goto (M := M_X12_build) 162 dX12_build_162 166 rfl ?_
            refine z_istore (M := M_X12_build) 166 dX12_build_166 (ls' := [some (mR 108), some (mI a1), some (mI l2), some (mI x4), some (mI x7), some (mI x7), some (mI x10), some (mI x11), some (mI ((2 * x10) - 1)), some (mI ((2 * x10) + 1)), some (mI 2)]) (by decide) rfl ?_
            refine z_aload_n (M := M_X12_build) 168 dX12_build_168 rfl ?_
            refine z_bipush (M := M_X12_build) 169 dX12_build_169 ?_
            refine z_iload_n (M := M_X12_build) 171 dX12_build_171 rfl ?_
            refine z_iaddN (M := M_X12_build) 172 dX12_build_172 (by omega) (by omega) ?_
            refine z_iload (M := M_X12_build) 173 dX12_build_173 rfl ?_
            refine z_iload (M := M_X12_build) 175 dX12_build_175 rfl ?_
            refine z_iload (M := M_X12_build) 177 dX12_build_177 rfl ?_
            refine z_iconst (M := M_X12_build) 179 dX12_build_179 ?_
            refine z_vV (M := M_X12_build) 180 dX12_build_180 t_X12_edge l_X12_339 (m_rr_of rfl) (rest := []) (c_X12_edgeX h (12 + x4) x7 ((2 * x10) - 1) 2 0 G ⟨by omega, by omega⟩ ⟨by omega, by omega⟩ ⟨by omega, by omega⟩ ⟨by omega, by omega⟩ ⟨by omega, by omega⟩ (le_e t_108_21 (by omega))) o_108 rfl rfl rfl (Nat.le_of_ble_eq_true rfl) ⟨rfl, rfl⟩ (fun h10 qx18 => ?_)
            obtain ⟨G10, S10, fx18_0, fx18_1⟩ := qx18
            have R10 := R.call S10 (by decide +kernel)
            refine z_aload_n (M := M_X12_build) 183 dX12_build_183 rfl ?_
            refine z_iload (M := M_X12_build) 184 dX12_build_184 rfl ?_
            refine z_bipush (M := M_X12_build) 186 dX12_build_186 ?_
            refine z_iload_n (M := M_X12_build) 188 dX12_build_188 rfl ?_
            refine z_iaddN (M := M_X12_build) 189 dX12_build_189 (by omega) (by omega) ?_
            refine z_iload (M := M_X12_build) 190 dX12_build_190 rfl ?_
            refine z_iload (M := M_X12_build) 192 dX12_build_192 rfl ?_
            refine z_iload (M := M_X12_build) 194 dX12_build_194 rfl ?_
            refine z_if_le_F (M := M_X12_build) 196 dX12_build_196 203 rfl (by omega) ?_
            refine z_iconst (M := M_X12_build) 199 dX12_build_199 ?_
            refine z_goto (M := M_X12_build) 200 dX12_build_200 204 rfl ?_
            refine z_vV (M := M_X12_build) 204 dX12_build_204 t_X12_edge l_X12_339 (m_rr_of rfl) (rest := []) (c_X12_edgeX h10 x7 (12 + x4) 2 ((2 * x10) + 1) 1 G10 ⟨by omega, by omega⟩ ⟨by omega, by omega⟩ ⟨by omega, by omega⟩ ⟨by omega, by omega⟩ ⟨by omega, by omega⟩ (le_e (eq_ad fx18_0 t_108_21) (by omega))) o_108 rfl rfl rfl (Nat.le_of_ble_eq_true rfl) ⟨rfl, rfl⟩ (fun h11 qx19 => ?_)
            obtain ⟨G11, S11, fx19_0, fx19_1⟩ := qx19
            have R11 := R10.call S11 (by decide +kernel)
            refine z_iincN (M := M_X12_build) 207 dX12_build_207 (ls' := [some (mR 108), some (mI a1), some (mI (l2 + 1)), some (mI x4), some (mI x7), some (mI x7), some (mI x10), some (mI x11), some (mI ((2 * x10) - 1)), some (mI ((2 * x10) + 1)), some (mI 2)]) (by decide) rfl (by (unfold m_32; decide)) (by omega) (by omega) rfl ?_
            refine z_goto (M := M_X12_build) 210 dX12_build_210 7 rfl ?_
            exact z_mask [true, true, true, false, false, false, false, false, false, false, false] rfl (ih.1 (l2 + 1) ((y_108_21 + 1) + 1) h11 G11 R11 (by omega) (by omega) (by omega) (by omega) (by omega) (by omega) (eq_ad fx19_0 (eq_ad fx18_0 t_108_21)) (b_ent2 (by omega) i0 (by omega) (by omega) fx18_1 fx19_1 ((eR_of (by omega) ((R 110 _ rfl).symm.trans fx3) ((R 110 _ rfl).symm.trans fx7) ((R 122 _ rfl).symm.trans ex4) ((R 123 _ rfl).symm.trans ex8) ((R 110 _ rfl).symm.trans fx10) ((R 110 _ rfl).symm.trans fx11)).trans (eOf_yes cx5 (by omega) (by split <;> omega) (by split <;> omega) (by split <;> omega) (by split <;> (try split) <;> omega) (by split <;> omega)))) (by have r0 := R 110 (0 : Int).toNat rfl; omega) (by omega) (by omega))
        · refine z_aload_n (M := M_X12_build) 61 dX12_build_61 rfl ?_
          refine z_iload_n (M := M_X12_build) 62 dX12_build_62 rfl ?_
          refine z_iconst (M := M_X12_build) 63 dX12_build_63 ?_
          refine z_vI (M := M_X12_build) 64 dX12_build_64 t_X12_ofEntry l_X12_195 (m_rr_of rfl) (rest := []) (c_X12_ofEntry h l2 1 G ⟨by omega, by omega⟩ ⟨by omega, by omega⟩) o_108 rfl rfl rfl (Nat.le_of_ble_eq_true rfl) ⟨rfl, rfl⟩ (fun x20 h12 qx20 => ?_)
          obtain ⟨rfl, fx20⟩ := qx20
          have gx20 := gw_e1 G (i := (80 + 5 * l2 + 1)) (e := l2) (by omega) (by omega) (by omega)
          rw [fx20] at gx20
          refine z_aload_n (M := M_X12_build) 67 dX12_build_67 rfl ?_
          refine z_getR (M := M_X12_build) 68 dX12_build_68 f_X12_58 o_108 rfl (g_108_28 G) ?_
          refine z_iload (M := M_X12_build) 71 dX12_build_71 rfl ?_
          refine z_ialdE (M := M_X12_build) 73 dX12_build_73 o_123 (by omega) (by omega) ex8 ?_
          refine z_icmp_lt (M := M_X12_build) 74 dX12_build_74 85 rfl (fun c21 => ?_) (fun c21 => ?_)
          · refine z_iload (M := M_X12_build) 85 dX12_build_85 rfl ?_
            refine z_istore (M := M_X12_build) 87 dX12_build_87 (ls' := [some (mR 108), some (mI a1), some (mI l2), some (mI x4), some (mI x7), some (mI x7), none, none, none, none, none]) (by decide) rfl ?_
            refine z_aload_n (M := M_X12_build) 89 dX12_build_89 rfl ?_
            refine z_iload_n (M := M_X12_build) 90 dX12_build_90 rfl ?_
            refine z_iconst (M := M_X12_build) 91 dX12_build_91 ?_
            refine z_vI (M := M_X12_build) 92 dX12_build_92 t_X12_ofEntry l_X12_195 (m_rr_of rfl) (rest := []) (c_X12_ofEntry h l2 2 G ⟨by omega, by omega⟩ ⟨by omega, by omega⟩) o_108 rfl rfl rfl (Nat.le_of_ble_eq_true rfl) ⟨rfl, rfl⟩ (fun x22 h13 qx22 => ?_)
            obtain ⟨rfl, fx22⟩ := qx22
            have gx22 := gw_e2 G (i := (80 + 5 * l2 + 2)) (e := l2) (by omega) (by omega) (by omega)
            rw [fx22] at gx22
            have nx22 : 1 ≤ x22 := np_at hN R (fun _ => rfl) (by omega) (by omega) ex1 fx22
            refine z_istore (M := M_X12_build) 95 dX12_build_95 (ls' := [some (mR 108), some (mI a1), some (mI l2), some (mI x4), some (mI x7), some (mI x7), some (mI x22), none, none, none, none]) (by decide) rfl ?_
            refine z_aload_n (M := M_X12_build) 97 dX12_build_97 rfl ?_
            refine z_iload_n (M := M_X12_build) 98 dX12_build_98 rfl ?_
            refine z_iconst (M := M_X12_build) 99 dX12_build_99 ?_
            refine z_vI (M := M_X12_build) 100 dX12_build_100 t_X12_ofEntry l_X12_195 (m_rr_of rfl) (rest := []) (c_X12_ofEntry h l2 3 G ⟨by omega, by omega⟩ ⟨by omega, by omega⟩) o_108 rfl rfl rfl (Nat.le_of_ble_eq_true rfl) ⟨rfl, rfl⟩ (fun x23 h14 qx23 => ?_)
            obtain ⟨rfl, fx23⟩ := qx23
            have gx23 := gw_e3 G (i := (80 + 5 * l2 + 3)) (e := l2) (by omega) (by omega) (by omega)
            rw [fx23] at gx23
            refine z_istore (M := M_X12_build) 103 dX12_build_103 (ls' := [some (mR 108), some (mI a1), some (mI l2), some (mI x4), some (mI x7), some (mI x7), some (mI x22), some (mI x23), none, none, none]) (by decide) rfl ?_
            refine z_iload (M := M_X12_build) 105 dX12_build_105 rfl ?_
            refine z_iconst (M := M_X12_build) 107 dX12_build_107 ?_
            refine z_icmp_ne (M := M_X12_build) 108 dX12_build_108 120 rfl (fun c24 => ?_) (fun c24 => ?_)
            · refine z_iload (M := M_X12_build) 120 dX12_build_120 rfl ?_
              refine z_istore (M := M_X12_build) 122 dX12_build_122 (ls' := [some (mR 108), some (mI a1), some (mI l2), some (mI x4), some (mI x7), some (mI x7), some (mI x22), some (mI x23), some (mI x22), none, none]) (by decide) rfl ?_
              refine z_iload (M := M_X12_build) 124 dX12_build_124 rfl ?_
              refine z_if_ne (M := M_X12_build) 126 dX12_build_126 134 rfl (fun c25 => ?_) (fun c25 => ?_)
              · refine z_iload (M := M_X12_build) 134 dX12_build_134 rfl ?_
                refine z_iconst (M := M_X12_build) 136 dX12_build_136 ?_
                refine z_icmp_ne_F (M := M_X12_build) 137 dX12_build_137 147 rfl (by omega) ?_
                refine z_iload (M := M_X12_build) 140 dX12_build_140 rfl ?_
                refine z_iconst (M := M_X12_build) 142 dX12_build_142 ?_
                refine z_iaddN (M := M_X12_build) 143 dX12_build_143 (by omega) (by omega) ?_
                refine z_goto (M := M_X12_build) 144 dX12_build_144 153 rfl ?_
                refine z_istore (M := M_X12_build) 153 dX12_build_153 (ls' := [some (mR 108), some (mI a1), some (mI l2), some (mI x4), some (mI x7), some (mI x7), some (mI x22), some (mI x23), some (mI x22), some (mI (x22 + 1)), none]) (by decide) rfl ?_
                refine z_iload (M := M_X12_build) 155 dX12_build_155 rfl ?_
                refine z_iconst (M := M_X12_build) 157 dX12_build_157 ?_
                refine z_icmp_ne_T (M := M_X12_build) 158 dX12_build_158 165 rfl (by omega) ?_
                refine z_iconst (M := M_X12_build) 165 dX12_build_165 ?_
                refine z_istore (M := M_X12_build) 166 dX12_build_166 (ls' := [some (mR 108), some (mI a1), some (mI l2), some (mI x4), some (mI x7), some (mI x7), some (mI x22), some (mI x23), some (mI x22), some (mI (x22 + 1)), some (mI 1)]) (by decide) rfl ?_
                refine z_aload_n (M := M_X12_build) 168 dX12_build_168 rfl ?_
                refine z_bipush (M := M_X12_build) 169 dX12_build_169 ?_
                refine z_iload_n (M := M_X12_build) 171 dX12_build_171 rfl ?_
                refine z_iaddN (M := M_X12_build) 172 dX12_build_172 (by omega) (by omega) ?_
                refine z_iload (M := M_X12_build) 173 dX12_build_173 rfl ?_
                refine z_iload (M := M_X12_build) 175 dX12_build_175 rfl ?_
                refine z_iload (M := M_X12_build) 177 dX12_build_177 rfl ?_
                refine z_iconst (M := M_X12_build) 179 dX12_build_179 ?_
                refine z_vV (M := M_X12_build) 180 dX12_build_180 t_X12_edge l_X12_339 (m_rr_of rfl) (rest := []) (c_X12_edgeX h (12 + x4) x7 x22 1 0 G ⟨by omega, by omega⟩ ⟨by omega, by omega⟩ ⟨by omega, by omega⟩ ⟨by omega, by omega⟩ ⟨by omega, by omega⟩ (le_e t_108_21 (by omega))) o_108 rfl rfl rfl (Nat.le_of_ble_eq_true rfl) ⟨rfl, rfl⟩ (fun h15 qx26 => ?_)
                obtain ⟨G15, S15, fx26_0, fx26_1⟩ := qx26
                have R15 := R.call S15 (by decide +kernel)
                refine z_aload_n (M := M_X12_build) 183 dX12_build_183 rfl ?_
                refine z_iload (M := M_X12_build) 184 dX12_build_184 rfl ?_
                refine z_bipush (M := M_X12_build) 186 dX12_build_186 ?_
                refine z_iload_n (M := M_X12_build) 188 dX12_build_188 rfl ?_
                refine z_iaddN (M := M_X12_build) 189 dX12_build_189 (by omega) (by omega) ?_
                refine z_iload (M := M_X12_build) 190 dX12_build_190 rfl ?_
                refine z_iload (M := M_X12_build) 192 dX12_build_192 rfl ?_
                refine z_iload (M := M_X12_build) 194 dX12_build_194 rfl ?_
                refine z_if_le_F (M := M_X12_build) 196 dX12_build_196 203 rfl (by omega) ?_
                refine z_iconst (M := M_X12_build) 199 dX12_build_199 ?_
                refine z_goto (M := M_X12_build) 200 dX12_build_200 204 rfl ?_
                refine z_vV (M := M_X12_build) 204 dX12_build_204 t_X12_edge l_X12_339 (m_rr_of rfl) (rest := []) (c_X12_edgeX h15 x7 (12 + x4) 1 (x22 + 1) 1 G15 ⟨by omega, by omega⟩ ⟨by omega, by omega⟩ ⟨by omega, by omega⟩ ⟨by omega, by omega⟩ ⟨by omega, by omega⟩ (le_e (eq_ad fx26_0 t_108_21) (by omega))) o_108 rfl rfl rfl (Nat.le_of_ble_eq_true rfl) ⟨rfl, rfl⟩ (fun h16 qx27 => ?_)
                obtain ⟨G16, S16, fx27_0, fx27_1⟩ := qx27
                have R16 := R15.call S16 (by decide +kernel)
                refine z_iincN (M := M_X12_build) 207 dX12_build_207 (ls' := [some (mR 108), some (mI a1), some (mI (l2 + 1)), some (mI x4), some (mI x7), some (mI x7), some (mI x22), some (mI x23), some (mI x22), some (mI (x22 + 1)), some (mI 1)]) (by decide) rfl (by (unfold m_32; decide)) (by omega) (by omega) rfl ?_
                refine z_goto (M := M_X12_build) 210 dX12_build_210 7 rfl ?_
                exact z_mask [true, true, true, false, false, false, false, false, false, false, false] rfl (ih.1 (l2 + 1) ((y_108_21 + 1) + 1) h16 G16 R16 (by omega) (by omega) (by omega) (by omega) (by omega) (by omega) (eq_ad fx27_0 (eq_ad fx26_0 t_108_21)) (b_ent2 (by omega) i0 (by omega) (by omega) fx26_1 fx27_1 ((eR_of (by omega) ((R 110 _ rfl).symm.trans fx3) ((R 110 _ rfl).symm.trans fx7) ((R 122 _ rfl).symm.trans ex4) ((R 123 _ rfl).symm.trans ex8) ((R 110 _ rfl).symm.trans fx22) ((R 110 _ rfl).symm.trans fx23)).trans (eOf_yes cx5 (by omega) (by split <;> omega) (by split <;> omega) (by split <;> omega) (by split <;> (try split) <;> omega) (by split <;> omega)))) (by have r0 := R 110 (0 : Int).toNat rfl; omega) (by omega) (by omega))
              · refine z_iload (M := M_X12_build) 129 dX12_build_129 rfl ?_
                refine z_goto (M := M_X12_build) 131 dX12_build_131 153 rfl ?_
                refine z_istore (M := M_X12_build) 153 dX12_build_153 (ls' := [some (mR 108), some (mI a1), some (mI l2), some (mI x4), some (mI x7), some (mI x7), some (mI x22), some (mI x23), some (mI x22), some (mI x22), none]) (by decide) rfl ?_
                refine z_iload (M := M_X12_build) 155 dX12_build_155 rfl ?_
                refine z_iconst (M := M_X12_build) 157 dX12_build_157 ?_
                refine z_icmp_ne_T (M := M_X12_build) 158 dX12_build_158 165 rfl (by omega) ?_
                refine z_iconst (M := M_X12_build) 165 dX12_build_165 ?_
                refine z_istore (M := M_X12_build) 166 dX12_build_166 (ls' := [some (mR 108), some (mI a1), some (mI l2), some (mI x4), some (mI x7), some (mI x7), some (mI x22), some (mI x23), some (mI x22), some (mI x22), some (mI 1)]) (by decide) rfl ?_
                refine z_aload_n (M := M_X12_build) 168 dX12_build_168 rfl ?_
                refine z_bipush (M := M_X12_build) 169 dX12_build_169 ?_
                refine z_iload_n (M := M_X12_build) 171 dX12_build_171 rfl ?_
                refine z_iaddN (M := M_X12_build) 172 dX12_build_172 (by omega) (by omega) ?_
                refine z_iload (M := M_X12_build) 173 dX12_build_173 rfl ?_
                refine z_iload (M := M_X12_build) 175 dX12_build_175 rfl ?_
                refine z_iload (M := M_X12_build) 177 dX12_build_177 rfl ?_
                refine z_iconst (M := M_X12_build) 179 dX12_build_179 ?_
                refine z_vV (M := M_X12_build) 180 dX12_build_180 t_X12_edge l_X12_339 (m_rr_of rfl) (rest := []) (c_X12_edgeX h (12 + x4) x7 x22 1 0 G ⟨by omega, by omega⟩ ⟨by omega, by omega⟩ ⟨by omega, by omega⟩ ⟨by omega, by omega⟩ ⟨by omega, by omega⟩ (le_e t_108_21 (by omega))) o_108 rfl rfl rfl (Nat.le_of_ble_eq_true rfl) ⟨rfl, rfl⟩ (fun h17 qx28 => ?_)
                obtain ⟨G17, S17, fx28_0, fx28_1⟩ := qx28
                have R17 := R.call S17 (by decide +kernel)
                refine z_aload_n (M := M_X12_build) 183 dX12_build_183 rfl ?_
                refine z_iload (M := M_X12_build) 184 dX12_build_184 rfl ?_
                refine z_bipush (M := M_X12_build) 186 dX12_build_186 ?_
                refine z_iload_n (M := M_X12_build) 188 dX12_build_188 rfl ?_
                refine z_iaddN (M := M_X12_build) 189 dX12_build_189 (by omega) (by omega) ?_
                refine z_iload (M := M_X12_build) 190 dX12_build_190 rfl ?_
                refine z_iload (M := M_X12_build) 192 dX12_build_192 rfl ?_
                refine z_iload (M := M_X12_build) 194 dX12_build_194 rfl ?_
                refine z_if_le_T (M := M_X12_build) 196 dX12_build_196 203 rfl (by omega) ?_
                refine z_iconst (M := M_X12_build) 203 dX12_build_203 ?_
                refine z_vV (M := M_X12_build) 204 dX12_build_204 t_X12_edge l_X12_339 (m_rr_of rfl) (rest := []) (c_X12_edgeX h17 x7 (12 + x4) 1 x22 0 G17 ⟨by omega, by omega⟩ ⟨by omega, by omega⟩ ⟨by omega, by omega⟩ ⟨by omega, by omega⟩ ⟨by omega, by omega⟩ (le_e (eq_ad fx28_0 t_108_21) (by omega))) o_108 rfl rfl rfl (Nat.le_of_ble_eq_true rfl) ⟨rfl, rfl⟩ (fun h18 qx29 => ?_)
                obtain ⟨G18, S18, fx29_0, fx29_1⟩ := qx29
                have R18 := R17.call S18 (by decide +kernel)
                refine z_iincN (M := M_X12_build) 207 dX12_build_207 (ls' := [some (mR 108), some (mI a1), some (mI (l2 + 1)), some (mI x4), some (mI x7), some (mI x7), some (mI x22), some (mI x23), some (mI x22), some (mI x22), some (mI 1)]) (by decide) rfl (by (unfold m_32; decide)) (by omega) (by omega) rfl ?_
                refine z_goto (M := M_X12_build) 210 dX12_build_210 7 rfl ?_
                exact z_mask [true, true, true, false, false, false, false, false, false, false, false] rfl (ih.1 (l2 + 1) ((y_108_21 + 1) + 1) h18 G18 R18 (by omega) (by omega) (by omega) (by omega) (by omega) (by omega) (eq_ad fx29_0 (eq_ad fx28_0 t_108_21)) (b_ent2 (by omega) i0 (by omega) (by omega) fx28_1 fx29_1 ((eR_of (by omega) ((R 110 _ rfl).symm.trans fx3) ((R 110 _ rfl).symm.trans fx7) ((R 122 _ rfl).symm.trans ex4) ((R 123 _ rfl).symm.trans ex8) ((R 110 _ rfl).symm.trans fx22) ((R 110 _ rfl).symm.trans fx23)).trans (eOf_yes cx5 (by omega) (by split <;> omega) (by split <;> omega) (by split <;> omega) (by split <;> (try split) <;> omega) (by split <;> omega)))) (by have r0 := R 110 (0 : Int).toNat rfl; omega) (by omega) (by omega))
            · refine z_iconst (M := M_X12_build) 111 dX12_build_111 ?_
              refine z_iload (M := M_X12_build) 112 dX12_build_112 rfl ?_
              refine z_imulN (M := M_X12_build) 114 dX12_build_114 (by omega) (by omega) ?_
              refine z_iconst (M := M_X12_build) 115 dX12_build_115 ?_
              refine z_isubN (M := M_X12_build) 116 dX12_build_116 (by omega) (by omega) ?_
              refine z_goto (M := M_X12_build) 117 dX12_build_117 122 rfl ?_
              refine z_istore (M := M_X12_build) 122 dX12_build_122 (ls' := [some (mR 108), some (mI a1), some (mI l2), some (mI x4), some (mI x7), some (mI x7), some (mI x22), some (mI x23), some (mI ((2 * x22) - 1)), none, none]) (by decide) rfl ?_
              refine z_iload (M := M_X12_build) 124 dX12_build_124 rfl ?_
              refine z_if_ne_T (M := M_X12_build) 126 dX12_build_126 134 rfl (by omega) ?_
              refine z_iload (M := M_X12_build) 134 dX12_build_134 rfl ?_
              refine z_iconst (M := M_X12_build) 136 dX12_build_136 ?_
              refine z_icmp_ne_T (M := M_X12_build) 137 dX12_build_137 147 rfl (by omega) ?_
              refine z_iconst (M := M_X12_build) 147 dX12_build_147 ?_
              refine z_iload (M := M_X12_build) 148 dX12_build_148 rfl ?_
              refine z_imulN (M := M_X12_build) 150 dX12_build_150 (by omega) (by omega) ?_
              refine z_iconst (M := M_X12_build) 151 dX12_build_151 ?_
              refine z_iaddN (M := M_X12_build) 152 dX12_build_152 (by omega) (by omega) ?_
              refine z_istore (M := M_X12_build) 153 dX12_build_153 (ls' := [some (mR 108), some (mI a1), some (mI l2), some (mI x4), some (mI x7), some (mI x7), some (mI x22), some (mI x23), some (mI ((2 * x22) - 1)), some (mI ((2 * x22) + 1)), none]) (by decide) rfl ?_
              refine z_iload (M := M_X12_build) 155 dX12_build_155 rfl ?_
              refine z_iconst (M := M_X12_build) 157 dX12_build_157 ?_
              refine z_icmp_ne_F (M := M_X12_build) 158 dX12_build_158 165 rfl (by omega) ?_
              refine z_iconst (M := M_X12_build) 161 dX12_build_161 ?_
              refine z_goto (M := M_X12_build) 162 dX12_build_162 166 rfl ?_
              refine z_istore (M := M_X12_build) 166 dX12_build_166 (ls' := [some (mR 108), some (mI a1), some (mI l2), some (mI x4), some (mI x7), some (mI x7), some (mI x22), some (mI x23), some (mI ((2 * x22) - 1)), some (mI ((2 * x22) + 1)), some (mI 2)]) (by decide) rfl ?_
              refine z_aload_n (M := M_X12_build) 168 dX12_build_168 rfl ?_
              refine z_bipush (M := M_X12_build) 169 dX12_build_169 ?_
              refine z_iload_n (M := M_X12_build) 171 dX12_build_171 rfl ?_
              refine z_iaddN (M := M_X12_build) 172 dX12_build_172 (by omega) (by omega) ?_
              refine z_iload (M := M_X12_build) 173 dX12_build_173 rfl ?_
              refine z_iload (M := M_X12_build) 175 dX12_build_175 rfl ?_
              refine z_iload (M := M_X12_build) 177 dX12_build_177 rfl ?_
              refine z_iconst (M := M_X12_build) 179 dX12_build_179 ?_
              refine z_vV (M := M_X12_build) 180 dX12_build_180 t_X12_edge l_X12_339 (m_rr_of rfl) (rest := []) (c_X12_edgeX h (12 + x4) x7 ((2 * x22) - 1) 2 0 G ⟨by omega, by omega⟩ ⟨by omega, by omega⟩ ⟨by omega, by omega⟩ ⟨by omega, by omega⟩ ⟨by omega, by omega⟩ (le_e t_108_21 (by omega))) o_108 rfl rfl rfl (Nat.le_of_ble_eq_true rfl) ⟨rfl, rfl⟩ (fun h19 qx30 => ?_)
              obtain ⟨G19, S19, fx30_0, fx30_1⟩ := qx30
              have R19 := R.call S19 (by decide +kernel)
              refine z_aload_n (M := M_X12_build) 183 dX12_build_183 rfl ?_
              refine z_iload (M := M_X12_build) 184 dX12_build_184 rfl ?_
              refine z_bipush (M := M_X12_build) 186 dX12_build_186 ?_
              refine z_iload_n (M := M_X12_build) 188 dX12_build_188 rfl ?_
              refine z_iaddN (M := M_X12_build) 189 dX12_build_189 (by omega) (by omega) ?_
              refine z_iload (M := M_X12_build) 190 dX12_build_190 rfl ?_
              refine z_iload (M := M_X12_build) 192 dX12_build_192 rfl ?_
              refine z_iload (M := M_X12_build) 194 dX12_build_194 rfl ?_
              refine z_if_le_F (M := M_X12_build) 196 dX12_build_196 203 rfl (by omega) ?_
              refine z_iconst (M := M_X12_build) 199 dX12_build_199 ?_
              refine z_goto (M := M_X12_build) 200 dX12_build_200 204 rfl ?_
              refine z_vV (M := M_X12_build) 204 dX12_build_204 t_X12_edge l_X12_339 (m_rr_of rfl) (rest := []) (c_X12_edgeX h19 x7 (12 + x4) 2 ((2 * x22) + 1) 1 G19 ⟨by omega, by omega⟩ ⟨by omega, by omega⟩ ⟨by omega, by omega⟩ ⟨by omega, by omega⟩ ⟨by omega, by omega⟩ (le_e (eq_ad fx30_0 t_108_21) (by omega))) o_108 rfl rfl rfl (Nat.le_of_ble_eq_true rfl) ⟨rfl, rfl⟩ (fun h20 qx31 => ?_)
              obtain ⟨G20, S20, fx31_0, fx31_1⟩ := qx31
              have R20 := R19.call S20 (by decide +kernel)
              refine z_iincN (M := M_X12_build) 207 dX12_build_207 (ls' := [some (mR 108), some (mI a1), some (mI (l2 + 1)), some (mI x4), some (mI x7), some (mI x7), some (mI x22), some (mI x23), some (mI ((2 * x22) - 1)), some (mI ((2 * x22) + 1)), some (mI 2)]) (by decide) rfl (by (unfold m_32; decide)) (by omega) (by omega) rfl ?_
              refine z_goto (M := M_X12_build) 210 dX12_build_210 7 rfl ?_
              exact z_mask [true, true, true, false, false, false, false, false, false, false, false] rfl (ih.1 (l2 + 1) ((y_108_21 + 1) + 1) h20 G20 R20 (by omega) (by omega) (by omega) (by omega) (by omega) (by omega) (eq_ad fx31_0 (eq_ad fx30_0 t_108_21)) (b_ent2 (by omega) i0 (by omega) (by omega) fx30_1 fx31_1 ((eR_of (by omega) ((R 110 _ rfl).symm.trans fx3) ((R 110 _ rfl).symm.trans fx7) ((R 122 _ rfl).symm.trans ex4) ((R 123 _ rfl).symm.trans ex8) ((R 110 _ rfl).symm.trans fx22) ((R 110 _ rfl).symm.trans fx23)).trans (eOf_yes cx5 (by omega) (by split <;> omega) (by split <;> omega) (by split <;> omega) (by split <;> (try split) <;> omega) (by split <;> omega)))) (by have r0 := R 110 (0 : Int).toNat rfl; omega) (by omega) (by omega))
          · refine z_bipush (M := M_X12_build) 77 dX12_build_77 ?_
            refine z_iload (M := M_X12_build) 79 dX12_build_79 rfl ?_
            refine z_iaddN (M := M_X12_build) 81 dX12_build_81 (by omega) (by omega) ?_
            refine z_goto (M := M_X12_build) 82 dX12_build_82 87 rfl ?_
            refine z_istore (M := M_X12_build) 87 dX12_build_87 (ls' := [some (mR 108), some (mI a1), some (mI l2), some (mI x4), some (mI x7), some (mI (6 + x7)), none, none, none, none, none]) (by decide) rfl ?_
            refine z_aload_n (M := M_X12_build) 89 dX12_build_89 rfl ?_
            refine z_iload_n (M := M_X12_build) 90 dX12_build_90 rfl ?_
            refine z_iconst (M := M_X12_build) 91 dX12_build_91 ?_
            refine z_vI (M := M_X12_build) 92 dX12_build_92 t_X12_ofEntry l_X12_195 (m_rr_of rfl) (rest := []) (c_X12_ofEntry h l2 2 G ⟨by omega, by omega⟩ ⟨by omega, by omega⟩) o_108 rfl rfl rfl (Nat.le_of_ble_eq_true rfl) ⟨rfl, rfl⟩ (fun x32 h21 qx32 => ?_)
            obtain ⟨rfl, fx32⟩ := qx32
            have gx32 := gw_e2 G (i := (80 + 5 * l2 + 2)) (e := l2) (by omega) (by omega) (by omega)
            rw [fx32] at gx32
            have nx32 : 1 ≤ x32 := np_at hN R (fun _ => rfl) (by omega) (by omega) ex1 fx32
            refine z_istore (M := M_X12_build) 95 dX12_build_95 (ls' := [some (mR 108), some (mI a1), some (mI l2), some (mI x4), some (mI x7), some (mI (6 + x7)), some (mI x32), none, none, none, none]) (by decide) rfl ?_
            refine z_aload_n (M := M_X12_build) 97 dX12_build_97 rfl ?_
            refine z_iload_n (M := M_X12_build) 98 dX12_build_98 rfl ?_
            refine z_iconst (M := M_X12_build) 99 dX12_build_99 ?_
            refine z_vI (M := M_X12_build) 100 dX12_build_100 t_X12_ofEntry l_X12_195 (m_rr_of rfl) (rest := []) (c_X12_ofEntry h l2 3 G ⟨by omega, by omega⟩ ⟨by omega, by omega⟩) o_108 rfl rfl rfl (Nat.le_of_ble_eq_true rfl) ⟨rfl, rfl⟩ (fun x33 h22 qx33 => ?_)
            obtain ⟨rfl, fx33⟩ := qx33
            have gx33 := gw_e3 G (i := (80 + 5 * l2 + 3)) (e := l2) (by omega) (by omega) (by omega)
            rw [fx33] at gx33
            refine z_istore (M := M_X12_build) 103 dX12_build_103 (ls' := [some (mR 108), some (mI a1), some (mI l2), some (mI x4), some (mI x7), some (mI (6 + x7)), some (mI x32), some (mI x33), none, none, none]) (by decide) rfl ?_
            refine z_iload (M := M_X12_build) 105 dX12_build_105 rfl ?_
            refine z_iconst (M := M_X12_build) 107 dX12_build_107 ?_
            refine z_icmp_ne (M := M_X12_build) 108 dX12_build_108 120 rfl (fun c34 => ?_) (fun c34 => ?_)
            · refine z_iload (M := M_X12_build) 120 dX12_build_120 rfl ?_
              refine z_istore (M := M_X12_build) 122 dX12_build_122 (ls' := [some (mR 108), some (mI a1), some (mI l2), some (mI x4), some (mI x7), some (mI (6 + x7)), some (mI x32), some (mI x33), some (mI x32), none, none]) (by decide) rfl ?_
              refine z_iload (M := M_X12_build) 124 dX12_build_124 rfl ?_
              refine z_if_ne (M := M_X12_build) 126 dX12_build_126 134 rfl (fun c35 => ?_) (fun c35 => ?_)
              · refine z_iload (M := M_X12_build) 134 dX12_build_134 rfl ?_
                refine z_iconst (M := M_X12_build) 136 dX12_build_136 ?_
                refine z_icmp_ne_F (M := M_X12_build) 137 dX12_build_137 147 rfl (by omega) ?_
                refine z_iload (M := M_X12_build) 140 dX12_build_140 rfl ?_
                refine z_iconst (M := M_X12_build) 142 dX12_build_142 ?_
                refine z_iaddN (M := M_X12_build) 143 dX12_build_143 (by omega) (by omega) ?_
                refine z_goto (M := M_X12_build) 144 dX12_build_144 153 rfl ?_
                refine z_istore (M := M_X12_build) 153 dX12_build_153 (ls' := [some (mR 108), some (mI a1), some (mI l2), some (mI x4), some (mI x7), some (mI (6 + x7)), some (mI x32), some (mI x33), some (mI x32), some (mI (x32 + 1)), none]) (by decide) rfl ?_
                refine z_iload (M := M_X12_build) 155 dX12_build_155 rfl ?_
                refine z_iconst (M := M_X12_build) 157 dX12_build_157 ?_
                refine z_icmp_ne_T (M := M_X12_build) 158 dX12_build_158 165 rfl (by omega) ?_
                refine z_iconst (M := M_X12_build) 165 dX12_build_165 ?_
                refine z_istore (M := M_X12_build) 166 dX12_build_166 (ls' := [some (mR 108), some (mI a1), some (mI l2), some (mI x4), some (mI x7), some (mI (6 + x7)), some (mI x32), some (mI x33), some (mI x32), some (mI (x32 + 1)), some (mI 1)]) (by decide) rfl ?_
                refine z_aload_n (M := M_X12_build) 168 dX12_build_168 rfl ?_
                refine z_bipush (M := M_X12_build) 169 dX12_build_169 ?_
                refine z_iload_n (M := M_X12_build) 171 dX12_build_171 rfl ?_
                refine z_iaddN (M := M_X12_build) 172 dX12_build_172 (by omega) (by omega) ?_
                refine z_iload (M := M_X12_build) 173 dX12_build_173 rfl ?_
                refine z_iload (M := M_X12_build) 175 dX12_build_175 rfl ?_
                refine z_iload (M := M_X12_build) 177 dX12_build_177 rfl ?_
                refine z_iconst (M := M_X12_build) 179 dX12_build_179 ?_
                refine z_vV (M := M_X12_build) 180 dX12_build_180 t_X12_edge l_X12_339 (m_rr_of rfl) (rest := []) (c_X12_edgeX h (12 + x4) (6 + x7) x32 1 0 G ⟨by omega, by omega⟩ ⟨by omega, by omega⟩ ⟨by omega, by omega⟩ ⟨by omega, by omega⟩ ⟨by omega, by omega⟩ (le_e t_108_21 (by omega))) o_108 rfl rfl rfl (Nat.le_of_ble_eq_true rfl) ⟨rfl, rfl⟩ (fun h23 qx36 => ?_)
                obtain ⟨G23, S23, fx36_0, fx36_1⟩ := qx36
                have R23 := R.call S23 (by decide +kernel)
                refine z_aload_n (M := M_X12_build) 183 dX12_build_183 rfl ?_
                refine z_iload (M := M_X12_build) 184 dX12_build_184 rfl ?_
                refine z_bipush (M := M_X12_build) 186 dX12_build_186 ?_
                refine z_iload_n (M := M_X12_build) 188 dX12_build_188 rfl ?_
                refine z_iaddN (M := M_X12_build) 189 dX12_build_189 (by omega) (by omega) ?_
                refine z_iload (M := M_X12_build) 190 dX12_build_190 rfl ?_
                refine z_iload (M := M_X12_build) 192 dX12_build_192 rfl ?_
                refine z_iload (M := M_X12_build) 194 dX12_build_194 rfl ?_
                refine z_if_le_F (M := M_X12_build) 196 dX12_build_196 203 rfl (by omega) ?_
                refine z_iconst (M := M_X12_build) 199 dX12_build_199 ?_
                refine z_goto (M := M_X12_build) 200 dX12_build_200 204 rfl ?_
                refine z_vV (M := M_X12_build) 204 dX12_build_204 t_X12_edge l_X12_339 (m_rr_of rfl) (rest := []) (c_X12_edgeX h23 (6 + x7) (12 + x4) 1 (x32 + 1) 1 G23 ⟨by omega, by omega⟩ ⟨by omega, by omega⟩ ⟨by omega, by omega⟩ ⟨by omega, by omega⟩ ⟨by omega, by omega⟩ (le_e (eq_ad fx36_0 t_108_21) (by omega))) o_108 rfl rfl rfl (Nat.le_of_ble_eq_true rfl) ⟨rfl, rfl⟩ (fun h24 qx37 => ?_)
                obtain ⟨G24, S24, fx37_0, fx37_1⟩ := qx37
                have R24 := R23.call S24 (by decide +kernel)
                refine z_iincN (M := M_X12_build) 207 dX12_build_207 (ls' := [some (mR 108), some (mI a1), some (mI (l2 + 1)), some (mI x4), some (mI x7), some (mI (6 + x7)), some (mI x32), some (mI x33), some (mI x32), some (mI (x32 + 1)), some (mI 1)]) (by decide) rfl (by (unfold m_32; decide)) (by omega) (by omega) rfl ?_
                refine z_goto (M := M_X12_build) 210 dX12_build_210 7 rfl ?_
                exact z_mask [true, true, true, false, false, false, false, false, false, false, false] rfl (ih.1 (l2 + 1) ((y_108_21 + 1) + 1) h24 G24 R24 (by omega) (by omega) (by omega) (by omega) (by omega) (by omega) (eq_ad fx37_0 (eq_ad fx36_0 t_108_21)) (b_ent2 (by omega) i0 (by omega) (by omega) fx36_1 fx37_1 ((eR_of (by omega) ((R 110 _ rfl).symm.trans fx3) ((R 110 _ rfl).symm.trans fx7) ((R 122 _ rfl).symm.trans ex4) ((R 123 _ rfl).symm.trans ex8) ((R 110 _ rfl).symm.trans fx32) ((R 110 _ rfl).symm.trans fx33)).trans (eOf_yes cx5 (by omega) (by split <;> omega) (by split <;> omega) (by split <;> omega) (by split <;> (try split) <;> omega) (by split <;> omega)))) (by have r0 := R 110 (0 : Int).toNat rfl; omega) (by omega) (by omega))
              · refine z_iload (M := M_X12_build) 129 dX12_build_129 rfl ?_
                refine z_goto (M := M_X12_build) 131 dX12_build_131 153 rfl ?_
                refine z_istore (M := M_X12_build) 153 dX12_build_153 (ls' := [some (mR 108), some (mI a1), some (mI l2), some (mI x4), some (mI x7), some (mI (6 + x7)), some (mI x32), some (mI x33), some (mI x32), some (mI x32), none]) (by decide) rfl ?_
                refine z_iload (M := M_X12_build) 155 dX12_build_155 rfl ?_
                refine z_iconst (M := M_X12_build) 157 dX12_build_157 ?_
                refine z_icmp_ne_T (M := M_X12_build) 158 dX12_build_158 165 rfl (by omega) ?_
                refine z_iconst (M := M_X12_build) 165 dX12_build_165 ?_
                refine z_istore (M := M_X12_build) 166 dX12_build_166 (ls' := [some (mR 108), some (mI a1), some (mI l2), some (mI x4), some (mI x7), some (mI (6 + x7)), some (mI x32), some (mI x33), some (mI x32), some (mI x32), some (mI 1)]) (by decide) rfl ?_
                refine z_aload_n (M := M_X12_build) 168 dX12_build_168 rfl ?_
                refine z_bipush (M := M_X12_build) 169 dX12_build_169 ?_
                refine z_iload_n (M := M_X12_build) 171 dX12_build_171 rfl ?_
                refine z_iaddN (M := M_X12_build) 172 dX12_build_172 (by omega) (by omega) ?_
                refine z_iload (M := M_X12_build) 173 dX12_build_173 rfl ?_
                refine z_iload (M := M_X12_build) 175 dX12_build_175 rfl ?_
                refine z_iload (M := M_X12_build) 177 dX12_build_177 rfl ?_
                refine z_iconst (M := M_X12_build) 179 dX12_build_179 ?_
                refine z_vV (M := M_X12_build) 180 dX12_build_180 t_X12_edge l_X12_339 (m_rr_of rfl) (rest := []) (c_X12_edgeX h (12 + x4) (6 + x7) x32 1 0 G ⟨by omega, by omega⟩ ⟨by omega, by omega⟩ ⟨by omega, by omega⟩ ⟨by omega, by omega⟩ ⟨by omega, by omega⟩ (le_e t_108_21 (by omega))) o_108 rfl rfl rfl (Nat.le_of_ble_eq_true rfl) ⟨rfl, rfl⟩ (fun h25 qx38 => ?_)
                obtain ⟨G25, S25, fx38_0, fx38_1⟩ := qx38
                have R25 := R.call S25 (by decide +kernel)
                refine z_aload_n (M := M_X12_build) 183 dX12_build_183 rfl ?_
                refine z_iload (M := M_X12_build) 184 dX12_build_184 rfl ?_
                refine z_bipush (M := M_X12_build) 186 dX12_build_186 ?_
                refine z_iload_n (M := M_X12_build) 188 dX12_build_188 rfl ?_
                refine z_iaddN (M := M_X12_build) 189 dX12_build_189 (by omega) (by omega) ?_
                refine z_iload (M := M_X12_build) 190 dX12_build_190 rfl ?_
                refine z_iload (M := M_X12_build) 192 dX12_build_192 rfl ?_
                refine z_iload (M := M_X12_build) 194 dX12_build_194 rfl ?_
                refine z_if_le_T (M := M_X12_build) 196 dX12_build_196 203 rfl (by omega) ?_
                refine z_iconst (M := M_X12_build) 203 dX12_build_203 ?_
                refine z_vV (M := M_X12_build) 204 dX12_build_204 t_X12_edge l_X12_339 (m_rr_of rfl) (rest := []) (c_X12_edgeX h25 (6 + x7) (12 + x4) 1 x32 0 G25 ⟨by omega, by omega⟩ ⟨by omega, by omega⟩ ⟨by omega, by omega⟩ ⟨by omega, by omega⟩ ⟨by omega, by omega⟩ (le_e (eq_ad fx38_0 t_108_21) (by omega))) o_108 rfl rfl rfl (Nat.le_of_ble_eq_true rfl) ⟨rfl, rfl⟩ (fun h26 qx39 => ?_)
                obtain ⟨G26, S26, fx39_0, fx39_1⟩ := qx39
                have R26 := R25.call S26 (by decide +kernel)
                refine z_iincN (M := M_X12_build) 207 dX12_build_207 (ls' := [some (mR 108), some (mI a1), some (mI (l2 + 1)), some (mI x4), some (mI x7), some (mI (6 + x7)), some (mI x32), some (mI x33), some (mI x32), some (mI x32), some (mI 1)]) (by decide) rfl (by (unfold m_32; decide)) (by omega) (by omega) rfl ?_
                refine z_goto (M := M_X12_build) 210 dX12_build_210 7 rfl ?_
                exact z_mask [true, true, true, false, false, false, false, false, false, false, false] rfl (ih.1 (l2 + 1) ((y_108_21 + 1) + 1) h26 G26 R26 (by omega) (by omega) (by omega) (by omega) (by omega) (by omega) (eq_ad fx39_0 (eq_ad fx38_0 t_108_21)) (b_ent2 (by omega) i0 (by omega) (by omega) fx38_1 fx39_1 ((eR_of (by omega) ((R 110 _ rfl).symm.trans fx3) ((R 110 _ rfl).symm.trans fx7) ((R 122 _ rfl).symm.trans ex4) ((R 123 _ rfl).symm.trans ex8) ((R 110 _ rfl).symm.trans fx32) ((R 110 _ rfl).symm.trans fx33)).trans (eOf_yes cx5 (by omega) (by split <;> omega) (by split <;> omega) (by split <;> omega) (by split <;> (try split) <;> omega) (by split <;> omega)))) (by have r0 := R 110 (0 : Int).toNat rfl; omega) (by omega) (by omega))
            · refine z_iconst (M := M_X12_build) 111 dX12_build_111 ?_
              refine z_iload (M := M_X12_build) 112 dX12_build_112 rfl ?_
              refine z_imulN (M := M_X12_build) 114 dX12_build_114 (by omega) (by omega) ?_
              refine z_iconst (M := M_X12_build) 115 dX12_build_115 ?_
              refine z_isubN (M := M_X12_build) 116 dX12_build_116 (by omega) (by omega) ?_
              refine z_goto (M := M_X12_build) 117 dX12_build_117 122 rfl ?_
              refine z_istore (M := M_X12_build) 122 dX12_build_122 (ls' := [some (mR 108), some (mI a1), some (mI l2), some (mI x4), some (mI x7), some (mI (6 + x7)), some (mI x32), some (mI x33), some (mI ((2 * x32) - 1)), none, none]) (by decide) rfl ?_
              refine z_iload (M := M_X12_build) 124 dX12_build_124 rfl ?_
              refine z_if_ne_T (M := M_X12_build) 126 dX12_build_126 134 rfl (by omega) ?_
              refine z_iload (M := M_X12_build) 134 dX12_build_134 rfl ?_
              refine z_iconst (M := M_X12_build) 136 dX12_build_136 ?_
              refine z_icmp_ne_T (M := M_X12_build) 137 dX12_build_137 147 rfl (by omega) ?_
              refine z_iconst (M := M_X12_build) 147 dX12_build_147 ?_
              refine z_iload (M := M_X12_build) 148 dX12_build_148 rfl ?_
              refine z_imulN (M := M_X12_build) 150 dX12_build_150 (by omega) (by omega) ?_
              refine z_iconst (M := M_X12_build) 151 dX12_build_151 ?_
              refine z_iaddN (M := M_X12_build) 152 dX12_build_152 (by omega) (by omega) ?_
              refine z_istore (M := M_X12_build) 153 dX12_build_153 (ls' := [some (mR 108), some (mI a1), some (mI l2), some (mI x4), some (mI x7), some (mI (6 + x7)), some (mI x32), some (mI x33), some (mI ((2 * x32) - 1)), some (mI ((2 * x32) + 1)), none]) (by decide) rfl ?_
              refine z_iload (M := M_X12_build) 155 dX12_build_155 rfl ?_
              refine z_iconst (M := M_X12_build) 157 dX12_build_157 ?_
              refine z_icmp_ne_F (M := M_X12_build) 158 dX12_build_158 165 rfl (by omega) ?_
              refine z_iconst (M := M_X12_build) 161 dX12_build_161 ?_
              refine z_goto (M := M_X12_build) 162 dX12_build_162 166 rfl ?_
              refine z_istore (M := M_X12_build) 166 dX12_build_166 (ls' := [some (mR 108), some (mI a1), some (mI l2), some (mI x4), some (mI x7), some (mI (6 + x7)), some (mI x32), some (mI x33), some (mI ((2 * x32) - 1)), some (mI ((2 * x32) + 1)), some (mI 2)]) (by decide) rfl ?_
              refine z_aload_n (M := M_X12_build) 168 dX12_build_168 rfl ?_
              refine z_bipush (M := M_X12_build) 169 dX12_build_169 ?_
              refine z_iload_n (M := M_X12_build) 171 dX12_build_171 rfl ?_
              refine z_iaddN (M := M_X12_build) 172 dX12_build_172 (by omega) (by omega) ?_
              refine z_iload (M := M_X12_build) 173 dX12_build_173 rfl ?_
              refine z_iload (M := M_X12_build) 175 dX12_build_175 rfl ?_
              refine z_iload (M := M_X12_build) 177 dX12_build_177 rfl ?_
              refine z_iconst (M := M_X12_build) 179 dX12_build_179 ?_
              refine z_vV (M := M_X12_build) 180 dX12_build_180 t_X12_edge l_X12_339 (m_rr_of rfl) (rest := []) (c_X12_edgeX h (12 + x4) (6 + x7) ((2 * x32) - 1) 2 0 G ⟨by omega, by omega⟩ ⟨by omega, by omega⟩ ⟨by omega, by omega⟩ ⟨by omega, by omega⟩ ⟨by omega, by omega⟩ (le_e t_108_21 (by omega))) o_108 rfl rfl rfl (Nat.le_of_ble_eq_true rfl) ⟨rfl, rfl⟩ (fun h27 qx40 => ?_)
              obtain ⟨G27, S27, fx40_0, fx40_1⟩ := qx40
              have R27 := R.call S27 (by decide +kernel)
              refine z_aload_n (M := M_X12_build) 183 dX12_build_183 rfl ?_
              refine z_iload (M := M_X12_build) 184 dX12_build_184 rfl ?_
              refine z_bipush (M := M_X12_build) 186 dX12_build_186 ?_
              refine z_iload_n (M := M_X12_build) 188 dX12_build_188 rfl ?_
              refine z_iaddN (M := M_X12_build) 189 dX12_build_189 (by omega) (by omega) ?_
              refine z_iload (M := M_X12_build) 190 dX12_build_190 rfl ?_
              refine z_iload (M := M_X12_build) 192 dX12_build_192 rfl ?_
              refine z_iload (M := M_X12_build) 194 dX12_build_194 rfl ?_
              refine z_if_le_F (M := M_X12_build) 196 dX12_build_196 203 rfl (by omega) ?_
              refine z_iconst (M := M_X12_build) 199 dX12_build_199 ?_
              refine z_goto (M := M_X12_build) 200 dX12_build_200 204 rfl ?_
              refine z_vV (M := M_X12_build) 204 dX12_build_204 t_X12_edge l_X12_339 (m_rr_of rfl) (rest := []) (c_X12_edgeX h27 (6 + x7) (12 + x4) 2 ((2 * x32) + 1) 1 G27 ⟨by omega, by omega⟩ ⟨by omega, by omega⟩ ⟨by omega, by omega⟩ ⟨by omega, by omega⟩ ⟨by omega, by omega⟩ (le_e (eq_ad fx40_0 t_108_21) (by omega))) o_108 rfl rfl rfl (Nat.le_of_ble_eq_true rfl) ⟨rfl, rfl⟩ (fun h28 qx41 => ?_)
              obtain ⟨G28, S28, fx41_0, fx41_1⟩ := qx41
              have R28 := R27.call S28 (by decide +kernel)
              refine z_iincN (M := M_X12_build) 207 dX12_build_207 (ls' := [some (mR 108), some (mI a1), some (mI (l2 + 1)), some (mI x4), some (mI x7), some (mI (6 + x7)), some (mI x32), some (mI x33), some (mI ((2 * x32) - 1)), some (mI ((2 * x32) + 1)), some (mI 2)]) (by decide) rfl (by (unfold m_32; decide)) (by omega) (by omega) rfl ?_
              refine z_goto (M := M_X12_build) 210 dX12_build_210 7 rfl ?_
              exact z_mask [true, true, true, false, false, false, false, false, false, false, false] rfl (ih.1 (l2 + 1) ((y_108_21 + 1) + 1) h28 G28 R28 (by omega) (by omega) (by omega) (by omega) (by omega) (by omega) (eq_ad fx41_0 (eq_ad fx40_0 t_108_21)) (b_ent2 (by omega) i0 (by omega) (by omega) fx40_1 fx41_1 ((eR_of (by omega) ((R 110 _ rfl).symm.trans fx3) ((R 110 _ rfl).symm.trans fx7) ((R 122 _ rfl).symm.trans ex4) ((R 123 _ rfl).symm.trans ex8) ((R 110 _ rfl).symm.trans fx32) ((R 110 _ rfl).symm.trans fx33)).trans (eOf_yes cx5 (by omega) (by split <;> omega) (by split <;> omega) (by split <;> omega) (by split <;> (try split) <;> omega) (by split <;> omega)))) (by have r0 := R 110 (0 : Int).toNat rfl; omega) (by omega) (by omega))
    · refine z_if_eq_T (M := M_X12_build) 34 dX12_build_34 207 rfl (by omega) ?_
      refine z_iincN (M := M_X12_build) 207 dX12_build_207 (ls' := [some (mR 108), some (mI a1), some (mI (l2 + 1)), some (mI x4), none, none, none, none, none, none, none]) (by decide) rfl (by (unfold m_32; decide)) (by omega) (by omega) rfl ?_
      refine z_goto (M := M_X12_build) 210 dX12_build_210 7 rfl ?_
      exact z_mask [true, true, true, false, false, false, false, false, false, false, false] rfl (ih.1 (l2 + 1) y_108_21 h G R (by omega) (by omega) (by omega) (by omega) (by omega) (by omega) t_108_21 (b_ent0 (by omega) i0 (eR_no (by omega) ((R 110 _ rfl).symm.trans fx3) ((R 122 _ rfl).symm.trans ex4) (fun w => cx5 w.1))) (by have r0 := R 110 (0 : Int).toNat rfl; omega) (by omega) (by omega))
set_option maxHeartbeats 4000000 in
set_option maxRecDepth 100000 in
theorem s_X12_build_215 (h0 : m_H) (a1 : Int) (G0 : GI h0) (hN : NP h0) (n : Nat) (ih : q_X12_build h0 a1 n) : ∀ (l2 y_108_21 : Int) (h : m_H), GI h → FR [117, 118, 119, 120, 121] [(108, 21)] h0 h → 0 ≤ l2 → l2 ≤ 6 → 0 ≤ y_108_21 → y_108_21 ≤ 60 → (-2147483648) ≤ a1 → a1 ≤ 2147483647 → (h 108 21 = y_108_21) → (AR h (eA (h0 110) (h0 122) (h0 123) a1 (h0 110 0).toNat ++ sA (h0 110) l2.toNat)) → (l2 ≤ h0 110 (1 : Int).toNat) → (y_108_21 ≤ 48 + l2) → 2 * (6 - l2) + (16) ≤ ((n + 1 : Nat) : Int) → m_Z oF M_X12_build 215 [some (mR 108), none, some (mI l2), none, none, none, none, none, none, none, none] [] h (m_QV (P_X12_build h0 a1)) := by
  intro l2 y_108_21 h G R v0 v1 v2 v3 v4 v5 t_108_21 i0 i1 i2 hr
  refine z_iload_n (M := M_X12_build) 215 dX12_build_215 rfl ?_
  refine z_aload_n (M := M_X12_build) 216 dX12_build_216 rfl ?_
  refine z_getR (M := M_X12_build) 217 dX12_build_217 f_X12_13 o_108 rfl (g_108_3 G) ?_
  refine z_iconst (M := M_X12_build) 220 dX12_build_220 ?_
  refine z_ialdG (M := M_X12_build) 221 dX12_build_221 o_110 (by omega) (by omega) (gw_1 G) (fun x1 ex1 ax1 bx1 => ?_)
  refine z_icmp_ge (M := M_X12_build) 222 dX12_build_222 268 rfl (fun c2 => ?_) (fun c2 => ?_)
  · refine z_iconst (M := M_X12_build) 268 dX12_build_268 ?_
    refine z_istore_n (M := M_X12_build) 269 dX12_build_269 (ls' := [some (mR 108), none, some (mI 0), none, none, none, none, none, none, none, none]) (by decide) rfl ?_
    exact z_mask [true, false, true, false, false, false, false, false, false, false, false] rfl (ih.2.2 0 y_108_21 h G R (by omega) (by omega) (by omega) (by omega) (by omega) (by omega) t_108_21 (b_end2 i0 ((R 110 _ rfl).symm.trans ex1) (by omega) (by have r1 := R 110 (1 : Int).toNat rfl; omega)) (by have r1 := R 110 (1 : Int).toNat rfl; omega) (by omega))
  · refine z_aload_n (M := M_X12_build) 225 dX12_build_225 rfl ?_
    refine z_bipush (M := M_X12_build) 226 dX12_build_226 ?_
    refine z_aload_n (M := M_X12_build) 228 dX12_build_228 rfl ?_
    refine z_getR (M := M_X12_build) 229 dX12_build_229 f_X12_13 o_108 rfl (g_108_3 G) ?_
    refine z_bipush (M := M_X12_build) 232 dX12_build_232 ?_
    refine z_iconst (M := M_X12_build) 234 dX12_build_234 ?_
    refine z_iload_n (M := M_X12_build) 235 dX12_build_235 rfl ?_
    refine z_imulN (M := M_X12_build) 236 dX12_build_236 (by omega) (by omega) ?_
    refine z_iaddN (M := M_X12_build) 237 dX12_build_237 (by omega) (by omega) ?_
    refine z_ialdG (M := M_X12_build) 238 dX12_build_238 o_110 (by omega) (by omega) (gw_s G (by omega) (by omega)) (fun x3 ex3 ax3 bx3 => ?_)
    refine z_iaddN (M := M_X12_build) 239 dX12_build_239 (by omega) (by omega) ?_
    refine z_bipush (M := M_X12_build) 240 dX12_build_240 ?_
    refine z_aload_n (M := M_X12_build) 242 dX12_build_242 rfl ?_
    refine z_getR (M := M_X12_build) 243 dX12_build_243 f_X12_13 o_108 rfl (g_108_3 G) ?_
    refine z_bipush (M := M_X12_build) 246 dX12_build_246 ?_
    refine z_iconst (M := M_X12_build) 248 dX12_build_248 ?_
    refine z_iload_n (M := M_X12_build) 249 dX12_build_249 rfl ?_
    refine z_imulN (M := M_X12_build) 250 dX12_build_250 (by omega) (by omega) ?_
    refine z_iaddN (M := M_X12_build) 251 dX12_build_251 (by omega) (by omega) ?_
    refine z_iconst (M := M_X12_build) 252 dX12_build_252 ?_
    refine z_iaddN (M := M_X12_build) 253 dX12_build_253 (by omega) (by omega) ?_
    refine z_ialdG (M := M_X12_build) 254 dX12_build_254 o_110 (by omega) (by omega) (gw_s G (by omega) (by omega)) (fun x4 ex4 ax4 bx4 => ?_)
    refine z_iaddN (M := M_X12_build) 255 dX12_build_255 (by omega) (by omega) ?_
    refine z_iconst (M := M_X12_build) 256 dX12_build_256 ?_
    refine z_iconst (M := M_X12_build) 257 dX12_build_257 ?_
    refine z_iconst (M := M_X12_build) 258 dX12_build_258 ?_
    refine z_vV (M := M_X12_build) 259 dX12_build_259 t_X12_edge l_X12_339 (m_rr_of rfl) (rest := []) (c_X12_edgeX h (12 + x3) (12 + x4) 1 1 1 G ⟨by omega, by omega⟩ ⟨by omega, by omega⟩ ⟨by omega, by omega⟩ ⟨by omega, by omega⟩ ⟨by omega, by omega⟩ (le_e t_108_21 (by omega))) o_108 rfl rfl rfl (Nat.le_of_ble_eq_true rfl) ⟨rfl, rfl⟩ (fun h1 qx5 => ?_)
    obtain ⟨G1, S1, fx5_0, fx5_1⟩ := qx5
    have R1 := R.call S1 (by decide +kernel)
    refine z_iincN (M := M_X12_build) 262 dX12_build_262 (ls' := [some (mR 108), none, some (mI (l2 + 1)), none, none, none, none, none, none, none, none]) (by decide) rfl (by (unfold m_32; decide)) (by omega) (by omega) rfl ?_
    refine z_goto (M := M_X12_build) 265 dX12_build_265 215 rfl ?_
    exact z_mask [true, false, true, false, false, false, false, false, false, false, false] rfl (ih.2.1 (l2 + 1) (y_108_21 + 1) h1 G1 R1 (by omega) (by omega) (by omega) (by omega) (by omega) (by omega) (eq_ad fx5_0 t_108_21) (b_sh (by omega) i0 ((R 110 _ rfl).symm.trans ex3) ((R 110 _ rfl).symm.trans ex4) (by omega) (by omega) fx5_1) (by have r1 := R 110 (1 : Int).toNat rfl; omega) (by omega) (by omega))
set_option maxHeartbeats 4000000 in
set_option maxRecDepth 100000 in
theorem s_X12_build_270 (h0 : m_H) (a1 : Int) (G0 : GI h0) (hN : NP h0) (n : Nat) (ih : q_X12_build h0 a1 n) : ∀ (l2 y_108_21 : Int) (h : m_H), GI h → FR [117, 118, 119, 120, 121] [(108, 21)] h0 h → 0 ≤ l2 → l2 ≤ 6 → 0 ≤ y_108_21 → y_108_21 ≤ 60 → (-2147483648) ≤ a1 → a1 ≤ 2147483647 → (h 108 21 = y_108_21) → (AR h (eA (h0 110) (h0 122) (h0 123) a1 (h0 110 0).toNat ++ sA (h0 110) (h0 110 1).toNat ++ cA (h0 123) l2.toNat)) → (y_108_21 ≤ 54 + l2) → 2 * (6 - l2) + (1) ≤ ((n + 1 : Nat) : Int) → m_Z oF M_X12_build 270 [some (mR 108), none, some (mI l2), none, none, none, none, none, none, none, none] [] h (m_QV (P_X12_build h0 a1)) := by
  intro l2 y_108_21 h G R v0 v1 v2 v3 v4 v5 t_108_21 i0 i1 hr
  refine z_iload_n (M := M_X12_build) 270 dX12_build_270 rfl ?_
  refine z_bipush (M := M_X12_build) 271 dX12_build_271 ?_
  refine z_icmp_ge (M := M_X12_build) 273 dX12_build_273 304 rfl (fun c1 => ?_) (fun c1 => ?_)
  · exact z_retV (M := M_X12_build) 304 dX12_build_304 rfl ⟨G, R, by have q6 : l2 = 6 := (by omega); rw [q6] at i0; exact i0⟩
  · refine z_aload_n (M := M_X12_build) 276 dX12_build_276 rfl ?_
    refine z_getR (M := M_X12_build) 277 dX12_build_277 f_X12_58 o_108 rfl (g_108_28 G) ?_
    refine z_iload_n (M := M_X12_build) 280 dX12_build_280 rfl ?_
    refine z_ialdG (M := M_X12_build) 281 dX12_build_281 o_123 (by omega) (by omega) (g_123 G (by omega)) (fun x2 ex2 ax2 bx2 => ?_)
    refine z_iconst (M := M_X12_build) 282 dX12_build_282 ?_
    refine z_icmp_eq (M := M_X12_build) 283 dX12_build_283 298 rfl (fun c3 => ?_) (fun c3 => ?_)
    · refine z_iincN (M := M_X12_build) 298 dX12_build_298 (ls' := [some (mR 108), none, some (mI (l2 + 1)), none, none, none, none, none, none, none, none]) (by decide) rfl (by (unfold m_32; decide)) (by omega) (by omega) rfl ?_
      refine z_goto (M := M_X12_build) 301 dX12_build_301 270 rfl ?_
      exact z_mask [true, false, true, false, false, false, false, false, false, false, false] rfl (ih.2.2 (l2 + 1) y_108_21 h G R (by omega) (by omega) (by omega) (by omega) (by omega) (by omega) t_108_21 (b_cut0 (by omega) i0 ((R 123 _ rfl).symm.trans ex2) (by omega)) (by omega) (by omega))
    · refine z_aload_n (M := M_X12_build) 286 dX12_build_286 rfl ?_
      refine z_bipush (M := M_X12_build) 287 dX12_build_287 ?_
      refine z_iload_n (M := M_X12_build) 289 dX12_build_289 rfl ?_
      refine z_iaddN (M := M_X12_build) 290 dX12_build_290 (by omega) (by omega) ?_
      refine z_iload_n (M := M_X12_build) 291 dX12_build_291 rfl ?_
      refine z_iconst (M := M_X12_build) 292 dX12_build_292 ?_
      refine z_iconst (M := M_X12_build) 293 dX12_build_293 ?_
      refine z_iconst (M := M_X12_build) 294 dX12_build_294 ?_
      refine z_vV (M := M_X12_build) 295 dX12_build_295 t_X12_edge l_X12_339 (m_rr_of rfl) (rest := []) (c_X12_edgeX h (6 + l2) l2 1 1 0 G ⟨by omega, by omega⟩ ⟨by omega, by omega⟩ ⟨by omega, by omega⟩ ⟨by omega, by omega⟩ ⟨by omega, by omega⟩ (le_e t_108_21 (by omega))) o_108 rfl rfl rfl (Nat.le_of_ble_eq_true rfl) ⟨rfl, rfl⟩ (fun h1 qx4 => ?_)
      obtain ⟨G1, S1, fx4_0, fx4_1⟩ := qx4
      have R1 := R.call S1 (by decide +kernel)
      refine z_iincN (M := M_X12_build) 298 dX12_build_298 (ls' := [some (mR 108), none, some (mI (l2 + 1)), none, none, none, none, none, none, none, none]) (by decide) rfl (by (unfold m_32; decide)) (by omega) (by omega) rfl ?_
      refine z_goto (M := M_X12_build) 301 dX12_build_301 270 rfl ?_
      exact z_mask [true, false, true, false, false, false, false, false, false, false, false] rfl (ih.2.2 (l2 + 1) (y_108_21 + 1) h1 G1 R1 (by omega) (by omega) (by omega) (by omega) (by omega) (by omega) (eq_ad fx4_0 t_108_21) (b_cut1 (by omega) i0 ((R 123 _ rfl).symm.trans ex2) (by omega) fx4_1) (by omega) (by omega))
theorem a_X12_build (h0 : m_H) (a1 : Int) (G0 : GI h0) (hN : NP h0) : ∀ n, q_X12_build h0 a1 n := by
  intro n
  induction n with
  | zero => unfold q_X12_build; refine ⟨?_, ?_, ?_⟩ <;> (intros; omega)
  | succ n ih => exact ⟨s_X12_build_7 h0 a1 G0 hN n ih, s_X12_build_215 h0 a1 G0 hN n ih, s_X12_build_270 h0 a1 G0 hN n ih⟩
set_option maxHeartbeats 4000000 in
set_option maxRecDepth 100000 in
theorem c_X12_build (h0 : m_H) (a1 : Int) (G0 : GI h0) (hN : NP h0) : m_CV M_X12_build [mR 108, mI a1] h0 (P_X12_build h0 a1) := by
  refine m_CV_of ⟨by decide, rfl, by simp [m_arg, m_isL, M_X12_build], ⟨rfl, rfl⟩, rfl, rfl⟩ (ls := [some (mR 108), some (mI a1), none, none, none, none, none, none, none, none, none]) rfl ?_
  have ih := a_X12_build h0 a1 G0 hN 86
  refine z_ok (fun _ _ ok => ?_)
  have oa1 : m_32 a1 := ok 1 _ rfl
  unfold m_32 at oa1
  refine z_aload_n (M := M_X12_build) 0 dX12_build_0 rfl ?_
  refine z_iconst (M := M_X12_build) 1 dX12_build_1 ?_
  refine z_putIH (M := M_X12_build) 2 dX12_build_2 p_X12_333 o_108 rfl (u_108_21 G0 (by omega) (by omega)) ((FR.rf (cs := [117, 118, 119, 120, 121]) (ss := [(108, 21)]) (h := h0)).up rfl) (fun h1 E1 G1 R1 => ?_)
  refine z_iconst (M := M_X12_build) 5 dX12_build_5 ?_
  refine z_istore_n (M := M_X12_build) 6 dX12_build_6 (ls' := [some (mR 108), some (mI a1), some (mI 0), none, none, none, none, none, none, none, none]) (by decide) rfl ?_
  exact z_mask [true, true, true, false, false, false, false, false, false, false, false] rfl (ih.1 0 0 h1 G1 R1 (by omega) (by omega) (by omega) (by omega) (by omega) (by omega) (upE E1) (AR_nil E1) (gw_0 G0).1 (by omega) (by omega))
