abbrev P_X12_asIs (h0 : m_H) : m_H → Prop := fun h' => GI h' ∧ FR [122, 123] [] h0 h'
def q_X12_asIs (h0 : m_H) (n : Nat) : Prop := (∀ (l1 : Int) (h : m_H), GI h → FR [122, 123] [] h0 h → 0 ≤ l1 → l1 ≤ 32 → 2 * (32 - l1) + (16) ≤ (n : Int) → m_Z oF M_X12_asIs 2 [some (mR 108), some (mI l1)] [] h (m_QV (P_X12_asIs h0))) ∧ (∀ (l1 : Int) (h : m_H), GI h → FR [122, 123] [] h0 h → 0 ≤ l1 → l1 ≤ 6 → 2 * (6 - l1) + (1) ≤ (n : Int) → m_Z oF M_X12_asIs 31 [some (mR 108), some (mI l1)] [] h (m_QV (P_X12_asIs h0)))
set_option maxHeartbeats 4000000 in
set_option maxRecDepth 100000 in
theorem s_X12_asIs_2 (h0 : m_H) (G0 : GI h0) (n : Nat) (ih : q_X12_asIs h0 n) : ∀ (l1 : Int) (h : m_H), GI h → FR [122, 123] [] h0 h → 0 ≤ l1 → l1 ≤ 32 → 2 * (32 - l1) + (16) ≤ ((n + 1 : Nat) : Int) → m_Z oF M_X12_asIs 2 [some (mR 108), some (mI l1)] [] h (m_QV (P_X12_asIs h0)) := by
  intro l1 h G R v0 v1 hr
  refine z_iload_n (M := M_X12_asIs) 2 dX12_asIs_2 rfl ?_
  refine z_bipush (M := M_X12_asIs) 3 dX12_asIs_3 ?_
  refine z_icmp_ge (M := M_X12_asIs) 5 dX12_asIs_5 29 rfl (fun c1 => ?_) (fun c1 => ?_)
  · refine z_iconst (M := M_X12_asIs) 29 dX12_asIs_29 ?_
    refine z_istore_n (M := M_X12_asIs) 30 dX12_asIs_30 (ls' := [some (mR 108), some (mI 0)]) (by decide) rfl ?_
    exact z_mask [true, true] rfl (ih.2 0 h G R (by omega) (by omega) (by omega))
  · refine z_aload_n (M := M_X12_asIs) 8 dX12_asIs_8 rfl ?_
    refine z_getR (M := M_X12_asIs) 9 dX12_asIs_9 f_X12_55 o_108 rfl (g_108_27 G) ?_
    refine z_iload_n (M := M_X12_asIs) 12 dX12_asIs_12 rfl ?_
    refine z_aload_n (M := M_X12_asIs) 13 dX12_asIs_13 rfl ?_
    refine z_getR (M := M_X12_asIs) 14 dX12_asIs_14 f_X12_13 o_108 rfl (g_108_3 G) ?_
    refine z_bipush (M := M_X12_asIs) 17 dX12_asIs_17 ?_
    refine z_iload_n (M := M_X12_asIs) 19 dX12_asIs_19 rfl ?_
    refine z_iaddN (M := M_X12_asIs) 20 dX12_asIs_20 (by omega) (by omega) ?_
    refine z_ialdG (M := M_X12_asIs) 21 dX12_asIs_21 o_110 (by omega) (by omega) (gw_w G (by omega) (by omega)) (fun x2 ex2 ax2 bx2 => ?_)
    refine z_iastH (M := M_X12_asIs) 22 dX12_asIs_22 o_122 (by omega) (by omega) (u_122 G (by omega) (by omega)) (R.up rfl) (fun h1 E1 G1 R1 => ?_)
    refine z_iincN (M := M_X12_asIs) 23 dX12_asIs_23 (ls' := [some (mR 108), some (mI (l1 + 1))]) (by decide) rfl (by (unfold m_32; decide)) (by omega) (by omega) rfl ?_
    refine z_goto (M := M_X12_asIs) 26 dX12_asIs_26 2 rfl ?_
    exact z_mask [true, true] rfl (ih.1 (l1 + 1) h1 G1 R1 (by omega) (by omega) (by omega))
set_option maxHeartbeats 4000000 in
set_option maxRecDepth 100000 in
theorem s_X12_asIs_31 (h0 : m_H) (G0 : GI h0) (n : Nat) (ih : q_X12_asIs h0 n) : ∀ (l1 : Int) (h : m_H), GI h → FR [122, 123] [] h0 h → 0 ≤ l1 → l1 ≤ 6 → 2 * (6 - l1) + (1) ≤ ((n + 1 : Nat) : Int) → m_Z oF M_X12_asIs 31 [some (mR 108), some (mI l1)] [] h (m_QV (P_X12_asIs h0)) := by
  intro l1 h G R v0 v1 hr
  refine z_iload_n (M := M_X12_asIs) 31 dX12_asIs_31 rfl ?_
  refine z_bipush (M := M_X12_asIs) 32 dX12_asIs_32 ?_
  refine z_icmp_ge (M := M_X12_asIs) 34 dX12_asIs_34 58 rfl (fun c1 => ?_) (fun c1 => ?_)
  · exact z_retV (M := M_X12_asIs) 58 dX12_asIs_58 rfl ⟨G, R⟩
  · refine z_aload_n (M := M_X12_asIs) 37 dX12_asIs_37 rfl ?_
    refine z_getR (M := M_X12_asIs) 38 dX12_asIs_38 f_X12_58 o_108 rfl (g_108_28 G) ?_
    refine z_iload_n (M := M_X12_asIs) 41 dX12_asIs_41 rfl ?_
    refine z_aload_n (M := M_X12_asIs) 42 dX12_asIs_42 rfl ?_
    refine z_getR (M := M_X12_asIs) 43 dX12_asIs_43 f_X12_13 o_108 rfl (g_108_3 G) ?_
    refine z_bipush (M := M_X12_asIs) 46 dX12_asIs_46 ?_
    refine z_iload_n (M := M_X12_asIs) 48 dX12_asIs_48 rfl ?_
    refine z_iaddN (M := M_X12_asIs) 49 dX12_asIs_49 (by omega) (by omega) ?_
    refine z_ialdG (M := M_X12_asIs) 50 dX12_asIs_50 o_110 (by omega) (by omega) (gw_c G (by omega) (by omega)) (fun x2 ex2 ax2 bx2 => ?_)
    refine z_iastH (M := M_X12_asIs) 51 dX12_asIs_51 o_123 (by omega) (by omega) (u_123 G (by omega) (by omega)) (R.up rfl) (fun h1 E1 G1 R1 => ?_)
    refine z_iincN (M := M_X12_asIs) 52 dX12_asIs_52 (ls' := [some (mR 108), some (mI (l1 + 1))]) (by decide) rfl (by (unfold m_32; decide)) (by omega) (by omega) rfl ?_
    refine z_goto (M := M_X12_asIs) 55 dX12_asIs_55 31 rfl ?_
    exact z_mask [true, true] rfl (ih.2 (l1 + 1) h1 G1 R1 (by omega) (by omega) (by omega))
theorem a_X12_asIs (h0 : m_H) (G0 : GI h0) : ∀ n, q_X12_asIs h0 n := by
  intro n
  induction n with
  | zero => unfold q_X12_asIs; refine ⟨?_, ?_⟩ <;> (intros; omega)
  | succ n ih => exact ⟨s_X12_asIs_2 h0 G0 n ih, s_X12_asIs_31 h0 G0 n ih⟩
set_option maxHeartbeats 4000000 in
set_option maxRecDepth 100000 in
theorem c_X12_asIs (h0 : m_H) (G0 : GI h0) : m_CV M_X12_asIs [mR 108] h0 (P_X12_asIs h0) := by
  refine m_CV_of ⟨by decide, rfl, by simp [m_arg, m_isL, M_X12_asIs], ⟨rfl, rfl⟩, rfl, rfl⟩ (ls := [some (mR 108), none]) rfl ?_
  have ih := a_X12_asIs h0 G0 87
  refine z_iconst (M := M_X12_asIs) 0 dX12_asIs_0 ?_
  refine z_istore_n (M := M_X12_asIs) 1 dX12_asIs_1 (ls' := [some (mR 108), some (mI 0)]) (by decide) rfl ?_
  exact z_mask [true, true] rfl (ih.1 0 h0 G0 (FR.rf (cs := [122, 123]) (ss := []) (h := h0)) (by omega) (by omega) (by omega))
abbrev P_X12_counting (h0 : m_H) : Int → m_H → Prop := fun x h' => GI h' ∧ FR [] [] h0 h'
def q_X12_counting (h0 : m_H) (n : Nat) : Prop := (∀ (l1 l2 : Int) (h : m_H), GI h → FR [] [] h0 h → 0 ≤ l2 → l2 ≤ 24 → 2 * (24 - l2) + (1) ≤ (n : Int) → m_Z oF M_X12_counting 4 [some (mR 108), some (mI l1), some (mI l2)] [] h (m_QI (P_X12_counting h0)))
set_option maxHeartbeats 4000000 in
set_option maxRecDepth 100000 in
theorem s_X12_counting_4 (h0 : m_H) (G0 : GI h0) (n : Nat) (ih : q_X12_counting h0 n) : ∀ (l1 l2 : Int) (h : m_H), GI h → FR [] [] h0 h → 0 ≤ l2 → l2 ≤ 24 → 2 * (24 - l2) + (1) ≤ ((n + 1 : Nat) : Int) → m_Z oF M_X12_counting 4 [some (mR 108), some (mI l1), some (mI l2)] [] h (m_QI (P_X12_counting h0)) := by
  intro l1 l2 h G R v0 v1 hr
  refine z_ok (fun ostk _ olocs => ?_)
  have ol1 : m_32 l1 := olocs 1 _ rfl
  unfold m_32 at ol1
  refine z_iload_n (M := M_X12_counting) 4 dX12_counting_4 rfl ?_
  refine z_aload_n (M := M_X12_counting) 5 dX12_counting_5 rfl ?_
  refine z_getR (M := M_X12_counting) 6 dX12_counting_6 f_X12_13 o_108 rfl (g_108_3 G) ?_
  refine z_iconst (M := M_X12_counting) 9 dX12_counting_9 ?_
  refine z_ialdG (M := M_X12_counting) 10 dX12_counting_10 o_110 (by omega) (by omega) (gw_0 G) (fun x1 ex1 ax1 bx1 => ?_)
  refine z_icmp_ge (M := M_X12_counting) 11 dX12_counting_11 40 rfl (fun c2 => ?_) (fun c2 => ?_)
  · refine z_iload_n (M := M_X12_counting) 40 dX12_counting_40 rfl ?_
    exact z_retI (M := M_X12_counting) 41 dX12_counting_41 rfl ⟨G, R⟩
  · refine z_iload_n (M := M_X12_counting) 14 dX12_counting_14 rfl ?_
    refine z_aload_n (M := M_X12_counting) 15 dX12_counting_15 rfl ?_
    refine z_iload_n (M := M_X12_counting) 16 dX12_counting_16 rfl ?_
    refine z_iconst (M := M_X12_counting) 17 dX12_counting_17 ?_
    refine z_vI (M := M_X12_counting) 18 dX12_counting_18 t_X12_ofEntry l_X12_195 (m_rr_of rfl) (rest := [mI l1]) (c_X12_ofEntry h l2 4 G ⟨by omega, by omega⟩ ⟨by omega, by omega⟩) o_108 rfl rfl rfl (Nat.le_of_ble_eq_true rfl) ⟨rfl, rfl⟩ (fun x3 h1 qx3 => ?_)
    obtain ⟨rfl, fx3⟩ := qx3
    have gx3 := gw_e4 G (i := (80 + 5 * l2 + 4)) (e := l2) (by omega) (by omega) (by omega)
    rw [fx3] at gx3
    refine z_iconst (M := M_X12_counting) 21 dX12_counting_21 ?_
    refine z_icmp_ne (M := M_X12_counting) 22 dX12_counting_22 31 rfl (fun c4 => ?_) (fun c4 => ?_)
    · refine z_iconst (M := M_X12_counting) 31 dX12_counting_31 ?_
      refine z_ior (M := M_X12_counting) 32 dX12_counting_32 ?_
      refine z_topm (fun x5 ex5 ox5 => ?_)
      unfold m_32 at ox5
      refine z_istore_n (M := M_X12_counting) 33 dX12_counting_33 (ls' := [some (mR 108), some (mI x5), some (mI l2)]) (by decide) rfl ?_
      refine z_iincN (M := M_X12_counting) 34 dX12_counting_34 (ls' := [some (mR 108), some (mI x5), some (mI (l2 + 1))]) (by decide) rfl (by (unfold m_32; decide)) (by omega) (by omega) rfl ?_
      refine z_goto (M := M_X12_counting) 37 dX12_counting_37 4 rfl ?_
      exact z_mask [true, true, true] rfl (ih x5 (l2 + 1) h G R (by omega) (by omega) (by omega))
    · refine z_iconst (M := M_X12_counting) 25 dX12_counting_25 ?_
      refine z_iload_n (M := M_X12_counting) 26 dX12_counting_26 rfl ?_
      refine z_ishl (M := M_X12_counting) 27 dX12_counting_27 ?_
      refine z_topm (fun x6 ex6 ox6 => ?_)
      unfold m_32 at ox6
      refine z_goto (M := M_X12_counting) 28 dX12_counting_28 32 rfl ?_
      refine z_ior (M := M_X12_counting) 32 dX12_counting_32 ?_
      refine z_topm (fun x7 ex7 ox7 => ?_)
      unfold m_32 at ox7
      refine z_istore_n (M := M_X12_counting) 33 dX12_counting_33 (ls' := [some (mR 108), some (mI x7), some (mI l2)]) (by decide) rfl ?_
      refine z_iincN (M := M_X12_counting) 34 dX12_counting_34 (ls' := [some (mR 108), some (mI x7), some (mI (l2 + 1))]) (by decide) rfl (by (unfold m_32; decide)) (by omega) (by omega) rfl ?_
      refine z_goto (M := M_X12_counting) 37 dX12_counting_37 4 rfl ?_
      exact z_mask [true, true, true] rfl (ih x7 (l2 + 1) h G R (by omega) (by omega) (by omega))
theorem a_X12_counting (h0 : m_H) (G0 : GI h0) : ∀ n, q_X12_counting h0 n := by
  intro n
  induction n with
  | zero => unfold q_X12_counting; intros; omega
  | succ n ih => exact s_X12_counting_4 h0 G0 n ih
set_option maxHeartbeats 4000000 in
set_option maxRecDepth 100000 in
theorem c_X12_counting (h0 : m_H) (G0 : GI h0) : m_CI M_X12_counting [mR 108] h0 (P_X12_counting h0) := by
  refine m_CI_of ⟨by decide, rfl, by simp [m_arg, m_isL, M_X12_counting], ⟨rfl, rfl⟩, rfl, rfl⟩ (ls := [some (mR 108), none, none]) rfl ?_
  have ih := a_X12_counting h0 G0 56
  refine z_iconst (M := M_X12_counting) 0 dX12_counting_0 ?_
  refine z_istore_n (M := M_X12_counting) 1 dX12_counting_1 (ls' := [some (mR 108), some (mI 0), none]) (by decide) rfl ?_
  refine z_iconst (M := M_X12_counting) 2 dX12_counting_2 ?_
  refine z_istore_n (M := M_X12_counting) 3 dX12_counting_3 (ls' := [some (mR 108), some (mI 0), some (mI 0)]) (by decide) rfl ?_
  exact z_mask [true, true, true] rfl (ih 0 0 h0 G0 (FR.rf (cs := []) (ss := []) (h := h0)) (by omega) (by omega) (by omega))
abbrev P_X12_isLength (h0 : m_H) (a1 : Int) : Int → m_H → Prop := fun x h' => GI h' ∧ FR [] [] h0 h' ∧ 0 ≤ x ∧ x ≤ 1
set_option maxHeartbeats 4000000 in
set_option maxRecDepth 100000 in
theorem c_X12_isLength (h0 : m_H) (a1 : Int) (G0 : GI h0) : m_CI M_X12_isLength [mR 108, mI a1] h0 (P_X12_isLength h0 a1) := by
  refine m_CI_of ⟨by decide, rfl, by simp [m_arg, m_isL, M_X12_isLength], ⟨rfl, rfl⟩, rfl, rfl⟩ (ls := [some (mR 108), some (mI a1)]) rfl ?_
  refine z_ok (fun _ _ ok => ?_)
  have oa1 : m_32 a1 := ok 1 _ rfl
  unfold m_32 at oa1
  refine z_iload_n (M := M_X12_isLength) 0 dX12_isLength_0 rfl ?_
  refine z_i2l (M := M_X12_isLength) 1 dX12_isLength_1 ?_
  refine z_lconst (M := M_X12_isLength) 2 dX12_isLength_2 (v := 0) ?_
  refine z_ldc2 (M := M_X12_isLength) 3 dX12_isLength_3 k_X12_381 ?_
  refine z_sI (M := M_X12_isLength) 6 dX12_isLength_6 t_X12_in l_X12_143 (m_rr_of rfl) (rest := []) (c_X12_in h0 a1 0 15 G0) rfl rfl (Nat.le_of_ble_eq_true rfl) ⟨rfl, rfl⟩ (fun x1 h1 qx1 => ?_)
  obtain ⟨rfl, ⟨rfl, cx1⟩ | ⟨rfl, cx1⟩⟩ := qx1
  · refine z_if_eq_F (M := M_X12_isLength) 9 dX12_isLength_9 62 rfl (by omega) ?_
    refine z_iload_n (M := M_X12_isLength) 12 dX12_isLength_12 rfl ?_
    refine z_bipush (M := M_X12_isLength) 13 dX12_isLength_13 ?_
    refine z_icmp_lt (M := M_X12_isLength) 15 dX12_isLength_15 58 rfl (fun c2 => ?_) (fun c2 => ?_)
    · refine z_iconst (M := M_X12_isLength) 58 dX12_isLength_58 ?_
      refine z_goto (M := M_X12_isLength) 59 dX12_isLength_59 63 rfl ?_
      exact z_retZ (M := M_X12_isLength) 63 dX12_isLength_63 rfl (by omega) ⟨G0, (FR.rf (cs := []) (ss := []) (h := h0)), by omega, by omega⟩
    · refine z_iload_n (M := M_X12_isLength) 18 dX12_isLength_18 rfl ?_
      refine z_bipush (M := M_X12_isLength) 19 dX12_isLength_19 ?_
      refine z_icmp_gt (M := M_X12_isLength) 21 dX12_isLength_21 58 rfl (fun c3 => ?_) (fun c3 => ?_)
      · refine z_iconst (M := M_X12_isLength) 58 dX12_isLength_58 ?_
        refine z_goto (M := M_X12_isLength) 59 dX12_isLength_59 63 rfl ?_
        exact z_retZ (M := M_X12_isLength) 63 dX12_isLength_63 rfl (by omega) ⟨G0, (FR.rf (cs := []) (ss := []) (h := h0)), by omega, by omega⟩
      · refine z_aload_n (M := M_X12_isLength) 24 dX12_isLength_24 rfl ?_
        refine z_getR (M := M_X12_isLength) 25 dX12_isLength_25 f_X12_13 o_108 rfl (g_108_3 G0) ?_
        refine z_bipush (M := M_X12_isLength) 28 dX12_isLength_28 ?_
        refine z_iload_n (M := M_X12_isLength) 30 dX12_isLength_30 rfl ?_
        refine z_i2l (M := M_X12_isLength) 31 dX12_isLength_31 ?_
        refine z_ldc2 (M := M_X12_isLength) 32 dX12_isLength_32 k_X12_383 ?_
        refine z_ldc2 (M := M_X12_isLength) 35 dX12_isLength_35 k_X12_385 ?_
        refine z_sI (M := M_X12_isLength) 38 dX12_isLength_38 t_X12_in l_X12_143 (m_rr_of rfl) (rest := [mI 42, mR 110]) (c_X12_in h0 a1 6 11 G0) rfl rfl (Nat.le_of_ble_eq_true rfl) ⟨rfl, rfl⟩ (fun x4 h2 qx4 => ?_)
        obtain ⟨rfl, ⟨rfl, cx4⟩ | ⟨rfl, cx4⟩⟩ := qx4
        · refine z_if_eq_F (M := M_X12_isLength) 41 dX12_isLength_41 51 rfl (by omega) ?_
          refine z_iload_n (M := M_X12_isLength) 44 dX12_isLength_44 rfl ?_
          refine z_bipush (M := M_X12_isLength) 45 dX12_isLength_45 ?_
          refine z_isubN (M := M_X12_isLength) 47 dX12_isLength_47 (by omega) (by omega) ?_
          refine z_goto (M := M_X12_isLength) 48 dX12_isLength_48 52 rfl ?_
          refine z_iaddN (M := M_X12_isLength) 52 dX12_isLength_52 (by omega) (by omega) ?_
          refine z_ialdG (M := M_X12_isLength) 53 dX12_isLength_53 o_110 (by omega) (by omega) (gw_c G0 (by omega) (by omega)) (fun x5 ex5 ax5 bx5 => ?_)
          refine z_iconst (M := M_X12_isLength) 54 dX12_isLength_54 ?_
          refine z_icmp_eq (M := M_X12_isLength) 55 dX12_isLength_55 62 rfl (fun c6 => ?_) (fun c6 => ?_)
          · refine z_iconst (M := M_X12_isLength) 62 dX12_isLength_62 ?_
            exact z_retZ (M := M_X12_isLength) 63 dX12_isLength_63 rfl (by omega) ⟨G0, (FR.rf (cs := []) (ss := []) (h := h0)), by omega, by omega⟩
          · refine z_iconst (M := M_X12_isLength) 58 dX12_isLength_58 ?_
            refine z_goto (M := M_X12_isLength) 59 dX12_isLength_59 63 rfl ?_
            exact z_retZ (M := M_X12_isLength) 63 dX12_isLength_63 rfl (by omega) ⟨G0, (FR.rf (cs := []) (ss := []) (h := h0)), by omega, by omega⟩
        · refine z_if_eq_T (M := M_X12_isLength) 41 dX12_isLength_41 51 rfl (by omega) ?_
          refine z_iconst (M := M_X12_isLength) 51 dX12_isLength_51 ?_
          refine z_iaddN (M := M_X12_isLength) 52 dX12_isLength_52 (by omega) (by omega) ?_
          refine z_ialdG (M := M_X12_isLength) 53 dX12_isLength_53 o_110 (by omega) (by omega) (gw_c G0 (by omega) (by omega)) (fun x7 ex7 ax7 bx7 => ?_)
          refine z_iconst (M := M_X12_isLength) 54 dX12_isLength_54 ?_
          refine z_icmp_eq (M := M_X12_isLength) 55 dX12_isLength_55 62 rfl (fun c8 => ?_) (fun c8 => ?_)
          · refine z_iconst (M := M_X12_isLength) 62 dX12_isLength_62 ?_
            exact z_retZ (M := M_X12_isLength) 63 dX12_isLength_63 rfl (by omega) ⟨G0, (FR.rf (cs := []) (ss := []) (h := h0)), by omega, by omega⟩
          · refine z_iconst (M := M_X12_isLength) 58 dX12_isLength_58 ?_
            refine z_goto (M := M_X12_isLength) 59 dX12_isLength_59 63 rfl ?_
            exact z_retZ (M := M_X12_isLength) 63 dX12_isLength_63 rfl (by omega) ⟨G0, (FR.rf (cs := []) (ss := []) (h := h0)), by omega, by omega⟩
  · refine z_if_eq_T (M := M_X12_isLength) 9 dX12_isLength_9 62 rfl (by omega) ?_
    refine z_iconst (M := M_X12_isLength) 62 dX12_isLength_62 ?_
    exact z_retZ (M := M_X12_isLength) 63 dX12_isLength_63 rfl (by omega) ⟨G0, (FR.rf (cs := []) (ss := []) (h := h0)), by omega, by omega⟩
abbrev P_X12_feetOf (h0 : m_H) (a1 a2 : Int) : Int → m_H → Prop := fun x h' => GI h' ∧ FR [] [] h0 h' ∧ 0 ≤ x ∧ x ≤ 9999
set_option maxHeartbeats 4000000 in
set_option maxRecDepth 100000 in
theorem c_X12_feetOf (h0 : m_H) (a1 a2 : Int) (G0 : GI h0) (pa1 : 0 ≤ a1 ∧ a1 ≤ 11) (pa2 : 0 ≤ a2 ∧ a2 ≤ 3) : m_CI M_X12_feetOf [mR 108, mI a1, mI a2] h0 (P_X12_feetOf h0 a1 a2) := by
  refine m_CI_of ⟨by decide, rfl, by simp [m_arg, m_isL, M_X12_feetOf], ⟨rfl, rfl⟩, rfl, rfl⟩ (ls := [some (mR 108), some (mI a1), some (mI a2)]) rfl ?_
  refine z_aload_n (M := M_X12_feetOf) 0 dX12_feetOf_0 rfl ?_
  refine z_getR (M := M_X12_feetOf) 1 dX12_feetOf_1 f_X12_13 o_108 rfl (g_108_3 G0) ?_
  refine z_bipush (M := M_X12_feetOf) 4 dX12_feetOf_4 ?_
  refine z_iload_n (M := M_X12_feetOf) 6 dX12_feetOf_6 rfl ?_
  refine z_iaddN (M := M_X12_feetOf) 7 dX12_feetOf_7 (by omega) (by omega) ?_
  refine z_ialdG (M := M_X12_feetOf) 8 dX12_feetOf_8 o_110 (by omega) (by omega) (gw_l G0 (by omega) (by omega)) (fun x1 ex1 ax1 bx1 => ?_)
  refine z_aload_n (M := M_X12_feetOf) 9 dX12_feetOf_9 rfl ?_
  refine z_getR (M := M_X12_feetOf) 10 dX12_feetOf_10 f_X12_13 o_108 rfl (g_108_3 G0) ?_
  refine z_bipush (M := M_X12_feetOf) 13 dX12_feetOf_13 ?_
  refine z_iload_n (M := M_X12_feetOf) 15 dX12_feetOf_15 rfl ?_
  refine z_iaddN (M := M_X12_feetOf) 16 dX12_feetOf_16 (by omega) (by omega) ?_
  refine z_ialdG (M := M_X12_feetOf) 17 dX12_feetOf_17 o_110 (by omega) (by omega) (gw_l G0 (by omega) (by omega)) (fun x2 ex2 ax2 bx2 => ?_)
  refine z_idivN (M := M_X12_feetOf) 18 dX12_feetOf_18 (by omega) (by omega) ?_
  refine z_topBI (lo := 0) (hi := 9999) (ediv_bd (by omega) (by omega) (by omega)) (fun x3 ex3 ax3 bx3 => ?_)
  exact z_retI (M := M_X12_feetOf) 19 dX12_feetOf_19 rfl ⟨G0, (FR.rf (cs := []) (ss := []) (h := h0)), by omega, by omega⟩
abbrev P_X12_says (h0 : m_H) (a1 a2 a3 : Int) : Int → m_H → Prop := fun x h' => GI h' ∧ FR [] [(108, 0)] h0 h' ∧ (-1) ≤ x ∧ x ≤ 999900
set_option maxHeartbeats 4000000 in
set_option maxRecDepth 100000 in
theorem c_X12_says (h0 : m_H) (a1 a2 a3 : Int) (G0 : GI h0) : m_CI M_X12_says [mR 108, mI a1, mI a2, mI a3] h0 (P_X12_says h0 a1 a2 a3) := by
  refine m_CI_of ⟨by decide, rfl, by simp [m_arg, m_isL, M_X12_says], ⟨rfl, rfl⟩, rfl, rfl⟩ (ls := [some (mR 108), some (mI a1), some (mI a2), some (mI a3), none, none]) rfl ?_
  refine z_ok (fun _ _ ok => ?_)
  have oa1 : m_32 a1 := ok 1 _ rfl
  unfold m_32 at oa1
  have oa2 : m_32 a2 := ok 2 _ rfl
  unfold m_32 at oa2
  have oa3 : m_32 a3 := ok 3 _ rfl
  unfold m_32 at oa3
  refine z_aload_n (M := M_X12_says) 0 dX12_says_0 rfl ?_
  refine z_iconst (M := M_X12_says) 1 dX12_says_1 ?_
  refine z_putIH (M := M_X12_says) 2 dX12_says_2 p_X12_133 o_108 rfl (u_108_0 G0) ((FR.rf (cs := []) (ss := [(108, 0)]) (h := h0)).up rfl) (fun h1 E1 G1 R1 => ?_)
  refine z_iload_n (M := M_X12_says) 5 dX12_says_5 rfl ?_
  refine z_i2l (M := M_X12_says) 6 dX12_says_6 ?_
  refine z_lconst (M := M_X12_says) 7 dX12_says_7 (v := 0) ?_
  refine z_ldc2 (M := M_X12_says) 8 dX12_says_8 k_X12_385 ?_
  refine z_sI (M := M_X12_says) 11 dX12_says_11 t_X12_in l_X12_143 (m_rr_of rfl) (rest := []) (c_X12_in h1 a1 0 11 G1) rfl rfl (Nat.le_of_ble_eq_true rfl) ⟨rfl, rfl⟩ (fun x1 h2 qx1 => ?_)
  obtain ⟨rfl, ⟨rfl, cx1⟩ | ⟨rfl, cx1⟩⟩ := qx1
  · refine z_if_eq_F (M := M_X12_says) 14 dX12_says_14 36 rfl (by omega) ?_
    refine z_iload_n (M := M_X12_says) 17 dX12_says_17 rfl ?_
    refine z_sI (M := M_X12_says) 18 dX12_says_18 t_X12_isKeeper l_X12_169 (m_rr_of rfl) (rest := []) (c_X12_isKeeper h1 a2 G1) rfl rfl (Nat.le_of_ble_eq_true rfl) ⟨rfl, rfl⟩ (fun x2 h3 qx2 => ?_)
    obtain ⟨rfl, ⟨rfl, cx2⟩ | ⟨rfl, cx2⟩⟩ := qx2
    · refine z_if_eq_F (M := M_X12_says) 21 dX12_says_21 36 rfl (by omega) ?_
      refine z_iload_n (M := M_X12_says) 24 dX12_says_24 rfl ?_
      refine z_i2l (M := M_X12_says) 25 dX12_says_25 ?_
      refine z_lconst (M := M_X12_says) 26 dX12_says_26 (v := 0) ?_
      refine z_ldc2 (M := M_X12_says) 27 dX12_says_27 k_X12_182 ?_
      refine z_sI (M := M_X12_says) 30 dX12_says_30 t_X12_in l_X12_143 (m_rr_of rfl) (rest := []) (c_X12_in h1 a3 0 2 G1) rfl rfl (Nat.le_of_ble_eq_true rfl) ⟨rfl, rfl⟩ (fun x3 h4 qx3 => ?_)
      obtain ⟨rfl, ⟨rfl, cx3⟩ | ⟨rfl, cx3⟩⟩ := qx3
      · refine z_if_ne_T (M := M_X12_says) 33 dX12_says_33 38 rfl (by omega) ?_
        refine z_aload_n (M := M_X12_says) 38 dX12_says_38 rfl ?_
        refine z_getR (M := M_X12_says) 39 dX12_says_39 f_X12_13 o_108 rfl (g_108_3 G1) ?_
        refine z_bipush (M := M_X12_says) 42 dX12_says_42 ?_
        refine z_iload_n (M := M_X12_says) 44 dX12_says_44 rfl ?_
        refine z_iaddN (M := M_X12_says) 45 dX12_says_45 (by omega) (by omega) ?_
        refine z_ialdG (M := M_X12_says) 46 dX12_says_46 o_110 (by omega) (by omega) (gw_l G1 (by omega) (by omega)) (fun x4 ex4 ax4 bx4 => ?_)
        refine z_istore (M := M_X12_says) 47 dX12_says_47 (ls' := [some (mR 108), some (mI a1), some (mI a2), some (mI a3), some (mI x4), none]) (by decide) rfl ?_
        refine z_aload_n (M := M_X12_says) 49 dX12_says_49 rfl ?_
        refine z_getR (M := M_X12_says) 50 dX12_says_50 f_X12_13 o_108 rfl (g_108_3 G1) ?_
        refine z_bipush (M := M_X12_says) 53 dX12_says_53 ?_
        refine z_iload_n (M := M_X12_says) 55 dX12_says_55 rfl ?_
        refine z_iaddN (M := M_X12_says) 56 dX12_says_56 (by omega) (by omega) ?_
        refine z_ialdG (M := M_X12_says) 57 dX12_says_57 o_110 (by omega) (by omega) (gw_l G1 (by omega) (by omega)) (fun x5 ex5 ax5 bx5 => ?_)
        refine z_istore (M := M_X12_says) 58 dX12_says_58 (ls' := [some (mR 108), some (mI a1), some (mI a2), some (mI a3), some (mI x4), some (mI x5)]) (by decide) rfl ?_
        refine z_iload_n (M := M_X12_says) 60 dX12_says_60 rfl ?_
        refine z_if_ne (M := M_X12_says) 61 dX12_says_61 75 rfl (fun c6 => ?_) (fun c6 => ?_)
        · refine z_iload_n (M := M_X12_says) 75 dX12_says_75 rfl ?_
          refine z_iconst (M := M_X12_says) 76 dX12_says_76 ?_
          refine z_icmp_ne (M := M_X12_says) 77 dX12_says_77 88 rfl (fun c7 => ?_) (fun c7 => ?_)
          · refine z_iconst (M := M_X12_says) 88 dX12_says_88 ?_
            refine z_iload (M := M_X12_says) 89 dX12_says_89 rfl ?_
            refine z_imulN (M := M_X12_says) 91 dX12_says_91 (by omega) (by omega) ?_
            refine z_iload (M := M_X12_says) 92 dX12_says_92 rfl ?_
            refine z_iaddN (M := M_X12_says) 94 dX12_says_94 (by omega) (by omega) ?_
            refine z_iconst (M := M_X12_says) 95 dX12_says_95 ?_
            refine z_iload (M := M_X12_says) 96 dX12_says_96 rfl ?_
            refine z_imulN (M := M_X12_says) 98 dX12_says_98 (by omega) (by omega) ?_
            refine z_idivN (M := M_X12_says) 99 dX12_says_99 (by omega) (by omega) ?_
            refine z_topBI (lo := 0) (hi := 29997) (ediv_bd (by omega) (by omega) (by omega)) (fun x8 ex8 ax8 bx8 => ?_)
            exact z_retI (M := M_X12_says) 100 dX12_says_100 rfl ⟨G1, R1, by omega, by omega⟩
          · refine z_iload (M := M_X12_says) 80 dX12_says_80 rfl ?_
            refine z_iload (M := M_X12_says) 82 dX12_says_82 rfl ?_
            refine z_idivN (M := M_X12_says) 84 dX12_says_84 (by omega) (by omega) ?_
            refine z_topBI (lo := 0) (hi := 9999) (ediv_bd (by omega) (by omega) (by omega)) (fun x9 ex9 ax9 bx9 => ?_)
            refine z_goto (M := M_X12_says) 85 dX12_says_85 100 rfl ?_
            exact z_retI (M := M_X12_says) 100 dX12_says_100 rfl ⟨G1, R1, by omega, by omega⟩
        · refine z_bipush (M := M_X12_says) 64 dX12_says_64 ?_
          refine z_iload (M := M_X12_says) 66 dX12_says_66 rfl ?_
          refine z_imulN (M := M_X12_says) 68 dX12_says_68 (by omega) (by omega) ?_
          refine z_iload (M := M_X12_says) 69 dX12_says_69 rfl ?_
          refine z_idivN (M := M_X12_says) 71 dX12_says_71 (by omega) (by omega) ?_
          refine z_topBI (lo := 0) (hi := 999900) (ediv_bd (by omega) (by omega) (by omega)) (fun x10 ex10 ax10 bx10 => ?_)
          refine z_goto (M := M_X12_says) 72 dX12_says_72 100 rfl ?_
          exact z_retI (M := M_X12_says) 100 dX12_says_100 rfl ⟨G1, R1, by omega, by omega⟩
      · refine z_if_ne_F (M := M_X12_says) 33 dX12_says_33 38 rfl (by omega) ?_
        refine z_iconst (M := M_X12_says) 36 dX12_says_36 ?_
        exact z_retI (M := M_X12_says) 37 dX12_says_37 rfl ⟨G1, R1, by omega, by omega⟩
    · refine z_if_eq_T (M := M_X12_says) 21 dX12_says_21 36 rfl (by omega) ?_
      refine z_iconst (M := M_X12_says) 36 dX12_says_36 ?_
      exact z_retI (M := M_X12_says) 37 dX12_says_37 rfl ⟨G1, R1, by omega, by omega⟩
  · refine z_if_eq_T (M := M_X12_says) 14 dX12_says_14 36 rfl (by omega) ?_
    refine z_iconst (M := M_X12_says) 36 dX12_says_36 ?_
    exact z_retI (M := M_X12_says) 37 dX12_says_37 rfl ⟨G1, R1, by omega, by omega⟩
abbrev P_X12_trade (h0 : m_H) (a1 : Int) : Int → m_H → Prop := fun x h' => GI h' ∧ FR [] [(108, 0)] h0 h' ∧ (-1) ≤ x ∧ x ≤ 31
set_option maxHeartbeats 4000000 in
set_option maxRecDepth 100000 in
theorem c_X12_trade (h0 : m_H) (a1 : Int) (G0 : GI h0) : m_CI M_X12_trade [mR 108, mI a1] h0 (P_X12_trade h0 a1) := by
  refine m_CI_of ⟨by decide, rfl, by simp [m_arg, m_isL, M_X12_trade], ⟨rfl, rfl⟩, rfl, rfl⟩ (ls := [some (mR 108), some (mI a1)]) rfl ?_
  refine z_ok (fun _ _ ok => ?_)
  have oa1 : m_32 a1 := ok 1 _ rfl
  unfold m_32 at oa1
  refine z_aload_n (M := M_X12_trade) 0 dX12_trade_0 rfl ?_
  refine z_iconst (M := M_X12_trade) 1 dX12_trade_1 ?_
  refine z_putIH (M := M_X12_trade) 2 dX12_trade_2 p_X12_133 o_108 rfl (u_108_0 G0) ((FR.rf (cs := []) (ss := [(108, 0)]) (h := h0)).up rfl) (fun h1 E1 G1 R1 => ?_)
  refine z_aload_n (M := M_X12_trade) 5 dX12_trade_5 rfl ?_
  refine z_getIG (M := M_X12_trade) 6 dX12_trade_6 f_X12_512 o_108 (by decide) (g_108_60 G1) (fun x1 ex1 ax1 bx1 => ?_)
  refine z_if_eq (M := M_X12_trade) 9 dX12_trade_9 24 rfl (fun c2 => ?_) (fun c2 => ?_)
  · refine z_iconst (M := M_X12_trade) 24 dX12_trade_24 ?_
    exact z_retI (M := M_X12_trade) 25 dX12_trade_25 rfl ⟨G1, R1, by omega, by omega⟩
  · refine z_iload_n (M := M_X12_trade) 12 dX12_trade_12 rfl ?_
    refine z_i2l (M := M_X12_trade) 13 dX12_trade_13 ?_
    refine z_lconst (M := M_X12_trade) 14 dX12_trade_14 (v := 0) ?_
    refine z_ldc2 (M := M_X12_trade) 15 dX12_trade_15 k_X12_524 ?_
    refine z_sI (M := M_X12_trade) 18 dX12_trade_18 t_X12_in l_X12_143 (m_rr_of rfl) (rest := []) (c_X12_in h1 a1 0 33 G1) rfl rfl (Nat.le_of_ble_eq_true rfl) ⟨rfl, rfl⟩ (fun x3 h2 qx3 => ?_)
    obtain ⟨rfl, ⟨rfl, cx3⟩ | ⟨rfl, cx3⟩⟩ := qx3
    · refine z_if_ne_T (M := M_X12_trade) 21 dX12_trade_21 26 rfl (by omega) ?_
      refine z_iload_n (M := M_X12_trade) 26 dX12_trade_26 rfl ?_
      refine z_if_ne (M := M_X12_trade) 27 dX12_trade_27 37 rfl (fun c4 => ?_) (fun c4 => ?_)
      · refine z_iload_n (M := M_X12_trade) 37 dX12_trade_37 rfl ?_
        refine z_iconst (M := M_X12_trade) 38 dX12_trade_38 ?_
        refine z_icmp_ne (M := M_X12_trade) 39 dX12_trade_39 49 rfl (fun c5 => ?_) (fun c5 => ?_)
        · refine z_aload_n (M := M_X12_trade) 49 dX12_trade_49 rfl ?_
          refine z_getR (M := M_X12_trade) 50 dX12_trade_50 f_X12_130 o_108 rfl (g_108_59 G1) ?_
          refine z_iload_n (M := M_X12_trade) 53 dX12_trade_53 rfl ?_
          refine z_iconst (M := M_X12_trade) 54 dX12_trade_54 ?_
          refine z_isubN (M := M_X12_trade) 55 dX12_trade_55 (by omega) (by omega) ?_
          refine z_ialdG (M := M_X12_trade) 56 dX12_trade_56 o_147 (by omega) (by omega) (g_147 G1 (by omega)) (fun x6 ex6 ax6 bx6 => ?_)
          exact z_retI (M := M_X12_trade) 57 dX12_trade_57 rfl ⟨G1, R1, by omega, by omega⟩
        · refine z_aload_n (M := M_X12_trade) 42 dX12_trade_42 rfl ?_
          refine z_getIG (M := M_X12_trade) 43 dX12_trade_43 f_X12_518 o_108 (by decide) (g_108_62 G1) (fun x7 ex7 ax7 bx7 => ?_)
          refine z_goto (M := M_X12_trade) 46 dX12_trade_46 57 rfl ?_
          exact z_retI (M := M_X12_trade) 57 dX12_trade_57 rfl ⟨G1, R1, by omega, by omega⟩
      · refine z_aload_n (M := M_X12_trade) 30 dX12_trade_30 rfl ?_
        refine z_getIG (M := M_X12_trade) 31 dX12_trade_31 f_X12_515 o_108 (by decide) (g_108_61 G1) (fun x8 ex8 ax8 bx8 => ?_)
        refine z_goto (M := M_X12_trade) 34 dX12_trade_34 57 rfl ?_
        exact z_retI (M := M_X12_trade) 57 dX12_trade_57 rfl ⟨G1, R1, by omega, by omega⟩
    · refine z_if_ne_F (M := M_X12_trade) 21 dX12_trade_21 26 rfl (by omega) ?_
      refine z_iconst (M := M_X12_trade) 24 dX12_trade_24 ?_
      exact z_retI (M := M_X12_trade) 25 dX12_trade_25 rfl ⟨G1, R1, by omega, by omega⟩
abbrev P_X12_told (h0 : m_H) (a1 : Int) : Int → m_H → Prop := fun x h' => GI h' ∧ FR [] [(108, 0)] h0 h'
def q_X12_told (h0 : m_H) (a1 : Int) (n : Nat) : Prop := (∀ (l2 l3 : Int) (h : m_H), GI h → FR [] [(108, 0)] h0 h → 0 ≤ l3 → l3 ≤ 32 → 0 ≤ a1 → a1 ≤ 5 → 2 * (32 - l3) + (1) ≤ (n : Int) → m_Z oF M_X12_told 25 [some (mR 108), some (mI a1), some (mI l2), some (mI l3), none] [] h (m_QI (P_X12_told h0 a1)))
set_option maxHeartbeats 4000000 in
set_option maxRecDepth 100000 in
theorem s_X12_told_25 (h0 : m_H) (a1 : Int) (G0 : GI h0) (n : Nat) (ih : q_X12_told h0 a1 n) : ∀ (l2 l3 : Int) (h : m_H), GI h → FR [] [(108, 0)] h0 h → 0 ≤ l3 → l3 ≤ 32 → 0 ≤ a1 → a1 ≤ 5 → 2 * (32 - l3) + (1) ≤ ((n + 1 : Nat) : Int) → m_Z oF M_X12_told 25 [some (mR 108), some (mI a1), some (mI l2), some (mI l3), none] [] h (m_QI (P_X12_told h0 a1)) := by
  intro l2 l3 h G R v0 v1 v2 v3 hr
  refine z_ok (fun ostk _ olocs => ?_)
  have ol2 : m_32 l2 := olocs 2 _ rfl
  unfold m_32 at ol2
  refine z_iload_n (M := M_X12_told) 25 dX12_told_25 rfl ?_
  refine z_bipush (M := M_X12_told) 26 dX12_told_26 ?_
  refine z_icmp_ge (M := M_X12_told) 28 dX12_told_28 88 rfl (fun c1 => ?_) (fun c1 => ?_)
  · refine z_iload_n (M := M_X12_told) 88 dX12_told_88 rfl ?_
    exact z_retI (M := M_X12_told) 89 dX12_told_89 rfl ⟨G, R⟩
  · refine z_aload_n (M := M_X12_told) 31 dX12_told_31 rfl ?_
    refine z_getR (M := M_X12_told) 32 dX12_told_32 f_X12_13 o_108 rfl (g_108_3 G) ?_
    refine z_bipush (M := M_X12_told) 35 dX12_told_35 ?_
    refine z_iload_n (M := M_X12_told) 37 dX12_told_37 rfl ?_
    refine z_iaddN (M := M_X12_told) 38 dX12_told_38 (by omega) (by omega) ?_
    refine z_ialdG (M := M_X12_told) 39 dX12_told_39 o_110 (by omega) (by omega) (gw_c G (by omega) (by omega)) (fun x2 ex2 ax2 bx2 => ?_)
    refine z_iconst (M := M_X12_told) 40 dX12_told_40 ?_
    refine z_icmp_eq (M := M_X12_told) 41 dX12_told_41 64 rfl (fun c3 => ?_) (fun c3 => ?_)
    · refine z_iload_n (M := M_X12_told) 64 dX12_told_64 rfl ?_
      refine z_istore (M := M_X12_told) 65 dX12_told_65 (ls' := [some (mR 108), some (mI a1), some (mI l2), some (mI l3), some (mI a1)]) (by decide) rfl ?_
      refine z_iload_n (M := M_X12_told) 67 dX12_told_67 rfl ?_
      refine z_aload_n (M := M_X12_told) 68 dX12_told_68 rfl ?_
      refine z_iload (M := M_X12_told) 69 dX12_told_69 rfl ?_
      refine z_aload_n (M := M_X12_told) 71 dX12_told_71 rfl ?_
      refine z_getR (M := M_X12_told) 72 dX12_told_72 f_X12_130 o_108 rfl (g_108_59 G) ?_
      refine z_iload_n (M := M_X12_told) 75 dX12_told_75 rfl ?_
      refine z_ialdG (M := M_X12_told) 76 dX12_told_76 o_147 (by omega) (by omega) (g_147 G (by omega)) (fun x4 ex4 ax4 bx4 => ?_)
      refine z_vI (M := M_X12_told) 77 dX12_told_77 t_X12_feetOf l_X12_521 (m_rr_of rfl) (rest := [mI l2]) (c_X12_feetOf h a1 x4 G ⟨by omega, by omega⟩ ⟨by omega, by omega⟩) o_108 rfl rfl rfl (Nat.le_of_ble_eq_true rfl) ⟨rfl, rfl⟩ (fun x5 h1 qx5 => ?_)
      obtain ⟨G1, S1, ax5, bx5⟩ := qx5
      have R1 := R.call S1 (by decide +kernel)
      refine z_iadd (M := M_X12_told) 80 dX12_told_80 ?_
      refine z_topm (fun x6 ex6 ox6 => ?_)
      unfold m_32 at ox6
      refine z_istore_n (M := M_X12_told) 81 dX12_told_81 (ls' := [some (mR 108), some (mI a1), some (mI x6), some (mI l3), some (mI a1)]) (by decide) rfl ?_
      refine z_iincN (M := M_X12_told) 82 dX12_told_82 (ls' := [some (mR 108), some (mI a1), some (mI x6), some (mI (l3 + 1)), some (mI a1)]) (by decide) rfl (by (unfold m_32; decide)) (by omega) (by omega) rfl ?_
      refine z_goto (M := M_X12_told) 85 dX12_told_85 25 rfl ?_
      exact z_mask [true, true, true, true, false] rfl (ih x6 (l3 + 1) h1 G1 R1 (by omega) (by omega) (by omega) (by omega) (by omega))
    · refine z_iload_n (M := M_X12_told) 44 dX12_told_44 rfl ?_
      refine z_aload_n (M := M_X12_told) 45 dX12_told_45 rfl ?_
      refine z_getR (M := M_X12_told) 46 dX12_told_46 f_X12_13 o_108 rfl (g_108_3 G) ?_
      refine z_bipush (M := M_X12_told) 49 dX12_told_49 ?_
      refine z_iload_n (M := M_X12_told) 51 dX12_told_51 rfl ?_
      refine z_iaddN (M := M_X12_told) 52 dX12_told_52 (by omega) (by omega) ?_
      refine z_ialdE (M := M_X12_told) 53 dX12_told_53 o_110 (by omega) (by omega) ex2 ?_
      refine z_icmp_lt (M := M_X12_told) 54 dX12_told_54 64 rfl (fun c7 => ?_) (fun c7 => ?_)
      · refine z_iload_n (M := M_X12_told) 64 dX12_told_64 rfl ?_
        refine z_istore (M := M_X12_told) 65 dX12_told_65 (ls' := [some (mR 108), some (mI a1), some (mI l2), some (mI l3), some (mI a1)]) (by decide) rfl ?_
        refine z_iload_n (M := M_X12_told) 67 dX12_told_67 rfl ?_
        refine z_aload_n (M := M_X12_told) 68 dX12_told_68 rfl ?_
        refine z_iload (M := M_X12_told) 69 dX12_told_69 rfl ?_
        refine z_aload_n (M := M_X12_told) 71 dX12_told_71 rfl ?_
        refine z_getR (M := M_X12_told) 72 dX12_told_72 f_X12_130 o_108 rfl (g_108_59 G) ?_
        refine z_iload_n (M := M_X12_told) 75 dX12_told_75 rfl ?_
        refine z_ialdG (M := M_X12_told) 76 dX12_told_76 o_147 (by omega) (by omega) (g_147 G (by omega)) (fun x8 ex8 ax8 bx8 => ?_)
        refine z_vI (M := M_X12_told) 77 dX12_told_77 t_X12_feetOf l_X12_521 (m_rr_of rfl) (rest := [mI l2]) (c_X12_feetOf h a1 x8 G ⟨by omega, by omega⟩ ⟨by omega, by omega⟩) o_108 rfl rfl rfl (Nat.le_of_ble_eq_true rfl) ⟨rfl, rfl⟩ (fun x9 h2 qx9 => ?_)
        obtain ⟨G2, S2, ax9, bx9⟩ := qx9
        have R2 := R.call S2 (by decide +kernel)
        refine z_iadd (M := M_X12_told) 80 dX12_told_80 ?_
        refine z_topm (fun x10 ex10 ox10 => ?_)
        unfold m_32 at ox10
        refine z_istore_n (M := M_X12_told) 81 dX12_told_81 (ls' := [some (mR 108), some (mI a1), some (mI x10), some (mI l3), some (mI a1)]) (by decide) rfl ?_
        refine z_iincN (M := M_X12_told) 82 dX12_told_82 (ls' := [some (mR 108), some (mI a1), some (mI x10), some (mI (l3 + 1)), some (mI a1)]) (by decide) rfl (by (unfold m_32; decide)) (by omega) (by omega) rfl ?_
        refine z_goto (M := M_X12_told) 85 dX12_told_85 25 rfl ?_
        exact z_mask [true, true, true, true, false] rfl (ih x10 (l3 + 1) h2 G2 R2 (by omega) (by omega) (by omega) (by omega) (by omega))
      · refine z_bipush (M := M_X12_told) 57 dX12_told_57 ?_
        refine z_iload_n (M := M_X12_told) 59 dX12_told_59 rfl ?_
        refine z_iaddN (M := M_X12_told) 60 dX12_told_60 (by omega) (by omega) ?_
        refine z_goto (M := M_X12_told) 61 dX12_told_61 65 rfl ?_
        refine z_istore (M := M_X12_told) 65 dX12_told_65 (ls' := [some (mR 108), some (mI a1), some (mI l2), some (mI l3), some (mI (6 + a1))]) (by decide) rfl ?_
        refine z_iload_n (M := M_X12_told) 67 dX12_told_67 rfl ?_
        refine z_aload_n (M := M_X12_told) 68 dX12_told_68 rfl ?_
        refine z_iload (M := M_X12_told) 69 dX12_told_69 rfl ?_
        refine z_aload_n (M := M_X12_told) 71 dX12_told_71 rfl ?_
        refine z_getR (M := M_X12_told) 72 dX12_told_72 f_X12_130 o_108 rfl (g_108_59 G) ?_
        refine z_iload_n (M := M_X12_told) 75 dX12_told_75 rfl ?_
        refine z_ialdG (M := M_X12_told) 76 dX12_told_76 o_147 (by omega) (by omega) (g_147 G (by omega)) (fun x11 ex11 ax11 bx11 => ?_)
        refine z_vI (M := M_X12_told) 77 dX12_told_77 t_X12_feetOf l_X12_521 (m_rr_of rfl) (rest := [mI l2]) (c_X12_feetOf h (6 + a1) x11 G ⟨by omega, by omega⟩ ⟨by omega, by omega⟩) o_108 rfl rfl rfl (Nat.le_of_ble_eq_true rfl) ⟨rfl, rfl⟩ (fun x12 h3 qx12 => ?_)
        obtain ⟨G3, S3, ax12, bx12⟩ := qx12
        have R3 := R.call S3 (by decide +kernel)
        refine z_iadd (M := M_X12_told) 80 dX12_told_80 ?_
        refine z_topm (fun x13 ex13 ox13 => ?_)
        unfold m_32 at ox13
        refine z_istore_n (M := M_X12_told) 81 dX12_told_81 (ls' := [some (mR 108), some (mI a1), some (mI x13), some (mI l3), some (mI (6 + a1))]) (by decide) rfl ?_
        refine z_iincN (M := M_X12_told) 82 dX12_told_82 (ls' := [some (mR 108), some (mI a1), some (mI x13), some (mI (l3 + 1)), some (mI (6 + a1))]) (by decide) rfl (by (unfold m_32; decide)) (by omega) (by omega) rfl ?_
        refine z_goto (M := M_X12_told) 85 dX12_told_85 25 rfl ?_
        exact z_mask [true, true, true, true, false] rfl (ih x13 (l3 + 1) h3 G3 R3 (by omega) (by omega) (by omega) (by omega) (by omega))
theorem a_X12_told (h0 : m_H) (a1 : Int) (G0 : GI h0) : ∀ n, q_X12_told h0 a1 n := by
  intro n
  induction n with
  | zero => unfold q_X12_told; intros; omega
  | succ n ih => exact s_X12_told_25 h0 a1 G0 n ih
set_option maxHeartbeats 4000000 in
set_option maxRecDepth 100000 in
theorem c_X12_told (h0 : m_H) (a1 : Int) (G0 : GI h0) : m_CI M_X12_told [mR 108, mI a1] h0 (P_X12_told h0 a1) := by
  refine m_CI_of ⟨by decide, rfl, by simp [m_arg, m_isL, M_X12_told], ⟨rfl, rfl⟩, rfl, rfl⟩ (ls := [some (mR 108), some (mI a1), none, none, none]) rfl ?_
  have ih := a_X12_told h0 a1 G0 72
  refine z_ok (fun _ _ ok => ?_)
  have oa1 : m_32 a1 := ok 1 _ rfl
  unfold m_32 at oa1
  refine z_aload_n (M := M_X12_told) 0 dX12_told_0 rfl ?_
  refine z_iconst (M := M_X12_told) 1 dX12_told_1 ?_
  refine z_putIH (M := M_X12_told) 2 dX12_told_2 p_X12_133 o_108 rfl (u_108_0 G0) ((FR.rf (cs := []) (ss := [(108, 0)]) (h := h0)).up rfl) (fun h1 E1 G1 R1 => ?_)
  refine z_aload_n (M := M_X12_told) 5 dX12_told_5 rfl ?_
  refine z_getIG (M := M_X12_told) 6 dX12_told_6 f_X12_512 o_108 (by decide) (g_108_60 G1) (fun x1 ex1 ax1 bx1 => ?_)
  refine z_if_eq (M := M_X12_told) 9 dX12_told_9 19 rfl (fun c2 => ?_) (fun c2 => ?_)
  · refine z_iconst (M := M_X12_told) 19 dX12_told_19 ?_
    exact z_retI (M := M_X12_told) 20 dX12_told_20 rfl ⟨G1, R1⟩
  · refine z_iload_n (M := M_X12_told) 12 dX12_told_12 rfl ?_
    refine z_sI (M := M_X12_told) 13 dX12_told_13 t_X12_isThing l_X12_166 (m_rr_of rfl) (rest := []) (c_X12_isThing h1 a1 G1) rfl rfl (Nat.le_of_ble_eq_true rfl) ⟨rfl, rfl⟩ (fun x3 h2 qx3 => ?_)
    obtain ⟨rfl, ⟨rfl, cx3⟩ | ⟨rfl, cx3⟩⟩ := qx3
    · refine z_if_ne_T (M := M_X12_told) 16 dX12_told_16 21 rfl (by omega) ?_
      refine z_iconst (M := M_X12_told) 21 dX12_told_21 ?_
      refine z_istore_n (M := M_X12_told) 22 dX12_told_22 (ls' := [some (mR 108), some (mI a1), some (mI 0), none, none]) (by decide) rfl ?_
      refine z_iconst (M := M_X12_told) 23 dX12_told_23 ?_
      refine z_istore_n (M := M_X12_told) 24 dX12_told_24 (ls' := [some (mR 108), some (mI a1), some (mI 0), some (mI 0), none]) (by decide) rfl ?_
      exact z_mask [true, true, true, true, false] rfl (ih 0 0 h1 G1 R1 (by omega) (by omega) (by omega) (by omega) (by omega))
    · refine z_if_ne_F (M := M_X12_told) 16 dX12_told_16 21 rfl (by omega) ?_
      refine z_iconst (M := M_X12_told) 19 dX12_told_19 ?_
      exact z_retI (M := M_X12_told) 20 dX12_told_20 rfl ⟨G1, R1⟩
abbrev P_X12_bits (h0 : m_H) (a0 : Int) : Int → m_H → Prop := fun x h' => GI h' ∧ FR [] [] h0 h'
def q_X12_bits (h0 : m_H) (a0 : Int) (n : Nat) : Prop := (∀ (l1 l2 : Int) (h : m_H), GI h → FR [] [] h0 h → 0 ≤ l2 → l2 ≤ 24 → (-2147483648) ≤ a0 → a0 ≤ 2147483647 → 2 * (24 - l2) + (1) ≤ (n : Int) → m_Z oF M_X12_bits 4 [some (mI a0), some (mI l1), some (mI l2)] [] h (m_QI (P_X12_bits h0 a0)))
set_option maxHeartbeats 4000000 in
set_option maxRecDepth 100000 in
theorem s_X12_bits_4 (h0 : m_H) (a0 : Int) (G0 : GI h0) (n : Nat) (ih : q_X12_bits h0 a0 n) : ∀ (l1 l2 : Int) (h : m_H), GI h → FR [] [] h0 h → 0 ≤ l2 → l2 ≤ 24 → (-2147483648) ≤ a0 → a0 ≤ 2147483647 → 2 * (24 - l2) + (1) ≤ ((n + 1 : Nat) : Int) → m_Z oF M_X12_bits 4 [some (mI a0), some (mI l1), some (mI l2)] [] h (m_QI (P_X12_bits h0 a0)) := by
  intro l1 l2 h G R v0 v1 v2 v3 hr
  refine z_ok (fun ostk _ olocs => ?_)
  have ol1 : m_32 l1 := olocs 1 _ rfl
  unfold m_32 at ol1
  refine z_iload_n (M := M_X12_bits) 4 dX12_bits_4 rfl ?_
  refine z_bipush (M := M_X12_bits) 5 dX12_bits_5 ?_
  refine z_icmp_ge (M := M_X12_bits) 7 dX12_bits_7 24 rfl (fun c1 => ?_) (fun c1 => ?_)
  · refine z_iload_n (M := M_X12_bits) 24 dX12_bits_24 rfl ?_
    exact z_retI (M := M_X12_bits) 25 dX12_bits_25 rfl ⟨G, R⟩
  · refine z_iload_n (M := M_X12_bits) 10 dX12_bits_10 rfl ?_
    refine z_iload_n (M := M_X12_bits) 11 dX12_bits_11 rfl ?_
    refine z_iload_n (M := M_X12_bits) 12 dX12_bits_12 rfl ?_
    refine z_ishr (M := M_X12_bits) 13 dX12_bits_13 ?_
    refine z_topm (fun x2 ex2 ox2 => ?_)
    unfold m_32 at ox2
    refine z_iconst (M := M_X12_bits) 14 dX12_bits_14 ?_
    refine z_iand (M := M_X12_bits) 15 dX12_bits_15 ?_
    refine z_topBI (m_and_1 _) (fun x3 ex3 ax3 bx3 => ?_)
    refine z_iadd (M := M_X12_bits) 16 dX12_bits_16 ?_
    refine z_topm (fun x4 ex4 ox4 => ?_)
    unfold m_32 at ox4
    refine z_istore_n (M := M_X12_bits) 17 dX12_bits_17 (ls' := [some (mI a0), some (mI x4), some (mI l2)]) (by decide) rfl ?_
    refine z_iincN (M := M_X12_bits) 18 dX12_bits_18 (ls' := [some (mI a0), some (mI x4), some (mI (l2 + 1))]) (by decide) rfl (by (unfold m_32; decide)) (by omega) (by omega) rfl ?_
    refine z_goto (M := M_X12_bits) 21 dX12_bits_21 4 rfl ?_
    exact z_mask [true, true, true] rfl (ih x4 (l2 + 1) h G R (by omega) (by omega) (by omega) (by omega) (by omega))
theorem a_X12_bits (h0 : m_H) (a0 : Int) (G0 : GI h0) : ∀ n, q_X12_bits h0 a0 n := by
  intro n
  induction n with
  | zero => unfold q_X12_bits; intros; omega
  | succ n ih => exact s_X12_bits_4 h0 a0 G0 n ih
set_option maxHeartbeats 4000000 in
set_option maxRecDepth 100000 in
theorem c_X12_bits (h0 : m_H) (a0 : Int) (G0 : GI h0) : m_CI M_X12_bits [mI a0] h0 (P_X12_bits h0 a0) := by
  refine m_CI_of ⟨by decide, rfl, by simp [m_arg, m_isL, M_X12_bits], ⟨rfl, rfl⟩, rfl, rfl⟩ (ls := [some (mI a0), none, none]) rfl ?_
  have ih := a_X12_bits h0 a0 G0 56
  refine z_ok (fun _ _ ok => ?_)
  have oa0 : m_32 a0 := ok 0 _ rfl
  unfold m_32 at oa0
  refine z_iconst (M := M_X12_bits) 0 dX12_bits_0 ?_
  refine z_istore_n (M := M_X12_bits) 1 dX12_bits_1 (ls' := [some (mI a0), some (mI 0), none]) (by decide) rfl ?_
  refine z_iconst (M := M_X12_bits) 2 dX12_bits_2 ?_
  refine z_istore_n (M := M_X12_bits) 3 dX12_bits_3 (ls' := [some (mI a0), some (mI 0), some (mI 0)]) (by decide) rfl ?_
  exact z_mask [true, true, true] rfl (ih 0 0 h0 G0 (FR.rf (cs := []) (ss := []) (h := h0)) (by omega) (by omega) (by omega) (by omega) (by omega))
abbrev P_X12_count (h0 : m_H) (a1 : Int) : Int → m_H → Prop := fun x h' => GI h' ∧ FR [] [(108, 0)] h0 h'
def q_X12_count (h0 : m_H) (a1 : Int) (n : Nat) : Prop := (∀ (l2 l4 : Int) (h : m_H), GI h → FR [] [(108, 0)] h0 h → 0 ≤ l4 → l4 ≤ 32 → (-2147483648) ≤ a1 → a1 ≤ 2147483647 → 2 * (32 - l4) + (16) ≤ (n : Int) → m_Z oF M_X12_count 12 [some (mR 108), some (mI a1), some (mI l2), some (mI 0), some (mI l4)] [] h (m_QI (P_X12_count h0 a1))) ∧ (∀ (l2 l3 l4 : Int) (h : m_H), GI h → FR [] [(108, 0)] h0 h → 0 ≤ l4 → l4 ≤ 6 → (-2147483648) ≤ a1 → a1 ≤ 2147483647 → 2 * (6 - l4) + (1) ≤ (n : Int) → m_Z oF M_X12_count 50 [some (mR 108), some (mI a1), some (mI l2), some (mI l3), some (mI l4)] [] h (m_QI (P_X12_count h0 a1)))
set_option maxHeartbeats 4000000 in
set_option maxRecDepth 100000 in
theorem s_X12_count_12 (h0 : m_H) (a1 : Int) (G0 : GI h0) (n : Nat) (ih : q_X12_count h0 a1 n) : ∀ (l2 l4 : Int) (h : m_H), GI h → FR [] [(108, 0)] h0 h → 0 ≤ l4 → l4 ≤ 32 → (-2147483648) ≤ a1 → a1 ≤ 2147483647 → 2 * (32 - l4) + (16) ≤ ((n + 1 : Nat) : Int) → m_Z oF M_X12_count 12 [some (mR 108), some (mI a1), some (mI l2), some (mI 0), some (mI l4)] [] h (m_QI (P_X12_count h0 a1)) := by
  intro l2 l4 h G R v0 v1 v2 v3 hr
  refine z_ok (fun ostk _ olocs => ?_)
  have ol2 : m_32 l2 := olocs 2 _ rfl
  unfold m_32 at ol2
  refine z_iload (M := M_X12_count) 12 dX12_count_12 rfl ?_
  refine z_bipush (M := M_X12_count) 14 dX12_count_14 ?_
  refine z_icmp_ge (M := M_X12_count) 16 dX12_count_16 47 rfl (fun c1 => ?_) (fun c1 => ?_)
  · refine z_iconst (M := M_X12_count) 47 dX12_count_47 ?_
    refine z_istore (M := M_X12_count) 48 dX12_count_48 (ls' := [some (mR 108), some (mI a1), some (mI l2), some (mI 0), some (mI 0)]) (by decide) rfl ?_
    exact z_mask [true, true, true, true, true] rfl (ih.2 l2 0 0 h G R (by omega) (by omega) (by omega) (by omega) (by omega))
  · refine z_iload_n (M := M_X12_count) 19 dX12_count_19 rfl ?_
    refine z_aload_n (M := M_X12_count) 20 dX12_count_20 rfl ?_
    refine z_getR (M := M_X12_count) 21 dX12_count_21 f_X12_13 o_108 rfl (g_108_3 G) ?_
    refine z_bipush (M := M_X12_count) 24 dX12_count_24 ?_
    refine z_iload (M := M_X12_count) 26 dX12_count_26 rfl ?_
    refine z_iaddN (M := M_X12_count) 28 dX12_count_28 (by omega) (by omega) ?_
    refine z_ialdG (M := M_X12_count) 29 dX12_count_29 o_110 (by omega) (by omega) (gw_w G (by omega) (by omega)) (fun x2 ex2 ax2 bx2 => ?_)
    refine z_iconst (M := M_X12_count) 30 dX12_count_30 ?_
    refine z_icmp_eq (M := M_X12_count) 31 dX12_count_31 38 rfl (fun c3 => ?_) (fun c3 => ?_)
    · refine z_iconst (M := M_X12_count) 38 dX12_count_38 ?_
      refine z_iaddN (M := M_X12_count) 39 dX12_count_39 (by omega) (by omega) ?_
      refine z_istore_n (M := M_X12_count) 40 dX12_count_40 (ls' := [some (mR 108), some (mI a1), some (mI (l2 + 0)), some (mI 0), some (mI l4)]) (by decide) rfl ?_
      refine z_iincN (M := M_X12_count) 41 dX12_count_41 (ls' := [some (mR 108), some (mI a1), some (mI (l2 + 0)), some (mI 0), some (mI (l4 + 1))]) (by decide) rfl (by (unfold m_32; decide)) (by omega) (by omega) rfl ?_
      refine z_goto (M := M_X12_count) 44 dX12_count_44 12 rfl ?_
      exact z_mask [true, true, true, true, true] rfl (ih.1 (l2 + 0) (l4 + 1) h G R (by omega) (by omega) (by omega) (by omega) (by omega))
    · refine z_iconst (M := M_X12_count) 34 dX12_count_34 ?_
      refine z_goto (M := M_X12_count) 35 dX12_count_35 39 rfl ?_
      refine z_iadd (M := M_X12_count) 39 dX12_count_39 ?_
      refine z_topm (fun x4 ex4 ox4 => ?_)
      unfold m_32 at ox4
      refine z_istore_n (M := M_X12_count) 40 dX12_count_40 (ls' := [some (mR 108), some (mI a1), some (mI x4), some (mI 0), some (mI l4)]) (by decide) rfl ?_
      refine z_iincN (M := M_X12_count) 41 dX12_count_41 (ls' := [some (mR 108), some (mI a1), some (mI x4), some (mI 0), some (mI (l4 + 1))]) (by decide) rfl (by (unfold m_32; decide)) (by omega) (by omega) rfl ?_
      refine z_goto (M := M_X12_count) 44 dX12_count_44 12 rfl ?_
      exact z_mask [true, true, true, true, true] rfl (ih.1 x4 (l4 + 1) h G R (by omega) (by omega) (by omega) (by omega) (by omega))
set_option maxHeartbeats 4000000 in
set_option maxRecDepth 100000 in
theorem s_X12_count_50 (h0 : m_H) (a1 : Int) (G0 : GI h0) (n : Nat) (ih : q_X12_count h0 a1 n) : ∀ (l2 l3 l4 : Int) (h : m_H), GI h → FR [] [(108, 0)] h0 h → 0 ≤ l4 → l4 ≤ 6 → (-2147483648) ≤ a1 → a1 ≤ 2147483647 → 2 * (6 - l4) + (1) ≤ ((n + 1 : Nat) : Int) → m_Z oF M_X12_count 50 [some (mR 108), some (mI a1), some (mI l2), some (mI l3), some (mI l4)] [] h (m_QI (P_X12_count h0 a1)) := by
  intro l2 l3 l4 h G R v0 v1 v2 v3 hr
  refine z_ok (fun ostk _ olocs => ?_)
  have ol2 : m_32 l2 := olocs 2 _ rfl
  unfold m_32 at ol2
  have ol3 : m_32 l3 := olocs 3 _ rfl
  unfold m_32 at ol3
  refine z_iload (M := M_X12_count) 50 dX12_count_50 rfl ?_
  refine z_bipush (M := M_X12_count) 52 dX12_count_52 ?_
  refine z_icmp_ge (M := M_X12_count) 54 dX12_count_54 85 rfl (fun c1 => ?_) (fun c1 => ?_)
  · refine z_iload_n (M := M_X12_count) 85 dX12_count_85 rfl ?_
    by_cases c2 : a1 = 0 ∨ a1 = 1 ∨ a1 = 2 ∨ a1 = 3 ∨ a1 = 4 ∨ a1 = 5 ∨ a1 = 6 ∨ a1 = 7 ∨ a1 = 8 ∨ a1 = 9 ∨ a1 = 10
    · rcases c2 with c2_0 | c2_1 | c2_2 | c2_3 | c2_4 | c2_5 | c2_6 | c2_7 | c2_8 | c2_9 | c2_10
      · refine z_tabIn (M := M_X12_count) 86 dX12_count_86 (off := 58) 144 (by omega) (by omega) (by rw [c2_0]; rfl) rfl ?_
        refine z_aload_n (M := M_X12_count) 144 dX12_count_144 rfl ?_
        refine z_getR (M := M_X12_count) 145 dX12_count_145 f_X12_13 o_108 rfl (g_108_3 G) ?_
        refine z_iconst (M := M_X12_count) 148 dX12_count_148 ?_
        refine z_ialdG (M := M_X12_count) 149 dX12_count_149 o_110 (by omega) (by omega) (gw_0 G) (fun x3 ex3 ax3 bx3 => ?_)
        exact z_retI (M := M_X12_count) 150 dX12_count_150 rfl ⟨G, R⟩
      · refine z_tabIn (M := M_X12_count) 86 dX12_count_86 (off := 65) 151 (by omega) (by omega) (by rw [c2_1]; rfl) rfl ?_
        refine z_aload_n (M := M_X12_count) 151 dX12_count_151 rfl ?_
        refine z_vI (M := M_X12_count) 152 dX12_count_152 t_X12_counting l_X12_370 (m_rr_of rfl) (rest := []) (c_X12_counting h G) o_108 rfl rfl rfl (Nat.le_of_ble_eq_true rfl) ⟨rfl, rfl⟩ (fun x4 h1 qx4 => ?_)
        obtain ⟨G1, S1⟩ := qx4
        have R1 := R.call S1 (by decide +kernel)
        refine z_ok (fun ox4 _ _ => ?_)
        have ox4 := ox4.1; unfold m_ok m_32 at ox4
        refine z_sI (M := M_X12_count) 155 dX12_count_155 t_X12_bits l_X12_526 (m_rr_of rfl) (rest := []) (c_X12_bits h1 x4 G1) rfl rfl (Nat.le_of_ble_eq_true rfl) ⟨rfl, rfl⟩ (fun x5 h2 qx5 => ?_)
        obtain ⟨G2, S2⟩ := qx5
        have R2 := R1.call S2 (by decide +kernel)
        refine z_ok (fun ox5 _ _ => ?_)
        have ox5 := ox5.1; unfold m_ok m_32 at ox5
        exact z_retI (M := M_X12_count) 158 dX12_count_158 rfl ⟨G2, R2⟩
      · refine z_tabIn (M := M_X12_count) 86 dX12_count_86 (off := 73) 159 (by omega) (by omega) (by rw [c2_2]; rfl) rfl ?_
        refine z_aload_n (M := M_X12_count) 159 dX12_count_159 rfl ?_
        refine z_getR (M := M_X12_count) 160 dX12_count_160 f_X12_13 o_108 rfl (g_108_3 G) ?_
        refine z_iconst (M := M_X12_count) 163 dX12_count_163 ?_
        refine z_ialdG (M := M_X12_count) 164 dX12_count_164 o_110 (by omega) (by omega) (gw_1 G) (fun x6 ex6 ax6 bx6 => ?_)
        exact z_retI (M := M_X12_count) 165 dX12_count_165 rfl ⟨G, R⟩
      · refine z_tabIn (M := M_X12_count) 86 dX12_count_86 (off := 80) 166 (by omega) (by omega) (by rw [c2_3]; rfl) rfl ?_
        refine z_iload_n (M := M_X12_count) 166 dX12_count_166 rfl ?_
        exact z_retI (M := M_X12_count) 167 dX12_count_167 rfl ⟨G, R⟩
      · refine z_tabIn (M := M_X12_count) 86 dX12_count_86 (off := 82) 168 (by omega) (by omega) (by rw [c2_4]; rfl) rfl ?_
        refine z_iload_n (M := M_X12_count) 168 dX12_count_168 rfl ?_
        exact z_retI (M := M_X12_count) 169 dX12_count_169 rfl ⟨G, R⟩
      · refine z_tabIn (M := M_X12_count) 86 dX12_count_86 (off := 84) 170 (by omega) (by omega) (by rw [c2_5]; rfl) rfl ?_
        refine z_aload_n (M := M_X12_count) 170 dX12_count_170 rfl ?_
        refine z_getIG (M := M_X12_count) 171 dX12_count_171 f_X12_201 o_108 (by decide) (g_108_8 G) (fun x7 ex7 ax7 bx7 => ?_)
        exact z_retI (M := M_X12_count) 174 dX12_count_174 rfl ⟨G, R⟩
      · refine z_tabIn (M := M_X12_count) 86 dX12_count_86 (off := 89) 175 (by omega) (by omega) (by rw [c2_6]; rfl) rfl ?_
        refine z_aload_n (M := M_X12_count) 175 dX12_count_175 rfl ?_
        refine z_getR (M := M_X12_count) 176 dX12_count_176 f_X12_7 o_108 rfl (g_108_2 G) ?_
        refine z_iconst (M := M_X12_count) 179 dX12_count_179 ?_
        refine z_ialdV (M := M_X12_count) 180 dX12_count_180 o_109 (by omega) (by omega) (fun x8 ex8 => ?_)
        refine z_ok (fun ox8 _ _ => ?_)
        have ox8 := ox8.1; unfold m_ok m_32 at ox8
        exact z_retI (M := M_X12_count) 181 dX12_count_181 rfl ⟨G, R⟩
      · refine z_tabIn (M := M_X12_count) 86 dX12_count_86 (off := 96) 182 (by omega) (by omega) (by rw [c2_7]; rfl) rfl ?_
        refine z_aload_n (M := M_X12_count) 182 dX12_count_182 rfl ?_
        refine z_getR (M := M_X12_count) 183 dX12_count_183 f_X12_7 o_108 rfl (g_108_2 G) ?_
        refine z_iconst (M := M_X12_count) 186 dX12_count_186 ?_
        refine z_ialdV (M := M_X12_count) 187 dX12_count_187 o_109 (by omega) (by omega) (fun x9 ex9 => ?_)
        refine z_ok (fun ox9 _ _ => ?_)
        have ox9 := ox9.1; unfold m_ok m_32 at ox9
        exact z_retI (M := M_X12_count) 188 dX12_count_188 rfl ⟨G, R⟩
      · refine z_tabIn (M := M_X12_count) 86 dX12_count_86 (off := 103) 189 (by omega) (by omega) (by rw [c2_8]; rfl) rfl ?_
        refine z_aload_n (M := M_X12_count) 189 dX12_count_189 rfl ?_
        refine z_getR (M := M_X12_count) 190 dX12_count_190 f_X12_7 o_108 rfl (g_108_2 G) ?_
        refine z_iconst (M := M_X12_count) 193 dX12_count_193 ?_
        refine z_ialdV (M := M_X12_count) 194 dX12_count_194 o_109 (by omega) (by omega) (fun x10 ex10 => ?_)
        refine z_ok (fun ox10 _ _ => ?_)
        have ox10 := ox10.1; unfold m_ok m_32 at ox10
        exact z_retI (M := M_X12_count) 195 dX12_count_195 rfl ⟨G, R⟩
      · refine z_tabIn (M := M_X12_count) 86 dX12_count_86 (off := 110) 196 (by omega) (by omega) (by rw [c2_9]; rfl) rfl ?_
        refine z_aload_n (M := M_X12_count) 196 dX12_count_196 rfl ?_
        refine z_getR (M := M_X12_count) 197 dX12_count_197 f_X12_7 o_108 rfl (g_108_2 G) ?_
        refine z_iconst (M := M_X12_count) 200 dX12_count_200 ?_
        refine z_ialdV (M := M_X12_count) 201 dX12_count_201 o_109 (by omega) (by omega) (fun x11 ex11 => ?_)
        refine z_ok (fun ox11 _ _ => ?_)
        have ox11 := ox11.1; unfold m_ok m_32 at ox11
        exact z_retI (M := M_X12_count) 202 dX12_count_202 rfl ⟨G, R⟩
      · refine z_tabIn (M := M_X12_count) 86 dX12_count_86 (off := 117) 203 (by omega) (by omega) (by rw [c2_10]; rfl) rfl ?_
        refine z_aload_n (M := M_X12_count) 203 dX12_count_203 rfl ?_
        refine z_getR (M := M_X12_count) 204 dX12_count_204 f_X12_7 o_108 rfl (g_108_2 G) ?_
        refine z_bipush (M := M_X12_count) 207 dX12_count_207 ?_
        refine z_ialdV (M := M_X12_count) 209 dX12_count_209 o_109 (by omega) (by omega) (fun x12 ex12 => ?_)
        refine z_ok (fun ox12 _ _ => ?_)
        have ox12 := ox12.1; unfold m_ok m_32 at ox12
        exact z_retI (M := M_X12_count) 210 dX12_count_210 rfl ⟨G, R⟩
    · refine z_tabOut (M := M_X12_count) 86 dX12_count_86 211 (by omega) rfl ?_
      refine z_iconst (M := M_X12_count) 211 dX12_count_211 ?_
      exact z_retI (M := M_X12_count) 212 dX12_count_212 rfl ⟨G, R⟩
  · refine z_iload_n (M := M_X12_count) 57 dX12_count_57 rfl ?_
    refine z_aload_n (M := M_X12_count) 58 dX12_count_58 rfl ?_
    refine z_getR (M := M_X12_count) 59 dX12_count_59 f_X12_13 o_108 rfl (g_108_3 G) ?_
    refine z_bipush (M := M_X12_count) 62 dX12_count_62 ?_
    refine z_iload (M := M_X12_count) 64 dX12_count_64 rfl ?_
    refine z_iaddN (M := M_X12_count) 66 dX12_count_66 (by omega) (by omega) ?_
    refine z_ialdG (M := M_X12_count) 67 dX12_count_67 o_110 (by omega) (by omega) (gw_c G (by omega) (by omega)) (fun x13 ex13 ax13 bx13 => ?_)
    refine z_iconst (M := M_X12_count) 68 dX12_count_68 ?_
    refine z_icmp_eq (M := M_X12_count) 69 dX12_count_69 76 rfl (fun c14 => ?_) (fun c14 => ?_)
    · refine z_iconst (M := M_X12_count) 76 dX12_count_76 ?_
      refine z_iaddN (M := M_X12_count) 77 dX12_count_77 (by omega) (by omega) ?_
      refine z_istore_n (M := M_X12_count) 78 dX12_count_78 (ls' := [some (mR 108), some (mI a1), some (mI l2), some (mI (l3 + 0)), some (mI l4)]) (by decide) rfl ?_
      refine z_iincN (M := M_X12_count) 79 dX12_count_79 (ls' := [some (mR 108), some (mI a1), some (mI l2), some (mI (l3 + 0)), some (mI (l4 + 1))]) (by decide) rfl (by (unfold m_32; decide)) (by omega) (by omega) rfl ?_
      refine z_goto (M := M_X12_count) 82 dX12_count_82 50 rfl ?_
      exact z_mask [true, true, true, true, true] rfl (ih.2 l2 (l3 + 0) (l4 + 1) h G R (by omega) (by omega) (by omega) (by omega) (by omega))
    · refine z_iconst (M := M_X12_count) 72 dX12_count_72 ?_
      refine z_goto (M := M_X12_count) 73 dX12_count_73 77 rfl ?_
      refine z_iadd (M := M_X12_count) 77 dX12_count_77 ?_
      refine z_topm (fun x15 ex15 ox15 => ?_)
      unfold m_32 at ox15
      refine z_istore_n (M := M_X12_count) 78 dX12_count_78 (ls' := [some (mR 108), some (mI a1), some (mI l2), some (mI x15), some (mI l4)]) (by decide) rfl ?_
      refine z_iincN (M := M_X12_count) 79 dX12_count_79 (ls' := [some (mR 108), some (mI a1), some (mI l2), some (mI x15), some (mI (l4 + 1))]) (by decide) rfl (by (unfold m_32; decide)) (by omega) (by omega) rfl ?_
      refine z_goto (M := M_X12_count) 82 dX12_count_82 50 rfl ?_
      exact z_mask [true, true, true, true, true] rfl (ih.2 l2 x15 (l4 + 1) h G R (by omega) (by omega) (by omega) (by omega) (by omega))
theorem a_X12_count (h0 : m_H) (a1 : Int) (G0 : GI h0) : ∀ n, q_X12_count h0 a1 n := by
  intro n
  induction n with
  | zero => unfold q_X12_count; refine ⟨?_, ?_⟩ <;> (intros; omega)
  | succ n ih => exact ⟨s_X12_count_12 h0 a1 G0 n ih, s_X12_count_50 h0 a1 G0 n ih⟩
set_option maxHeartbeats 4000000 in
set_option maxRecDepth 100000 in
theorem c_X12_count (h0 : m_H) (a1 : Int) (G0 : GI h0) : m_CI M_X12_count [mR 108, mI a1] h0 (P_X12_count h0 a1) := by
  refine m_CI_of ⟨by decide, rfl, by simp [m_arg, m_isL, M_X12_count], ⟨rfl, rfl⟩, rfl, rfl⟩ (ls := [some (mR 108), some (mI a1), none, none, none]) rfl ?_
  have ih := a_X12_count h0 a1 G0 87
  refine z_ok (fun _ _ ok => ?_)
  have oa1 : m_32 a1 := ok 1 _ rfl
  unfold m_32 at oa1
  refine z_aload_n (M := M_X12_count) 0 dX12_count_0 rfl ?_
  refine z_iconst (M := M_X12_count) 1 dX12_count_1 ?_
  refine z_putIH (M := M_X12_count) 2 dX12_count_2 p_X12_133 o_108 rfl (u_108_0 G0) ((FR.rf (cs := []) (ss := [(108, 0)]) (h := h0)).up rfl) (fun h1 E1 G1 R1 => ?_)
  refine z_iconst (M := M_X12_count) 5 dX12_count_5 ?_
  refine z_istore_n (M := M_X12_count) 6 dX12_count_6 (ls' := [some (mR 108), some (mI a1), some (mI 0), none, none]) (by decide) rfl ?_
  refine z_iconst (M := M_X12_count) 7 dX12_count_7 ?_
  refine z_istore_n (M := M_X12_count) 8 dX12_count_8 (ls' := [some (mR 108), some (mI a1), some (mI 0), some (mI 0), none]) (by decide) rfl ?_
  refine z_iconst (M := M_X12_count) 9 dX12_count_9 ?_
  refine z_istore (M := M_X12_count) 10 dX12_count_10 (ls' := [some (mR 108), some (mI a1), some (mI 0), some (mI 0), some (mI 0)]) (by decide) rfl ?_
  exact z_mask [true, true, true, true, true] rfl (ih.1 0 0 h1 G1 R1 (by omega) (by omega) (by omega) (by omega) (by omega))
abbrev P_X12_isSo (h0 : m_H) (a1 : Int) : Int → m_H → Prop := fun x h' => GI h' ∧ FR [] [] h0 h' ∧ 0 ≤ x ∧ x ≤ 1
set_option maxHeartbeats 4000000 in
set_option maxRecDepth 100000 in
theorem c_X12_isSo (h0 : m_H) (a1 : Int) (G0 : GI h0) (pa1 : 0 ≤ a1 ∧ a1 ≤ 23) : m_CI M_X12_isSo [mR 108, mI a1] h0 (P_X12_isSo h0 a1) := by
  refine m_CI_of ⟨by decide, rfl, by simp [m_arg, m_isL, M_X12_isSo], ⟨rfl, rfl⟩, rfl, rfl⟩ (ls := [some (mR 108), some (mI a1), none, none, none]) rfl ?_
  refine z_aload_n (M := M_X12_isSo) 0 dX12_isSo_0 rfl ?_
  refine z_getR (M := M_X12_isSo) 1 dX12_isSo_1 f_X12_13 o_108 rfl (g_108_3 G0) ?_
  refine z_bipush (M := M_X12_isSo) 4 dX12_isSo_4 ?_
  refine z_aload_n (M := M_X12_isSo) 6 dX12_isSo_6 rfl ?_
  refine z_iload_n (M := M_X12_isSo) 7 dX12_isSo_7 rfl ?_
  refine z_vI (M := M_X12_isSo) 8 dX12_isSo_8 t_X12_lengthOf l_X12_198 (m_rr_of rfl) (rest := [mI 60, mR 110]) (c_X12_lengthOf h0 a1 G0 ⟨by omega, by omega⟩) o_108 rfl rfl rfl (Nat.le_of_ble_eq_true rfl) ⟨rfl, rfl⟩ (fun x1 h1 qx1 => ?_)
  obtain ⟨G1, S1, ax1, bx1⟩ := qx1
  have R1 := (FR.rf (cs := []) (ss := []) (h := h0)).call S1 (by decide +kernel)
  refine z_iaddN (M := M_X12_isSo) 11 dX12_isSo_11 (by omega) (by omega) ?_
  refine z_ialdG (M := M_X12_isSo) 12 dX12_isSo_12 o_110 (by omega) (by omega) (gw_l G1 (by omega) (by omega)) (fun x2 ex2 ax2 bx2 => ?_)
  refine z_istore_n (M := M_X12_isSo) 13 dX12_isSo_13 (ls' := [some (mR 108), some (mI a1), some (mI x2), none, none]) (by decide) rfl ?_
  refine z_aload_n (M := M_X12_isSo) 14 dX12_isSo_14 rfl ?_
  refine z_getR (M := M_X12_isSo) 15 dX12_isSo_15 f_X12_13 o_108 rfl (g_108_3 G1) ?_
  refine z_bipush (M := M_X12_isSo) 18 dX12_isSo_18 ?_
  refine z_aload_n (M := M_X12_isSo) 20 dX12_isSo_20 rfl ?_
  refine z_getR (M := M_X12_isSo) 21 dX12_isSo_21 f_X12_13 o_108 rfl (g_108_3 G1) ?_
  refine z_bipush (M := M_X12_isSo) 24 dX12_isSo_24 ?_
  refine z_aload_n (M := M_X12_isSo) 26 dX12_isSo_26 rfl ?_
  refine z_iload_n (M := M_X12_isSo) 27 dX12_isSo_27 rfl ?_
  refine z_iconst (M := M_X12_isSo) 28 dX12_isSo_28 ?_
  refine z_vI (M := M_X12_isSo) 29 dX12_isSo_29 t_X12_ofEntry l_X12_195 (m_rr_of rfl) (rest := [mI 10, mR 110, mI 72, mR 110]) (c_X12_ofEntry h1 a1 1 G1 ⟨by omega, by omega⟩ ⟨by omega, by omega⟩) o_108 rfl rfl rfl (Nat.le_of_ble_eq_true rfl) ⟨rfl, rfl⟩ (fun x3 h2 qx3 => ?_)
  obtain ⟨rfl, fx3⟩ := qx3
  have gx3 := gw_e1 G1 (i := (80 + 5 * a1 + 1)) (e := a1) (by omega) (by omega) (by omega)
  rw [fx3] at gx3
  refine z_iaddN (M := M_X12_isSo) 32 dX12_isSo_32 (by omega) (by omega) ?_
  refine z_ialdG (M := M_X12_isSo) 33 dX12_isSo_33 o_110 (by omega) (by omega) (gw_w G1 (by omega) (by omega)) (fun x4 ex4 ax4 bx4 => ?_)
  refine z_iaddN (M := M_X12_isSo) 34 dX12_isSo_34 (by omega) (by omega) ?_
  refine z_ialdG (M := M_X12_isSo) 35 dX12_isSo_35 o_110 (by omega) (by omega) (gw_l G1 (by omega) (by omega)) (fun x5 ex5 ax5 bx5 => ?_)
  refine z_istore_n (M := M_X12_isSo) 36 dX12_isSo_36 (ls' := [some (mR 108), some (mI a1), some (mI x2), some (mI x5), none]) (by decide) rfl ?_
  refine z_aload_n (M := M_X12_isSo) 37 dX12_isSo_37 rfl ?_
  refine z_iload_n (M := M_X12_isSo) 38 dX12_isSo_38 rfl ?_
  refine z_iconst (M := M_X12_isSo) 39 dX12_isSo_39 ?_
  refine z_vI (M := M_X12_isSo) 40 dX12_isSo_40 t_X12_ofEntry l_X12_195 (m_rr_of rfl) (rest := []) (c_X12_ofEntry h1 a1 2 G1 ⟨by omega, by omega⟩ ⟨by omega, by omega⟩) o_108 rfl rfl rfl (Nat.le_of_ble_eq_true rfl) ⟨rfl, rfl⟩ (fun x6 h3 qx6 => ?_)
  obtain ⟨rfl, fx6⟩ := qx6
  have gx6 := gw_e2 G1 (i := (80 + 5 * a1 + 2)) (e := a1) (by omega) (by omega) (by omega)
  rw [fx6] at gx6
  refine z_istore (M := M_X12_isSo) 43 dX12_isSo_43 (ls' := [some (mR 108), some (mI a1), some (mI x2), some (mI x5), some (mI x6)]) (by decide) rfl ?_
  refine z_aload_n (M := M_X12_isSo) 45 dX12_isSo_45 rfl ?_
  refine z_iload_n (M := M_X12_isSo) 46 dX12_isSo_46 rfl ?_
  refine z_iconst (M := M_X12_isSo) 47 dX12_isSo_47 ?_
  refine z_vI (M := M_X12_isSo) 48 dX12_isSo_48 t_X12_ofEntry l_X12_195 (m_rr_of rfl) (rest := []) (c_X12_ofEntry h1 a1 3 G1 ⟨by omega, by omega⟩ ⟨by omega, by omega⟩) o_108 rfl rfl rfl (Nat.le_of_ble_eq_true rfl) ⟨rfl, rfl⟩ (fun x7 h4 qx7 => ?_)
  obtain ⟨rfl, fx7⟩ := qx7
  have gx7 := gw_e3 G1 (i := (80 + 5 * a1 + 3)) (e := a1) (by omega) (by omega) (by omega)
  rw [fx7] at gx7
  by_cases c8 : x7 = 0 ∨ x7 = 1
  · rcases c8 with c8_0 | c8_1
    · refine z_lookup (M := M_X12_isSo) 51 dX12_isSo_51 (off := 25) 76 (by decide) (by rw [c8_0]; rfl) rfl ?_
      refine z_iload_n (M := M_X12_isSo) 76 dX12_isSo_76 rfl ?_
      refine z_iload (M := M_X12_isSo) 77 dX12_isSo_77 rfl ?_
      refine z_iload_n (M := M_X12_isSo) 79 dX12_isSo_79 rfl ?_
      refine z_imul (M := M_X12_isSo) 80 dX12_isSo_80 ?_
      refine z_topm (fun x9 ex9 ox9 => ?_)
      unfold m_32 at ox9
      refine z_icmp_ne (M := M_X12_isSo) 81 dX12_isSo_81 88 rfl (fun c10 => ?_) (fun c10 => ?_)
      · refine z_iconst (M := M_X12_isSo) 88 dX12_isSo_88 ?_
        exact z_retZ (M := M_X12_isSo) 89 dX12_isSo_89 rfl (by omega) ⟨G1, R1, by omega, by omega⟩
      · refine z_iconst (M := M_X12_isSo) 84 dX12_isSo_84 ?_
        refine z_goto (M := M_X12_isSo) 85 dX12_isSo_85 89 rfl ?_
        exact z_retZ (M := M_X12_isSo) 89 dX12_isSo_89 rfl (by omega) ⟨G1, R1, by omega, by omega⟩
    · refine z_lookup (M := M_X12_isSo) 51 dX12_isSo_51 (off := 39) 90 (by decide) (by rw [c8_1]; rfl) rfl ?_
      refine z_iload_n (M := M_X12_isSo) 90 dX12_isSo_90 rfl ?_
      refine z_iload (M := M_X12_isSo) 91 dX12_isSo_91 rfl ?_
      refine z_iload_n (M := M_X12_isSo) 93 dX12_isSo_93 rfl ?_
      refine z_imul (M := M_X12_isSo) 94 dX12_isSo_94 ?_
      refine z_topm (fun x11 ex11 ox11 => ?_)
      unfold m_32 at ox11
      refine z_icmp_lt (M := M_X12_isSo) 95 dX12_isSo_95 112 rfl (fun c12 => ?_) (fun c12 => ?_)
      · refine z_iconst (M := M_X12_isSo) 112 dX12_isSo_112 ?_
        exact z_retZ (M := M_X12_isSo) 113 dX12_isSo_113 rfl (by omega) ⟨G1, R1, by omega, by omega⟩
      · refine z_iload_n (M := M_X12_isSo) 98 dX12_isSo_98 rfl ?_
        refine z_iload (M := M_X12_isSo) 99 dX12_isSo_99 rfl ?_
        refine z_iconst (M := M_X12_isSo) 101 dX12_isSo_101 ?_
        refine z_iaddN (M := M_X12_isSo) 102 dX12_isSo_102 (by omega) (by omega) ?_
        refine z_iload_n (M := M_X12_isSo) 103 dX12_isSo_103 rfl ?_
        refine z_imul (M := M_X12_isSo) 104 dX12_isSo_104 ?_
        refine z_topm (fun x13 ex13 ox13 => ?_)
        unfold m_32 at ox13
        refine z_icmp_ge (M := M_X12_isSo) 105 dX12_isSo_105 112 rfl (fun c14 => ?_) (fun c14 => ?_)
        · refine z_iconst (M := M_X12_isSo) 112 dX12_isSo_112 ?_
          exact z_retZ (M := M_X12_isSo) 113 dX12_isSo_113 rfl (by omega) ⟨G1, R1, by omega, by omega⟩
        · refine z_iconst (M := M_X12_isSo) 108 dX12_isSo_108 ?_
          refine z_goto (M := M_X12_isSo) 109 dX12_isSo_109 113 rfl ?_
          exact z_retZ (M := M_X12_isSo) 113 dX12_isSo_113 rfl (by omega) ⟨G1, R1, by omega, by omega⟩
  · refine z_lookup (M := M_X12_isSo) 51 dX12_isSo_51 (off := 63) 114 (by decide) (by simp only [Op.lookupswitch.offset]; split <;> (try omega) <;> (split <;> omega)) rfl ?_
    refine z_iconst (M := M_X12_isSo) 114 dX12_isSo_114 ?_
    refine z_iload_n (M := M_X12_isSo) 115 dX12_isSo_115 rfl ?_
    refine z_imulN (M := M_X12_isSo) 116 dX12_isSo_116 (by omega) (by omega) ?_
    refine z_iconst (M := M_X12_isSo) 117 dX12_isSo_117 ?_
    refine z_iload (M := M_X12_isSo) 118 dX12_isSo_118 rfl ?_
    refine z_imulN (M := M_X12_isSo) 120 dX12_isSo_120 (by omega) (by omega) ?_
    refine z_iconst (M := M_X12_isSo) 121 dX12_isSo_121 ?_
    refine z_isubN (M := M_X12_isSo) 122 dX12_isSo_122 (by omega) (by omega) ?_
    refine z_iload_n (M := M_X12_isSo) 123 dX12_isSo_123 rfl ?_
    refine z_imul (M := M_X12_isSo) 124 dX12_isSo_124 ?_
    refine z_topm (fun x15 ex15 ox15 => ?_)
    unfold m_32 at ox15
    refine z_icmp_lt (M := M_X12_isSo) 125 dX12_isSo_125 146 rfl (fun c16 => ?_) (fun c16 => ?_)
    · refine z_iconst (M := M_X12_isSo) 146 dX12_isSo_146 ?_
      exact z_retZ (M := M_X12_isSo) 147 dX12_isSo_147 rfl (by omega) ⟨G1, R1, by omega, by omega⟩
    · refine z_iconst (M := M_X12_isSo) 128 dX12_isSo_128 ?_
      refine z_iload_n (M := M_X12_isSo) 129 dX12_isSo_129 rfl ?_
      refine z_imulN (M := M_X12_isSo) 130 dX12_isSo_130 (by omega) (by omega) ?_
      refine z_iconst (M := M_X12_isSo) 131 dX12_isSo_131 ?_
      refine z_iload (M := M_X12_isSo) 132 dX12_isSo_132 rfl ?_
      refine z_imulN (M := M_X12_isSo) 134 dX12_isSo_134 (by omega) (by omega) ?_
      refine z_iconst (M := M_X12_isSo) 135 dX12_isSo_135 ?_
      refine z_iaddN (M := M_X12_isSo) 136 dX12_isSo_136 (by omega) (by omega) ?_
      refine z_iload_n (M := M_X12_isSo) 137 dX12_isSo_137 rfl ?_
      refine z_imul (M := M_X12_isSo) 138 dX12_isSo_138 ?_
      refine z_topm (fun x17 ex17 ox17 => ?_)
      unfold m_32 at ox17
      refine z_icmp_ge (M := M_X12_isSo) 139 dX12_isSo_139 146 rfl (fun c18 => ?_) (fun c18 => ?_)
      · refine z_iconst (M := M_X12_isSo) 146 dX12_isSo_146 ?_
        exact z_retZ (M := M_X12_isSo) 147 dX12_isSo_147 rfl (by omega) ⟨G1, R1, by omega, by omega⟩
      · refine z_iconst (M := M_X12_isSo) 142 dX12_isSo_142 ?_
        refine z_goto (M := M_X12_isSo) 143 dX12_isSo_143 147 rfl ?_
        exact z_retZ (M := M_X12_isSo) 147 dX12_isSo_147 rfl (by omega) ⟨G1, R1, by omega, by omega⟩
abbrev P_X12_judge (h0 : m_H) (a1 : Int) : Int → m_H → Prop := fun x h' => GI h' ∧ FR [] [(108, 0)] h0 h'
def q_X12_judge (h0 : m_H) (a1 : Int) (n : Nat) : Prop := (∀ (l2 l3 l4 : Int) (h : m_H), GI h → FR [] [(108, 0)] h0 h → (-1) ≤ l3 → l3 ≤ 23 → (-1) ≤ l4 → l4 ≤ 23 → 0 ≤ a1 → a1 ≤ 2 → 2 * (l4 - (-1)) + (31) ≤ (n : Int) → m_Z oF M_X12_judge 33 [some (mR 108), some (mI a1), some (mI l2), some (mI l3), some (mI l4), none] [] h (m_QI (P_X12_judge h0 a1))) ∧ (∀ (l4 l5 : Int) (h : m_H), GI h → FR [] [(108, 0)] h0 h → 0 ≤ l4 → l4 ≤ 1 → 0 ≤ l5 → l5 ≤ 6 → 2 ≤ a1 → a1 ≤ 2 → 2 * (6 - l5) + (16) ≤ (n : Int) → m_Z oF M_X12_judge 118 [some (mR 108), none, none, none, some (mI l4), some (mI l5)] [] h (m_QI (P_X12_judge h0 a1))) ∧ (∀ (l4 l5 : Int) (h : m_H), GI h → FR [] [(108, 0)] h0 h → 0 ≤ l4 → l4 ≤ 1 → 0 ≤ l5 → l5 ≤ 6 → 2 ≤ a1 → a1 ≤ 2 → 2 * (6 - l5) + (1) ≤ (n : Int) → m_Z oF M_X12_judge 195 [some (mR 108), none, none, none, some (mI l4), some (mI l5)] [] h (m_QI (P_X12_judge h0 a1)))
set_option maxHeartbeats 4000000 in
set_option maxRecDepth 100000 in
theorem s_X12_judge_33 (h0 : m_H) (a1 : Int) (G0 : GI h0) (n : Nat) (ih : q_X12_judge h0 a1 n) : ∀ (l2 l3 l4 : Int) (h : m_H), GI h → FR [] [(108, 0)] h0 h → (-1) ≤ l3 → l3 ≤ 23 → (-1) ≤ l4 → l4 ≤ 23 → 0 ≤ a1 → a1 ≤ 2 → 2 * (l4 - (-1)) + (31) ≤ ((n + 1 : Nat) : Int) → m_Z oF M_X12_judge 33 [some (mR 108), some (mI a1), some (mI l2), some (mI l3), some (mI l4), none] [] h (m_QI (P_X12_judge h0 a1)) := by
  intro l2 l3 l4 h G R v0 v1 v2 v3 v4 v5 hr
  refine z_ok (fun ostk _ olocs => ?_)
  have ol2 : m_32 l2 := olocs 2 _ rfl
  unfold m_32 at ol2
  refine z_iload (M := M_X12_judge) 33 dX12_judge_33 rfl ?_
  refine z_if_lt (M := M_X12_judge) 35 dX12_judge_35 89 rfl (fun c1 => ?_) (fun c1 => ?_)
  · refine z_iload_n (M := M_X12_judge) 89 dX12_judge_89 rfl ?_
    refine z_iconst (M := M_X12_judge) 90 dX12_judge_90 ?_
    refine z_icmp_ge (M := M_X12_judge) 91 dX12_judge_91 104 rfl (fun c2 => ?_) (fun c2 => ?_)
    · refine z_iload_n (M := M_X12_judge) 104 dX12_judge_104 rfl ?_
      refine z_if_ne (M := M_X12_judge) 105 dX12_judge_105 112 rfl (fun c3 => ?_) (fun c3 => ?_)
      · refine z_iconst (M := M_X12_judge) 112 dX12_judge_112 ?_
        refine z_istore (M := M_X12_judge) 113 dX12_judge_113 (ls' := [some (mR 108), some (mI a1), some (mI l2), some (mI l3), some (mI 0), none]) (by decide) rfl ?_
        refine z_iconst (M := M_X12_judge) 115 dX12_judge_115 ?_
        refine z_istore (M := M_X12_judge) 116 dX12_judge_116 (ls' := [some (mR 108), some (mI a1), some (mI l2), some (mI l3), some (mI 0), some (mI 0)]) (by decide) rfl ?_
        exact z_mask [true, false, false, false, true, true] rfl (ih.2.1 0 0 h G R (by omega) (by omega) (by omega) (by omega) (by omega) (by omega) (by omega))
      · refine z_iconst (M := M_X12_judge) 108 dX12_judge_108 ?_
        refine z_goto (M := M_X12_judge) 109 dX12_judge_109 113 rfl ?_
        refine z_istore (M := M_X12_judge) 113 dX12_judge_113 (ls' := [some (mR 108), some (mI a1), some (mI l2), some (mI l3), some (mI 1), none]) (by decide) rfl ?_
        refine z_iconst (M := M_X12_judge) 115 dX12_judge_115 ?_
        refine z_istore (M := M_X12_judge) 116 dX12_judge_116 (ls' := [some (mR 108), some (mI a1), some (mI l2), some (mI l3), some (mI 1), some (mI 0)]) (by decide) rfl ?_
        exact z_mask [true, false, false, false, true, true] rfl (ih.2.1 1 0 h G R (by omega) (by omega) (by omega) (by omega) (by omega) (by omega) (by omega))
    · refine z_iload_n (M := M_X12_judge) 94 dX12_judge_94 rfl ?_
      refine z_if_ne (M := M_X12_judge) 95 dX12_judge_95 102 rfl (fun c4 => ?_) (fun c4 => ?_)
      · refine z_iload_n (M := M_X12_judge) 102 dX12_judge_102 rfl ?_
        exact z_retI (M := M_X12_judge) 103 dX12_judge_103 rfl ⟨G, R⟩
      · refine z_iload_n (M := M_X12_judge) 98 dX12_judge_98 rfl ?_
        refine z_goto (M := M_X12_judge) 99 dX12_judge_99 103 rfl ?_
        exact z_retI (M := M_X12_judge) 103 dX12_judge_103 rfl ⟨G, R⟩
  · refine z_aload_n (M := M_X12_judge) 38 dX12_judge_38 rfl ?_
    refine z_iload (M := M_X12_judge) 39 dX12_judge_39 rfl ?_
    refine z_iconst (M := M_X12_judge) 41 dX12_judge_41 ?_
    refine z_vI (M := M_X12_judge) 42 dX12_judge_42 t_X12_ofEntry l_X12_195 (m_rr_of rfl) (rest := []) (c_X12_ofEntry h l4 4 G ⟨by omega, by omega⟩ ⟨by omega, by omega⟩) o_108 rfl rfl rfl (Nat.le_of_ble_eq_true rfl) ⟨rfl, rfl⟩ (fun x5 h1 qx5 => ?_)
    obtain ⟨rfl, fx5⟩ := qx5
    have gx5 := gw_e4 G (i := (80 + 5 * l4 + 4)) (e := l4) (by omega) (by omega) (by omega)
    rw [fx5] at gx5
    refine z_iconst (M := M_X12_judge) 45 dX12_judge_45 ?_
    refine z_icmp_ne (M := M_X12_judge) 46 dX12_judge_46 83 rfl (fun c6 => ?_) (fun c6 => ?_)
    · refine z_iincN (M := M_X12_judge) 83 dX12_judge_83 (ls' := [some (mR 108), some (mI a1), some (mI l2), some (mI l3), some (mI (l4 + (-1))), none]) (by decide) rfl (by (unfold m_32; decide)) (by omega) (by omega) rfl ?_
      refine z_goto (M := M_X12_judge) 86 dX12_judge_86 33 rfl ?_
      exact z_mask [true, true, true, true, true, false] rfl (ih.1 l2 l3 (l4 + (-1)) h G R (by omega) (by omega) (by omega) (by omega) (by omega) (by omega) (by omega))
    · refine z_aload_n (M := M_X12_judge) 49 dX12_judge_49 rfl ?_
      refine z_getR (M := M_X12_judge) 50 dX12_judge_50 f_X12_13 o_108 rfl (g_108_3 G) ?_
      refine z_bipush (M := M_X12_judge) 53 dX12_judge_53 ?_
      refine z_aload_n (M := M_X12_judge) 55 dX12_judge_55 rfl ?_
      refine z_iload (M := M_X12_judge) 56 dX12_judge_56 rfl ?_
      refine z_iconst (M := M_X12_judge) 58 dX12_judge_58 ?_
      refine z_vI (M := M_X12_judge) 59 dX12_judge_59 t_X12_ofEntry l_X12_195 (m_rr_of rfl) (rest := [mI 10, mR 110]) (c_X12_ofEntry h l4 1 G ⟨by omega, by omega⟩ ⟨by omega, by omega⟩) o_108 rfl rfl rfl (Nat.le_of_ble_eq_true rfl) ⟨rfl, rfl⟩ (fun x7 h2 qx7 => ?_)
      obtain ⟨rfl, fx7⟩ := qx7
      have gx7 := gw_e1 G (i := (80 + 5 * l4 + 1)) (e := l4) (by omega) (by omega) (by omega)
      rw [fx7] at gx7
      refine z_iaddN (M := M_X12_judge) 62 dX12_judge_62 (by omega) (by omega) ?_
      refine z_ialdG (M := M_X12_judge) 63 dX12_judge_63 o_110 (by omega) (by omega) (gw_w G (by omega) (by omega)) (fun x8 ex8 ax8 bx8 => ?_)
      refine z_iconst (M := M_X12_judge) 64 dX12_judge_64 ?_
      refine z_icmp_eq (M := M_X12_judge) 65 dX12_judge_65 83 rfl (fun c9 => ?_) (fun c9 => ?_)
      · refine z_iincN (M := M_X12_judge) 83 dX12_judge_83 (ls' := [some (mR 108), some (mI a1), some (mI l2), some (mI l3), some (mI (l4 + (-1))), none]) (by decide) rfl (by (unfold m_32; decide)) (by omega) (by omega) rfl ?_
        refine z_goto (M := M_X12_judge) 86 dX12_judge_86 33 rfl ?_
        exact z_mask [true, true, true, true, true, false] rfl (ih.1 l2 l3 (l4 + (-1)) h G R (by omega) (by omega) (by omega) (by omega) (by omega) (by omega) (by omega))
      · refine z_aload_n (M := M_X12_judge) 68 dX12_judge_68 rfl ?_
        refine z_iload (M := M_X12_judge) 69 dX12_judge_69 rfl ?_
        refine z_vI (M := M_X12_judge) 71 dX12_judge_71 t_X12_isSo l_X12_501 (m_rr_of rfl) (rest := []) (c_X12_isSo h l4 G ⟨by omega, by omega⟩) o_108 rfl rfl rfl (Nat.le_of_ble_eq_true rfl) ⟨rfl, rfl⟩ (fun x10 h3 qx10 => ?_)
        obtain ⟨G3, S3, ax10, bx10⟩ := qx10
        have R3 := R.call S3 (by decide +kernel)
        refine z_if_ne (M := M_X12_judge) 74 dX12_judge_74 83 rfl (fun c11 => ?_) (fun c11 => ?_)
        · refine z_iincN (M := M_X12_judge) 83 dX12_judge_83 (ls' := [some (mR 108), some (mI a1), some (mI l2), some (mI l3), some (mI (l4 + (-1))), none]) (by decide) rfl (by (unfold m_32; decide)) (by omega) (by omega) rfl ?_
          refine z_goto (M := M_X12_judge) 86 dX12_judge_86 33 rfl ?_
          exact z_mask [true, true, true, true, true, false] rfl (ih.1 l2 l3 (l4 + (-1)) h3 G3 R3 (by omega) (by omega) (by omega) (by omega) (by omega) (by omega) (by omega))
        · refine z_iincW (M := M_X12_judge) 77 dX12_judge_77 (by decide) rfl (by (unfold m_32; decide)) (fun x12 ox12 => ?_)
          unfold m_32 at ox12
          refine z_ls (ls' := [some (mR 108), some (mI a1), some (mI x12), some (mI l3), some (mI l4), none]) rfl ?_
          refine z_iload (M := M_X12_judge) 80 dX12_judge_80 rfl ?_
          refine z_istore_n (M := M_X12_judge) 82 dX12_judge_82 (ls' := [some (mR 108), some (mI a1), some (mI x12), some (mI l4), some (mI l4), none]) (by decide) rfl ?_
          refine z_iincN (M := M_X12_judge) 83 dX12_judge_83 (ls' := [some (mR 108), some (mI a1), some (mI x12), some (mI l4), some (mI (l4 + (-1))), none]) (by decide) rfl (by (unfold m_32; decide)) (by omega) (by omega) rfl ?_
          refine z_goto (M := M_X12_judge) 86 dX12_judge_86 33 rfl ?_
          exact z_mask [true, true, true, true, true, false] rfl (ih.1 x12 l4 (l4 + (-1)) h3 G3 R3 (by omega) (by omega) (by omega) (by omega) (by omega) (by omega) (by omega))
set_option maxHeartbeats 4000000 in
set_option maxRecDepth 100000 in
theorem s_X12_judge_118 (h0 : m_H) (a1 : Int) (G0 : GI h0) (n : Nat) (ih : q_X12_judge h0 a1 n) : ∀ (l4 l5 : Int) (h : m_H), GI h → FR [] [(108, 0)] h0 h → 0 ≤ l4 → l4 ≤ 1 → 0 ≤ l5 → l5 ≤ 6 → 2 ≤ a1 → a1 ≤ 2 → 2 * (6 - l5) + (16) ≤ ((n + 1 : Nat) : Int) → m_Z oF M_X12_judge 118 [some (mR 108), none, none, none, some (mI l4), some (mI l5)] [] h (m_QI (P_X12_judge h0 a1)) := by
  intro l4 l5 h G R v0 v1 v2 v3 v4 v5 hr
  refine z_iload (M := M_X12_judge) 118 dX12_judge_118 rfl ?_
  refine z_aload_n (M := M_X12_judge) 120 dX12_judge_120 rfl ?_
  refine z_getR (M := M_X12_judge) 121 dX12_judge_121 f_X12_13 o_108 rfl (g_108_3 G) ?_
  refine z_iconst (M := M_X12_judge) 124 dX12_judge_124 ?_
  refine z_ialdG (M := M_X12_judge) 125 dX12_judge_125 o_110 (by omega) (by omega) (gw_1 G) (fun x1 ex1 ax1 bx1 => ?_)
  refine z_icmp_ge (M := M_X12_judge) 126 dX12_judge_126 192 rfl (fun c2 => ?_) (fun c2 => ?_)
  · refine z_iconst (M := M_X12_judge) 192 dX12_judge_192 ?_
    refine z_istore (M := M_X12_judge) 193 dX12_judge_193 (ls' := [some (mR 108), none, none, none, some (mI l4), some (mI 0)]) (by decide) rfl ?_
    exact z_mask [true, false, false, false, true, true] rfl (ih.2.2 l4 0 h G R (by omega) (by omega) (by omega) (by omega) (by omega) (by omega) (by omega))
  · refine z_iload (M := M_X12_judge) 129 dX12_judge_129 rfl ?_
    refine z_if_eq (M := M_X12_judge) 131 dX12_judge_131 183 rfl (fun c3 => ?_) (fun c3 => ?_)
    · refine z_iconst (M := M_X12_judge) 183 dX12_judge_183 ?_
      refine z_istore (M := M_X12_judge) 184 dX12_judge_184 (ls' := [some (mR 108), none, none, none, some (mI 0), some (mI l5)]) (by decide) rfl ?_
      refine z_iincN (M := M_X12_judge) 186 dX12_judge_186 (ls' := [some (mR 108), none, none, none, some (mI 0), some (mI (l5 + 1))]) (by decide) rfl (by (unfold m_32; decide)) (by omega) (by omega) rfl ?_
      refine z_goto (M := M_X12_judge) 189 dX12_judge_189 118 rfl ?_
      exact z_mask [true, false, false, false, true, true] rfl (ih.2.1 0 (l5 + 1) h G R (by omega) (by omega) (by omega) (by omega) (by omega) (by omega) (by omega))
    · refine z_aload_n (M := M_X12_judge) 134 dX12_judge_134 rfl ?_
      refine z_getR (M := M_X12_judge) 135 dX12_judge_135 f_X12_13 o_108 rfl (g_108_3 G) ?_
      refine z_bipush (M := M_X12_judge) 138 dX12_judge_138 ?_
      refine z_aload_n (M := M_X12_judge) 140 dX12_judge_140 rfl ?_
      refine z_getR (M := M_X12_judge) 141 dX12_judge_141 f_X12_13 o_108 rfl (g_108_3 G) ?_
      refine z_bipush (M := M_X12_judge) 144 dX12_judge_144 ?_
      refine z_iconst (M := M_X12_judge) 146 dX12_judge_146 ?_
      refine z_iload (M := M_X12_judge) 147 dX12_judge_147 rfl ?_
      refine z_imulN (M := M_X12_judge) 149 dX12_judge_149 (by omega) (by omega) ?_
      refine z_iaddN (M := M_X12_judge) 150 dX12_judge_150 (by omega) (by omega) ?_
      refine z_ialdG (M := M_X12_judge) 151 dX12_judge_151 o_110 (by omega) (by omega) (gw_s G (by omega) (by omega)) (fun x4 ex4 ax4 bx4 => ?_)
      refine z_iaddN (M := M_X12_judge) 152 dX12_judge_152 (by omega) (by omega) ?_
      refine z_ialdG (M := M_X12_judge) 153 dX12_judge_153 o_110 (by omega) (by omega) (gw_l G (by omega) (by omega)) (fun x5 ex5 ax5 bx5 => ?_)
      refine z_aload_n (M := M_X12_judge) 154 dX12_judge_154 rfl ?_
      refine z_getR (M := M_X12_judge) 155 dX12_judge_155 f_X12_13 o_108 rfl (g_108_3 G) ?_
      refine z_bipush (M := M_X12_judge) 158 dX12_judge_158 ?_
      refine z_aload_n (M := M_X12_judge) 160 dX12_judge_160 rfl ?_
      refine z_getR (M := M_X12_judge) 161 dX12_judge_161 f_X12_13 o_108 rfl (g_108_3 G) ?_
      refine z_bipush (M := M_X12_judge) 164 dX12_judge_164 ?_
      refine z_iconst (M := M_X12_judge) 166 dX12_judge_166 ?_
      refine z_iload (M := M_X12_judge) 167 dX12_judge_167 rfl ?_
      refine z_imulN (M := M_X12_judge) 169 dX12_judge_169 (by omega) (by omega) ?_
      refine z_iaddN (M := M_X12_judge) 170 dX12_judge_170 (by omega) (by omega) ?_
      refine z_iconst (M := M_X12_judge) 171 dX12_judge_171 ?_
      refine z_iaddN (M := M_X12_judge) 172 dX12_judge_172 (by omega) (by omega) ?_
      refine z_ialdG (M := M_X12_judge) 173 dX12_judge_173 o_110 (by omega) (by omega) (gw_s G (by omega) (by omega)) (fun x6 ex6 ax6 bx6 => ?_)
      refine z_iaddN (M := M_X12_judge) 174 dX12_judge_174 (by omega) (by omega) ?_
      refine z_ialdG (M := M_X12_judge) 175 dX12_judge_175 o_110 (by omega) (by omega) (gw_l G (by omega) (by omega)) (fun x7 ex7 ax7 bx7 => ?_)
      refine z_icmp_ge (M := M_X12_judge) 176 dX12_judge_176 183 rfl (fun c8 => ?_) (fun c8 => ?_)
      · refine z_iconst (M := M_X12_judge) 183 dX12_judge_183 ?_
        refine z_istore (M := M_X12_judge) 184 dX12_judge_184 (ls' := [some (mR 108), none, none, none, some (mI 0), some (mI l5)]) (by decide) rfl ?_
        refine z_iincN (M := M_X12_judge) 186 dX12_judge_186 (ls' := [some (mR 108), none, none, none, some (mI 0), some (mI (l5 + 1))]) (by decide) rfl (by (unfold m_32; decide)) (by omega) (by omega) rfl ?_
        refine z_goto (M := M_X12_judge) 189 dX12_judge_189 118 rfl ?_
        exact z_mask [true, false, false, false, true, true] rfl (ih.2.1 0 (l5 + 1) h G R (by omega) (by omega) (by omega) (by omega) (by omega) (by omega) (by omega))
      · refine z_iconst (M := M_X12_judge) 179 dX12_judge_179 ?_
        refine z_goto (M := M_X12_judge) 180 dX12_judge_180 184 rfl ?_
        refine z_istore (M := M_X12_judge) 184 dX12_judge_184 (ls' := [some (mR 108), none, none, none, some (mI 1), some (mI l5)]) (by decide) rfl ?_
        refine z_iincN (M := M_X12_judge) 186 dX12_judge_186 (ls' := [some (mR 108), none, none, none, some (mI 1), some (mI (l5 + 1))]) (by decide) rfl (by (unfold m_32; decide)) (by omega) (by omega) rfl ?_
        refine z_goto (M := M_X12_judge) 189 dX12_judge_189 118 rfl ?_
        exact z_mask [true, false, false, false, true, true] rfl (ih.2.1 1 (l5 + 1) h G R (by omega) (by omega) (by omega) (by omega) (by omega) (by omega) (by omega))
set_option maxHeartbeats 4000000 in
set_option maxRecDepth 100000 in
theorem s_X12_judge_195 (h0 : m_H) (a1 : Int) (G0 : GI h0) (n : Nat) (ih : q_X12_judge h0 a1 n) : ∀ (l4 l5 : Int) (h : m_H), GI h → FR [] [(108, 0)] h0 h → 0 ≤ l4 → l4 ≤ 1 → 0 ≤ l5 → l5 ≤ 6 → 2 ≤ a1 → a1 ≤ 2 → 2 * (6 - l5) + (1) ≤ ((n + 1 : Nat) : Int) → m_Z oF M_X12_judge 195 [some (mR 108), none, none, none, some (mI l4), some (mI l5)] [] h (m_QI (P_X12_judge h0 a1)) := by
  intro l4 l5 h G R v0 v1 v2 v3 v4 v5 hr
  refine z_iload (M := M_X12_judge) 195 dX12_judge_195 rfl ?_
  refine z_bipush (M := M_X12_judge) 197 dX12_judge_197 ?_
  refine z_icmp_ge (M := M_X12_judge) 199 dX12_judge_199 257 rfl (fun c1 => ?_) (fun c1 => ?_)
  · refine z_iload (M := M_X12_judge) 257 dX12_judge_257 rfl ?_
    refine z_if_eq (M := M_X12_judge) 259 dX12_judge_259 266 rfl (fun c2 => ?_) (fun c2 => ?_)
    · refine z_iconst (M := M_X12_judge) 266 dX12_judge_266 ?_
      exact z_retI (M := M_X12_judge) 267 dX12_judge_267 rfl ⟨G, R⟩
    · refine z_iconst (M := M_X12_judge) 262 dX12_judge_262 ?_
      refine z_goto (M := M_X12_judge) 263 dX12_judge_263 267 rfl ?_
      exact z_retI (M := M_X12_judge) 267 dX12_judge_267 rfl ⟨G, R⟩
  · refine z_iload (M := M_X12_judge) 202 dX12_judge_202 rfl ?_
    refine z_if_eq (M := M_X12_judge) 204 dX12_judge_204 248 rfl (fun c3 => ?_) (fun c3 => ?_)
    · refine z_iconst (M := M_X12_judge) 248 dX12_judge_248 ?_
      refine z_istore (M := M_X12_judge) 249 dX12_judge_249 (ls' := [some (mR 108), none, none, none, some (mI 0), some (mI l5)]) (by decide) rfl ?_
      refine z_iincN (M := M_X12_judge) 251 dX12_judge_251 (ls' := [some (mR 108), none, none, none, some (mI 0), some (mI (l5 + 1))]) (by decide) rfl (by (unfold m_32; decide)) (by omega) (by omega) rfl ?_
      refine z_goto (M := M_X12_judge) 254 dX12_judge_254 195 rfl ?_
      exact z_mask [true, false, false, false, true, true] rfl (ih.2.2 0 (l5 + 1) h G R (by omega) (by omega) (by omega) (by omega) (by omega) (by omega) (by omega))
    · refine z_aload_n (M := M_X12_judge) 207 dX12_judge_207 rfl ?_
      refine z_getR (M := M_X12_judge) 208 dX12_judge_208 f_X12_13 o_108 rfl (g_108_3 G) ?_
      refine z_bipush (M := M_X12_judge) 211 dX12_judge_211 ?_
      refine z_iload (M := M_X12_judge) 213 dX12_judge_213 rfl ?_
      refine z_iaddN (M := M_X12_judge) 215 dX12_judge_215 (by omega) (by omega) ?_
      refine z_ialdG (M := M_X12_judge) 216 dX12_judge_216 o_110 (by omega) (by omega) (gw_c G (by omega) (by omega)) (fun x4 ex4 ax4 bx4 => ?_)
      refine z_iconst (M := M_X12_judge) 217 dX12_judge_217 ?_
      refine z_icmp_eq (M := M_X12_judge) 218 dX12_judge_218 244 rfl (fun c5 => ?_) (fun c5 => ?_)
      · refine z_iconst (M := M_X12_judge) 244 dX12_judge_244 ?_
        refine z_goto (M := M_X12_judge) 245 dX12_judge_245 249 rfl ?_
        refine z_istore (M := M_X12_judge) 249 dX12_judge_249 (ls' := [some (mR 108), none, none, none, some (mI 1), some (mI l5)]) (by decide) rfl ?_
        refine z_iincN (M := M_X12_judge) 251 dX12_judge_251 (ls' := [some (mR 108), none, none, none, some (mI 1), some (mI (l5 + 1))]) (by decide) rfl (by (unfold m_32; decide)) (by omega) (by omega) rfl ?_
        refine z_goto (M := M_X12_judge) 254 dX12_judge_254 195 rfl ?_
        exact z_mask [true, false, false, false, true, true] rfl (ih.2.2 1 (l5 + 1) h G R (by omega) (by omega) (by omega) (by omega) (by omega) (by omega) (by omega))
      · refine z_aload_n (M := M_X12_judge) 221 dX12_judge_221 rfl ?_
        refine z_getR (M := M_X12_judge) 222 dX12_judge_222 f_X12_13 o_108 rfl (g_108_3 G) ?_
        refine z_bipush (M := M_X12_judge) 225 dX12_judge_225 ?_
        refine z_iload (M := M_X12_judge) 227 dX12_judge_227 rfl ?_
        refine z_iaddN (M := M_X12_judge) 229 dX12_judge_229 (by omega) (by omega) ?_
        refine z_ialdG (M := M_X12_judge) 230 dX12_judge_230 o_110 (by omega) (by omega) (gw_l G (by omega) (by omega)) (fun x6 ex6 ax6 bx6 => ?_)
        refine z_aload_n (M := M_X12_judge) 231 dX12_judge_231 rfl ?_
        refine z_getR (M := M_X12_judge) 232 dX12_judge_232 f_X12_13 o_108 rfl (g_108_3 G) ?_
        refine z_bipush (M := M_X12_judge) 235 dX12_judge_235 ?_
        refine z_iload (M := M_X12_judge) 237 dX12_judge_237 rfl ?_
        refine z_iaddN (M := M_X12_judge) 239 dX12_judge_239 (by omega) (by omega) ?_
        refine z_ialdG (M := M_X12_judge) 240 dX12_judge_240 o_110 (by omega) (by omega) (gw_l G (by omega) (by omega)) (fun x7 ex7 ax7 bx7 => ?_)
        refine z_icmp_gt (M := M_X12_judge) 241 dX12_judge_241 248 rfl (fun c8 => ?_) (fun c8 => ?_)
        · refine z_iconst (M := M_X12_judge) 248 dX12_judge_248 ?_
          refine z_istore (M := M_X12_judge) 249 dX12_judge_249 (ls' := [some (mR 108), none, none, none, some (mI 0), some (mI l5)]) (by decide) rfl ?_
          refine z_iincN (M := M_X12_judge) 251 dX12_judge_251 (ls' := [some (mR 108), none, none, none, some (mI 0), some (mI (l5 + 1))]) (by decide) rfl (by (unfold m_32; decide)) (by omega) (by omega) rfl ?_
          refine z_goto (M := M_X12_judge) 254 dX12_judge_254 195 rfl ?_
          exact z_mask [true, false, false, false, true, true] rfl (ih.2.2 0 (l5 + 1) h G R (by omega) (by omega) (by omega) (by omega) (by omega) (by omega) (by omega))
        · refine z_iconst (M := M_X12_judge) 244 dX12_judge_244 ?_
          refine z_goto (M := M_X12_judge) 245 dX12_judge_245 249 rfl ?_
          refine z_istore (M := M_X12_judge) 249 dX12_judge_249 (ls' := [some (mR 108), none, none, none, some (mI 1), some (mI l5)]) (by decide) rfl ?_
          refine z_iincN (M := M_X12_judge) 251 dX12_judge_251 (ls' := [some (mR 108), none, none, none, some (mI 1), some (mI (l5 + 1))]) (by decide) rfl (by (unfold m_32; decide)) (by omega) (by omega) rfl ?_
          refine z_goto (M := M_X12_judge) 254 dX12_judge_254 195 rfl ?_
          exact z_mask [true, false, false, false, true, true] rfl (ih.2.2 1 (l5 + 1) h G R (by omega) (by omega) (by omega) (by omega) (by omega) (by omega) (by omega))
theorem a_X12_judge (h0 : m_H) (a1 : Int) (G0 : GI h0) : ∀ n, q_X12_judge h0 a1 n := by
  intro n
  induction n with
  | zero => unfold q_X12_judge; refine ⟨?_, ?_, ?_⟩ <;> (intros; omega)
  | succ n ih => exact ⟨s_X12_judge_33 h0 a1 G0 n ih, s_X12_judge_118 h0 a1 G0 n ih, s_X12_judge_195 h0 a1 G0 n ih⟩
set_option maxHeartbeats 4000000 in
set_option maxRecDepth 100000 in
theorem c_X12_judge (h0 : m_H) (a1 : Int) (G0 : GI h0) : m_CI M_X12_judge [mR 108, mI a1] h0 (P_X12_judge h0 a1) := by
  refine m_CI_of ⟨by decide, rfl, by simp [m_arg, m_isL, M_X12_judge], ⟨rfl, rfl⟩, rfl, rfl⟩ (ls := [some (mR 108), some (mI a1), none, none, none, none]) rfl ?_
  have ih := a_X12_judge h0 a1 G0 86
  refine z_ok (fun _ _ ok => ?_)
  have oa1 : m_32 a1 := ok 1 _ rfl
  unfold m_32 at oa1
  refine z_aload_n (M := M_X12_judge) 0 dX12_judge_0 rfl ?_
  refine z_iconst (M := M_X12_judge) 1 dX12_judge_1 ?_
  refine z_putIH (M := M_X12_judge) 2 dX12_judge_2 p_X12_133 o_108 rfl (u_108_0 G0) ((FR.rf (cs := []) (ss := [(108, 0)]) (h := h0)).up rfl) (fun h1 E1 G1 R1 => ?_)
  refine z_iload_n (M := M_X12_judge) 5 dX12_judge_5 rfl ?_
  refine z_i2l (M := M_X12_judge) 6 dX12_judge_6 ?_
  refine z_lconst (M := M_X12_judge) 7 dX12_judge_7 (v := 0) ?_
  refine z_ldc2 (M := M_X12_judge) 8 dX12_judge_8 k_X12_182 ?_
  refine z_sI (M := M_X12_judge) 11 dX12_judge_11 t_X12_in l_X12_143 (m_rr_of rfl) (rest := []) (c_X12_in h1 a1 0 2 G1) rfl rfl (Nat.le_of_ble_eq_true rfl) ⟨rfl, rfl⟩ (fun x1 h2 qx1 => ?_)
  obtain ⟨rfl, ⟨rfl, cx1⟩ | ⟨rfl, cx1⟩⟩ := qx1
  · refine z_if_ne_T (M := M_X12_judge) 14 dX12_judge_14 19 rfl (by omega) ?_
    refine z_iconst (M := M_X12_judge) 19 dX12_judge_19 ?_
    refine z_istore_n (M := M_X12_judge) 20 dX12_judge_20 (ls' := [some (mR 108), some (mI a1), some (mI 0), none, none, none]) (by decide) rfl ?_
    refine z_iconst (M := M_X12_judge) 21 dX12_judge_21 ?_
    refine z_istore_n (M := M_X12_judge) 22 dX12_judge_22 (ls' := [some (mR 108), some (mI a1), some (mI 0), some (mI (-1)), none, none]) (by decide) rfl ?_
    refine z_aload_n (M := M_X12_judge) 23 dX12_judge_23 rfl ?_
    refine z_getR (M := M_X12_judge) 24 dX12_judge_24 f_X12_13 o_108 rfl (g_108_3 G1) ?_
    refine z_iconst (M := M_X12_judge) 27 dX12_judge_27 ?_
    refine z_ialdG (M := M_X12_judge) 28 dX12_judge_28 o_110 (by omega) (by omega) (gw_0 G1) (fun x2 ex2 ax2 bx2 => ?_)
    refine z_iconst (M := M_X12_judge) 29 dX12_judge_29 ?_
    refine z_isubN (M := M_X12_judge) 30 dX12_judge_30 (by omega) (by omega) ?_
    refine z_istore (M := M_X12_judge) 31 dX12_judge_31 (ls' := [some (mR 108), some (mI a1), some (mI 0), some (mI (-1)), some (mI (x2 - 1)), none]) (by decide) rfl ?_
    exact z_mask [true, true, true, true, true, false] rfl (ih.1 0 (-1) (x2 - 1) h1 G1 R1 (by omega) (by omega) (by omega) (by omega) (by omega) (by omega) (by omega))
  · refine z_if_ne_F (M := M_X12_judge) 14 dX12_judge_14 19 rfl (by omega) ?_
    refine z_iconst (M := M_X12_judge) 17 dX12_judge_17 ?_
    exact z_retI (M := M_X12_judge) 18 dX12_judge_18 rfl ⟨G1, R1⟩
abbrev P_X12_year (h0 : m_H) (a1 a2 a3 : Int) : Int → m_H → Prop := fun x h' => GI h' ∧ FR [109, 147] [(108, 0), (108, 1), (108, 60), (108, 61), (108, 62)] h0 h' ∧ (-1) ≤ x ∧ x ≤ 2147483647
def q_X12_year (h0 : m_H) (a1 a2 a3 : Int) (n : Nat) : Prop := (∀ (l4 l6 : Int) (h : m_H), GI h → FR [109, 147] [(108, 0), (108, 1), (108, 60), (108, 61), (108, 62)] h0 h → 0 ≤ l4 → l4 ≤ 1000002 → 0 ≤ l6 → l6 ≤ 32 → 0 ≤ a1 → a1 ≤ 1000000 → 0 ≤ a2 → a2 ≤ 5 → 1 ≤ a3 → a3 ≤ 99 → 2 * (32 - l6) + (2213) ≤ (n : Int) → m_Z oF M_X12_year 49 [some (mR 108), none, some (mI a2), some (mI a3), some (mJ l4), none, some (mI l6), none, none, none] [] h (m_QI (P_X12_year h0 a1 a2 a3))) ∧ (∀ (l6 l7 : Int) (h : m_H), GI h → FR [109, 147] [(108, 0), (108, 1), (108, 60), (108, 61), (108, 62)] h0 h → 0 ≤ l6 → l6 ≤ 2147483647 → 0 ≤ l7 → l7 ≤ 32 → 0 ≤ a1 → a1 ≤ 1000000 → 0 ≤ a2 → a2 ≤ 5 → 1 ≤ a3 → a3 ≤ 99 → 67 * (32 - l7) + (66) ≤ (n : Int) → m_Z oF M_X12_year 113 [some (mR 108), none, some (mI a2), some (mI a3), none, none, some (mI l6), some (mI l7), none, none] [] h (m_QI (P_X12_year h0 a1 a2 a3))) ∧ (∀ (l6 l7 l8 : Int) (h : m_H), GI h → FR [109, 147] [(108, 0), (108, 1), (108, 60), (108, 61), (108, 62)] h0 h → 0 ≤ l6 → l6 ≤ 2147483647 → 0 ≤ l7 → l7 ≤ 31 → 1 ≤ l8 → l8 ≤ 32 → 0 ≤ a1 → a1 ≤ 1000000 → 0 ≤ a2 → a2 ≤ 5 → 1 ≤ a3 → a3 ≤ 99 → 67 * (32 - l7) + 2 * (32 - l8) + (1) ≤ (n : Int) → m_Z oF M_X12_year 126 [some (mR 108), none, some (mI a2), some (mI a3), none, none, some (mI l6), some (mI l7), some (mI l8), none] [] h (m_QI (P_X12_year h0 a1 a2 a3)))
set_option maxHeartbeats 4000000 in
set_option maxRecDepth 100000 in
theorem s_X12_year_49 (h0 : m_H) (a1 a2 a3 : Int) (G0 : GI h0) (n : Nat) (ih : q_X12_year h0 a1 a2 a3 n) : ∀ (l4 l6 : Int) (h : m_H), GI h → FR [109, 147] [(108, 0), (108, 1), (108, 60), (108, 61), (108, 62)] h0 h → 0 ≤ l4 → l4 ≤ 1000002 → 0 ≤ l6 → l6 ≤ 32 → 0 ≤ a1 → a1 ≤ 1000000 → 0 ≤ a2 → a2 ≤ 5 → 1 ≤ a3 → a3 ≤ 99 → 2 * (32 - l6) + (2213) ≤ ((n + 1 : Nat) : Int) → m_Z oF M_X12_year 49 [some (mR 108), none, some (mI a2), some (mI a3), some (mJ l4), none, some (mI l6), none, none, none] [] h (m_QI (P_X12_year h0 a1 a2 a3)) := by
  intro l4 l6 h G R v0 v1 v2 v3 v4 v5 v6 v7 v8 v9 hr
  refine z_iload (M := M_X12_year) 49 dX12_year_49 rfl ?_
  refine z_bipush (M := M_X12_year) 51 dX12_year_51 ?_
  refine z_icmp_ge (M := M_X12_year) 53 dX12_year_53 92 rfl (fun c1 => ?_) (fun c1 => ?_)
  · refine z_aload_n (M := M_X12_year) 92 dX12_year_92 rfl ?_
    refine z_iconst (M := M_X12_year) 93 dX12_year_93 ?_
    refine z_putZH (M := M_X12_year) 94 dX12_year_94 p_X12_512 o_108 rfl (by omega) (u_108_60 G (by omega) (by omega)) (R.up rfl) (fun h1 E1 G1 R1 => ?_)
    refine z_aload_n (M := M_X12_year) 97 dX12_year_97 rfl ?_
    refine z_iconst (M := M_X12_year) 98 dX12_year_98 ?_
    refine z_putIH (M := M_X12_year) 99 dX12_year_99 p_X12_515 o_108 rfl (u_108_61 G1 (by omega) (by omega)) (R1.up rfl) (fun h2 E2 G2 R2 => ?_)
    refine z_aload_n (M := M_X12_year) 102 dX12_year_102 rfl ?_
    refine z_iconst (M := M_X12_year) 103 dX12_year_103 ?_
    refine z_putIH (M := M_X12_year) 104 dX12_year_104 p_X12_518 o_108 rfl (u_108_62 G2 (by omega) (by omega)) (R2.up rfl) (fun h3 E3 G3 R3 => ?_)
    refine z_iconst (M := M_X12_year) 107 dX12_year_107 ?_
    refine z_istore (M := M_X12_year) 108 dX12_year_108 (ls' := [some (mR 108), none, some (mI a2), some (mI a3), some (mJ l4), none, some (mI 0), none, none, none]) (by decide) rfl ?_
    refine z_iconst (M := M_X12_year) 110 dX12_year_110 ?_
    refine z_istore (M := M_X12_year) 111 dX12_year_111 (ls' := [some (mR 108), none, some (mI a2), some (mI a3), some (mJ l4), none, some (mI 0), some (mI 0), none, none]) (by decide) rfl ?_
    exact z_mask [true, false, true, true, false, false, true, true, false, false] rfl (ih.2.1 0 0 h3 G3 R3 (by omega) (by omega) (by omega) (by omega) (by omega) (by omega) (by omega) (by omega) (by omega) (by omega) (by omega))
  · refine z_lload (M := M_X12_year) 56 dX12_year_56 rfl ?_
    refine z_ldc2 (M := M_X12_year) 58 dX12_year_58 k_X12_504 ?_
    refine z_lmulN (M := M_X12_year) 61 dX12_year_61 (by omega) (by omega) ?_
    refine z_ldc2 (M := M_X12_year) 62 dX12_year_62 k_X12_506 ?_
    refine z_laddN (M := M_X12_year) 65 dX12_year_65 (by omega) (by omega) ?_
    refine z_ldc2 (M := M_X12_year) 66 dX12_year_66 k_X12_508 ?_
    refine z_lremN (M := M_X12_year) 69 dX12_year_69 (by omega) (by omega) ?_
    refine z_topBJ (lo := 0) (hi := 1000002) ⟨by omega, by omega⟩ (fun x2 ex2 ax2 bx2 => ?_)
    refine z_lstore (M := M_X12_year) 70 dX12_year_70 (ls' := [some (mR 108), none, some (mI a2), some (mI a3), some (mJ x2), none, some (mI l6), none, none, none]) (by decide) rfl ?_
    refine z_aload_n (M := M_X12_year) 72 dX12_year_72 rfl ?_
    refine z_getR (M := M_X12_year) 73 dX12_year_73 f_X12_130 o_108 rfl (g_108_59 G) ?_
    refine z_iload (M := M_X12_year) 76 dX12_year_76 rfl ?_
    refine z_lload (M := M_X12_year) 78 dX12_year_78 rfl ?_
    refine z_ldc2 (M := M_X12_year) 80 dX12_year_80 k_X12_510 ?_
    refine z_lremN (M := M_X12_year) 83 dX12_year_83 (by omega) (by omega) ?_
    refine z_topBJ (lo := 0) (hi := 3) ⟨by omega, by omega⟩ (fun x3 ex3 ax3 bx3 => ?_)
    refine z_l2iN (M := M_X12_year) 84 dX12_year_84 (by omega) (by omega) ?_
    refine z_iastH (M := M_X12_year) 85 dX12_year_85 o_147 (by omega) (by omega) (u_147 G (by omega) (by omega)) (R.up rfl) (fun h4 E4 G4 R4 => ?_)
    refine z_iincN (M := M_X12_year) 86 dX12_year_86 (ls' := [some (mR 108), none, some (mI a2), some (mI a3), some (mJ x2), none, some (mI (l6 + 1)), none, none, none]) (by decide) rfl (by (unfold m_32; decide)) (by omega) (by omega) rfl ?_
    refine z_goto (M := M_X12_year) 89 dX12_year_89 49 rfl ?_
    exact z_mask [true, false, true, true, true, false, true, false, false, false] rfl (ih.1 x2 (l6 + 1) h4 G4 R4 (by omega) (by omega) (by omega) (by omega) (by omega) (by omega) (by omega) (by omega) (by omega) (by omega) (by omega))
set_option maxHeartbeats 4000000 in
set_option maxRecDepth 100000 in
theorem s_X12_year_113 (h0 : m_H) (a1 a2 a3 : Int) (G0 : GI h0) (n : Nat) (ih : q_X12_year h0 a1 a2 a3 n) : ∀ (l6 l7 : Int) (h : m_H), GI h → FR [109, 147] [(108, 0), (108, 1), (108, 60), (108, 61), (108, 62)] h0 h → 0 ≤ l6 → l6 ≤ 2147483647 → 0 ≤ l7 → l7 ≤ 32 → 0 ≤ a1 → a1 ≤ 1000000 → 0 ≤ a2 → a2 ≤ 5 → 1 ≤ a3 → a3 ≤ 99 → 67 * (32 - l7) + (66) ≤ ((n + 1 : Nat) : Int) → m_Z oF M_X12_year 113 [some (mR 108), none, some (mI a2), some (mI a3), none, none, some (mI l6), some (mI l7), none, none] [] h (m_QI (P_X12_year h0 a1 a2 a3)) := by
  intro l6 l7 h G R v0 v1 v2 v3 v4 v5 v6 v7 v8 v9 hr
  refine z_iload (M := M_X12_year) 113 dX12_year_113 rfl ?_
  refine z_bipush (M := M_X12_year) 115 dX12_year_115 ?_
  refine z_icmp_ge (M := M_X12_year) 117 dX12_year_117 197 rfl (fun c1 => ?_) (fun c1 => ?_)
  · refine z_aload_n (M := M_X12_year) 197 dX12_year_197 rfl ?_
    refine z_iload (M := M_X12_year) 198 dX12_year_198 rfl ?_
    refine z_vI (M := M_X12_year) 200 dX12_year_200 t_X12_answer l_X12_147 (m_rr_of rfl) (rest := []) (c_X12_answer h l6 G ⟨by omega, by omega⟩) o_108 rfl rfl rfl (Nat.le_of_ble_eq_true rfl) ⟨rfl, rfl⟩ (fun x2 h1 qx2 => ?_)
    obtain ⟨G1, S1, rfl⟩ := qx2
    have R1 := R.call S1 (by decide +kernel)
    exact z_retI (M := M_X12_year) 203 dX12_year_203 rfl ⟨G1, R1, by omega, by omega⟩
  · refine z_iload (M := M_X12_year) 120 dX12_year_120 rfl ?_
    refine z_iconst (M := M_X12_year) 122 dX12_year_122 ?_
    refine z_iaddN (M := M_X12_year) 123 dX12_year_123 (by omega) (by omega) ?_
    refine z_istore (M := M_X12_year) 124 dX12_year_124 (ls' := [some (mR 108), none, some (mI a2), some (mI a3), none, none, some (mI l6), some (mI l7), some (mI (l7 + 1)), none]) (by decide) rfl ?_
    exact z_mask [true, false, true, true, false, false, true, true, true, false] rfl (ih.2.2 l6 l7 (l7 + 1) h G R (by omega) (by omega) (by omega) (by omega) (by omega) (by omega) (by omega) (by omega) (by omega) (by omega) (by omega) (by omega) (by omega))
set_option maxHeartbeats 4000000 in
set_option maxRecDepth 100000 in
theorem s_X12_year_126 (h0 : m_H) (a1 a2 a3 : Int) (G0 : GI h0) (n : Nat) (ih : q_X12_year h0 a1 a2 a3 n) : ∀ (l6 l7 l8 : Int) (h : m_H), GI h → FR [109, 147] [(108, 0), (108, 1), (108, 60), (108, 61), (108, 62)] h0 h → 0 ≤ l6 → l6 ≤ 2147483647 → 0 ≤ l7 → l7 ≤ 31 → 1 ≤ l8 → l8 ≤ 32 → 0 ≤ a1 → a1 ≤ 1000000 → 0 ≤ a2 → a2 ≤ 5 → 1 ≤ a3 → a3 ≤ 99 → 67 * (32 - l7) + 2 * (32 - l8) + (1) ≤ ((n + 1 : Nat) : Int) → m_Z oF M_X12_year 126 [some (mR 108), none, some (mI a2), some (mI a3), none, none, some (mI l6), some (mI l7), some (mI l8), none] [] h (m_QI (P_X12_year h0 a1 a2 a3)) := by
  intro l6 l7 l8 h G R v0 v1 v2 v3 v4 v5 v6 v7 v8 v9 v10 v11 hr
  refine z_iload (M := M_X12_year) 126 dX12_year_126 rfl ?_
  refine z_bipush (M := M_X12_year) 128 dX12_year_128 ?_
  refine z_icmp_ge (M := M_X12_year) 130 dX12_year_130 191 rfl (fun c1 => ?_) (fun c1 => ?_)
  · refine z_iincN (M := M_X12_year) 191 dX12_year_191 (ls' := [some (mR 108), none, some (mI a2), some (mI a3), none, none, some (mI l6), some (mI (l7 + 1)), some (mI l8), none]) (by decide) rfl (by (unfold m_32; decide)) (by omega) (by omega) rfl ?_
    refine z_goto (M := M_X12_year) 194 dX12_year_194 113 rfl ?_
    exact z_mask [true, false, true, true, false, false, true, true, false, false] rfl (ih.2.1 l6 (l7 + 1) h G R (by omega) (by omega) (by omega) (by omega) (by omega) (by omega) (by omega) (by omega) (by omega) (by omega) (by omega))
  · refine z_iload_n (M := M_X12_year) 133 dX12_year_133 rfl ?_
    refine z_aload_n (M := M_X12_year) 134 dX12_year_134 rfl ?_
    refine z_iload_n (M := M_X12_year) 135 dX12_year_135 rfl ?_
    refine z_aload_n (M := M_X12_year) 136 dX12_year_136 rfl ?_
    refine z_getR (M := M_X12_year) 137 dX12_year_137 f_X12_130 o_108 rfl (g_108_59 G) ?_
    refine z_iload (M := M_X12_year) 140 dX12_year_140 rfl ?_
    refine z_ialdG (M := M_X12_year) 142 dX12_year_142 o_147 (by omega) (by omega) (g_147 G (by omega)) (fun x2 ex2 ax2 bx2 => ?_)
    refine z_vI (M := M_X12_year) 143 dX12_year_143 t_X12_feetOf l_X12_521 (m_rr_of rfl) (rest := [mI a3]) (c_X12_feetOf h a2 x2 G ⟨by omega, by omega⟩ ⟨by omega, by omega⟩) o_108 rfl rfl rfl (Nat.le_of_ble_eq_true rfl) ⟨rfl, rfl⟩ (fun x3 h1 qx3 => ?_)
    obtain ⟨G1, S1, ax3, bx3⟩ := qx3
    have R1 := R.call S1 (by decide +kernel)
    refine z_aload_n (M := M_X12_year) 146 dX12_year_146 rfl ?_
    refine z_iload_n (M := M_X12_year) 147 dX12_year_147 rfl ?_
    refine z_aload_n (M := M_X12_year) 148 dX12_year_148 rfl ?_
    refine z_getR (M := M_X12_year) 149 dX12_year_149 f_X12_130 o_108 rfl (g_108_59 G1) ?_
    refine z_iload (M := M_X12_year) 152 dX12_year_152 rfl ?_
    refine z_ialdG (M := M_X12_year) 154 dX12_year_154 o_147 (by omega) (by omega) (g_147 G1 (by omega)) (fun x4 ex4 ax4 bx4 => ?_)
    refine z_vI (M := M_X12_year) 155 dX12_year_155 t_X12_feetOf l_X12_521 (m_rr_of rfl) (rest := [mI x3, mI a3]) (c_X12_feetOf h1 a2 x4 G1 ⟨by omega, by omega⟩ ⟨by omega, by omega⟩) o_108 rfl rfl rfl (Nat.le_of_ble_eq_true rfl) ⟨rfl, rfl⟩ (fun x5 h2 qx5 => ?_)
    obtain ⟨G2, S2, ax5, bx5⟩ := qx5
    have R2 := R1.call S2 (by decide +kernel)
    refine z_isubN (M := M_X12_year) 158 dX12_year_158 (by omega) (by omega) ?_
    refine z_imul (M := M_X12_year) 159 dX12_year_159 ?_
    refine z_topm (fun x6 ex6 ox6 => ?_)
    unfold m_32 at ox6
    refine z_istore (M := M_X12_year) 160 dX12_year_160 (ls' := [some (mR 108), none, some (mI a2), some (mI a3), none, none, some (mI l6), some (mI l7), some (mI l8), some (mI x6)]) (by decide) rfl ?_
    refine z_iload (M := M_X12_year) 162 dX12_year_162 rfl ?_
    refine z_iload (M := M_X12_year) 164 dX12_year_164 rfl ?_
    refine z_icmp_le (M := M_X12_year) 166 dX12_year_166 185 rfl (fun c7 => ?_) (fun c7 => ?_)
    · refine z_iincN (M := M_X12_year) 185 dX12_year_185 (ls' := [some (mR 108), none, some (mI a2), some (mI a3), none, none, some (mI l6), some (mI l7), some (mI (l8 + 1)), some (mI x6)]) (by decide) rfl (by (unfold m_32; decide)) (by omega) (by omega) rfl ?_
      refine z_goto (M := M_X12_year) 188 dX12_year_188 126 rfl ?_
      exact z_mask [true, false, true, true, false, false, true, true, true, false] rfl (ih.2.2 l6 l7 (l8 + 1) h2 G2 R2 (by omega) (by omega) (by omega) (by omega) (by omega) (by omega) (by omega) (by omega) (by omega) (by omega) (by omega) (by omega) (by omega))
    · refine z_iload (M := M_X12_year) 169 dX12_year_169 rfl ?_
      refine z_istore (M := M_X12_year) 171 dX12_year_171 (ls' := [some (mR 108), none, some (mI a2), some (mI a3), none, none, some (mI x6), some (mI l7), some (mI l8), some (mI x6)]) (by decide) rfl ?_
      refine z_aload_n (M := M_X12_year) 173 dX12_year_173 rfl ?_
      refine z_iload (M := M_X12_year) 174 dX12_year_174 rfl ?_
      refine z_putIH (M := M_X12_year) 176 dX12_year_176 p_X12_515 o_108 rfl (u_108_61 G2 (by omega) (by omega)) (R2.up rfl) (fun h3 E3 G3 R3 => ?_)
      refine z_aload_n (M := M_X12_year) 179 dX12_year_179 rfl ?_
      refine z_iload (M := M_X12_year) 180 dX12_year_180 rfl ?_
      refine z_putIH (M := M_X12_year) 182 dX12_year_182 p_X12_518 o_108 rfl (u_108_62 G3 (by omega) (by omega)) (R3.up rfl) (fun h4 E4 G4 R4 => ?_)
      refine z_iincN (M := M_X12_year) 185 dX12_year_185 (ls' := [some (mR 108), none, some (mI a2), some (mI a3), none, none, some (mI x6), some (mI l7), some (mI (l8 + 1)), some (mI x6)]) (by decide) rfl (by (unfold m_32; decide)) (by omega) (by omega) rfl ?_
      refine z_goto (M := M_X12_year) 188 dX12_year_188 126 rfl ?_
      exact z_mask [true, false, true, true, false, false, true, true, true, false] rfl (ih.2.2 x6 l7 (l8 + 1) h4 G4 R4 (by omega) (by omega) (by omega) (by omega) (by omega) (by omega) (by omega) (by omega) (by omega) (by omega) (by omega) (by omega) (by omega))
theorem a_X12_year (h0 : m_H) (a1 a2 a3 : Int) (G0 : GI h0) : ∀ n, q_X12_year h0 a1 a2 a3 n := by
  intro n
  induction n with
  | zero => unfold q_X12_year; refine ⟨?_, ?_, ?_⟩ <;> (intros; omega)
  | succ n ih => exact ⟨s_X12_year_49 h0 a1 a2 a3 G0 n ih, s_X12_year_113 h0 a1 a2 a3 G0 n ih, s_X12_year_126 h0 a1 a2 a3 G0 n ih⟩
set_option maxHeartbeats 4000000 in
set_option maxRecDepth 100000 in
theorem c_X12_year (h0 : m_H) (a1 a2 a3 : Int) (G0 : GI h0) : m_CI M_X12_year [mR 108, mI a1, mI a2, mI a3] h0 (P_X12_year h0 a1 a2 a3) := by
  refine m_CI_of ⟨by decide, rfl, by simp [m_arg, m_isL, M_X12_year], ⟨rfl, rfl⟩, rfl, rfl⟩ (ls := [some (mR 108), some (mI a1), some (mI a2), some (mI a3), none, none, none, none, none, none]) rfl ?_
  have ih := a_X12_year h0 a1 a2 a3 G0 2284
  refine z_ok (fun _ _ ok => ?_)
  have oa1 : m_32 a1 := ok 1 _ rfl
  unfold m_32 at oa1
  have oa2 : m_32 a2 := ok 2 _ rfl
  unfold m_32 at oa2
  have oa3 : m_32 a3 := ok 3 _ rfl
  unfold m_32 at oa3
  refine z_aload_n (M := M_X12_year) 0 dX12_year_0 rfl ?_
  refine z_iconst (M := M_X12_year) 1 dX12_year_1 ?_
  refine z_putIH (M := M_X12_year) 2 dX12_year_2 p_X12_133 o_108 rfl (u_108_0 G0) ((FR.rf (cs := [109, 147]) (ss := [(108, 0), (108, 1), (108, 60), (108, 61), (108, 62)]) (h := h0)).up rfl) (fun h1 E1 G1 R1 => ?_)
  refine z_iload_n (M := M_X12_year) 5 dX12_year_5 rfl ?_
  refine z_i2l (M := M_X12_year) 6 dX12_year_6 ?_
  refine z_lconst (M := M_X12_year) 7 dX12_year_7 (v := 0) ?_
  refine z_ldc2 (M := M_X12_year) 8 dX12_year_8 k_X12_241 ?_
  refine z_sI (M := M_X12_year) 11 dX12_year_11 t_X12_in l_X12_143 (m_rr_of rfl) (rest := []) (c_X12_in h1 a1 0 1000000 G1) rfl rfl (Nat.le_of_ble_eq_true rfl) ⟨rfl, rfl⟩ (fun x1 h2 qx1 => ?_)
  obtain ⟨rfl, ⟨rfl, cx1⟩ | ⟨rfl, cx1⟩⟩ := qx1
  · refine z_if_eq_F (M := M_X12_year) 14 dX12_year_14 36 rfl (by omega) ?_
    refine z_iload_n (M := M_X12_year) 17 dX12_year_17 rfl ?_
    refine z_sI (M := M_X12_year) 18 dX12_year_18 t_X12_isThing l_X12_166 (m_rr_of rfl) (rest := []) (c_X12_isThing h1 a2 G1) rfl rfl (Nat.le_of_ble_eq_true rfl) ⟨rfl, rfl⟩ (fun x2 h3 qx2 => ?_)
    obtain ⟨rfl, ⟨rfl, cx2⟩ | ⟨rfl, cx2⟩⟩ := qx2
    · refine z_if_eq_F (M := M_X12_year) 21 dX12_year_21 36 rfl (by omega) ?_
      refine z_iload_n (M := M_X12_year) 24 dX12_year_24 rfl ?_
      refine z_i2l (M := M_X12_year) 25 dX12_year_25 ?_
      refine z_lconst (M := M_X12_year) 26 dX12_year_26 (v := 1) ?_
      refine z_ldc2 (M := M_X12_year) 27 dX12_year_27 k_X12_180 ?_
      refine z_sI (M := M_X12_year) 30 dX12_year_30 t_X12_in l_X12_143 (m_rr_of rfl) (rest := []) (c_X12_in h1 a3 1 99 G1) rfl rfl (Nat.le_of_ble_eq_true rfl) ⟨rfl, rfl⟩ (fun x3 h4 qx3 => ?_)
      obtain ⟨rfl, ⟨rfl, cx3⟩ | ⟨rfl, cx3⟩⟩ := qx3
      · refine z_if_ne_T (M := M_X12_year) 33 dX12_year_33 42 rfl (by omega) ?_
        refine z_iload_n (M := M_X12_year) 42 dX12_year_42 rfl ?_
        refine z_i2l (M := M_X12_year) 43 dX12_year_43 ?_
        refine z_lstore (M := M_X12_year) 44 dX12_year_44 (ls' := [some (mR 108), some (mI a1), some (mI a2), some (mI a3), some (mJ a1), none, none, none, none, none]) (by decide) rfl ?_
        refine z_iconst (M := M_X12_year) 46 dX12_year_46 ?_
        refine z_istore (M := M_X12_year) 47 dX12_year_47 (ls' := [some (mR 108), some (mI a1), some (mI a2), some (mI a3), some (mJ a1), none, some (mI 0), none, none, none]) (by decide) rfl ?_
        exact z_mask [true, false, true, true, true, false, true, false, false, false] rfl (ih.1 a1 0 h1 G1 R1 (by omega) (by omega) (by omega) (by omega) (by omega) (by omega) (by omega) (by omega) (by omega) (by omega) (by omega))
      · refine z_if_ne_F (M := M_X12_year) 33 dX12_year_33 42 rfl (by omega) ?_
        refine z_aload_n (M := M_X12_year) 36 dX12_year_36 rfl ?_
        refine z_iconst (M := M_X12_year) 37 dX12_year_37 ?_
        refine z_vI (M := M_X12_year) 38 dX12_year_38 t_X12_answer l_X12_147 (m_rr_of rfl) (rest := []) (c_X12_answer h1 (-1) G1 ⟨by omega, by omega⟩) o_108 rfl rfl rfl (Nat.le_of_ble_eq_true rfl) ⟨rfl, rfl⟩ (fun x4 h5 qx4 => ?_)
        obtain ⟨G5, S5, rfl⟩ := qx4
        have R5 := R1.call S5 (by decide +kernel)
        exact z_retI (M := M_X12_year) 41 dX12_year_41 rfl ⟨G5, R5, by omega, by omega⟩
    · refine z_if_eq_T (M := M_X12_year) 21 dX12_year_21 36 rfl (by omega) ?_
      refine z_aload_n (M := M_X12_year) 36 dX12_year_36 rfl ?_
      refine z_iconst (M := M_X12_year) 37 dX12_year_37 ?_
      refine z_vI (M := M_X12_year) 38 dX12_year_38 t_X12_answer l_X12_147 (m_rr_of rfl) (rest := []) (c_X12_answer h1 (-1) G1 ⟨by omega, by omega⟩) o_108 rfl rfl rfl (Nat.le_of_ble_eq_true rfl) ⟨rfl, rfl⟩ (fun x5 h6 qx5 => ?_)
      obtain ⟨G6, S6, rfl⟩ := qx5
      have R6 := R1.call S6 (by decide +kernel)
      exact z_retI (M := M_X12_year) 41 dX12_year_41 rfl ⟨G6, R6, by omega, by omega⟩
  · refine z_if_eq_T (M := M_X12_year) 14 dX12_year_14 36 rfl (by omega) ?_
    refine z_aload_n (M := M_X12_year) 36 dX12_year_36 rfl ?_
    refine z_iconst (M := M_X12_year) 37 dX12_year_37 ?_
    refine z_vI (M := M_X12_year) 38 dX12_year_38 t_X12_answer l_X12_147 (m_rr_of rfl) (rest := []) (c_X12_answer h1 (-1) G1 ⟨by omega, by omega⟩) o_108 rfl rfl rfl (Nat.le_of_ble_eq_true rfl) ⟨rfl, rfl⟩ (fun x6 h7 qx6 => ?_)
    obtain ⟨G7, S7, rfl⟩ := qx6
    have R7 := R1.call S7 (by decide +kernel)
    exact z_retI (M := M_X12_year) 41 dX12_year_41 rfl ⟨G7, R7, by omega, by omega⟩
abbrev P_X12_findAsked (h0 : m_H) : Int → m_H → Prop := fun x h' => GI h' ∧ FR [122, 123, 146] [(108, 58)] h0 h' ∧ 0 ≤ x ∧ x ≤ 1
def q_X12_findAsked (h0 : m_H) (n : Nat) : Prop := (∀ (l1 : Int) (h : m_H), GI h → FR [122, 123, 146] [(108, 58)] h0 h → 0 ≤ l1 → l1 ≤ 32 → 53 * (32 - l1) + (52) ≤ (n : Int) → m_Z oF M_X12_findAsked 11 [some (mR 108), some (mI l1), none, none] [] h (m_QI (P_X12_findAsked h0))) ∧ (∀ (l1 l2 l3 : Int) (h : m_H), GI h → FR [122, 123, 146] [(108, 58)] h0 h → 0 ≤ l1 → l1 ≤ 31 → 0 ≤ l2 → l2 ≤ 1 → 0 ≤ l3 → l3 ≤ 24 → 53 * (32 - l1) + 2 * (24 - l3) + (1) ≤ (n : Int) → m_Z oF M_X12_findAsked 21 [some (mR 108), some (mI l1), some (mI l2), some (mI l3)] [] h (m_QI (P_X12_findAsked h0)))
set_option maxHeartbeats 4000000 in
set_option maxRecDepth 100000 in
theorem s_X12_findAsked_11 (h0 : m_H) (G0 : GI h0) (n : Nat) (ih : q_X12_findAsked h0 n) : ∀ (l1 : Int) (h : m_H), GI h → FR [122, 123, 146] [(108, 58)] h0 h → 0 ≤ l1 → l1 ≤ 32 → 53 * (32 - l1) + (52) ≤ ((n + 1 : Nat) : Int) → m_Z oF M_X12_findAsked 11 [some (mR 108), some (mI l1), none, none] [] h (m_QI (P_X12_findAsked h0)) := by
  intro l1 h G R v0 v1 hr
  refine z_iload_n (M := M_X12_findAsked) 11 dX12_findAsked_11 rfl ?_
  refine z_bipush (M := M_X12_findAsked) 12 dX12_findAsked_12 ?_
  refine z_icmp_ge (M := M_X12_findAsked) 14 dX12_findAsked_14 120 rfl (fun c1 => ?_) (fun c1 => ?_)
  · refine z_iconst (M := M_X12_findAsked) 120 dX12_findAsked_120 ?_
    exact z_retZ (M := M_X12_findAsked) 121 dX12_findAsked_121 rfl (by omega) ⟨G, R, by omega, by omega⟩
  · refine z_iconst (M := M_X12_findAsked) 17 dX12_findAsked_17 ?_
    refine z_istore_n (M := M_X12_findAsked) 18 dX12_findAsked_18 (ls' := [some (mR 108), some (mI l1), some (mI 0), none]) (by decide) rfl ?_
    refine z_iconst (M := M_X12_findAsked) 19 dX12_findAsked_19 ?_
    refine z_istore_n (M := M_X12_findAsked) 20 dX12_findAsked_20 (ls' := [some (mR 108), some (mI l1), some (mI 0), some (mI 0)]) (by decide) rfl ?_
    exact z_mask [true, true, true, true] rfl (ih.2 l1 0 0 h G R (by omega) (by omega) (by omega) (by omega) (by omega) (by omega) (by omega))
set_option maxHeartbeats 4000000 in
set_option maxRecDepth 100000 in
theorem s_X12_findAsked_21 (h0 : m_H) (G0 : GI h0) (n : Nat) (ih : q_X12_findAsked h0 n) : ∀ (l1 l2 l3 : Int) (h : m_H), GI h → FR [122, 123, 146] [(108, 58)] h0 h → 0 ≤ l1 → l1 ≤ 31 → 0 ≤ l2 → l2 ≤ 1 → 0 ≤ l3 → l3 ≤ 24 → 53 * (32 - l1) + 2 * (24 - l3) + (1) ≤ ((n + 1 : Nat) : Int) → m_Z oF M_X12_findAsked 21 [some (mR 108), some (mI l1), some (mI l2), some (mI l3)] [] h (m_QI (P_X12_findAsked h0)) := by
  intro l1 l2 l3 h G R v0 v1 v2 v3 v4 v5 hr
  refine z_iload_n (M := M_X12_findAsked) 21 dX12_findAsked_21 rfl ?_
  refine z_aload_n (M := M_X12_findAsked) 22 dX12_findAsked_22 rfl ?_
  refine z_getR (M := M_X12_findAsked) 23 dX12_findAsked_23 f_X12_13 o_108 rfl (g_108_3 G) ?_
  refine z_iconst (M := M_X12_findAsked) 26 dX12_findAsked_26 ?_
  refine z_ialdG (M := M_X12_findAsked) 27 dX12_findAsked_27 o_110 (by omega) (by omega) (gw_0 G) (fun x1 ex1 ax1 bx1 => ?_)
  refine z_icmp_ge (M := M_X12_findAsked) 28 dX12_findAsked_28 67 rfl (fun c2 => ?_) (fun c2 => ?_)
  · refine z_iload_n (M := M_X12_findAsked) 67 dX12_findAsked_67 rfl ?_
    refine z_if_eq (M := M_X12_findAsked) 68 dX12_findAsked_68 114 rfl (fun c3 => ?_) (fun c3 => ?_)
    · refine z_iincN (M := M_X12_findAsked) 114 dX12_findAsked_114 (ls' := [some (mR 108), some (mI (l1 + 1)), some (mI l2), some (mI l3)]) (by decide) rfl (by (unfold m_32; decide)) (by omega) (by omega) rfl ?_
      refine z_goto (M := M_X12_findAsked) 117 dX12_findAsked_117 11 rfl ?_
      exact z_mask [true, true, false, false] rfl (ih.1 (l1 + 1) h G R (by omega) (by omega) (by omega))
    · refine z_aload_n (M := M_X12_findAsked) 71 dX12_findAsked_71 rfl ?_
      refine z_getR (M := M_X12_findAsked) 72 dX12_findAsked_72 f_X12_13 o_108 rfl (g_108_3 G) ?_
      refine z_bipush (M := M_X12_findAsked) 75 dX12_findAsked_75 ?_
      refine z_iload_n (M := M_X12_findAsked) 77 dX12_findAsked_77 rfl ?_
      refine z_iaddN (M := M_X12_findAsked) 78 dX12_findAsked_78 (by omega) (by omega) ?_
      refine z_ialdG (M := M_X12_findAsked) 79 dX12_findAsked_79 o_110 (by omega) (by omega) (gw_w G (by omega) (by omega)) (fun x4 ex4 ax4 bx4 => ?_)
      refine z_iconst (M := M_X12_findAsked) 80 dX12_findAsked_80 ?_
      refine z_icmp_ne (M := M_X12_findAsked) 81 dX12_findAsked_81 114 rfl (fun c5 => ?_) (fun c5 => ?_)
      · refine z_iincN (M := M_X12_findAsked) 114 dX12_findAsked_114 (ls' := [some (mR 108), some (mI (l1 + 1)), some (mI l2), some (mI l3)]) (by decide) rfl (by (unfold m_32; decide)) (by omega) (by omega) rfl ?_
        refine z_goto (M := M_X12_findAsked) 117 dX12_findAsked_117 11 rfl ?_
        exact z_mask [true, true, false, false] rfl (ih.1 (l1 + 1) h G R (by omega) (by omega) (by omega))
      · refine z_aload_n (M := M_X12_findAsked) 84 dX12_findAsked_84 rfl ?_
        refine z_getIG (M := M_X12_findAsked) 85 dX12_findAsked_85 f_X12_487 o_108 (by decide) (g_108_58 G) (fun x6 ex6 ax6 bx6 => ?_)
        refine z_iconst (M := M_X12_findAsked) 88 dX12_findAsked_88 ?_
        refine z_icmp_ne (M := M_X12_findAsked) 89 dX12_findAsked_89 94 rfl (fun c7 => ?_) (fun c7 => ?_)
        · refine z_aload_n (M := M_X12_findAsked) 94 dX12_findAsked_94 rfl ?_
          refine z_getR (M := M_X12_findAsked) 95 dX12_findAsked_95 f_X12_127 o_108 rfl (g_108_57 G) ?_
          refine z_aload_n (M := M_X12_findAsked) 98 dX12_findAsked_98 rfl ?_
          refine z_getIE (M := M_X12_findAsked) 99 dX12_findAsked_99 f_X12_487 o_108 (by decide) ex6 ?_
          refine z_iload_n (M := M_X12_findAsked) 102 dX12_findAsked_102 rfl ?_
          refine z_iastH (M := M_X12_findAsked) 103 dX12_findAsked_103 o_146 (by omega) (by omega) (u_146 G (by omega) (by omega)) (R.up rfl) (fun h1 E1 G1 R1 => ?_)
          refine z_aload_n (M := M_X12_findAsked) 104 dX12_findAsked_104 rfl ?_
          refine z_dup (M := M_X12_findAsked) 105 dX12_findAsked_105 rfl ?_
          refine z_getIE (M := M_X12_findAsked) 106 dX12_findAsked_106 f_X12_487 o_108 (by decide) ((upN E1 (fun q => absurd q.1 (by decide))).trans ex6) ?_
          refine z_iconst (M := M_X12_findAsked) 109 dX12_findAsked_109 ?_
          refine z_iaddN (M := M_X12_findAsked) 110 dX12_findAsked_110 (by omega) (by omega) ?_
          refine z_putIH (M := M_X12_findAsked) 111 dX12_findAsked_111 p_X12_487 o_108 rfl (u_108_58 G1 (by omega) (by omega)) (R1.up rfl) (fun h2 E2 G2 R2 => ?_)
          refine z_iincN (M := M_X12_findAsked) 114 dX12_findAsked_114 (ls' := [some (mR 108), some (mI (l1 + 1)), some (mI l2), some (mI l3)]) (by decide) rfl (by (unfold m_32; decide)) (by omega) (by omega) rfl ?_
          refine z_goto (M := M_X12_findAsked) 117 dX12_findAsked_117 11 rfl ?_
          exact z_mask [true, true, false, false] rfl (ih.1 (l1 + 1) h2 G2 R2 (by omega) (by omega) (by omega))
        · refine z_iconst (M := M_X12_findAsked) 92 dX12_findAsked_92 ?_
          exact z_retZ (M := M_X12_findAsked) 93 dX12_findAsked_93 rfl (by omega) ⟨G, R, by omega, by omega⟩
  · refine z_iload_n (M := M_X12_findAsked) 31 dX12_findAsked_31 rfl ?_
    refine z_if_ne (M := M_X12_findAsked) 32 dX12_findAsked_32 55 rfl (fun c8 => ?_) (fun c8 => ?_)
    · refine z_iconst (M := M_X12_findAsked) 55 dX12_findAsked_55 ?_
      refine z_goto (M := M_X12_findAsked) 56 dX12_findAsked_56 60 rfl ?_
      refine z_istore_n (M := M_X12_findAsked) 60 dX12_findAsked_60 (ls' := [some (mR 108), some (mI l1), some (mI 1), some (mI l3)]) (by decide) rfl ?_
      refine z_iincN (M := M_X12_findAsked) 61 dX12_findAsked_61 (ls' := [some (mR 108), some (mI l1), some (mI 1), some (mI (l3 + 1))]) (by decide) rfl (by (unfold m_32; decide)) (by omega) (by omega) rfl ?_
      refine z_goto (M := M_X12_findAsked) 64 dX12_findAsked_64 21 rfl ?_
      exact z_mask [true, true, true, true] rfl (ih.2 l1 1 (l3 + 1) h G R (by omega) (by omega) (by omega) (by omega) (by omega) (by omega) (by omega))
    · refine z_aload_n (M := M_X12_findAsked) 35 dX12_findAsked_35 rfl ?_
      refine z_iload_n (M := M_X12_findAsked) 36 dX12_findAsked_36 rfl ?_
      refine z_iconst (M := M_X12_findAsked) 37 dX12_findAsked_37 ?_
      refine z_vI (M := M_X12_findAsked) 38 dX12_findAsked_38 t_X12_ofEntry l_X12_195 (m_rr_of rfl) (rest := []) (c_X12_ofEntry h l3 4 G ⟨by omega, by omega⟩ ⟨by omega, by omega⟩) o_108 rfl rfl rfl (Nat.le_of_ble_eq_true rfl) ⟨rfl, rfl⟩ (fun x9 h3 qx9 => ?_)
      obtain ⟨rfl, fx9⟩ := qx9
      have gx9 := gw_e4 G (i := (80 + 5 * l3 + 4)) (e := l3) (by omega) (by omega) (by omega)
      rw [fx9] at gx9
      refine z_iconst (M := M_X12_findAsked) 41 dX12_findAsked_41 ?_
      refine z_icmp_ne (M := M_X12_findAsked) 42 dX12_findAsked_42 59 rfl (fun c10 => ?_) (fun c10 => ?_)
      · refine z_iconst (M := M_X12_findAsked) 59 dX12_findAsked_59 ?_
        refine z_istore_n (M := M_X12_findAsked) 60 dX12_findAsked_60 (ls' := [some (mR 108), some (mI l1), some (mI 0), some (mI l3)]) (by decide) rfl ?_
        refine z_iincN (M := M_X12_findAsked) 61 dX12_findAsked_61 (ls' := [some (mR 108), some (mI l1), some (mI 0), some (mI (l3 + 1))]) (by decide) rfl (by (unfold m_32; decide)) (by omega) (by omega) rfl ?_
        refine z_goto (M := M_X12_findAsked) 64 dX12_findAsked_64 21 rfl ?_
        exact z_mask [true, true, true, true] rfl (ih.2 l1 0 (l3 + 1) h G R (by omega) (by omega) (by omega) (by omega) (by omega) (by omega) (by omega))
      · refine z_aload_n (M := M_X12_findAsked) 45 dX12_findAsked_45 rfl ?_
        refine z_iload_n (M := M_X12_findAsked) 46 dX12_findAsked_46 rfl ?_
        refine z_iconst (M := M_X12_findAsked) 47 dX12_findAsked_47 ?_
        refine z_vI (M := M_X12_findAsked) 48 dX12_findAsked_48 t_X12_ofEntry l_X12_195 (m_rr_of rfl) (rest := []) (c_X12_ofEntry h l3 1 G ⟨by omega, by omega⟩ ⟨by omega, by omega⟩) o_108 rfl rfl rfl (Nat.le_of_ble_eq_true rfl) ⟨rfl, rfl⟩ (fun x11 h4 qx11 => ?_)
        obtain ⟨rfl, fx11⟩ := qx11
        have gx11 := gw_e1 G (i := (80 + 5 * l3 + 1)) (e := l3) (by omega) (by omega) (by omega)
        rw [fx11] at gx11
        refine z_iload_n (M := M_X12_findAsked) 51 dX12_findAsked_51 rfl ?_
        refine z_icmp_ne (M := M_X12_findAsked) 52 dX12_findAsked_52 59 rfl (fun c12 => ?_) (fun c12 => ?_)
        · refine z_iconst (M := M_X12_findAsked) 59 dX12_findAsked_59 ?_
          refine z_istore_n (M := M_X12_findAsked) 60 dX12_findAsked_60 (ls' := [some (mR 108), some (mI l1), some (mI 0), some (mI l3)]) (by decide) rfl ?_
          refine z_iincN (M := M_X12_findAsked) 61 dX12_findAsked_61 (ls' := [some (mR 108), some (mI l1), some (mI 0), some (mI (l3 + 1))]) (by decide) rfl (by (unfold m_32; decide)) (by omega) (by omega) rfl ?_
          refine z_goto (M := M_X12_findAsked) 64 dX12_findAsked_64 21 rfl ?_
          exact z_mask [true, true, true, true] rfl (ih.2 l1 0 (l3 + 1) h G R (by omega) (by omega) (by omega) (by omega) (by omega) (by omega) (by omega))
        · refine z_iconst (M := M_X12_findAsked) 55 dX12_findAsked_55 ?_
          refine z_goto (M := M_X12_findAsked) 56 dX12_findAsked_56 60 rfl ?_
          refine z_istore_n (M := M_X12_findAsked) 60 dX12_findAsked_60 (ls' := [some (mR 108), some (mI l1), some (mI 1), some (mI l3)]) (by decide) rfl ?_
          refine z_iincN (M := M_X12_findAsked) 61 dX12_findAsked_61 (ls' := [some (mR 108), some (mI l1), some (mI 1), some (mI (l3 + 1))]) (by decide) rfl (by (unfold m_32; decide)) (by omega) (by omega) rfl ?_
          refine z_goto (M := M_X12_findAsked) 64 dX12_findAsked_64 21 rfl ?_
          exact z_mask [true, true, true, true] rfl (ih.2 l1 1 (l3 + 1) h G R (by omega) (by omega) (by omega) (by omega) (by omega) (by omega) (by omega))
theorem a_X12_findAsked (h0 : m_H) (G0 : GI h0) : ∀ n, q_X12_findAsked h0 n := by
  intro n
  induction n with
  | zero => unfold q_X12_findAsked; refine ⟨?_, ?_⟩ <;> (intros; omega)
  | succ n ih => exact ⟨s_X12_findAsked_11 h0 G0 n ih, s_X12_findAsked_21 h0 G0 n ih⟩
set_option maxHeartbeats 4000000 in
set_option maxRecDepth 100000 in
theorem c_X12_findAsked (h0 : m_H) (G0 : GI h0) : m_CI M_X12_findAsked [mR 108] h0 (P_X12_findAsked h0) := by
  refine m_CI_of ⟨by decide, rfl, by simp [m_arg, m_isL, M_X12_findAsked], ⟨rfl, rfl⟩, rfl, rfl⟩ (ls := [some (mR 108), none, none, none]) rfl ?_
  have ih := a_X12_findAsked h0 G0 1755
  refine z_aload_n (M := M_X12_findAsked) 0 dX12_findAsked_0 rfl ?_
  refine z_vV (M := M_X12_findAsked) 1 dX12_findAsked_1 t_X12_asIs l_X12_367 (m_rr_of rfl) (rest := []) (c_X12_asIs h0 G0) o_108 rfl rfl rfl (Nat.le_of_ble_eq_true rfl) ⟨rfl, rfl⟩ (fun h1 qx1 => ?_)
  obtain ⟨G1, S1⟩ := qx1
  have R1 := (FR.rf (cs := [122, 123, 146]) (ss := [(108, 58)]) (h := h0)).call S1 (by decide +kernel)
  refine z_aload_n (M := M_X12_findAsked) 4 dX12_findAsked_4 rfl ?_
  refine z_iconst (M := M_X12_findAsked) 5 dX12_findAsked_5 ?_
  refine z_putIH (M := M_X12_findAsked) 6 dX12_findAsked_6 p_X12_487 o_108 rfl (u_108_58 G1 (by omega) (by omega)) (R1.up rfl) (fun h2 E2 G2 R2 => ?_)
  refine z_iconst (M := M_X12_findAsked) 9 dX12_findAsked_9 ?_
  refine z_istore_n (M := M_X12_findAsked) 10 dX12_findAsked_10 (ls' := [some (mR 108), some (mI 0), none, none]) (by decide) rfl ?_
  exact z_mask [true, true, false, false] rfl (ih.1 0 h2 G2 R2 (by omega) (by omega) (by omega))
abbrev P_X12_whichOf (h0 : m_H) (a1 : Int) : Int → m_H → Prop := fun x h' => GI h' ∧ FR [] [] h0 h' ∧ (-1) ≤ x ∧ x ≤ 2
def q_X12_whichOf (h0 : m_H) (a1 : Int) (n : Nat) : Prop := (∀ (l2 l3 : Int) (h : m_H), GI h → FR [] [] h0 h → (-1) ≤ l2 → l2 ≤ 2 → 0 ≤ l3 → l3 ≤ 3 → (-2147483648) ≤ a1 → a1 ≤ 2147483647 → 2 * (3 - l3) + (1) ≤ (n : Int) → m_Z oF M_X12_whichOf 4 [some (mR 108), some (mI a1), some (mI l2), some (mI l3)] [] h (m_QI (P_X12_whichOf h0 a1)))
set_option maxHeartbeats 4000000 in
set_option maxRecDepth 100000 in
theorem s_X12_whichOf_4 (h0 : m_H) (a1 : Int) (G0 : GI h0) (n : Nat) (ih : q_X12_whichOf h0 a1 n) : ∀ (l2 l3 : Int) (h : m_H), GI h → FR [] [] h0 h → (-1) ≤ l2 → l2 ≤ 2 → 0 ≤ l3 → l3 ≤ 3 → (-2147483648) ≤ a1 → a1 ≤ 2147483647 → 2 * (3 - l3) + (1) ≤ ((n + 1 : Nat) : Int) → m_Z oF M_X12_whichOf 4 [some (mR 108), some (mI a1), some (mI l2), some (mI l3)] [] h (m_QI (P_X12_whichOf h0 a1)) := by
  intro l2 l3 h G R v0 v1 v2 v3 v4 v5 hr
  refine z_iload_n (M := M_X12_whichOf) 4 dX12_whichOf_4 rfl ?_
  refine z_aload_n (M := M_X12_whichOf) 5 dX12_whichOf_5 rfl ?_
  refine z_getIG (M := M_X12_whichOf) 6 dX12_whichOf_6 f_X12_487 o_108 (by decide) (g_108_58 G) (fun x1 ex1 ax1 bx1 => ?_)
  refine z_icmp_ge (M := M_X12_whichOf) 9 dX12_whichOf_9 34 rfl (fun c2 => ?_) (fun c2 => ?_)
  · refine z_iload_n (M := M_X12_whichOf) 34 dX12_whichOf_34 rfl ?_
    exact z_retI (M := M_X12_whichOf) 35 dX12_whichOf_35 rfl ⟨G, R, by omega, by omega⟩
  · refine z_aload_n (M := M_X12_whichOf) 12 dX12_whichOf_12 rfl ?_
    refine z_getR (M := M_X12_whichOf) 13 dX12_whichOf_13 f_X12_127 o_108 rfl (g_108_57 G) ?_
    refine z_iload_n (M := M_X12_whichOf) 16 dX12_whichOf_16 rfl ?_
    refine z_ialdG (M := M_X12_whichOf) 17 dX12_whichOf_17 o_146 (by omega) (by omega) (g_146 G (by omega)) (fun x3 ex3 ax3 bx3 => ?_)
    refine z_iload_n (M := M_X12_whichOf) 18 dX12_whichOf_18 rfl ?_
    refine z_icmp_ne (M := M_X12_whichOf) 19 dX12_whichOf_19 26 rfl (fun c4 => ?_) (fun c4 => ?_)
    · refine z_iload_n (M := M_X12_whichOf) 26 dX12_whichOf_26 rfl ?_
      refine z_istore_n (M := M_X12_whichOf) 27 dX12_whichOf_27 (ls' := [some (mR 108), some (mI a1), some (mI l2), some (mI l3)]) (by decide) rfl ?_
      refine z_iincN (M := M_X12_whichOf) 28 dX12_whichOf_28 (ls' := [some (mR 108), some (mI a1), some (mI l2), some (mI (l3 + 1))]) (by decide) rfl (by (unfold m_32; decide)) (by omega) (by omega) rfl ?_
      refine z_goto (M := M_X12_whichOf) 31 dX12_whichOf_31 4 rfl ?_
      exact z_mask [true, true, true, true] rfl (ih l2 (l3 + 1) h G R (by omega) (by omega) (by omega) (by omega) (by omega) (by omega) (by omega))
    · refine z_iload_n (M := M_X12_whichOf) 22 dX12_whichOf_22 rfl ?_
      refine z_goto (M := M_X12_whichOf) 23 dX12_whichOf_23 27 rfl ?_
      refine z_istore_n (M := M_X12_whichOf) 27 dX12_whichOf_27 (ls' := [some (mR 108), some (mI a1), some (mI l3), some (mI l3)]) (by decide) rfl ?_
      refine z_iincN (M := M_X12_whichOf) 28 dX12_whichOf_28 (ls' := [some (mR 108), some (mI a1), some (mI l3), some (mI (l3 + 1))]) (by decide) rfl (by (unfold m_32; decide)) (by omega) (by omega) rfl ?_
      refine z_goto (M := M_X12_whichOf) 31 dX12_whichOf_31 4 rfl ?_
      exact z_mask [true, true, true, true] rfl (ih l3 (l3 + 1) h G R (by omega) (by omega) (by omega) (by omega) (by omega) (by omega) (by omega))
theorem a_X12_whichOf (h0 : m_H) (a1 : Int) (G0 : GI h0) : ∀ n, q_X12_whichOf h0 a1 n := by
  intro n
  induction n with
  | zero => unfold q_X12_whichOf; intros; omega
  | succ n ih => exact s_X12_whichOf_4 h0 a1 G0 n ih
set_option maxHeartbeats 4000000 in
set_option maxRecDepth 100000 in
theorem c_X12_whichOf (h0 : m_H) (a1 : Int) (G0 : GI h0) : m_CI M_X12_whichOf [mR 108, mI a1] h0 (P_X12_whichOf h0 a1) := by
  refine m_CI_of ⟨by decide, rfl, by simp [m_arg, m_isL, M_X12_whichOf], ⟨rfl, rfl⟩, rfl, rfl⟩ (ls := [some (mR 108), some (mI a1), none, none]) rfl ?_
  have ih := a_X12_whichOf h0 a1 G0 14
  refine z_ok (fun _ _ ok => ?_)
  have oa1 : m_32 a1 := ok 1 _ rfl
  unfold m_32 at oa1
  refine z_iconst (M := M_X12_whichOf) 0 dX12_whichOf_0 ?_
  refine z_istore_n (M := M_X12_whichOf) 1 dX12_whichOf_1 (ls' := [some (mR 108), some (mI a1), some (mI (-1)), none]) (by decide) rfl ?_
  refine z_iconst (M := M_X12_whichOf) 2 dX12_whichOf_2 ?_
  refine z_istore_n (M := M_X12_whichOf) 3 dX12_whichOf_3 (ls' := [some (mR 108), some (mI a1), some (mI (-1)), some (mI 0)]) (by decide) rfl ?_
  exact z_mask [true, true, true, true] rfl (ih (-1) 0 h0 G0 (FR.rf (cs := []) (ss := []) (h := h0)) (by omega) (by omega) (by omega) (by omega) (by omega) (by omega) (by omega))
