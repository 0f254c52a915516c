abbrev P_X12_isShorter (h0 : m_H) (a1 a2 : Int) : Int → m_H → Prop := fun x h' => GI h' ∧ FR [] [] h0 h' ∧ 0 ≤ x ∧ x ≤ 1
def q_X12_isShorter (h0 : m_H) (a1 a2 : Int) (n : Nat) : Prop := (∀ (l3 : Int) (h : m_H), GI h → FR [] [] h0 h → 0 ≤ l3 → l3 ≤ 6 → (-2147483648) ≤ a1 → a1 ≤ 2147483647 → (-2147483648) ≤ a2 → a2 ≤ 2147483647 → 2 * (6 - l3) + (1) ≤ (n : Int) → m_Z oF M_X12_isShorter 2 [some (mR 108), some (mI a1), some (mI a2), some (mI l3)] [] h (m_QI (P_X12_isShorter h0 a1 a2)))
set_option maxHeartbeats 4000000 in
set_option maxRecDepth 100000 in
theorem s_X12_isShorter_2 (h0 : m_H) (a1 a2 : Int) (G0 : GI h0) (n : Nat) (ih : q_X12_isShorter h0 a1 a2 n) : ∀ (l3 : Int) (h : m_H), GI h → FR [] [] h0 h → 0 ≤ l3 → l3 ≤ 6 → (-2147483648) ≤ a1 → a1 ≤ 2147483647 → (-2147483648) ≤ a2 → a2 ≤ 2147483647 → 2 * (6 - l3) + (1) ≤ ((n + 1 : Nat) : Int) → m_Z oF M_X12_isShorter 2 [some (mR 108), some (mI a1), some (mI a2), some (mI l3)] [] h (m_QI (P_X12_isShorter h0 a1 a2)) := by
  intro l3 h G R v0 v1 v2 v3 v4 v5 hr
  refine z_iload_n (M := M_X12_isShorter) 2 dX12_isShorter_2 rfl ?_
  refine z_aload_n (M := M_X12_isShorter) 3 dX12_isShorter_3 rfl ?_
  refine z_getR (M := M_X12_isShorter) 4 dX12_isShorter_4 f_X12_13 o_108 rfl (g_108_3 G) ?_
  refine z_iconst (M := M_X12_isShorter) 7 dX12_isShorter_7 ?_
  refine z_ialdG (M := M_X12_isShorter) 8 dX12_isShorter_8 o_110 (by omega) (by omega) (gw_1 G) (fun x1 ex1 ax1 bx1 => ?_)
  refine z_icmp_ge (M := M_X12_isShorter) 9 dX12_isShorter_9 52 rfl (fun c2 => ?_) (fun c2 => ?_)
  · refine z_iconst (M := M_X12_isShorter) 52 dX12_isShorter_52 ?_
    exact z_retZ (M := M_X12_isShorter) 53 dX12_isShorter_53 rfl (by omega) ⟨G, R, by omega, by omega⟩
  · refine z_aload_n (M := M_X12_isShorter) 12 dX12_isShorter_12 rfl ?_
    refine z_getR (M := M_X12_isShorter) 13 dX12_isShorter_13 f_X12_13 o_108 rfl (g_108_3 G) ?_
    refine z_bipush (M := M_X12_isShorter) 16 dX12_isShorter_16 ?_
    refine z_iconst (M := M_X12_isShorter) 18 dX12_isShorter_18 ?_
    refine z_iload_n (M := M_X12_isShorter) 19 dX12_isShorter_19 rfl ?_
    refine z_imulN (M := M_X12_isShorter) 20 dX12_isShorter_20 (by omega) (by omega) ?_
    refine z_iaddN (M := M_X12_isShorter) 21 dX12_isShorter_21 (by omega) (by omega) ?_
    refine z_ialdG (M := M_X12_isShorter) 22 dX12_isShorter_22 o_110 (by omega) (by omega) (gw_s G (by omega) (by omega)) (fun x3 ex3 ax3 bx3 => ?_)
    refine z_iload_n (M := M_X12_isShorter) 23 dX12_isShorter_23 rfl ?_
    refine z_icmp_ne (M := M_X12_isShorter) 24 dX12_isShorter_24 46 rfl (fun c4 => ?_) (fun c4 => ?_)
    · refine z_iincN (M := M_X12_isShorter) 46 dX12_isShorter_46 (ls' := [some (mR 108), some (mI a1), some (mI a2), some (mI (l3 + 1))]) (by decide) rfl (by (unfold m_32; decide)) (by omega) (by omega) rfl ?_
      refine z_goto (M := M_X12_isShorter) 49 dX12_isShorter_49 2 rfl ?_
      exact z_mask [true, true, true, true] rfl (ih (l3 + 1) h G R (by omega) (by omega) (by omega) (by omega) (by omega) (by omega) (by omega))
    · refine z_aload_n (M := M_X12_isShorter) 27 dX12_isShorter_27 rfl ?_
      refine z_getR (M := M_X12_isShorter) 28 dX12_isShorter_28 f_X12_13 o_108 rfl (g_108_3 G) ?_
      refine z_bipush (M := M_X12_isShorter) 31 dX12_isShorter_31 ?_
      refine z_iconst (M := M_X12_isShorter) 33 dX12_isShorter_33 ?_
      refine z_iload_n (M := M_X12_isShorter) 34 dX12_isShorter_34 rfl ?_
      refine z_imulN (M := M_X12_isShorter) 35 dX12_isShorter_35 (by omega) (by omega) ?_
      refine z_iaddN (M := M_X12_isShorter) 36 dX12_isShorter_36 (by omega) (by omega) ?_
      refine z_iconst (M := M_X12_isShorter) 37 dX12_isShorter_37 ?_
      refine z_iaddN (M := M_X12_isShorter) 38 dX12_isShorter_38 (by omega) (by omega) ?_
      refine z_ialdG (M := M_X12_isShorter) 39 dX12_isShorter_39 o_110 (by omega) (by omega) (gw_s G (by omega) (by omega)) (fun x5 ex5 ax5 bx5 => ?_)
      refine z_iload_n (M := M_X12_isShorter) 40 dX12_isShorter_40 rfl ?_
      refine z_icmp_ne (M := M_X12_isShorter) 41 dX12_isShorter_41 46 rfl (fun c6 => ?_) (fun c6 => ?_)
      · refine z_iincN (M := M_X12_isShorter) 46 dX12_isShorter_46 (ls' := [some (mR 108), some (mI a1), some (mI a2), some (mI (l3 + 1))]) (by decide) rfl (by (unfold m_32; decide)) (by omega) (by omega) rfl ?_
        refine z_goto (M := M_X12_isShorter) 49 dX12_isShorter_49 2 rfl ?_
        exact z_mask [true, true, true, true] rfl (ih (l3 + 1) h G R (by omega) (by omega) (by omega) (by omega) (by omega) (by omega) (by omega))
      · refine z_iconst (M := M_X12_isShorter) 44 dX12_isShorter_44 ?_
        exact z_retZ (M := M_X12_isShorter) 45 dX12_isShorter_45 rfl (by omega) ⟨G, R, by omega, by omega⟩
theorem a_X12_isShorter (h0 : m_H) (a1 a2 : Int) (G0 : GI h0) : ∀ n, q_X12_isShorter h0 a1 a2 n := by
  intro n
  induction n with
  | zero => unfold q_X12_isShorter; intros; omega
  | succ n ih => exact s_X12_isShorter_2 h0 a1 a2 G0 n ih
set_option maxHeartbeats 4000000 in
set_option maxRecDepth 100000 in
theorem c_X12_isShorter (h0 : m_H) (a1 a2 : Int) (G0 : GI h0) : m_CI M_X12_isShorter [mR 108, mI a1, mI a2] h0 (P_X12_isShorter h0 a1 a2) := by
  refine m_CI_of ⟨by decide, rfl, by simp [m_arg, m_isL, M_X12_isShorter], ⟨rfl, rfl⟩, rfl, rfl⟩ (ls := [some (mR 108), some (mI a1), some (mI a2), none]) rfl ?_
  have ih := a_X12_isShorter h0 a1 a2 G0 20
  refine z_ok (fun _ _ ok => ?_)
  have oa1 : m_32 a1 := ok 1 _ rfl
  unfold m_32 at oa1
  have oa2 : m_32 a2 := ok 2 _ rfl
  unfold m_32 at oa2
  refine z_iconst (M := M_X12_isShorter) 0 dX12_isShorter_0 ?_
  refine z_istore_n (M := M_X12_isShorter) 1 dX12_isShorter_1 (ls' := [some (mR 108), some (mI a1), some (mI a2), some (mI 0)]) (by decide) rfl ?_
  exact z_mask [true, true, true, true] rfl (ih 0 h0 G0 (FR.rf (cs := []) (ss := []) (h := h0)) (by omega) (by omega) (by omega) (by omega) (by omega) (by omega) (by omega))
abbrev P_X12_addShorter (h0 : m_H) (a1 a2 : Int) : m_H → Prop := fun h' => GI h' ∧ FR [110] [] h0 h' ∧ h' 110 0 = h0 110 0 ∧ h' 110 1 = h0 110 1 + 1 ∧ NPi h0 h'
set_option maxHeartbeats 4000000 in
set_option maxRecDepth 100000 in
theorem c_X12_addShorter (h0 : m_H) (a1 a2 : Int) (G0 : GI h0) (pa1 : 0 ≤ a1 ∧ a1 ≤ 3) (pa2 : 0 ≤ a2 ∧ a2 ≤ 3) (hs : h0 110 (1 : Int).toNat ≤ 5) : m_CV M_X12_addShorter [mR 108, mI a1, mI a2] h0 (P_X12_addShorter h0 a1 a2) := by
  refine m_CV_of ⟨by decide, rfl, by simp [m_arg, m_isL, M_X12_addShorter], ⟨rfl, rfl⟩, rfl, rfl⟩ (ls := [some (mR 108), some (mI a1), some (mI a2)]) rfl ?_
  obtain ⟨x1, ex1⟩ : ∃ y : Int, h0 110 0 = y := ⟨_, rfl⟩
  have bx1 : 0 ≤ x1 ∧ x1 ≤ 24 := ex1 ▸ gw_0 G0
  refine z_aload_n (M := M_X12_addShorter) 0 dX12_addShorter_0 rfl ?_
  refine z_getR (M := M_X12_addShorter) 1 dX12_addShorter_1 f_X12_13 o_108 rfl (g_108_3 G0) ?_
  refine z_bipush (M := M_X12_addShorter) 4 dX12_addShorter_4 ?_
  refine z_iconst (M := M_X12_addShorter) 6 dX12_addShorter_6 ?_
  refine z_aload_n (M := M_X12_addShorter) 7 dX12_addShorter_7 rfl ?_
  refine z_getR (M := M_X12_addShorter) 8 dX12_addShorter_8 f_X12_13 o_108 rfl (g_108_3 G0) ?_
  refine z_iconst (M := M_X12_addShorter) 11 dX12_addShorter_11 ?_
  refine z_ialdG (M := M_X12_addShorter) 12 dX12_addShorter_12 o_110 (by omega) (by omega) ⟨(gw_1 G0).1, hs⟩ (fun x2 ex2 ax2 bx2 => ?_)
  refine z_imulN (M := M_X12_addShorter) 13 dX12_addShorter_13 (by omega) (by omega) ?_
  refine z_iaddN (M := M_X12_addShorter) 14 dX12_addShorter_14 (by omega) (by omega) ?_
  refine z_iload_n (M := M_X12_addShorter) 15 dX12_addShorter_15 rfl ?_
  refine z_iastH (M := M_X12_addShorter) 16 dX12_addShorter_16 o_110 (by omega) (by omega) (uw_s G0 (by omega) (by omega) (by omega) (by omega)) ((FR.rf (cs := [110]) (ss := []) (h := h0)).up rfl) (fun h1 E1 G1 R1 => ?_)
  refine z_aload_n (M := M_X12_addShorter) 17 dX12_addShorter_17 rfl ?_
  refine z_getR (M := M_X12_addShorter) 18 dX12_addShorter_18 f_X12_13 o_108 rfl (g_108_3 G1) ?_
  refine z_bipush (M := M_X12_addShorter) 21 dX12_addShorter_21 ?_
  refine z_iconst (M := M_X12_addShorter) 23 dX12_addShorter_23 ?_
  refine z_aload_n (M := M_X12_addShorter) 24 dX12_addShorter_24 rfl ?_
  refine z_getR (M := M_X12_addShorter) 25 dX12_addShorter_25 f_X12_13 o_108 rfl (g_108_3 G1) ?_
  refine z_iconst (M := M_X12_addShorter) 28 dX12_addShorter_28 ?_
  refine z_ialdE (M := M_X12_addShorter) 29 dX12_addShorter_29 o_110 (by omega) (by omega) ((upN E1 (fun q => absurd q.2 (by omega))).trans ex2) ?_
  refine z_imulN (M := M_X12_addShorter) 30 dX12_addShorter_30 (by omega) (by omega) ?_
  refine z_iaddN (M := M_X12_addShorter) 31 dX12_addShorter_31 (by omega) (by omega) ?_
  refine z_iconst (M := M_X12_addShorter) 32 dX12_addShorter_32 ?_
  refine z_iaddN (M := M_X12_addShorter) 33 dX12_addShorter_33 (by omega) (by omega) ?_
  refine z_iload_n (M := M_X12_addShorter) 34 dX12_addShorter_34 rfl ?_
  refine z_iastH (M := M_X12_addShorter) 35 dX12_addShorter_35 o_110 (by omega) (by omega) (uw_s G1 (by omega) (by omega) (by omega) (by omega)) (R1.up rfl) (fun h2 E2 G2 R2 => ?_)
  refine z_aload_n (M := M_X12_addShorter) 36 dX12_addShorter_36 rfl ?_
  refine z_getR (M := M_X12_addShorter) 37 dX12_addShorter_37 f_X12_13 o_108 rfl (g_108_3 G2) ?_
  refine z_iconst (M := M_X12_addShorter) 40 dX12_addShorter_40 ?_
  refine z_dup2 (M := M_X12_addShorter) 41 dX12_addShorter_41 rfl rfl ?_
  refine z_ialdE (M := M_X12_addShorter) 42 dX12_addShorter_42 o_110 (by omega) (by omega) ((upN E2 (fun q => absurd q.2 (by omega))).trans ((upN E1 (fun q => absurd q.2 (by omega))).trans ex2)) ?_
  refine z_iconst (M := M_X12_addShorter) 43 dX12_addShorter_43 ?_
  refine z_iaddN (M := M_X12_addShorter) 44 dX12_addShorter_44 (by omega) (by omega) ?_
  refine z_iastH (M := M_X12_addShorter) 45 dX12_addShorter_45 o_110 (by omega) (by omega) (uw_1 G2 (by omega) (by omega)) (R2.up rfl) (fun h3 E3 G3 R3 => ?_)
  have w3 : h3 110 0 = x1 := ((upN E3 (fun q => absurd q.2 (by decide))).trans ((upN E2 (fun q => absurd q.2 (by omega))).trans ((upN E1 (fun q => absurd q.2 (by omega))).trans ex1)))
  have w4 : h3 110 1 = (x2 + 1) := (upE E3)
  have k0 : h0 110 0 = x1 := ex1
  have k1 : h0 110 1 = x2 := ex2
  exact z_retV (M := M_X12_addShorter) 46 dX12_addShorter_46 rfl ⟨G3, R3, by omega, by omega, (NPi.st (NPi.st (NPi.st NPi.rf E1 ⟨by omega, fun e => by omega⟩ (by omega)) E2 ⟨by omega, fun e => by omega⟩ (by omega)) E3 ⟨by omega, fun e => by omega⟩ (by omega))⟩
abbrev P_X12_shorter (h0 : m_H) (a1 a2 : Int) : Int → m_H → Prop := fun x h' => GI h' ∧ FR [109, 110] [(108, 0), (108, 1)] h0 h' ∧ (-5) ≤ x ∧ x ≤ 6 ∧ NPi h0 h'
set_option maxHeartbeats 4000000 in
set_option maxRecDepth 100000 in
theorem c_X12_shorter (h0 : m_H) (a1 a2 : Int) (G0 : GI h0) : m_CI M_X12_shorter [mR 108, mI a1, mI a2] h0 (P_X12_shorter h0 a1 a2) := by
  refine m_CI_of ⟨by decide, rfl, by simp [m_arg, m_isL, M_X12_shorter], ⟨rfl, rfl⟩, rfl, rfl⟩ (ls := [some (mR 108), some (mI a1), some (mI a2)]) rfl ?_
  refine z_ok (fun _ _ ok => ?_)
  have oa1 : m_32 a1 := ok 1 _ rfl
  unfold m_32 at oa1
  have oa2 : m_32 a2 := ok 2 _ rfl
  unfold m_32 at oa2
  refine z_aload_n (M := M_X12_shorter) 0 dX12_shorter_0 rfl ?_
  refine z_iconst (M := M_X12_shorter) 1 dX12_shorter_1 ?_
  refine z_putIH (M := M_X12_shorter) 2 dX12_shorter_2 p_X12_133 o_108 rfl (u_108_0 G0) ((FR.rf (cs := [109, 110]) (ss := [(108, 0), (108, 1)]) (h := h0)).up rfl) (fun h1 E1 G1 R1 => ?_)
  refine z_iload_n (M := M_X12_shorter) 5 dX12_shorter_5 rfl ?_
  refine z_sI (M := M_X12_shorter) 6 dX12_shorter_6 t_X12_isKeeper l_X12_169 (m_rr_of rfl) (rest := []) (c_X12_isKeeper h1 a1 G1) rfl rfl (Nat.le_of_ble_eq_true rfl) ⟨rfl, rfl⟩ (fun x1 h2 qx1 => ?_)
  obtain ⟨rfl, ⟨rfl, cx1⟩ | ⟨rfl, cx1⟩⟩ := qx1
  · refine z_if_eq_F (M := M_X12_shorter) 9 dX12_shorter_9 24 rfl (by omega) ?_
    refine z_iload_n (M := M_X12_shorter) 12 dX12_shorter_12 rfl ?_
    refine z_sI (M := M_X12_shorter) 13 dX12_shorter_13 t_X12_isKeeper l_X12_169 (m_rr_of rfl) (rest := []) (c_X12_isKeeper h1 a2 G1) rfl rfl (Nat.le_of_ble_eq_true rfl) ⟨rfl, rfl⟩ (fun x2 h3 qx2 => ?_)
    obtain ⟨rfl, ⟨rfl, cx2⟩ | ⟨rfl, cx2⟩⟩ := qx2
    · refine z_if_eq_F (M := M_X12_shorter) 16 dX12_shorter_16 24 rfl (by omega) ?_
      refine z_iload_n (M := M_X12_shorter) 19 dX12_shorter_19 rfl ?_
      refine z_iload_n (M := M_X12_shorter) 20 dX12_shorter_20 rfl ?_
      refine z_icmp_ne (M := M_X12_shorter) 21 dX12_shorter_21 30 rfl (fun c3 => ?_) (fun c3 => ?_)
      · refine z_aload_n (M := M_X12_shorter) 30 dX12_shorter_30 rfl ?_
        refine z_iload_n (M := M_X12_shorter) 31 dX12_shorter_31 rfl ?_
        refine z_iload_n (M := M_X12_shorter) 32 dX12_shorter_32 rfl ?_
        refine z_vI (M := M_X12_shorter) 33 dX12_shorter_33 t_X12_isShorter l_X12_172 (m_rr_of rfl) (rest := []) (c_X12_isShorter h1 a1 a2 G1) o_108 rfl rfl rfl (Nat.le_of_ble_eq_true rfl) ⟨rfl, rfl⟩ (fun x4 h4 qx4 => ?_)
        obtain ⟨G4, S4, ax4, bx4⟩ := qx4
        have R4 := R1.call S4 (by decide +kernel)
        refine z_if_eq (M := M_X12_shorter) 36 dX12_shorter_36 46 rfl (fun c5 => ?_) (fun c5 => ?_)
        · refine z_aload_n (M := M_X12_shorter) 46 dX12_shorter_46 rfl ?_
          refine z_getR (M := M_X12_shorter) 47 dX12_shorter_47 f_X12_13 o_108 rfl (g_108_3 G4) ?_
          refine z_iconst (M := M_X12_shorter) 50 dX12_shorter_50 ?_
          refine z_ialdG (M := M_X12_shorter) 51 dX12_shorter_51 o_110 (by omega) (by omega) (gw_1 G4) (fun x6 ex6 ax6 bx6 => ?_)
          refine z_bipush (M := M_X12_shorter) 52 dX12_shorter_52 ?_
          refine z_icmp_ne (M := M_X12_shorter) 54 dX12_shorter_54 64 rfl (fun c7 => ?_) (fun c7 => ?_)
          · refine z_aload_n (M := M_X12_shorter) 64 dX12_shorter_64 rfl ?_
            refine z_iload_n (M := M_X12_shorter) 65 dX12_shorter_65 rfl ?_
            refine z_iload_n (M := M_X12_shorter) 66 dX12_shorter_66 rfl ?_
            refine z_vV (M := M_X12_shorter) 67 dX12_shorter_67 t_X12_addShorter l_X12_176 (m_rr_of rfl) (rest := []) (c_X12_addShorter h4 a1 a2 G4 ⟨by omega, by omega⟩ ⟨by omega, by omega⟩ (le_e ex6 (by omega))) o_108 rfl rfl rfl (Nat.le_of_ble_eq_true rfl) ⟨rfl, rfl⟩ (fun h5 qx8 => ?_)
            obtain ⟨G5, S5, fx8_0, fx8_1, npx8⟩ := qx8
            have R5 := R4.call S5 (by decide +kernel)
            refine z_aload_n (M := M_X12_shorter) 70 dX12_shorter_70 rfl ?_
            refine z_aload_n (M := M_X12_shorter) 71 dX12_shorter_71 rfl ?_
            refine z_getR (M := M_X12_shorter) 72 dX12_shorter_72 f_X12_13 o_108 rfl (g_108_3 G5) ?_
            refine z_iconst (M := M_X12_shorter) 75 dX12_shorter_75 ?_
            refine z_ialdE (M := M_X12_shorter) 76 dX12_shorter_76 o_110 (by omega) (by omega) (eq_ad fx8_1 ex6) ?_
            refine z_vI (M := M_X12_shorter) 77 dX12_shorter_77 t_X12_answer l_X12_147 (m_rr_of rfl) (rest := []) (c_X12_answer h5 (x6 + 1) G5 ⟨by omega, by omega⟩) o_108 rfl rfl rfl (Nat.le_of_ble_eq_true rfl) ⟨rfl, rfl⟩ (fun x9 h6 qx9 => ?_)
            obtain ⟨G6, S6, rfl⟩ := qx9
            have R6 := R5.call S6 (by decide +kernel)
            exact z_retI (M := M_X12_shorter) 80 dX12_shorter_80 rfl ⟨G6, R6, by omega, by omega, (NPi.call (NPi.tr (NPi.call (NPi.put NPi.rf E1 (by decide)) S4 (fun _ => rfl) (fun _ => rfl) (fun _ => rfl)) npx8) S6 (fun _ => rfl) (fun _ => rfl) (fun _ => rfl))⟩
          · refine z_aload_n (M := M_X12_shorter) 57 dX12_shorter_57 rfl ?_
            refine z_bipush (M := M_X12_shorter) 58 dX12_shorter_58 ?_
            refine z_vI (M := M_X12_shorter) 60 dX12_shorter_60 t_X12_answer l_X12_147 (m_rr_of rfl) (rest := []) (c_X12_answer h4 (-5) G4 ⟨by omega, by omega⟩) o_108 rfl rfl rfl (Nat.le_of_ble_eq_true rfl) ⟨rfl, rfl⟩ (fun x10 h7 qx10 => ?_)
            obtain ⟨G7, S7, rfl⟩ := qx10
            have R7 := R4.call S7 (by decide +kernel)
            exact z_retI (M := M_X12_shorter) 63 dX12_shorter_63 rfl ⟨G7, R7, by omega, by omega, (NPi.call (NPi.call (NPi.put NPi.rf E1 (by decide)) S4 (fun _ => rfl) (fun _ => rfl) (fun _ => rfl)) S7 (fun _ => rfl) (fun _ => rfl) (fun _ => rfl))⟩
        · refine z_aload_n (M := M_X12_shorter) 39 dX12_shorter_39 rfl ?_
          refine z_bipush (M := M_X12_shorter) 40 dX12_shorter_40 ?_
          refine z_vI (M := M_X12_shorter) 42 dX12_shorter_42 t_X12_answer l_X12_147 (m_rr_of rfl) (rest := []) (c_X12_answer h4 (-3) G4 ⟨by omega, by omega⟩) o_108 rfl rfl rfl (Nat.le_of_ble_eq_true rfl) ⟨rfl, rfl⟩ (fun x11 h8 qx11 => ?_)
          obtain ⟨G8, S8, rfl⟩ := qx11
          have R8 := R4.call S8 (by decide +kernel)
          exact z_retI (M := M_X12_shorter) 45 dX12_shorter_45 rfl ⟨G8, R8, by omega, by omega, (NPi.call (NPi.call (NPi.put NPi.rf E1 (by decide)) S4 (fun _ => rfl) (fun _ => rfl) (fun _ => rfl)) S8 (fun _ => rfl) (fun _ => rfl) (fun _ => rfl))⟩
      · refine z_aload_n (M := M_X12_shorter) 24 dX12_shorter_24 rfl ?_
        refine z_iconst (M := M_X12_shorter) 25 dX12_shorter_25 ?_
        refine z_vI (M := M_X12_shorter) 26 dX12_shorter_26 t_X12_answer l_X12_147 (m_rr_of rfl) (rest := []) (c_X12_answer h1 (-1) G1 ⟨by omega, by omega⟩) o_108 rfl rfl rfl (Nat.le_of_ble_eq_true rfl) ⟨rfl, rfl⟩ (fun x12 h9 qx12 => ?_)
        obtain ⟨G9, S9, rfl⟩ := qx12
        have R9 := R1.call S9 (by decide +kernel)
        exact z_retI (M := M_X12_shorter) 29 dX12_shorter_29 rfl ⟨G9, R9, by omega, by omega, (NPi.call (NPi.put NPi.rf E1 (by decide)) S9 (fun _ => rfl) (fun _ => rfl) (fun _ => rfl))⟩
    · refine z_if_eq_T (M := M_X12_shorter) 16 dX12_shorter_16 24 rfl (by omega) ?_
      refine z_aload_n (M := M_X12_shorter) 24 dX12_shorter_24 rfl ?_
      refine z_iconst (M := M_X12_shorter) 25 dX12_shorter_25 ?_
      refine z_vI (M := M_X12_shorter) 26 dX12_shorter_26 t_X12_answer l_X12_147 (m_rr_of rfl) (rest := []) (c_X12_answer h1 (-1) G1 ⟨by omega, by omega⟩) o_108 rfl rfl rfl (Nat.le_of_ble_eq_true rfl) ⟨rfl, rfl⟩ (fun x13 h10 qx13 => ?_)
      obtain ⟨G10, S10, rfl⟩ := qx13
      have R10 := R1.call S10 (by decide +kernel)
      exact z_retI (M := M_X12_shorter) 29 dX12_shorter_29 rfl ⟨G10, R10, by omega, by omega, (NPi.call (NPi.put NPi.rf E1 (by decide)) S10 (fun _ => rfl) (fun _ => rfl) (fun _ => rfl))⟩
  · refine z_if_eq_T (M := M_X12_shorter) 9 dX12_shorter_9 24 rfl (by omega) ?_
    refine z_aload_n (M := M_X12_shorter) 24 dX12_shorter_24 rfl ?_
    refine z_iconst (M := M_X12_shorter) 25 dX12_shorter_25 ?_
    refine z_vI (M := M_X12_shorter) 26 dX12_shorter_26 t_X12_answer l_X12_147 (m_rr_of rfl) (rest := []) (c_X12_answer h1 (-1) G1 ⟨by omega, by omega⟩) o_108 rfl rfl rfl (Nat.le_of_ble_eq_true rfl) ⟨rfl, rfl⟩ (fun x14 h11 qx14 => ?_)
    obtain ⟨G11, S11, rfl⟩ := qx14
    have R11 := R1.call S11 (by decide +kernel)
    exact z_retI (M := M_X12_shorter) 29 dX12_shorter_29 rfl ⟨G11, R11, by omega, by omega, (NPi.call (NPi.put NPi.rf E1 (by decide)) S11 (fun _ => rfl) (fun _ => rfl) (fun _ => rfl))⟩
abbrev P_X12_addEntry (h0 : m_H) (a1 a2 a3 a4 : Int) : m_H → Prop := fun h' => GI h' ∧ FR [110] [] h0 h' ∧ h' 110 0 = h0 110 0 + 1 ∧ h' 110 1 = h0 110 1 ∧ NPi h0 h'
set_option maxHeartbeats 4000000 in
set_option maxRecDepth 100000 in
theorem c_X12_addEntry (h0 : m_H) (a1 a2 a3 a4 : Int) (G0 : GI h0) (pa1 : 0 ≤ a1 ∧ a1 ≤ 5) (pa2 : 0 ≤ a2 ∧ a2 ≤ 31) (pa3 : 1 ≤ a3 ∧ a3 ≤ 99) (pa4 : 0 ≤ a4 ∧ a4 ≤ 2) (he : h0 110 (0 : Int).toNat ≤ 23) : m_CV M_X12_addEntry [mR 108, mI a1, mI a2, mI a3, mI a4] h0 (P_X12_addEntry h0 a1 a2 a3 a4) := by
  refine m_CV_of ⟨by decide, rfl, by simp [m_arg, m_isL, M_X12_addEntry], ⟨rfl, rfl⟩, rfl, rfl⟩ (ls := [some (mR 108), some (mI a1), some (mI a2), some (mI a3), some (mI a4), none]) rfl ?_
  obtain ⟨x1, ex1⟩ : ∃ y : Int, h0 110 1 = y := ⟨_, rfl⟩
  have bx1 : 0 ≤ x1 ∧ x1 ≤ 6 := ex1 ▸ gw_1 G0
  refine z_bipush (M := M_X12_addEntry) 0 dX12_addEntry_0 ?_
  refine z_iconst (M := M_X12_addEntry) 2 dX12_addEntry_2 ?_
  refine z_aload_n (M := M_X12_addEntry) 3 dX12_addEntry_3 rfl ?_
  refine z_getR (M := M_X12_addEntry) 4 dX12_addEntry_4 f_X12_13 o_108 rfl (g_108_3 G0) ?_
  refine z_iconst (M := M_X12_addEntry) 7 dX12_addEntry_7 ?_
  refine z_ialdG (M := M_X12_addEntry) 8 dX12_addEntry_8 o_110 (by omega) (by omega) ⟨(gw_0 G0).1, he⟩ (fun x2 ex2 ax2 bx2 => ?_)
  refine z_imulN (M := M_X12_addEntry) 9 dX12_addEntry_9 (by omega) (by omega) ?_
  refine z_iaddN (M := M_X12_addEntry) 10 dX12_addEntry_10 (by omega) (by omega) ?_
  refine z_istore (M := M_X12_addEntry) 11 dX12_addEntry_11 (ls' := [some (mR 108), some (mI a1), some (mI a2), some (mI a3), some (mI a4), some (mI (80 + (5 * x2)))]) (by decide) rfl ?_
  refine z_aload_n (M := M_X12_addEntry) 13 dX12_addEntry_13 rfl ?_
  refine z_getR (M := M_X12_addEntry) 14 dX12_addEntry_14 f_X12_13 o_108 rfl (g_108_3 G0) ?_
  refine z_iload (M := M_X12_addEntry) 17 dX12_addEntry_17 rfl ?_
  refine z_iconst (M := M_X12_addEntry) 19 dX12_addEntry_19 ?_
  refine z_iaddN (M := M_X12_addEntry) 20 dX12_addEntry_20 (by omega) (by omega) ?_
  refine z_iload_n (M := M_X12_addEntry) 21 dX12_addEntry_21 rfl ?_
  refine z_iastH (M := M_X12_addEntry) 22 dX12_addEntry_22 o_110 (by omega) (by omega) (uw_e0 G0 (e := x2) (by omega) (by omega) (by omega) (by omega) (by omega)) ((FR.rf (cs := [110]) (ss := []) (h := h0)).up rfl) (fun h1 E1 G1 R1 => ?_)
  refine z_aload_n (M := M_X12_addEntry) 23 dX12_addEntry_23 rfl ?_
  refine z_getR (M := M_X12_addEntry) 24 dX12_addEntry_24 f_X12_13 o_108 rfl (g_108_3 G1) ?_
  refine z_iload (M := M_X12_addEntry) 27 dX12_addEntry_27 rfl ?_
  refine z_iconst (M := M_X12_addEntry) 29 dX12_addEntry_29 ?_
  refine z_iaddN (M := M_X12_addEntry) 30 dX12_addEntry_30 (by omega) (by omega) ?_
  refine z_iload_n (M := M_X12_addEntry) 31 dX12_addEntry_31 rfl ?_
  refine z_iastH (M := M_X12_addEntry) 32 dX12_addEntry_32 o_110 (by omega) (by omega) (uw_e1 G1 (e := x2) (by omega) (by omega) (by omega) (by omega) (by omega)) (R1.up rfl) (fun h2 E2 G2 R2 => ?_)
  refine z_aload_n (M := M_X12_addEntry) 33 dX12_addEntry_33 rfl ?_
  refine z_getR (M := M_X12_addEntry) 34 dX12_addEntry_34 f_X12_13 o_108 rfl (g_108_3 G2) ?_
  refine z_iload (M := M_X12_addEntry) 37 dX12_addEntry_37 rfl ?_
  refine z_iconst (M := M_X12_addEntry) 39 dX12_addEntry_39 ?_
  refine z_iaddN (M := M_X12_addEntry) 40 dX12_addEntry_40 (by omega) (by omega) ?_
  refine z_iload_n (M := M_X12_addEntry) 41 dX12_addEntry_41 rfl ?_
  refine z_iastH (M := M_X12_addEntry) 42 dX12_addEntry_42 o_110 (by omega) (by omega) (uw_e2 G2 (e := x2) (by omega) (by omega) (by omega) (by omega) (by omega)) (R2.up rfl) (fun h3 E3 G3 R3 => ?_)
  refine z_aload_n (M := M_X12_addEntry) 43 dX12_addEntry_43 rfl ?_
  refine z_getR (M := M_X12_addEntry) 44 dX12_addEntry_44 f_X12_13 o_108 rfl (g_108_3 G3) ?_
  refine z_iload (M := M_X12_addEntry) 47 dX12_addEntry_47 rfl ?_
  refine z_iconst (M := M_X12_addEntry) 49 dX12_addEntry_49 ?_
  refine z_iaddN (M := M_X12_addEntry) 50 dX12_addEntry_50 (by omega) (by omega) ?_
  refine z_iload (M := M_X12_addEntry) 51 dX12_addEntry_51 rfl ?_
  refine z_iastH (M := M_X12_addEntry) 53 dX12_addEntry_53 o_110 (by omega) (by omega) (uw_e3 G3 (e := x2) (by omega) (by omega) (by omega) (by omega) (by omega)) (R3.up rfl) (fun h4 E4 G4 R4 => ?_)
  refine z_aload_n (M := M_X12_addEntry) 54 dX12_addEntry_54 rfl ?_
  refine z_getR (M := M_X12_addEntry) 55 dX12_addEntry_55 f_X12_13 o_108 rfl (g_108_3 G4) ?_
  refine z_iload (M := M_X12_addEntry) 58 dX12_addEntry_58 rfl ?_
  refine z_iconst (M := M_X12_addEntry) 60 dX12_addEntry_60 ?_
  refine z_iaddN (M := M_X12_addEntry) 61 dX12_addEntry_61 (by omega) (by omega) ?_
  refine z_iconst (M := M_X12_addEntry) 62 dX12_addEntry_62 ?_
  refine z_iastH (M := M_X12_addEntry) 63 dX12_addEntry_63 o_110 (by omega) (by omega) (uw_e4 G4 (e := x2) (by omega) (by omega) (by omega) (by omega) (by omega)) (R4.up rfl) (fun h5 E5 G5 R5 => ?_)
  refine z_aload_n (M := M_X12_addEntry) 64 dX12_addEntry_64 rfl ?_
  refine z_getR (M := M_X12_addEntry) 65 dX12_addEntry_65 f_X12_13 o_108 rfl (g_108_3 G5) ?_
  refine z_iconst (M := M_X12_addEntry) 68 dX12_addEntry_68 ?_
  refine z_dup2 (M := M_X12_addEntry) 69 dX12_addEntry_69 rfl rfl ?_
  refine z_ialdE (M := M_X12_addEntry) 70 dX12_addEntry_70 o_110 (by omega) (by omega) ((upN E5 (fun q => absurd q.2 (by omega))).trans ((upN E4 (fun q => absurd q.2 (by omega))).trans ((upN E3 (fun q => absurd q.2 (by omega))).trans ((upN E2 (fun q => absurd q.2 (by omega))).trans ((upN E1 (fun q => absurd q.2 (by omega))).trans ex2))))) ?_
  refine z_iconst (M := M_X12_addEntry) 71 dX12_addEntry_71 ?_
  refine z_iaddN (M := M_X12_addEntry) 72 dX12_addEntry_72 (by omega) (by omega) ?_
  refine z_iastH (M := M_X12_addEntry) 73 dX12_addEntry_73 o_110 (by omega) (by omega) (uw_0 G5 (by omega) (by omega)) (R5.up rfl) (fun h6 E6 G6 R6 => ?_)
  have w3 : h6 110 0 = (x2 + 1) := (upE E6)
  have w4 : h6 110 1 = x1 := ((upN E6 (fun q => absurd q.2 (by decide))).trans ((upN E5 (fun q => absurd q.2 (by omega))).trans ((upN E4 (fun q => absurd q.2 (by omega))).trans ((upN E3 (fun q => absurd q.2 (by omega))).trans ((upN E2 (fun q => absurd q.2 (by omega))).trans ((upN E1 (fun q => absurd q.2 (by omega))).trans ex1))))))
  have k0 : h0 110 0 = x2 := ex2
  have k1 : h0 110 1 = x1 := ex1
  exact z_retV (M := M_X12_addEntry) 74 dX12_addEntry_74 rfl ⟨G6, R6, by omega, by omega, (NPi.inc (NPi.st (NPi.st (NPi.stN (NPi.st (NPi.st NPi.rf E1 ⟨by omega, fun e => by omega⟩ (by omega)) E2 ⟨by omega, fun e => by omega⟩ (by omega)) E3 (by omega) (by omega) (by omega)) E4 ⟨by omega, fun e => by omega⟩ (by omega)) E5 ⟨by omega, fun e => by omega⟩ (by omega)) E6 ((upN E5 (fun q => absurd q.2 (by omega))).trans ((upN E4 (fun q => absurd q.2 (by omega))).trans ((upN E3 (fun q => absurd q.2 (by omega))).trans ((upN E2 (fun q => absurd q.2 (by omega))).trans ((upN E1 (fun q => absurd q.2 (by omega))).trans ex2))))) (by omega) (NP_num (by omega) (by omega) E3 E4 E5))⟩
abbrev P_X12_entry (h0 : m_H) (a1 a2 a3 a4 : Int) : Int → m_H → Prop := fun x h' => GI h' ∧ FR [109, 110] [(108, 0), (108, 1)] h0 h' ∧ (-5) ≤ x ∧ x ≤ 23 ∧ NPi h0 h'
set_option maxHeartbeats 4000000 in
set_option maxRecDepth 100000 in
theorem c_X12_entry (h0 : m_H) (a1 a2 a3 a4 : Int) (G0 : GI h0) : m_CI M_X12_entry [mR 108, mI a1, mI a2, mI a3, mI a4] h0 (P_X12_entry h0 a1 a2 a3 a4) := by
  refine m_CI_of ⟨by decide, rfl, by simp [m_arg, m_isL, M_X12_entry], ⟨rfl, rfl⟩, rfl, rfl⟩ (ls := [some (mR 108), some (mI a1), some (mI a2), some (mI a3), some (mI a4)]) rfl ?_
  refine z_ok (fun _ _ ok => ?_)
  have oa1 : m_32 a1 := ok 1 _ rfl
  unfold m_32 at oa1
  have oa2 : m_32 a2 := ok 2 _ rfl
  unfold m_32 at oa2
  have oa3 : m_32 a3 := ok 3 _ rfl
  unfold m_32 at oa3
  have oa4 : m_32 a4 := ok 4 _ rfl
  unfold m_32 at oa4
  refine z_aload_n (M := M_X12_entry) 0 dX12_entry_0 rfl ?_
  refine z_iconst (M := M_X12_entry) 1 dX12_entry_1 ?_
  refine z_putIH (M := M_X12_entry) 2 dX12_entry_2 p_X12_133 o_108 rfl (u_108_0 G0) ((FR.rf (cs := [109, 110]) (ss := [(108, 0), (108, 1)]) (h := h0)).up rfl) (fun h1 E1 G1 R1 => ?_)
  refine z_iload_n (M := M_X12_entry) 5 dX12_entry_5 rfl ?_
  refine z_iload_n (M := M_X12_entry) 6 dX12_entry_6 rfl ?_
  refine z_iload_n (M := M_X12_entry) 7 dX12_entry_7 rfl ?_
  refine z_iload (M := M_X12_entry) 8 dX12_entry_8 rfl ?_
  refine z_sI (M := M_X12_entry) 10 dX12_entry_10 t_X12_canEnter l_X12_184 (m_rr_of rfl) (rest := []) (c_X12_canEnter h1 a1 a2 a3 a4 G1) rfl rfl (Nat.le_of_ble_eq_true rfl) ⟨rfl, rfl⟩ (fun x1 h2 qx1 => ?_)
  obtain ⟨rfl, ⟨rfl, cx1⟩ | ⟨rfl, cx1⟩⟩ := qx1
  · refine z_if_ne_T (M := M_X12_entry) 13 dX12_entry_13 22 rfl (by omega) ?_
    refine z_aload_n (M := M_X12_entry) 22 dX12_entry_22 rfl ?_
    refine z_getR (M := M_X12_entry) 23 dX12_entry_23 f_X12_13 o_108 rfl (g_108_3 G1) ?_
    refine z_iconst (M := M_X12_entry) 26 dX12_entry_26 ?_
    refine z_ialdG (M := M_X12_entry) 27 dX12_entry_27 o_110 (by omega) (by omega) (gw_0 G1) (fun x2 ex2 ax2 bx2 => ?_)
    refine z_bipush (M := M_X12_entry) 28 dX12_entry_28 ?_
    refine z_icmp_ne (M := M_X12_entry) 30 dX12_entry_30 40 rfl (fun c3 => ?_) (fun c3 => ?_)
    · refine z_aload_n (M := M_X12_entry) 40 dX12_entry_40 rfl ?_
      refine z_iload_n (M := M_X12_entry) 41 dX12_entry_41 rfl ?_
      refine z_iload_n (M := M_X12_entry) 42 dX12_entry_42 rfl ?_
      refine z_iload_n (M := M_X12_entry) 43 dX12_entry_43 rfl ?_
      refine z_iload (M := M_X12_entry) 44 dX12_entry_44 rfl ?_
      refine z_vV (M := M_X12_entry) 46 dX12_entry_46 t_X12_addEntry l_X12_188 (m_rr_of rfl) (rest := []) (c_X12_addEntry h1 a1 a2 a3 a4 G1 ⟨by omega, by omega⟩ ⟨by omega, by omega⟩ ⟨by omega, by omega⟩ ⟨by omega, by omega⟩ (le_e ex2 (by omega))) o_108 rfl rfl rfl (Nat.le_of_ble_eq_true rfl) ⟨rfl, rfl⟩ (fun h3 qx4 => ?_)
      obtain ⟨G3, S3, fx4_0, fx4_1, npx4⟩ := qx4
      have R3 := R1.call S3 (by decide +kernel)
      refine z_aload_n (M := M_X12_entry) 49 dX12_entry_49 rfl ?_
      refine z_aload_n (M := M_X12_entry) 50 dX12_entry_50 rfl ?_
      refine z_getR (M := M_X12_entry) 51 dX12_entry_51 f_X12_13 o_108 rfl (g_108_3 G3) ?_
      refine z_iconst (M := M_X12_entry) 54 dX12_entry_54 ?_
      refine z_ialdE (M := M_X12_entry) 55 dX12_entry_55 o_110 (by omega) (by omega) (eq_ad fx4_0 ex2) ?_
      refine z_iconst (M := M_X12_entry) 56 dX12_entry_56 ?_
      refine z_isubN (M := M_X12_entry) 57 dX12_entry_57 (by omega) (by omega) ?_
      refine z_vI (M := M_X12_entry) 58 dX12_entry_58 t_X12_answer l_X12_147 (m_rr_of rfl) (rest := []) (c_X12_answer h3 ((x2 + 1) - 1) G3 ⟨by omega, by omega⟩) o_108 rfl rfl rfl (Nat.le_of_ble_eq_true rfl) ⟨rfl, rfl⟩ (fun x5 h4 qx5 => ?_)
      obtain ⟨G4, S4, rfl⟩ := qx5
      have R4 := R3.call S4 (by decide +kernel)
      exact z_retI (M := M_X12_entry) 61 dX12_entry_61 rfl ⟨G4, R4, by omega, by omega, (NPi.call (NPi.tr (NPi.put NPi.rf E1 (by decide)) npx4) S4 (fun _ => rfl) (fun _ => rfl) (fun _ => rfl))⟩
    · refine z_aload_n (M := M_X12_entry) 33 dX12_entry_33 rfl ?_
      refine z_bipush (M := M_X12_entry) 34 dX12_entry_34 ?_
      refine z_vI (M := M_X12_entry) 36 dX12_entry_36 t_X12_answer l_X12_147 (m_rr_of rfl) (rest := []) (c_X12_answer h1 (-5) G1 ⟨by omega, by omega⟩) o_108 rfl rfl rfl (Nat.le_of_ble_eq_true rfl) ⟨rfl, rfl⟩ (fun x6 h5 qx6 => ?_)
      obtain ⟨G5, S5, rfl⟩ := qx6
      have R5 := R1.call S5 (by decide +kernel)
      exact z_retI (M := M_X12_entry) 39 dX12_entry_39 rfl ⟨G5, R5, by omega, by omega, (NPi.call (NPi.put NPi.rf E1 (by decide)) S5 (fun _ => rfl) (fun _ => rfl) (fun _ => rfl))⟩
  · refine z_if_ne_F (M := M_X12_entry) 13 dX12_entry_13 22 rfl (by omega) ?_
    refine z_aload_n (M := M_X12_entry) 16 dX12_entry_16 rfl ?_
    refine z_iconst (M := M_X12_entry) 17 dX12_entry_17 ?_
    refine z_vI (M := M_X12_entry) 18 dX12_entry_18 t_X12_answer l_X12_147 (m_rr_of rfl) (rest := []) (c_X12_answer h1 (-1) G1 ⟨by omega, by omega⟩) o_108 rfl rfl rfl (Nat.le_of_ble_eq_true rfl) ⟨rfl, rfl⟩ (fun x7 h6 qx7 => ?_)
    obtain ⟨G6, S6, rfl⟩ := qx7
    have R6 := R1.call S6 (by decide +kernel)
    exact z_retI (M := M_X12_entry) 21 dX12_entry_21 rfl ⟨G6, R6, by omega, by omega, (NPi.call (NPi.put NPi.rf E1 (by decide)) S6 (fun _ => rfl) (fun _ => rfl) (fun _ => rfl))⟩
abbrev P_X12_isEntry (h0 : m_H) (a1 : Int) : Int → m_H → Prop := fun x h' => h0 = h' ∧ ((x = 1 ∧ (0 ≤ a1 ∧ a1 ≤ 23 ∧ a1 < h0 110 (0 : Int).toNat)) ∨ (x = 0 ∧ ¬ (0 ≤ a1 ∧ a1 ≤ 23 ∧ a1 < h0 110 (0 : Int).toNat)))
set_option maxHeartbeats 4000000 in
set_option maxRecDepth 100000 in
theorem c_X12_isEntry (h0 : m_H) (a1 : Int) (G0 : GI h0) : m_CI M_X12_isEntry [mR 108, mI a1] h0 (P_X12_isEntry h0 a1) := by
  refine m_CI_of ⟨by decide, rfl, by simp [m_arg, m_isL, M_X12_isEntry], ⟨rfl, rfl⟩, rfl, rfl⟩ (ls := [some (mR 108), some (mI a1)]) rfl ?_
  refine z_ok (fun _ _ ok => ?_)
  have oa1 : m_32 a1 := ok 1 _ rfl
  unfold m_32 at oa1
  refine z_iload_n (M := M_X12_isEntry) 0 dX12_isEntry_0 rfl ?_
  refine z_i2l (M := M_X12_isEntry) 1 dX12_isEntry_1 ?_
  refine z_lconst (M := M_X12_isEntry) 2 dX12_isEntry_2 (v := 0) ?_
  refine z_aload_n (M := M_X12_isEntry) 3 dX12_isEntry_3 rfl ?_
  refine z_getR (M := M_X12_isEntry) 4 dX12_isEntry_4 f_X12_13 o_108 rfl (g_108_3 G0) ?_
  refine z_iconst (M := M_X12_isEntry) 7 dX12_isEntry_7 ?_
  refine z_ialdG (M := M_X12_isEntry) 8 dX12_isEntry_8 o_110 (by omega) (by omega) (gw_0 G0) (fun x1 ex1 ax1 bx1 => ?_)
  refine z_i2l (M := M_X12_isEntry) 9 dX12_isEntry_9 ?_
  refine z_lconst (M := M_X12_isEntry) 10 dX12_isEntry_10 (v := 1) ?_
  refine z_lsubN (M := M_X12_isEntry) 11 dX12_isEntry_11 (by omega) (by omega) ?_
  refine z_sI (M := M_X12_isEntry) 12 dX12_isEntry_12 t_X12_in l_X12_143 (m_rr_of rfl) (rest := []) (c_X12_in h0 a1 0 (x1 - 1) G0) rfl rfl (Nat.le_of_ble_eq_true rfl) ⟨rfl, rfl⟩ (fun x2 h1 qx2 => ?_)
  obtain ⟨rfl, ⟨rfl, cx2⟩ | ⟨rfl, cx2⟩⟩ := qx2
  · exact z_retZ (M := M_X12_isEntry) 15 dX12_isEntry_15 rfl (by omega) ⟨rfl, by omega⟩
  · exact z_retZ (M := M_X12_isEntry) 15 dX12_isEntry_15 rfl (by omega) ⟨rfl, by omega⟩
abbrev P_X12_ofEntry (h0 : m_H) (a1 a2 : Int) : Int → m_H → Prop := fun x h' => h0 = h' ∧ h0 110 (80 + 5 * a1 + a2).toNat = x
set_option maxHeartbeats 4000000 in
set_option maxRecDepth 100000 in
theorem c_X12_ofEntry (h0 : m_H) (a1 a2 : Int) (G0 : GI h0) (pa1 : 0 ≤ a1 ∧ a1 ≤ 23) (pa2 : 0 ≤ a2 ∧ a2 ≤ 4) : m_CI M_X12_ofEntry [mR 108, mI a1, mI a2] h0 (P_X12_ofEntry h0 a1 a2) := by
  refine m_CI_of ⟨by decide, rfl, by simp [m_arg, m_isL, M_X12_ofEntry], ⟨rfl, rfl⟩, rfl, rfl⟩ (ls := [some (mR 108), some (mI a1), some (mI a2)]) rfl ?_
  refine z_aload_n (M := M_X12_ofEntry) 0 dX12_ofEntry_0 rfl ?_
  refine z_getR (M := M_X12_ofEntry) 1 dX12_ofEntry_1 f_X12_13 o_108 rfl (g_108_3 G0) ?_
  refine z_bipush (M := M_X12_ofEntry) 4 dX12_ofEntry_4 ?_
  refine z_iconst (M := M_X12_ofEntry) 6 dX12_ofEntry_6 ?_
  refine z_iload_n (M := M_X12_ofEntry) 7 dX12_ofEntry_7 rfl ?_
  refine z_imulN (M := M_X12_ofEntry) 8 dX12_ofEntry_8 (by omega) (by omega) ?_
  refine z_iaddN (M := M_X12_ofEntry) 9 dX12_ofEntry_9 (by omega) (by omega) ?_
  refine z_iload_n (M := M_X12_ofEntry) 10 dX12_ofEntry_10 rfl ?_
  refine z_iaddN (M := M_X12_ofEntry) 11 dX12_ofEntry_11 (by omega) (by omega) ?_
  refine z_ialdG (M := M_X12_ofEntry) 12 dX12_ofEntry_12 o_110 (by omega) (by omega) (gw_e G0 (by omega) (by omega)) (fun x1 ex1 ax1 bx1 => ?_)
  exact z_retI (M := M_X12_ofEntry) 13 dX12_ofEntry_13 rfl ⟨rfl, ex1⟩
abbrev P_X12_counts (h0 : m_H) (a1 a2 : Int) : Int → m_H → Prop := fun x h' => GI h' ∧ FR [109, 110] [(108, 0), (108, 1)] h0 h' ∧ NPi h0 h'
set_option maxHeartbeats 4000000 in
set_option maxRecDepth 100000 in
theorem c_X12_counts (h0 : m_H) (a1 a2 : Int) (G0 : GI h0) : m_CI M_X12_counts [mR 108, mI a1, mI a2] h0 (P_X12_counts h0 a1 a2) := by
  refine m_CI_of ⟨by decide, rfl, by simp [m_arg, m_isL, M_X12_counts], ⟨rfl, rfl⟩, rfl, rfl⟩ (ls := [some (mR 108), some (mI a1), some (mI a2)]) rfl ?_
  refine z_ok (fun _ _ ok => ?_)
  have oa1 : m_32 a1 := ok 1 _ rfl
  unfold m_32 at oa1
  have oa2 : m_32 a2 := ok 2 _ rfl
  unfold m_32 at oa2
  refine z_aload_n (M := M_X12_counts) 0 dX12_counts_0 rfl ?_
  refine z_iconst (M := M_X12_counts) 1 dX12_counts_1 ?_
  refine z_putIH (M := M_X12_counts) 2 dX12_counts_2 p_X12_133 o_108 rfl (u_108_0 G0) ((FR.rf (cs := [109, 110]) (ss := [(108, 0), (108, 1)]) (h := h0)).up rfl) (fun h1 E1 G1 R1 => ?_)
  refine z_iload_n (M := M_X12_counts) 5 dX12_counts_5 rfl ?_
  refine z_i2l (M := M_X12_counts) 6 dX12_counts_6 ?_
  refine z_lconst (M := M_X12_counts) 7 dX12_counts_7 (v := 0) ?_
  refine z_lconst (M := M_X12_counts) 8 dX12_counts_8 (v := 1) ?_
  refine z_sI (M := M_X12_counts) 9 dX12_counts_9 t_X12_in l_X12_143 (m_rr_of rfl) (rest := []) (c_X12_in h1 a2 0 1 G1) rfl rfl (Nat.le_of_ble_eq_true rfl) ⟨rfl, rfl⟩ (fun x1 h2 qx1 => ?_)
  obtain ⟨rfl, ⟨rfl, cx1⟩ | ⟨rfl, cx1⟩⟩ := qx1
  · refine z_if_ne_T (M := M_X12_counts) 12 dX12_counts_12 21 rfl (by omega) ?_
    refine z_aload_n (M := M_X12_counts) 21 dX12_counts_21 rfl ?_
    refine z_iload_n (M := M_X12_counts) 22 dX12_counts_22 rfl ?_
    refine z_vI (M := M_X12_counts) 23 dX12_counts_23 t_X12_isEntry l_X12_192 (m_rr_of rfl) (rest := []) (c_X12_isEntry h1 a1 G1) o_108 rfl rfl rfl (Nat.le_of_ble_eq_true rfl) ⟨rfl, rfl⟩ (fun x2 h3 qx2 => ?_)
    obtain ⟨rfl, ⟨rfl, cx2⟩ | ⟨rfl, cx2⟩⟩ := qx2
    · refine z_if_eq_F (M := M_X12_counts) 26 dX12_counts_26 45 rfl (by omega) ?_
      refine z_aload_n (M := M_X12_counts) 29 dX12_counts_29 rfl ?_
      refine z_bipush (M := M_X12_counts) 30 dX12_counts_30 ?_
      refine z_iconst (M := M_X12_counts) 32 dX12_counts_32 ?_
      refine z_iload_n (M := M_X12_counts) 33 dX12_counts_33 rfl ?_
      refine z_imulN (M := M_X12_counts) 34 dX12_counts_34 (by omega) (by omega) ?_
      refine z_iaddN (M := M_X12_counts) 35 dX12_counts_35 (by omega) (by omega) ?_
      refine z_iconst (M := M_X12_counts) 36 dX12_counts_36 ?_
      refine z_iaddN (M := M_X12_counts) 37 dX12_counts_37 (by omega) (by omega) ?_
      refine z_iload_n (M := M_X12_counts) 38 dX12_counts_38 rfl ?_
      refine z_vI (M := M_X12_counts) 39 dX12_counts_39 t_X12_change l_X12_162 (m_rr_of rfl) (rest := []) (c_X12_change h1 ((80 + (5 * a1)) + 4) a2 G1 ⟨by omega, by omega⟩ (rb_e4 (e := a1) (by omega) (by omega) (by omega) (by omega) (by omega))) o_108 rfl rfl rfl (Nat.le_of_ble_eq_true rfl) ⟨rfl, rfl⟩ (fun x3 h4 qx3 => ?_)
      obtain ⟨G4, S4, fx3_0, fx3_1, fx3_2⟩ := qx3
      have R4 := R1.call S4 (by decide +kernel)
      refine z_ok (fun ox3 _ _ => ?_)
      have ox3 := ox3.1; unfold m_ok m_32 at ox3
      refine z_goto (M := M_X12_counts) 42 dX12_counts_42 51 rfl ?_
      exact z_retI (M := M_X12_counts) 51 dX12_counts_51 rfl ⟨G4, R4, (NPi.change (NPi.put NPi.rf E1 (by decide)) S4 (fun _ => rfl) (fun _ => rfl) fx3_1 ⟨by omega, fun e => by omega⟩ (by omega))⟩
    · refine z_if_eq_T (M := M_X12_counts) 26 dX12_counts_26 45 rfl (by omega) ?_
      refine z_aload_n (M := M_X12_counts) 45 dX12_counts_45 rfl ?_
      refine z_bipush (M := M_X12_counts) 46 dX12_counts_46 ?_
      refine z_vI (M := M_X12_counts) 48 dX12_counts_48 t_X12_answer l_X12_147 (m_rr_of rfl) (rest := []) (c_X12_answer h1 (-2) G1 ⟨by omega, by omega⟩) o_108 rfl rfl rfl (Nat.le_of_ble_eq_true rfl) ⟨rfl, rfl⟩ (fun x4 h5 qx4 => ?_)
      obtain ⟨G5, S5, rfl⟩ := qx4
      have R5 := R1.call S5 (by decide +kernel)
      exact z_retI (M := M_X12_counts) 51 dX12_counts_51 rfl ⟨G5, R5, (NPi.call (NPi.put NPi.rf E1 (by decide)) S5 (fun _ => rfl) (fun _ => rfl) (fun _ => rfl))⟩
  · refine z_if_ne_F (M := M_X12_counts) 12 dX12_counts_12 21 rfl (by omega) ?_
    refine z_aload_n (M := M_X12_counts) 15 dX12_counts_15 rfl ?_
    refine z_iconst (M := M_X12_counts) 16 dX12_counts_16 ?_
    refine z_vI (M := M_X12_counts) 17 dX12_counts_17 t_X12_answer l_X12_147 (m_rr_of rfl) (rest := []) (c_X12_answer h1 (-1) G1 ⟨by omega, by omega⟩) o_108 rfl rfl rfl (Nat.le_of_ble_eq_true rfl) ⟨rfl, rfl⟩ (fun x5 h6 qx5 => ?_)
    obtain ⟨G6, S6, rfl⟩ := qx5
    have R6 := R1.call S6 (by decide +kernel)
    exact z_retI (M := M_X12_counts) 20 dX12_counts_20 rfl ⟨G6, R6, (NPi.call (NPi.put NPi.rf E1 (by decide)) S6 (fun _ => rfl) (fun _ => rfl) (fun _ => rfl))⟩
abbrev P_X12_lengthOf (h0 : m_H) (a1 : Int) : Int → m_H → Prop := fun x h' => GI h' ∧ FR [] [] h0 h' ∧ 0 ≤ x ∧ x ≤ 11
set_option maxHeartbeats 4000000 in
set_option maxRecDepth 100000 in
theorem c_X12_lengthOf (h0 : m_H) (a1 : Int) (G0 : GI h0) (pa1 : 0 ≤ a1 ∧ a1 ≤ 23) : m_CI M_X12_lengthOf [mR 108, mI a1] h0 (P_X12_lengthOf h0 a1) := by
  refine m_CI_of ⟨by decide, rfl, by simp [m_arg, m_isL, M_X12_lengthOf], ⟨rfl, rfl⟩, rfl, rfl⟩ (ls := [some (mR 108), some (mI a1), none]) rfl ?_
  refine z_aload_n (M := M_X12_lengthOf) 0 dX12_lengthOf_0 rfl ?_
  refine z_iload_n (M := M_X12_lengthOf) 1 dX12_lengthOf_1 rfl ?_
  refine z_iconst (M := M_X12_lengthOf) 2 dX12_lengthOf_2 ?_
  refine z_vI (M := M_X12_lengthOf) 3 dX12_lengthOf_3 t_X12_ofEntry l_X12_195 (m_rr_of rfl) (rest := []) (c_X12_ofEntry h0 a1 0 G0 ⟨by omega, by omega⟩ ⟨by omega, by omega⟩) o_108 rfl rfl rfl (Nat.le_of_ble_eq_true rfl) ⟨rfl, rfl⟩ (fun x1 h1 qx1 => ?_)
  obtain ⟨rfl, fx1⟩ := qx1
  have gx1 := gw_e0 G0 (i := (80 + 5 * a1 + 0)) (e := a1) (by omega) (by omega) (by omega)
  rw [fx1] at gx1
  refine z_istore_n (M := M_X12_lengthOf) 6 dX12_lengthOf_6 (ls' := [some (mR 108), some (mI a1), some (mI x1)]) (by decide) rfl ?_
  refine z_aload_n (M := M_X12_lengthOf) 7 dX12_lengthOf_7 rfl ?_
  refine z_getR (M := M_X12_lengthOf) 8 dX12_lengthOf_8 f_X12_13 o_108 rfl (g_108_3 G0) ?_
  refine z_bipush (M := M_X12_lengthOf) 11 dX12_lengthOf_11 ?_
  refine z_iload_n (M := M_X12_lengthOf) 13 dX12_lengthOf_13 rfl ?_
  refine z_iaddN (M := M_X12_lengthOf) 14 dX12_lengthOf_14 (by omega) (by omega) ?_
  refine z_ialdG (M := M_X12_lengthOf) 15 dX12_lengthOf_15 o_110 (by omega) (by omega) (gw_c G0 (by omega) (by omega)) (fun x2 ex2 ax2 bx2 => ?_)
  refine z_iconst (M := M_X12_lengthOf) 16 dX12_lengthOf_16 ?_
  refine z_icmp_eq (M := M_X12_lengthOf) 17 dX12_lengthOf_17 45 rfl (fun c3 => ?_) (fun c3 => ?_)
  · refine z_iload_n (M := M_X12_lengthOf) 45 dX12_lengthOf_45 rfl ?_
    exact z_retI (M := M_X12_lengthOf) 46 dX12_lengthOf_46 rfl ⟨G0, (FR.rf (cs := []) (ss := []) (h := h0)), by omega, by omega⟩
  · refine z_aload_n (M := M_X12_lengthOf) 20 dX12_lengthOf_20 rfl ?_
    refine z_iload_n (M := M_X12_lengthOf) 21 dX12_lengthOf_21 rfl ?_
    refine z_iconst (M := M_X12_lengthOf) 22 dX12_lengthOf_22 ?_
    refine z_vI (M := M_X12_lengthOf) 23 dX12_lengthOf_23 t_X12_ofEntry l_X12_195 (m_rr_of rfl) (rest := []) (c_X12_ofEntry h0 a1 1 G0 ⟨by omega, by omega⟩ ⟨by omega, by omega⟩) o_108 rfl rfl rfl (Nat.le_of_ble_eq_true rfl) ⟨rfl, rfl⟩ (fun x4 h2 qx4 => ?_)
    obtain ⟨rfl, fx4⟩ := qx4
    have gx4 := gw_e1 G0 (i := (80 + 5 * a1 + 1)) (e := a1) (by omega) (by omega) (by omega)
    rw [fx4] at gx4
    refine z_aload_n (M := M_X12_lengthOf) 26 dX12_lengthOf_26 rfl ?_
    refine z_getR (M := M_X12_lengthOf) 27 dX12_lengthOf_27 f_X12_13 o_108 rfl (g_108_3 G0) ?_
    refine z_bipush (M := M_X12_lengthOf) 30 dX12_lengthOf_30 ?_
    refine z_iload_n (M := M_X12_lengthOf) 32 dX12_lengthOf_32 rfl ?_
    refine z_iaddN (M := M_X12_lengthOf) 33 dX12_lengthOf_33 (by omega) (by omega) ?_
    refine z_ialdE (M := M_X12_lengthOf) 34 dX12_lengthOf_34 o_110 (by omega) (by omega) ex2 ?_
    refine z_icmp_lt (M := M_X12_lengthOf) 35 dX12_lengthOf_35 45 rfl (fun c5 => ?_) (fun c5 => ?_)
    · refine z_iload_n (M := M_X12_lengthOf) 45 dX12_lengthOf_45 rfl ?_
      exact z_retI (M := M_X12_lengthOf) 46 dX12_lengthOf_46 rfl ⟨G0, (FR.rf (cs := []) (ss := []) (h := h0)), by omega, by omega⟩
    · refine z_bipush (M := M_X12_lengthOf) 38 dX12_lengthOf_38 ?_
      refine z_iload_n (M := M_X12_lengthOf) 40 dX12_lengthOf_40 rfl ?_
      refine z_iaddN (M := M_X12_lengthOf) 41 dX12_lengthOf_41 (by omega) (by omega) ?_
      refine z_goto (M := M_X12_lengthOf) 42 dX12_lengthOf_42 46 rfl ?_
      exact z_retI (M := M_X12_lengthOf) 46 dX12_lengthOf_46 rfl ⟨G0, (FR.rf (cs := []) (ss := []) (h := h0)), by omega, by omega⟩
abbrev P_X12_of (h0 : m_H) (a1 a2 : Int) : Int → m_H → Prop := fun x h' => GI h' ∧ FR [] [(108, 0)] h0 h' ∧ (-1) ≤ x ∧ x ≤ 99
set_option maxHeartbeats 4000000 in
set_option maxRecDepth 100000 in
theorem c_X12_of (h0 : m_H) (a1 a2 : Int) (G0 : GI h0) : m_CI M_X12_of [mR 108, mI a1, mI a2] h0 (P_X12_of h0 a1 a2) := by
  refine m_CI_of ⟨by decide, rfl, by simp [m_arg, m_isL, M_X12_of], ⟨rfl, rfl⟩, rfl, rfl⟩ (ls := [some (mR 108), some (mI a1), some (mI a2)]) rfl ?_
  refine z_ok (fun _ _ ok => ?_)
  have oa1 : m_32 a1 := ok 1 _ rfl
  unfold m_32 at oa1
  have oa2 : m_32 a2 := ok 2 _ rfl
  unfold m_32 at oa2
  refine z_aload_n (M := M_X12_of) 0 dX12_of_0 rfl ?_
  refine z_iconst (M := M_X12_of) 1 dX12_of_1 ?_
  refine z_putIH (M := M_X12_of) 2 dX12_of_2 p_X12_133 o_108 rfl (u_108_0 G0) ((FR.rf (cs := []) (ss := [(108, 0)]) (h := h0)).up rfl) (fun h1 E1 G1 R1 => ?_)
  refine z_aload_n (M := M_X12_of) 5 dX12_of_5 rfl ?_
  refine z_iload_n (M := M_X12_of) 6 dX12_of_6 rfl ?_
  refine z_vI (M := M_X12_of) 7 dX12_of_7 t_X12_isEntry l_X12_192 (m_rr_of rfl) (rest := []) (c_X12_isEntry h1 a1 G1) o_108 rfl rfl rfl (Nat.le_of_ble_eq_true rfl) ⟨rfl, rfl⟩ (fun x1 h2 qx1 => ?_)
  obtain ⟨rfl, ⟨rfl, cx1⟩ | ⟨rfl, cx1⟩⟩ := qx1
  · refine z_if_eq_F (M := M_X12_of) 10 dX12_of_10 25 rfl (by omega) ?_
    refine z_iload_n (M := M_X12_of) 13 dX12_of_13 rfl ?_
    refine z_i2l (M := M_X12_of) 14 dX12_of_14 ?_
    refine z_lconst (M := M_X12_of) 15 dX12_of_15 (v := 0) ?_
    refine z_ldc2 (M := M_X12_of) 16 dX12_of_16 k_X12_150 ?_
    refine z_sI (M := M_X12_of) 19 dX12_of_19 t_X12_in l_X12_143 (m_rr_of rfl) (rest := []) (c_X12_in h1 a2 0 5 G1) rfl rfl (Nat.le_of_ble_eq_true rfl) ⟨rfl, rfl⟩ (fun x2 h3 qx2 => ?_)
    obtain ⟨rfl, ⟨rfl, cx2⟩ | ⟨rfl, cx2⟩⟩ := qx2
    · refine z_if_ne_T (M := M_X12_of) 22 dX12_of_22 27 rfl (by omega) ?_
      refine z_iload_n (M := M_X12_of) 27 dX12_of_27 rfl ?_
      refine z_iconst (M := M_X12_of) 28 dX12_of_28 ?_
      refine z_icmp_ne (M := M_X12_of) 29 dX12_of_29 40 rfl (fun c3 => ?_) (fun c3 => ?_)
      · refine z_aload_n (M := M_X12_of) 40 dX12_of_40 rfl ?_
        refine z_iload_n (M := M_X12_of) 41 dX12_of_41 rfl ?_
        refine z_iload_n (M := M_X12_of) 42 dX12_of_42 rfl ?_
        refine z_vI (M := M_X12_of) 43 dX12_of_43 t_X12_ofEntry l_X12_195 (m_rr_of rfl) (rest := []) (c_X12_ofEntry h1 a1 a2 G1 ⟨by omega, by omega⟩ ⟨by omega, by omega⟩) o_108 rfl rfl rfl (Nat.le_of_ble_eq_true rfl) ⟨rfl, rfl⟩ (fun x4 h4 qx4 => ?_)
        obtain ⟨rfl, fx4⟩ := qx4
        have gx4 := gw_e G1 (i := (80 + 5 * a1 + a2)) (by omega) (by omega)
        rw [fx4] at gx4
        exact z_retI (M := M_X12_of) 46 dX12_of_46 rfl ⟨G1, R1, by omega, by omega⟩
      · refine z_aload_n (M := M_X12_of) 32 dX12_of_32 rfl ?_
        refine z_iload_n (M := M_X12_of) 33 dX12_of_33 rfl ?_
        refine z_vI (M := M_X12_of) 34 dX12_of_34 t_X12_lengthOf l_X12_198 (m_rr_of rfl) (rest := []) (c_X12_lengthOf h1 a1 G1 ⟨by omega, by omega⟩) o_108 rfl rfl rfl (Nat.le_of_ble_eq_true rfl) ⟨rfl, rfl⟩ (fun x5 h5 qx5 => ?_)
        obtain ⟨G5, S5, ax5, bx5⟩ := qx5
        have R5 := R1.call S5 (by decide +kernel)
        refine z_goto (M := M_X12_of) 37 dX12_of_37 46 rfl ?_
        exact z_retI (M := M_X12_of) 46 dX12_of_46 rfl ⟨G5, R5, by omega, by omega⟩
    · refine z_if_ne_F (M := M_X12_of) 22 dX12_of_22 27 rfl (by omega) ?_
      refine z_iconst (M := M_X12_of) 25 dX12_of_25 ?_
      exact z_retI (M := M_X12_of) 26 dX12_of_26 rfl ⟨G1, R1, by omega, by omega⟩
  · refine z_if_eq_T (M := M_X12_of) 10 dX12_of_10 25 rfl (by omega) ?_
    refine z_iconst (M := M_X12_of) 25 dX12_of_25 ?_
    exact z_retI (M := M_X12_of) 26 dX12_of_26 rfl ⟨G1, R1, by omega, by omega⟩
abbrev P_X12_row (h0 : m_H) : Int → m_H → Prop := fun x h' => GI h' ∧ FR [109, 110] [(108, 0), (108, 1), (108, 6), (108, 8)] h0 h' ∧ (-6) ≤ x ∧ x ≤ 100 ∧ h' 108 8 = 0 ∧ NPi h0 h'
def q_X12_row (h0 : m_H) (n : Nat) : Prop := (∀ (l1 l2 l3 : Int) (h : m_H), GI h → FR [109, 110] [(108, 0), (108, 1), (108, 6), (108, 8)] h0 h → 1 ≤ l1 → l1 ≤ 400 → 0 ≤ l2 → l2 ≤ 100 → 0 ≤ l3 → l3 ≤ 403 → (h 108 8 = 0) → (4 * l2 ≤ l3) → (NPi h0 h) → 2 * (403 - l3) + (1) ≤ (n : Int) → m_Z oF M_X12_row 35 [some (mR 108), some (mI l1), some (mI l2), some (mI l3), none] [] h (m_QI (P_X12_row h0)))
set_option maxHeartbeats 4000000 in
set_option maxRecDepth 100000 in
theorem s_X12_row_35 (h0 : m_H) (G0 : GI h0) (n : Nat) (ih : q_X12_row h0 n) : ∀ (l1 l2 l3 : Int) (h : m_H), GI h → FR [109, 110] [(108, 0), (108, 1), (108, 6), (108, 8)] h0 h → 1 ≤ l1 → l1 ≤ 400 → 0 ≤ l2 → l2 ≤ 100 → 0 ≤ l3 → l3 ≤ 403 → (h 108 8 = 0) → (4 * l2 ≤ l3) → (NPi h0 h) → 2 * (403 - l3) + (1) ≤ ((n + 1 : Nat) : Int) → m_Z oF M_X12_row 35 [some (mR 108), some (mI l1), some (mI l2), some (mI l3), none] [] h (m_QI (P_X12_row h0)) := by
  intro l1 l2 l3 h G R v0 v1 v2 v3 v4 v5 t_108_8 i0 i1 hr
  refine z_iload_n (M := M_X12_row) 35 dX12_row_35 rfl ?_
  refine z_iload_n (M := M_X12_row) 36 dX12_row_36 rfl ?_
  refine z_icmp_ge (M := M_X12_row) 37 dX12_row_37 174 rfl (fun c1 => ?_) (fun c1 => ?_)
  · refine z_aload_n (M := M_X12_row) 174 dX12_row_174 rfl ?_
    refine z_iload_n (M := M_X12_row) 175 dX12_row_175 rfl ?_
    refine z_vI (M := M_X12_row) 176 dX12_row_176 t_X12_answer l_X12_147 (m_rr_of rfl) (rest := []) (c_X12_answer h l2 G ⟨by omega, by omega⟩) o_108 rfl rfl rfl (Nat.le_of_ble_eq_true rfl) ⟨rfl, rfl⟩ (fun x2 h1 qx2 => ?_)
    obtain ⟨G1, S1, rfl⟩ := qx2
    have R1 := R.call S1 (by decide +kernel)
    have z8 : h1 108 8 = 0 := ((S1 108 8 rfl).trans t_108_8)
    exact z_retI (M := M_X12_row) 179 dX12_row_179 rfl ⟨G1, R1, by omega, by omega, by omega, (NPi.call i1 S1 (fun _ => rfl) (fun _ => rfl) (fun _ => rfl))⟩
  · refine z_iload_n (M := M_X12_row) 40 dX12_row_40 rfl ?_
    refine z_iconst (M := M_X12_row) 41 dX12_row_41 ?_
    refine z_iaddN (M := M_X12_row) 42 dX12_row_42 (by omega) (by omega) ?_
    refine z_iload_n (M := M_X12_row) 43 dX12_row_43 rfl ?_
    refine z_icmp_ge (M := M_X12_row) 44 dX12_row_44 62 rfl (fun c3 => ?_) (fun c3 => ?_)
    · refine z_iconst (M := M_X12_row) 62 dX12_row_62 ?_
      refine z_istore (M := M_X12_row) 63 dX12_row_63 (ls' := [some (mR 108), some (mI l1), some (mI l2), some (mI l3), some (mI 0)]) (by decide) rfl ?_
      refine z_iload (M := M_X12_row) 65 dX12_row_65 rfl ?_
      refine z_if_eq_T (M := M_X12_row) 67 dX12_row_67 110 rfl (by omega) ?_
      refine z_iconst (M := M_X12_row) 110 dX12_row_110 ?_
      refine z_istore (M := M_X12_row) 111 dX12_row_111 (ls' := [some (mR 108), some (mI l1), some (mI l2), some (mI l3), some (mI 0)]) (by decide) rfl ?_
      refine z_iload (M := M_X12_row) 113 dX12_row_113 rfl ?_
      refine z_if_eq_T (M := M_X12_row) 115 dX12_row_115 158 rfl (by omega) ?_
      refine z_aload_n (M := M_X12_row) 158 dX12_row_158 rfl ?_
      refine z_dup (M := M_X12_row) 159 dX12_row_159 rfl ?_
      refine z_getIV (M := M_X12_row) 160 dX12_row_160 f_X12_204 o_108 (by decide) (fun x4 ex4 => ?_)
      refine z_ok (fun ox4 _ _ => ?_)
      have ox4 := ox4.1; unfold m_ok m_32 at ox4
      refine z_iconst (M := M_X12_row) 163 dX12_row_163 ?_
      refine z_iadd (M := M_X12_row) 164 dX12_row_164 ?_
      refine z_topm (fun x5 ex5 ox5 => ?_)
      unfold m_32 at ox5
      refine z_putIH (M := M_X12_row) 165 dX12_row_165 p_X12_204 o_108 rfl (u_108_6 G) (R.up rfl) (fun h2 E2 G2 R2 => ?_)
      refine z_iincN (M := M_X12_row) 168 dX12_row_168 (ls' := [some (mR 108), some (mI l1), some (mI l2), some (mI (l3 + 4)), some (mI 0)]) (by decide) rfl (by (unfold m_32; decide)) (by omega) (by omega) rfl ?_
      refine z_goto (M := M_X12_row) 171 dX12_row_171 35 rfl ?_
      exact z_mask [true, true, true, true, false] rfl (ih l1 l2 (l3 + 4) h2 G2 R2 (by omega) (by omega) (by omega) (by omega) (by omega) (by omega) ((upN E2 (fun q => absurd q.2 (by decide))).trans t_108_8) (by omega) (NPi.put i1 E2 (by decide)) (by omega))
    · refine z_aload_n (M := M_X12_row) 47 dX12_row_47 rfl ?_
      refine z_getR (M := M_X12_row) 48 dX12_row_48 f_X12_13 o_108 rfl (g_108_3 G) ?_
      refine z_iconst (M := M_X12_row) 51 dX12_row_51 ?_
      refine z_ialdG (M := M_X12_row) 52 dX12_row_52 o_110 (by omega) (by omega) (gw_0 G) (fun x6 ex6 ax6 bx6 => ?_)
      refine z_bipush (M := M_X12_row) 53 dX12_row_53 ?_
      refine z_icmp_ge (M := M_X12_row) 55 dX12_row_55 62 rfl (fun c7 => ?_) (fun c7 => ?_)
      · refine z_iconst (M := M_X12_row) 62 dX12_row_62 ?_
        refine z_istore (M := M_X12_row) 63 dX12_row_63 (ls' := [some (mR 108), some (mI l1), some (mI l2), some (mI l3), some (mI 0)]) (by decide) rfl ?_
        refine z_iload (M := M_X12_row) 65 dX12_row_65 rfl ?_
        refine z_if_eq_T (M := M_X12_row) 67 dX12_row_67 110 rfl (by omega) ?_
        refine z_iconst (M := M_X12_row) 110 dX12_row_110 ?_
        refine z_istore (M := M_X12_row) 111 dX12_row_111 (ls' := [some (mR 108), some (mI l1), some (mI l2), some (mI l3), some (mI 0)]) (by decide) rfl ?_
        refine z_iload (M := M_X12_row) 113 dX12_row_113 rfl ?_
        refine z_if_eq_T (M := M_X12_row) 115 dX12_row_115 158 rfl (by omega) ?_
        refine z_aload_n (M := M_X12_row) 158 dX12_row_158 rfl ?_
        refine z_dup (M := M_X12_row) 159 dX12_row_159 rfl ?_
        refine z_getIV (M := M_X12_row) 160 dX12_row_160 f_X12_204 o_108 (by decide) (fun x8 ex8 => ?_)
        refine z_ok (fun ox8 _ _ => ?_)
        have ox8 := ox8.1; unfold m_ok m_32 at ox8
        refine z_iconst (M := M_X12_row) 163 dX12_row_163 ?_
        refine z_iadd (M := M_X12_row) 164 dX12_row_164 ?_
        refine z_topm (fun x9 ex9 ox9 => ?_)
        unfold m_32 at ox9
        refine z_putIH (M := M_X12_row) 165 dX12_row_165 p_X12_204 o_108 rfl (u_108_6 G) (R.up rfl) (fun h3 E3 G3 R3 => ?_)
        refine z_iincN (M := M_X12_row) 168 dX12_row_168 (ls' := [some (mR 108), some (mI l1), some (mI l2), some (mI (l3 + 4)), some (mI 0)]) (by decide) rfl (by (unfold m_32; decide)) (by omega) (by omega) rfl ?_
        refine z_goto (M := M_X12_row) 171 dX12_row_171 35 rfl ?_
        exact z_mask [true, true, true, true, false] rfl (ih l1 l2 (l3 + 4) h3 G3 R3 (by omega) (by omega) (by omega) (by omega) (by omega) (by omega) ((upN E3 (fun q => absurd q.2 (by decide))).trans t_108_8) (by omega) (NPi.put i1 E3 (by decide)) (by omega))
      · refine z_iconst (M := M_X12_row) 58 dX12_row_58 ?_
        refine z_goto (M := M_X12_row) 59 dX12_row_59 63 rfl ?_
        refine z_istore (M := M_X12_row) 63 dX12_row_63 (ls' := [some (mR 108), some (mI l1), some (mI l2), some (mI l3), some (mI 1)]) (by decide) rfl ?_
        refine z_iload (M := M_X12_row) 65 dX12_row_65 rfl ?_
        refine z_if_eq_F (M := M_X12_row) 67 dX12_row_67 110 rfl (by omega) ?_
        refine z_aload_n (M := M_X12_row) 70 dX12_row_70 rfl ?_
        refine z_getR (M := M_X12_row) 71 dX12_row_71 f_X12_23 o_108 rfl (g_108_7 G) ?_
        refine z_iload_n (M := M_X12_row) 74 dX12_row_74 rfl ?_
        refine z_ialdG (M := M_X12_row) 75 dX12_row_75 o_113 (by omega) (by omega) (g_113 G (by omega)) (fun x10 ex10 ax10 bx10 => ?_)
        refine z_aload_n (M := M_X12_row) 76 dX12_row_76 rfl ?_
        refine z_getR (M := M_X12_row) 77 dX12_row_77 f_X12_23 o_108 rfl (g_108_7 G) ?_
        refine z_iload_n (M := M_X12_row) 80 dX12_row_80 rfl ?_
        refine z_iconst (M := M_X12_row) 81 dX12_row_81 ?_
        refine z_iaddN (M := M_X12_row) 82 dX12_row_82 (by omega) (by omega) ?_
        refine z_ialdG (M := M_X12_row) 83 dX12_row_83 o_113 (by omega) (by omega) (g_113 G (by omega)) (fun x11 ex11 ax11 bx11 => ?_)
        refine z_aload_n (M := M_X12_row) 84 dX12_row_84 rfl ?_
        refine z_getR (M := M_X12_row) 85 dX12_row_85 f_X12_23 o_108 rfl (g_108_7 G) ?_
        refine z_iload_n (M := M_X12_row) 88 dX12_row_88 rfl ?_
        refine z_iconst (M := M_X12_row) 89 dX12_row_89 ?_
        refine z_iaddN (M := M_X12_row) 90 dX12_row_90 (by omega) (by omega) ?_
        refine z_ialdG (M := M_X12_row) 91 dX12_row_91 o_113 (by omega) (by omega) (g_113 G (by omega)) (fun x12 ex12 ax12 bx12 => ?_)
        refine z_aload_n (M := M_X12_row) 92 dX12_row_92 rfl ?_
        refine z_getR (M := M_X12_row) 93 dX12_row_93 f_X12_23 o_108 rfl (g_108_7 G) ?_
        refine z_iload_n (M := M_X12_row) 96 dX12_row_96 rfl ?_
        refine z_iconst (M := M_X12_row) 97 dX12_row_97 ?_
        refine z_iaddN (M := M_X12_row) 98 dX12_row_98 (by omega) (by omega) ?_
        refine z_ialdG (M := M_X12_row) 99 dX12_row_99 o_113 (by omega) (by omega) (g_113 G (by omega)) (fun x13 ex13 ax13 bx13 => ?_)
        refine z_sI (M := M_X12_row) 100 dX12_row_100 t_X12_canEnter l_X12_184 (m_rr_of rfl) (rest := []) (c_X12_canEnter h x10 x11 x12 x13 G) rfl rfl (Nat.le_of_ble_eq_true rfl) ⟨rfl, rfl⟩ (fun x14 h4 qx14 => ?_)
        obtain ⟨rfl, ⟨rfl, cx14⟩ | ⟨rfl, cx14⟩⟩ := qx14
        · refine z_if_eq_F (M := M_X12_row) 103 dX12_row_103 110 rfl (by omega) ?_
          refine z_iconst (M := M_X12_row) 106 dX12_row_106 ?_
          refine z_goto (M := M_X12_row) 107 dX12_row_107 111 rfl ?_
          refine z_istore (M := M_X12_row) 111 dX12_row_111 (ls' := [some (mR 108), some (mI l1), some (mI l2), some (mI l3), some (mI 1)]) (by decide) rfl ?_
          refine z_iload (M := M_X12_row) 113 dX12_row_113 rfl ?_
          refine z_if_eq_F (M := M_X12_row) 115 dX12_row_115 158 rfl (by omega) ?_
          refine z_aload_n (M := M_X12_row) 118 dX12_row_118 rfl ?_
          refine z_aload_n (M := M_X12_row) 119 dX12_row_119 rfl ?_
          refine z_getR (M := M_X12_row) 120 dX12_row_120 f_X12_23 o_108 rfl (g_108_7 G) ?_
          refine z_iload_n (M := M_X12_row) 123 dX12_row_123 rfl ?_
          refine z_ialdE (M := M_X12_row) 124 dX12_row_124 o_113 (by omega) (by omega) ex10 ?_
          refine z_aload_n (M := M_X12_row) 125 dX12_row_125 rfl ?_
          refine z_getR (M := M_X12_row) 126 dX12_row_126 f_X12_23 o_108 rfl (g_108_7 G) ?_
          refine z_iload_n (M := M_X12_row) 129 dX12_row_129 rfl ?_
          refine z_iconst (M := M_X12_row) 130 dX12_row_130 ?_
          refine z_iaddN (M := M_X12_row) 131 dX12_row_131 (by omega) (by omega) ?_
          refine z_ialdE (M := M_X12_row) 132 dX12_row_132 o_113 (by omega) (by omega) ex11 ?_
          refine z_aload_n (M := M_X12_row) 133 dX12_row_133 rfl ?_
          refine z_getR (M := M_X12_row) 134 dX12_row_134 f_X12_23 o_108 rfl (g_108_7 G) ?_
          refine z_iload_n (M := M_X12_row) 137 dX12_row_137 rfl ?_
          refine z_iconst (M := M_X12_row) 138 dX12_row_138 ?_
          refine z_iaddN (M := M_X12_row) 139 dX12_row_139 (by omega) (by omega) ?_
          refine z_ialdE (M := M_X12_row) 140 dX12_row_140 o_113 (by omega) (by omega) ex12 ?_
          refine z_aload_n (M := M_X12_row) 141 dX12_row_141 rfl ?_
          refine z_getR (M := M_X12_row) 142 dX12_row_142 f_X12_23 o_108 rfl (g_108_7 G) ?_
          refine z_iload_n (M := M_X12_row) 145 dX12_row_145 rfl ?_
          refine z_iconst (M := M_X12_row) 146 dX12_row_146 ?_
          refine z_iaddN (M := M_X12_row) 147 dX12_row_147 (by omega) (by omega) ?_
          refine z_ialdE (M := M_X12_row) 148 dX12_row_148 o_113 (by omega) (by omega) ex13 ?_
          refine z_vV (M := M_X12_row) 149 dX12_row_149 t_X12_addEntry l_X12_188 (m_rr_of rfl) (rest := []) (c_X12_addEntry h x10 x11 x12 x13 G ⟨by omega, by omega⟩ ⟨by omega, by omega⟩ ⟨by omega, by omega⟩ ⟨by omega, by omega⟩ (le_e ex6 (by omega))) o_108 rfl rfl rfl (Nat.le_of_ble_eq_true rfl) ⟨rfl, rfl⟩ (fun h5 qx15 => ?_)
          obtain ⟨G5, S5, fx15_0, fx15_1, npx15⟩ := qx15
          have R5 := R.call S5 (by decide +kernel)
          refine z_iincN (M := M_X12_row) 152 dX12_row_152 (ls' := [some (mR 108), some (mI l1), some (mI (l2 + 1)), some (mI l3), some (mI 1)]) (by decide) rfl (by (unfold m_32; decide)) (by omega) (by omega) rfl ?_
          refine z_goto (M := M_X12_row) 155 dX12_row_155 168 rfl ?_
          refine z_iincN (M := M_X12_row) 168 dX12_row_168 (ls' := [some (mR 108), some (mI l1), some (mI (l2 + 1)), some (mI (l3 + 4)), some (mI 1)]) (by decide) rfl (by (unfold m_32; decide)) (by omega) (by omega) rfl ?_
          refine z_goto (M := M_X12_row) 171 dX12_row_171 35 rfl ?_
          exact z_mask [true, true, true, true, false] rfl (ih l1 (l2 + 1) (l3 + 4) h5 G5 R5 (by omega) (by omega) (by omega) (by omega) (by omega) (by omega) ((S5 108 8 rfl).trans t_108_8) (by omega) (NPi.tr i1 npx15) (by omega))
        · refine z_if_eq_T (M := M_X12_row) 103 dX12_row_103 110 rfl (by omega) ?_
          refine z_iconst (M := M_X12_row) 110 dX12_row_110 ?_
          refine z_istore (M := M_X12_row) 111 dX12_row_111 (ls' := [some (mR 108), some (mI l1), some (mI l2), some (mI l3), some (mI 0)]) (by decide) rfl ?_
          refine z_iload (M := M_X12_row) 113 dX12_row_113 rfl ?_
          refine z_if_eq_T (M := M_X12_row) 115 dX12_row_115 158 rfl (by omega) ?_
          refine z_aload_n (M := M_X12_row) 158 dX12_row_158 rfl ?_
          refine z_dup (M := M_X12_row) 159 dX12_row_159 rfl ?_
          refine z_getIV (M := M_X12_row) 160 dX12_row_160 f_X12_204 o_108 (by decide) (fun x16 ex16 => ?_)
          refine z_ok (fun ox16 _ _ => ?_)
          have ox16 := ox16.1; unfold m_ok m_32 at ox16
          refine z_iconst (M := M_X12_row) 163 dX12_row_163 ?_
          refine z_iadd (M := M_X12_row) 164 dX12_row_164 ?_
          refine z_topm (fun x17 ex17 ox17 => ?_)
          unfold m_32 at ox17
          refine z_putIH (M := M_X12_row) 165 dX12_row_165 p_X12_204 o_108 rfl (u_108_6 G) (R.up rfl) (fun h6 E6 G6 R6 => ?_)
          refine z_iincN (M := M_X12_row) 168 dX12_row_168 (ls' := [some (mR 108), some (mI l1), some (mI l2), some (mI (l3 + 4)), some (mI 0)]) (by decide) rfl (by (unfold m_32; decide)) (by omega) (by omega) rfl ?_
          refine z_goto (M := M_X12_row) 171 dX12_row_171 35 rfl ?_
          exact z_mask [true, true, true, true, false] rfl (ih l1 l2 (l3 + 4) h6 G6 R6 (by omega) (by omega) (by omega) (by omega) (by omega) (by omega) ((upN E6 (fun q => absurd q.2 (by decide))).trans t_108_8) (by omega) (NPi.put i1 E6 (by decide)) (by omega))
theorem a_X12_row (h0 : m_H) (G0 : GI h0) : ∀ n, q_X12_row h0 n := by
  intro n
  induction n with
  | zero => unfold q_X12_row; intros; omega
  | succ n ih => exact s_X12_row_35 h0 G0 n ih
set_option maxHeartbeats 4000000 in
set_option maxRecDepth 100000 in
theorem c_X12_row (h0 : m_H) (G0 : GI h0) : m_CI M_X12_row [mR 108] h0 (P_X12_row h0) := by
  refine m_CI_of ⟨by decide, rfl, by simp [m_arg, m_isL, M_X12_row], ⟨rfl, rfl⟩, rfl, rfl⟩ (ls := [some (mR 108), none, none, none, none]) rfl ?_
  have ih := a_X12_row h0 G0 814
  refine z_aload_n (M := M_X12_row) 0 dX12_row_0 rfl ?_
  refine z_iconst (M := M_X12_row) 1 dX12_row_1 ?_
  refine z_putIH (M := M_X12_row) 2 dX12_row_2 p_X12_133 o_108 rfl (u_108_0 G0) ((FR.rf (cs := [109, 110]) (ss := [(108, 0), (108, 1), (108, 6), (108, 8)]) (h := h0)).up rfl) (fun h1 E1 G1 R1 => ?_)
  refine z_aload_n (M := M_X12_row) 5 dX12_row_5 rfl ?_
  refine z_getIG (M := M_X12_row) 6 dX12_row_6 f_X12_201 o_108 (by decide) (g_108_8 G1) (fun x1 ex1 ax1 bx1 => ?_)
  refine z_istore_n (M := M_X12_row) 9 dX12_row_9 (ls' := [some (mR 108), some (mI x1), none, none, none]) (by decide) rfl ?_
  refine z_aload_n (M := M_X12_row) 10 dX12_row_10 rfl ?_
  refine z_iconst (M := M_X12_row) 11 dX12_row_11 ?_
  refine z_putIH (M := M_X12_row) 12 dX12_row_12 p_X12_201 o_108 rfl (u_108_8 G1 (by omega) (by omega)) (R1.up rfl) (fun h2 E2 G2 R2 => ?_)
  refine z_iload_n (M := M_X12_row) 15 dX12_row_15 rfl ?_
  refine z_if_ne (M := M_X12_row) 16 dX12_row_16 26 rfl (fun c2 => ?_) (fun c2 => ?_)
  · refine z_aload_n (M := M_X12_row) 26 dX12_row_26 rfl ?_
    refine z_iconst (M := M_X12_row) 27 dX12_row_27 ?_
    refine z_putIH (M := M_X12_row) 28 dX12_row_28 p_X12_204 o_108 rfl (u_108_6 G2) (R2.up rfl) (fun h3 E3 G3 R3 => ?_)
    refine z_iconst (M := M_X12_row) 31 dX12_row_31 ?_
    refine z_istore_n (M := M_X12_row) 32 dX12_row_32 (ls' := [some (mR 108), some (mI x1), some (mI 0), none, none]) (by decide) rfl ?_
    refine z_iconst (M := M_X12_row) 33 dX12_row_33 ?_
    refine z_istore_n (M := M_X12_row) 34 dX12_row_34 (ls' := [some (mR 108), some (mI x1), some (mI 0), some (mI 0), none]) (by decide) rfl ?_
    exact z_mask [true, true, true, true, false] rfl (ih x1 0 0 h3 G3 R3 (by omega) (by omega) (by omega) (by omega) (by omega) (by omega) ((upN E3 (fun q => absurd q.2 (by decide))).trans (upE E2)) (by omega) (NPi.put (NPi.put (NPi.put NPi.rf E1 (by decide)) E2 (by decide)) E3 (by decide)) (by omega))
  · refine z_aload_n (M := M_X12_row) 19 dX12_row_19 rfl ?_
    refine z_bipush (M := M_X12_row) 20 dX12_row_20 ?_
    refine z_vI (M := M_X12_row) 22 dX12_row_22 t_X12_answer l_X12_147 (m_rr_of rfl) (rest := []) (c_X12_answer h2 (-6) G2 ⟨by omega, by omega⟩) o_108 rfl rfl rfl (Nat.le_of_ble_eq_true rfl) ⟨rfl, rfl⟩ (fun x3 h4 qx3 => ?_)
    obtain ⟨G4, S4, rfl⟩ := qx3
    have R4 := R2.call S4 (by decide +kernel)
    have z8 : h4 108 8 = 0 := ((S4 108 8 rfl).trans (upE E2))
    exact z_retI (M := M_X12_row) 25 dX12_row_25 rfl ⟨G4, R4, by omega, by omega, by omega, (NPi.call (NPi.put (NPi.put NPi.rf E1 (by decide)) E2 (by decide)) S4 (fun _ => rfl) (fun _ => rfl) (fun _ => rfl))⟩
abbrev P_X12_blurred (h0 : m_H) : Int → m_H → Prop := fun x h' => GI h' ∧ FR [] [(108, 0)] h0 h'
set_option maxHeartbeats 4000000 in
set_option maxRecDepth 100000 in
theorem c_X12_blurred (h0 : m_H) (G0 : GI h0) : m_CI M_X12_blurred [mR 108] h0 (P_X12_blurred h0) := by
  refine m_CI_of ⟨by decide, rfl, by simp [m_arg, m_isL, M_X12_blurred], ⟨rfl, rfl⟩, rfl, rfl⟩ (ls := [some (mR 108)]) rfl ?_
  refine z_aload_n (M := M_X12_blurred) 0 dX12_blurred_0 rfl ?_
  refine z_iconst (M := M_X12_blurred) 1 dX12_blurred_1 ?_
  refine z_putIH (M := M_X12_blurred) 2 dX12_blurred_2 p_X12_133 o_108 rfl (u_108_0 G0) ((FR.rf (cs := []) (ss := [(108, 0)]) (h := h0)).up rfl) (fun h1 E1 G1 R1 => ?_)
  refine z_aload_n (M := M_X12_blurred) 5 dX12_blurred_5 rfl ?_
  refine z_getIV (M := M_X12_blurred) 6 dX12_blurred_6 f_X12_204 o_108 (by decide) (fun x1 ex1 => ?_)
  refine z_ok (fun ox1 _ _ => ?_)
  have ox1 := ox1.1; unfold m_ok m_32 at ox1
  exact z_retI (M := M_X12_blurred) 9 dX12_blurred_9 rfl ⟨G1, R1⟩
abbrev P_X12_four (h0 : m_H) (a1 : Int) : m_H → Prop := fun h' => GI h' ∧ FR [113] [(108, 8)] h0 h' ∧ h' 108 8 = h0 108 8 + 4
def q_X12_four (h0 : m_H) (a1 : Int) (n : Nat) : Prop := (∀ (l2 y_108_8 : Int) (h : m_H), GI h → FR [113] [(108, 8)] h0 h → (-8) ≤ l2 → l2 ≤ 24 → 0 ≤ y_108_8 → y_108_8 ≤ 400 → (-2147483648) ≤ a1 → a1 ≤ 2147483647 → (h 108 8 = y_108_8) → (8 * y_108_8 = 8 * h0 108 8 + 24 - l2) → 2 * (l2 - (-8)) + (1) ≤ (n : Int) → m_Z oF M_X12_four 3 [some (mR 108), some (mI a1), some (mI l2)] [] h (m_QV (P_X12_four h0 a1)))
set_option maxHeartbeats 4000000 in
set_option maxRecDepth 100000 in
theorem s_X12_four_3 (h0 : m_H) (a1 : Int) (G0 : GI h0) (ht : h0 108 8 ≤ 396) (n : Nat) (ih : q_X12_four h0 a1 n) : ∀ (l2 y_108_8 : Int) (h : m_H), GI h → FR [113] [(108, 8)] h0 h → (-8) ≤ l2 → l2 ≤ 24 → 0 ≤ y_108_8 → y_108_8 ≤ 400 → (-2147483648) ≤ a1 → a1 ≤ 2147483647 → (h 108 8 = y_108_8) → (8 * y_108_8 = 8 * h0 108 8 + 24 - l2) → 2 * (l2 - (-8)) + (1) ≤ ((n + 1 : Nat) : Int) → m_Z oF M_X12_four 3 [some (mR 108), some (mI a1), some (mI l2)] [] h (m_QV (P_X12_four h0 a1)) := by
  intro l2 y_108_8 h G R v0 v1 v2 v3 v4 v5 t_108_8 i0 hr
  refine z_iload_n (M := M_X12_four) 3 dX12_four_3 rfl ?_
  refine z_if_lt (M := M_X12_four) 4 dX12_four_4 39 rfl (fun c1 => ?_) (fun c1 => ?_)
  · exact z_retV (M := M_X12_four) 39 dX12_four_39 rfl ⟨G, R, by omega⟩
  · refine z_aload_n (M := M_X12_four) 7 dX12_four_7 rfl ?_
    refine z_getR (M := M_X12_four) 8 dX12_four_8 f_X12_23 o_108 rfl (g_108_7 G) ?_
    refine z_aload_n (M := M_X12_four) 11 dX12_four_11 rfl ?_
    refine z_getIE (M := M_X12_four) 12 dX12_four_12 f_X12_201 o_108 (by decide) t_108_8 ?_
    refine z_iload_n (M := M_X12_four) 15 dX12_four_15 rfl ?_
    refine z_iload_n (M := M_X12_four) 16 dX12_four_16 rfl ?_
    refine z_ishr (M := M_X12_four) 17 dX12_four_17 ?_
    refine z_topm (fun x2 ex2 ox2 => ?_)
    unfold m_32 at ox2
    refine z_sipush (M := M_X12_four) 18 dX12_four_18 ?_
    refine z_iand (M := M_X12_four) 21 dX12_four_21 ?_
    refine z_topBI (m_and_255 _) (fun x3 ex3 ax3 bx3 => ?_)
    refine z_iastH (M := M_X12_four) 22 dX12_four_22 o_113 (by omega) (by omega) (u_113 G (by omega) (by omega)) (R.up rfl) (fun h1 E1 G1 R1 => ?_)
    refine z_aload_n (M := M_X12_four) 23 dX12_four_23 rfl ?_
    refine z_dup (M := M_X12_four) 24 dX12_four_24 rfl ?_
    refine z_getIE (M := M_X12_four) 25 dX12_four_25 f_X12_201 o_108 (by decide) ((upN E1 (fun q => absurd q.1 (by decide))).trans t_108_8) ?_
    refine z_iconst (M := M_X12_four) 28 dX12_four_28 ?_
    refine z_iaddN (M := M_X12_four) 29 dX12_four_29 (by omega) (by omega) ?_
    refine z_putIH (M := M_X12_four) 30 dX12_four_30 p_X12_201 o_108 rfl (u_108_8 G1 (by omega) (by omega)) (R1.up rfl) (fun h2 E2 G2 R2 => ?_)
    refine z_iincN (M := M_X12_four) 33 dX12_four_33 (ls' := [some (mR 108), some (mI a1), some (mI (l2 + (-8)))]) (by decide) rfl (by (unfold m_32; decide)) (by omega) (by omega) rfl ?_
    refine z_goto (M := M_X12_four) 36 dX12_four_36 3 rfl ?_
    exact z_mask [true, true, true] rfl (ih (l2 + (-8)) (y_108_8 + 1) h2 G2 R2 (by omega) (by omega) (by omega) (by omega) (by omega) (by omega) (upE E2) (by omega) (by omega))
theorem a_X12_four (h0 : m_H) (a1 : Int) (G0 : GI h0) (ht : h0 108 8 ≤ 396) : ∀ n, q_X12_four h0 a1 n := by
  intro n
  induction n with
  | zero => unfold q_X12_four; intros; omega
  | succ n ih => exact s_X12_four_3 h0 a1 G0 ht n ih
set_option maxHeartbeats 4000000 in
set_option maxRecDepth 100000 in
theorem c_X12_four (h0 : m_H) (a1 : Int) (G0 : GI h0) (ht : h0 108 8 ≤ 396) : m_CV M_X12_four [mR 108, mI a1] h0 (P_X12_four h0 a1) := by
  refine m_CV_of ⟨by decide, rfl, by simp [m_arg, m_isL, M_X12_four], ⟨rfl, rfl⟩, rfl, rfl⟩ (ls := [some (mR 108), some (mI a1), none]) rfl ?_
  have ih := a_X12_four h0 a1 G0 ht 72
  refine z_ok (fun _ _ ok => ?_)
  have oa1 : m_32 a1 := ok 1 _ rfl
  unfold m_32 at oa1
  obtain ⟨x1, ex1⟩ : ∃ y : Int, h0 108 8 = y := ⟨_, rfl⟩
  have bx1 : 0 ≤ x1 ∧ x1 ≤ 400 := ex1 ▸ g_108_8 G0
  refine z_bipush (M := M_X12_four) 0 dX12_four_0 ?_
  refine z_istore_n (M := M_X12_four) 2 dX12_four_2 (ls' := [some (mR 108), some (mI a1), some (mI 24)]) (by decide) rfl ?_
  exact z_mask [true, true, true] rfl (ih 24 x1 h0 G0 (FR.rf (cs := [113]) (ss := [(108, 8)]) (h := h0)) (by omega) (by omega) (by omega) (by omega) (by omega) (by omega) ex1 (by omega) (by omega))
abbrev P_X12_feed (h0 : m_H) (a1 a2 a3 a4 a5 : Int) : Int → m_H → Prop := fun x h' => GI h' ∧ FR [113] [(108, 0), (108, 8)] h0 h' ∧ ((380 < h0 108 8 ∧ x = -1 ∧ h' 108 8 = h0 108 8) ∨ (h0 108 8 ≤ 380 ∧ x = h0 108 8 + 20 ∧ h' 108 8 = h0 108 8 + 20))
set_option maxHeartbeats 4000000 in
set_option maxRecDepth 100000 in
theorem c_X12_feed (h0 : m_H) (a1 a2 a3 a4 a5 : Int) (G0 : GI h0) : m_CI M_X12_feed [mR 108, mI a1, mI a2, mI a3, mI a4, mI a5] h0 (P_X12_feed h0 a1 a2 a3 a4 a5) := by
  refine m_CI_of ⟨by decide, rfl, by simp [m_arg, m_isL, M_X12_feed], ⟨rfl, rfl⟩, rfl, rfl⟩ (ls := [some (mR 108), some (mI a1), some (mI a2), some (mI a3), some (mI a4), some (mI a5)]) rfl ?_
  refine z_ok (fun _ _ ok => ?_)
  have oa1 : m_32 a1 := ok 1 _ rfl
  unfold m_32 at oa1
  have oa2 : m_32 a2 := ok 2 _ rfl
  unfold m_32 at oa2
  have oa3 : m_32 a3 := ok 3 _ rfl
  unfold m_32 at oa3
  have oa4 : m_32 a4 := ok 4 _ rfl
  unfold m_32 at oa4
  have oa5 : m_32 a5 := ok 5 _ rfl
  unfold m_32 at oa5
  obtain ⟨x1, ex1⟩ : ∃ y : Int, h0 108 8 = y := ⟨_, rfl⟩
  have bx1 : 0 ≤ x1 ∧ x1 ≤ 400 := ex1 ▸ g_108_8 G0
  refine z_aload_n (M := M_X12_feed) 0 dX12_feed_0 rfl ?_
  refine z_iconst (M := M_X12_feed) 1 dX12_feed_1 ?_
  refine z_putIH (M := M_X12_feed) 2 dX12_feed_2 p_X12_133 o_108 rfl (u_108_0 G0) ((FR.rf (cs := [113]) (ss := [(108, 0), (108, 8)]) (h := h0)).up rfl) (fun h1 E1 G1 R1 => ?_)
  refine z_aload_n (M := M_X12_feed) 5 dX12_feed_5 rfl ?_
  refine z_getIE (M := M_X12_feed) 6 dX12_feed_6 f_X12_201 o_108 (by decide) ((upN E1 (fun q => absurd q.2 (by decide))).trans ex1) ?_
  refine z_bipush (M := M_X12_feed) 9 dX12_feed_9 ?_
  refine z_iaddN (M := M_X12_feed) 11 dX12_feed_11 (by omega) (by omega) ?_
  refine z_sipush (M := M_X12_feed) 12 dX12_feed_12 ?_
  refine z_icmp_le (M := M_X12_feed) 15 dX12_feed_15 20 rfl (fun c2 => ?_) (fun c2 => ?_)
  · refine z_aload_n (M := M_X12_feed) 20 dX12_feed_20 rfl ?_
    refine z_iload_n (M := M_X12_feed) 21 dX12_feed_21 rfl ?_
    refine z_vV (M := M_X12_feed) 22 dX12_feed_22 t_X12_four l_X12_207 (m_rr_of rfl) (rest := []) (c_X12_four h1 a1 G1 (le_e ((upN E1 (fun q => absurd q.2 (by decide))).trans ex1) (by omega))) o_108 rfl rfl rfl (Nat.le_of_ble_eq_true rfl) ⟨rfl, rfl⟩ (fun h2 qx3 => ?_)
    obtain ⟨G2, S2, fx3_0⟩ := qx3
    have R2 := R1.call S2 (by decide +kernel)
    refine z_aload_n (M := M_X12_feed) 25 dX12_feed_25 rfl ?_
    refine z_iload_n (M := M_X12_feed) 26 dX12_feed_26 rfl ?_
    refine z_vV (M := M_X12_feed) 27 dX12_feed_27 t_X12_four l_X12_207 (m_rr_of rfl) (rest := []) (c_X12_four h2 a2 G2 (le_e (eq_ad fx3_0 ((upN E1 (fun q => absurd q.2 (by decide))).trans ex1)) (by omega))) o_108 rfl rfl rfl (Nat.le_of_ble_eq_true rfl) ⟨rfl, rfl⟩ (fun h3 qx4 => ?_)
    obtain ⟨G3, S3, fx4_0⟩ := qx4
    have R3 := R2.call S3 (by decide +kernel)
    refine z_aload_n (M := M_X12_feed) 30 dX12_feed_30 rfl ?_
    refine z_iload_n (M := M_X12_feed) 31 dX12_feed_31 rfl ?_
    refine z_vV (M := M_X12_feed) 32 dX12_feed_32 t_X12_four l_X12_207 (m_rr_of rfl) (rest := []) (c_X12_four h3 a3 G3 (le_e (eq_ad fx4_0 (eq_ad fx3_0 ((upN E1 (fun q => absurd q.2 (by decide))).trans ex1))) (by omega))) o_108 rfl rfl rfl (Nat.le_of_ble_eq_true rfl) ⟨rfl, rfl⟩ (fun h4 qx5 => ?_)
    obtain ⟨G4, S4, fx5_0⟩ := qx5
    have R4 := R3.call S4 (by decide +kernel)
    refine z_aload_n (M := M_X12_feed) 35 dX12_feed_35 rfl ?_
    refine z_iload (M := M_X12_feed) 36 dX12_feed_36 rfl ?_
    refine z_vV (M := M_X12_feed) 38 dX12_feed_38 t_X12_four l_X12_207 (m_rr_of rfl) (rest := []) (c_X12_four h4 a4 G4 (le_e (eq_ad fx5_0 (eq_ad fx4_0 (eq_ad fx3_0 ((upN E1 (fun q => absurd q.2 (by decide))).trans ex1)))) (by omega))) o_108 rfl rfl rfl (Nat.le_of_ble_eq_true rfl) ⟨rfl, rfl⟩ (fun h5 qx6 => ?_)
    obtain ⟨G5, S5, fx6_0⟩ := qx6
    have R5 := R4.call S5 (by decide +kernel)
    refine z_aload_n (M := M_X12_feed) 41 dX12_feed_41 rfl ?_
    refine z_iload (M := M_X12_feed) 42 dX12_feed_42 rfl ?_
    refine z_vV (M := M_X12_feed) 44 dX12_feed_44 t_X12_four l_X12_207 (m_rr_of rfl) (rest := []) (c_X12_four h5 a5 G5 (le_e (eq_ad fx6_0 (eq_ad fx5_0 (eq_ad fx4_0 (eq_ad fx3_0 ((upN E1 (fun q => absurd q.2 (by decide))).trans ex1))))) (by omega))) o_108 rfl rfl rfl (Nat.le_of_ble_eq_true rfl) ⟨rfl, rfl⟩ (fun h6 qx7 => ?_)
    obtain ⟨G6, S6, fx7_0⟩ := qx7
    have R6 := R5.call S6 (by decide +kernel)
    refine z_aload_n (M := M_X12_feed) 47 dX12_feed_47 rfl ?_
    refine z_getIE (M := M_X12_feed) 48 dX12_feed_48 f_X12_201 o_108 (by decide) (eq_ad fx7_0 (eq_ad fx6_0 (eq_ad fx5_0 (eq_ad fx4_0 (eq_ad fx3_0 ((upN E1 (fun q => absurd q.2 (by decide))).trans ex1)))))) ?_
    have z8 : h6 108 8 = (((((x1 + 4) + 4) + 4) + 4) + 4) := (eq_ad fx7_0 (eq_ad fx6_0 (eq_ad fx5_0 (eq_ad fx4_0 (eq_ad fx3_0 ((upN E1 (fun q => absurd q.2 (by decide))).trans ex1))))))
    exact z_retI (M := M_X12_feed) 51 dX12_feed_51 rfl ⟨G6, R6, by omega⟩
  · refine z_iconst (M := M_X12_feed) 18 dX12_feed_18 ?_
    have z8 : h1 108 8 = x1 := ((upN E1 (fun q => absurd q.2 (by decide))).trans ex1)
    exact z_retI (M := M_X12_feed) 19 dX12_feed_19 rfl ⟨G1, R1, by omega⟩
abbrev P_X12_end (h0 : m_H) (a1 : Int) : Int → m_H → Prop := fun x h' => GI h' ∧ FR [] [(108, 0), (108, 8)] h0 h' ∧ (((a1 < 0 ∨ h0 108 8 < a1) ∧ x = -1 ∧ h' 108 8 = h0 108 8) ∨ (0 ≤ a1 ∧ a1 ≤ h0 108 8 ∧ x = a1 ∧ h' 108 8 = a1))
set_option maxHeartbeats 4000000 in
set_option maxRecDepth 100000 in
theorem c_X12_end (h0 : m_H) (a1 : Int) (G0 : GI h0) : m_CI M_X12_end [mR 108, mI a1] h0 (P_X12_end h0 a1) := by
  refine m_CI_of ⟨by decide, rfl, by simp [m_arg, m_isL, M_X12_end], ⟨rfl, rfl⟩, rfl, rfl⟩ (ls := [some (mR 108), some (mI a1)]) rfl ?_
  refine z_ok (fun _ _ ok => ?_)
  have oa1 : m_32 a1 := ok 1 _ rfl
  unfold m_32 at oa1
  obtain ⟨x1, ex1⟩ : ∃ y : Int, h0 108 8 = y := ⟨_, rfl⟩
  have bx1 : 0 ≤ x1 ∧ x1 ≤ 400 := ex1 ▸ g_108_8 G0
  refine z_aload_n (M := M_X12_end) 0 dX12_end_0 rfl ?_
  refine z_iconst (M := M_X12_end) 1 dX12_end_1 ?_
  refine z_putIH (M := M_X12_end) 2 dX12_end_2 p_X12_133 o_108 rfl (u_108_0 G0) ((FR.rf (cs := []) (ss := [(108, 0), (108, 8)]) (h := h0)).up rfl) (fun h1 E1 G1 R1 => ?_)
  refine z_iload_n (M := M_X12_end) 5 dX12_end_5 rfl ?_
  refine z_if_lt (M := M_X12_end) 6 dX12_end_6 17 rfl (fun c2 => ?_) (fun c2 => ?_)
  · refine z_iconst (M := M_X12_end) 17 dX12_end_17 ?_
    have z8 : h1 108 8 = x1 := ((upN E1 (fun q => absurd q.2 (by decide))).trans ex1)
    exact z_retI (M := M_X12_end) 18 dX12_end_18 rfl ⟨G1, R1, by omega⟩
  · refine z_iload_n (M := M_X12_end) 9 dX12_end_9 rfl ?_
    refine z_aload_n (M := M_X12_end) 10 dX12_end_10 rfl ?_
    refine z_getIE (M := M_X12_end) 11 dX12_end_11 f_X12_201 o_108 (by decide) ((upN E1 (fun q => absurd q.2 (by decide))).trans ex1) ?_
    refine z_icmp_le (M := M_X12_end) 14 dX12_end_14 19 rfl (fun c3 => ?_) (fun c3 => ?_)
    · refine z_aload_n (M := M_X12_end) 19 dX12_end_19 rfl ?_
      refine z_iload_n (M := M_X12_end) 20 dX12_end_20 rfl ?_
      refine z_putIH (M := M_X12_end) 21 dX12_end_21 p_X12_201 o_108 rfl (u_108_8 G1 (by omega) (by omega)) (R1.up rfl) (fun h2 E2 G2 R2 => ?_)
      refine z_iload_n (M := M_X12_end) 24 dX12_end_24 rfl ?_
      have z8 : h2 108 8 = a1 := (upE E2)
      exact z_retI (M := M_X12_end) 25 dX12_end_25 rfl ⟨G2, R2, by omega⟩
    · refine z_iconst (M := M_X12_end) 17 dX12_end_17 ?_
      have z8 : h1 108 8 = x1 := ((upN E1 (fun q => absurd q.2 (by decide))).trans ex1)
      exact z_retI (M := M_X12_end) 18 dX12_end_18 rfl ⟨G1, R1, by omega⟩
abbrev P_X12_fault (h0 : m_H) : Int → m_H → Prop := fun x h' => GI h' ∧ FR [] [(108, 0)] h0 h'
set_option maxHeartbeats 4000000 in
set_option maxRecDepth 100000 in
theorem c_X12_fault (h0 : m_H) (G0 : GI h0) : m_CI M_X12_fault [mR 108] h0 (P_X12_fault h0) := by
  refine m_CI_of ⟨by decide, rfl, by simp [m_arg, m_isL, M_X12_fault], ⟨rfl, rfl⟩, rfl, rfl⟩ (ls := [some (mR 108)]) rfl ?_
  refine z_aload_n (M := M_X12_fault) 0 dX12_fault_0 rfl ?_
  refine z_iconst (M := M_X12_fault) 1 dX12_fault_1 ?_
  refine z_putIH (M := M_X12_fault) 2 dX12_fault_2 p_X12_133 o_108 rfl (u_108_0 G0) ((FR.rf (cs := []) (ss := [(108, 0)]) (h := h0)).up rfl) (fun h1 E1 G1 R1 => ?_)
  refine z_aload_n (M := M_X12_fault) 5 dX12_fault_5 rfl ?_
  refine z_getIV (M := M_X12_fault) 6 dX12_fault_6 f_X12_26 o_108 (by decide) (fun x1 ex1 => ?_)
  refine z_ok (fun ox1 _ _ => ?_)
  have ox1 := ox1.1; unfold m_ok m_32 at ox1
  exact z_retI (M := M_X12_fault) 9 dX12_fault_9 rfl ⟨G1, R1⟩
abbrev P_X12_status (h0 : m_H) : Int → m_H → Prop := fun x h' => GI h' ∧ FR [] [(108, 0)] h0 h'
set_option maxHeartbeats 4000000 in
set_option maxRecDepth 100000 in
theorem c_X12_status (h0 : m_H) (G0 : GI h0) : m_CI M_X12_status [mR 108] h0 (P_X12_status h0) := by
  refine m_CI_of ⟨by decide, rfl, by simp [m_arg, m_isL, M_X12_status], ⟨rfl, rfl⟩, rfl, rfl⟩ (ls := [some (mR 108)]) rfl ?_
  refine z_aload_n (M := M_X12_status) 0 dX12_status_0 rfl ?_
  refine z_iconst (M := M_X12_status) 1 dX12_status_1 ?_
  refine z_putIH (M := M_X12_status) 2 dX12_status_2 p_X12_133 o_108 rfl (u_108_0 G0) ((FR.rf (cs := []) (ss := [(108, 0)]) (h := h0)).up rfl) (fun h1 E1 G1 R1 => ?_)
  refine z_aload_n (M := M_X12_status) 5 dX12_status_5 rfl ?_
  refine z_getIV (M := M_X12_status) 6 dX12_status_6 f_X12_136 o_108 (by decide) (fun x1 ex1 => ?_)
  refine z_ok (fun ox1 _ _ => ?_)
  have ox1 := ox1.1; unfold m_ok m_32 at ox1
  exact z_retI (M := M_X12_status) 9 dX12_status_9 rfl ⟨G1, R1⟩
