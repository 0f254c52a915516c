abbrev P_X12_isShorter (h0 : m_H) (a1 a2 : Int) : Int → m_H → Prop := fun x h' => GI h' ∧ FR [] [] h0 h' ∧ 0 ≤ x ∧ x ≤ 1
def q_X12_isShorter (h0 : m_H) (a1 a2 : Int) (n : Nat) : Prop := (∀ (l3 : Int) (h : m_H), GI h → FR [] [] h0 h → 0 ≤ l3 → l3 ≤ 6 → (-2147483648) ≤ a1 → a1 ≤ 2147483647 → (-2147483648) ≤ a2 → a2 ≤ 2147483647 → 2 * (6 - l3) + (1) ≤ (n : Int) → m_Z oF M_X12_isShorter 2 [some (mR 108), some (mI a1), some (mI a2), some (mI l3)] [] h (m_QI (P_X12_isShorter h0 a1 a2)))
set_option maxHeartbeats 4000000 in
set_option maxRecDepth 100000 in
theorem s_X12_isShorter_2 (h0 : m_H) (a1 a2 : Int) (G0 : GI h0) (n : Nat) (ih : q_X12_isShorter h0 a1 a2 n) : ∀ (l3 : Int) (h : m_H), GI h → FR [] [] h0 h → 0 ≤ l3 → l3 ≤ 6 → (-2147483648) ≤ a1 → a1 ≤ 2147483647 → (-2147483648) ≤ a2 → a2 ≤ 2147483647 → 2 * (6 - l3) + (1) ≤ ((n + 1 : Nat) : Int) → m_Z oF M_X12_isShorter 2 [some (mR 108), some (mI a1), some (mI a2), some (mI l3)] [] h (m_QI (P_X12_isShorter h0 a1 a2)) := by
  intro l3 h G R v0 v1 v2 v3 v4 v5 hr
  refine z_iload_n (M := M_X12_isShorter) 2 dX12_isShorter_2 rfl ?_
  refine z_aload_n (M := M_X12_isShorter) 3 dX12_isShorter_3 rfl ?_
  refine z_getR (M := M_X12_isShorter) 4 dX12_isShorter_4 f_X12_13 o_108 rfl (g_108_3 G) ?_
  refine z_iconst (M := M_X12_isShorter) 7 dX12_isShorter_7 ?_
  refine z_ialdG (M := M_X12_isShorter) 8 dX12_isShorter_8 o_110 (by omega) (by omega) (gw_1 G) (fun x1 ex1 ax1 bx1 => ?_)
  refine z_icmp_ge (M := M_X12_isShorter) 9 dX12_isShorter_9 52 rfl (fun c2 => ?_) (fun c2 => ?_)
  · refine z_iconst (M := M_X12_isShorter) 52 dX12_isShorter_52 ?_
    exact z_retZ (M := M_X12_isShorter) 53 dX12_isShorter_53 rfl (by omega) ⟨G, R, by omega, by omega⟩
  · refine z_aload_n (M := M_X12_isShorter) 12 dX12_isShorter_12 rfl ?_
    refine z_getR (M := M_X12_isShorter) 13 dX12_isShorter_13 f_X12_13 o_108 rfl (g_108_3 G) ?_
    refine z_bipush (M := M_X12_isShorter) 16 dX12_isShorter_16 ?_
    refine z_iconst (M := M_X12_isShorter) 18 dX12_isShorter_18 ?_
    refine z_iload_n (M := M_X12_isShorter) 19 dX12_isShorter_19 rfl ?_
    refine z_imulN (M := M_X12_isShorter) 20 dX12_isShorter_20 (by omega) (by omega) ?_
    refine z_iaddN (M := M_X12_isShorter) 21 dX12_isShorter_21 (by omega) (by omega) ?_
    refine z_ialdG (M := M_X12_isShorter) 22 dX12_isShorter_22 o_110 (by omega) (by omega) (gw_s G (by omega) (by omega)) (fun x3 ex3 ax3 bx3 => ?_)
    refine z_iload_n (M := M_X12_isShorter) 23 dX12_isShorter_23 rfl ?_
    refine z_icmp_ne (M := M_X12_isShorter) 24 dX12_isShorter_24 46 rfl (fun c4 => ?_) (fun c4 => ?_)
    · refine z_iincN (M := M_X12_isShorter) 46 dX12_isShorter_46 (ls' := [some (mR 108), some (mI a1), some (mI a2), some (mI (l3 + 1))]) (by decide) rfl (by (unfold m_32; decide)) (by omega) (by omega) rfl ?_
      refine z_goto (M := M_X12_isShorter) 49 dX12_isShorter_49 2 rfl ?_
      exact z_mask [true, true, true, true] rfl (ih (l3 + 1) h G R (by omega) (by omega) (by omega) (by omega) (by omega) (by omega) (by omega))
    · refine z_aload_n (M := M_X12_isShorter) 27 dX12_isShorter_27 rfl ?_
      refine z_getR (M := M_X12_isShorter) 28 dX12_isShorter_28 f_X12_13 o_108 rfl (g_108_3 G) ?_
      refine z_bipush (M := M_X12_isShorter) 31 dX12_isShorter_31 ?_
      refine z_iconst (M := M_X12_isShorter) 33 dX12_isShorter_33 ?_
      refine z_iload_n (M := M_X12_isShorter) 34 dX12_isShorter_34 rfl ?_
      refine z_imulN (M := M_X12_isShorter) 35 dX12_isShorter_35 (by omega) (by omega) ?_
      refine z_iaddN (M := M_X12_isShorter) 36 dX12_isShorter_36 (by omega) (by omega) ?_
      refine z_iconst (M := M_X12_isShorter) 37 dX12_isShorter_37 ?_
      refine z_iaddN (M := M_X12_isShorter) 38 dX12_isShorter_38 (by omega) (by omega) ?_
      refine z_ialdG (M := M_X12_isShorter) 39 dX12_isShorter_39 o_110 (by omega) (by omega) (gw_s G (by omega) (by omega)) (fun x5 ex5 ax5 bx5 => ?_)
      refine z_iload_n (M := M_X12_isShorter) 40 dX12_isShorter_40 rfl ?_
      refine z_icmp_ne (M := M_X12_isShorter) 41 dX12_isShorter_41 46 rfl (fun c6 => ?_) (fun c6 => ?_)
      · refine z_iincN (M := M_X12_isShorter) 46 dX12_isShorter_46 (ls' := [some (mR 108), some (mI a1), some (mI a2), some (mI (l3 + 1))]) (by decide) rfl (by (unfold m_32; decide)) (by omega) (by omega) rfl ?_
        refine z_goto (M := M_X12_isShorter) 49 dX12_isShorter_49 2 rfl ?_
        exact z_mask [true, true, true, true] rfl (ih (l3 + 1) h G R (by omega) (by omega) (by omega) (by omega) (by omega) (by omega) (by omega))
      · refine z_iconst (M := M_X12_isShorter) 44 dX12_isShorter_44 ?_
        exact z_retZ (M := M_X12_isShorter) 45 dX12_isShorter_45 rfl (by omega) ⟨G, R, by omega, by omega⟩
theorem a_X12_isShorter (h0 : m_H) (a1 a2 : Int) (G0 : GI h0) : ∀ n, q_X12_isShorter h0 a1 a2 n := by
  intro n
  induction n with
  | zero => unfold q_X12_isShorter; intros; omega
  | succ n ih => exact s_X12_isShorter_2 h0 a1 a2 G0 n ih
set_option maxHeartbeats 4000000 in
set_option maxRecDepth 100000 in
theorem c_X12_isShorter (h0 : m_H) (a1 a2 : Int) (G0 : GI h0) : m_CI M_X12_isShorter [mR 108, mI a1, mI a2] h0 (P_X12_isShorter h0 a1 a2) := by
  refine m_CI_of ⟨by decide, rfl, by simp [m_arg, m_isL, M_X12_isShorter], ⟨rfl, rfl⟩, rfl, rfl⟩ (ls := [some (mR 108), some (mI a1), some (mI a2), none]) rfl ?_
  have ih := a_X12_isShorter h0 a1 a2 G0 20
  refine z_ok (fun _ _ ok => ?_)
  have oa1 : m_32 a1 := ok 1 _ rfl
  unfold m_32 at oa1
  have oa2 : m_32 a2 := ok 2 _ rfl
  unfold m_32 at oa2
  refine z_iconst (M := M_X12_isShorter) 0 dX12_isShorter_0 ?_
  refine z_istore_n (M := M_X12_isShorter) 1 dX12_isShorter_1 (ls' := [some (mR 108), some (mI a1), some (mI a2), some (mI 0)]) (by decide) rfl ?_
  exact z_mask [true, true, true, true] rfl (ih 0 h0 G0 (FR.rf (cs := []) (ss := []) (h := h0)) (by omega) (by omega) (by omega) (by omega) (by omega) (by omega) (by omega))
abbrev P_X12_addShorter (h0 : m_H) (a1 a2 : Int) : m_H → Prop := fun h' => GI h' ∧ FR [110] [] h0 h' ∧ h' 110 0 = h0 110 0 ∧ h' 110 1 = h0 110 1 + 1 ∧ NPi h0 h'
set_option maxHeartbeats 4000000 in
set_option maxRecDepth 100000 in
theorem c_X12_addShorter (h0 : m_H) (a1 a2 : Int) (G0 : GI h0) (pa1 : 0 ≤ a1 ∧ a1 ≤ 3) (pa2 : 0 ≤ a2 ∧ a2 ≤ 3) (hs : h0 110 (1 : Int).toNat ≤ 5) : m_CV M_X12_addShorter [mR 108, mI a1, mI a2] h0 (P_X12_addShorter h0 a1 a2) := by
  refine m_CV_of ⟨by decide, rfl, by simp [m_arg, m_isL, M_X12_addShorter], ⟨rfl, rfl⟩, rfl, rfl⟩ (ls := [some (mR 108), some (mI a1), some (mI a2)]) rfl ?_
  obtain ⟨x1, ex1⟩ : ∃ y : Int, h0 110 0 = y := ⟨_, rfl⟩
  have bx1 : 0 ≤ x1 ∧ x1 ≤ 24 := ex1 ▸ gw_0 G0
  refine z_aload_n (M := M_X12_addShorter) 0 dX12_addShorter_0 rfl ?_
  refine z_getR (M := M_X12_addShorter) 1 dX12_addShorter_1 f_X12_13 o_108 rfl (g_108_3 G0) ?_
  refine z_bipush (M := M_X12_addShorter) 4 dX12_addShorter_4 ?_
  refine z_iconst (M := M_X12_addShorter) 6 dX12_addShorter_6 ?_
  refine z_aload_n (M := M_X12_addShorter) 7 dX12_addShorter_7 rfl ?_
  refine z_getR (M := M_X12_addShorter) 8 dX12_addShorter_8 f_X12_13 o_108 rfl (g_108_3 G0) ?_
  refine z_iconst (M := M_X12_addShorter) 11 dX12_addShorter_11 ?_
  refine z_ialdG (M := M_X12_addShorter) 12 dX12_addShorter_12 o_110 (by omega) (by omega) ⟨(gw_1 G0).1, hs⟩ (fun x2 ex2 ax2 bx2 => ?_)
  refine z_imulN (M := M_X12_addShorter) 13 dX12_addShorter_13 (by omega) (by omega) ?_
  refine z_iaddN (M := M_X12_addShorter) 14 dX12_addShorter_14 (by omega) (by omega) ?_
  refine z_iload_n (M := M_X12_addShorter) 15 dX12_addShorter_15 rfl ?_
  refine z_iastH (M := M_X12_addShorter) 16 dX12_addShorter_16 o_110 (by omega) (by omega) (uw_s G0 (by omega) (by omega) (by omega) (by omega)) ((FR.rf (cs := [110]) (ss := []) (h := h0)).up rfl) (fun h1 E1 G1 R1 => ?_)
  refine z_aload_n (M := M_X12_addShorter) 17 dX12_addShorter_17 rfl ?_
  refine z_getR (M := M_X12_addShorter) 18 dX12_addShorter_18 f_X12_13 o_108 rfl (g_108_3 G1) ?_
  refine z_bipush (M := M_X12_addShorter) 21 dX12_addShorter_21 ?_
  refine z_iconst (M := M_X12_addShorter) 23 dX12_addShorter_23 ?_
  refine z_aload_n (M := M_X12_addShorter) 24 dX12_addShorter_24 rfl ?_
  refine z_getR (M := M_X12_addShorter) 25 dX12_addShorter_25 f_X12_13 o_108 rfl (g_108_3 G1) ?_
  refine z_iconst (M := M_X12_addShorter) 28 dX12_addShorter_28 ?_
  refine z_ialdE (M := M_X12_addShorter) 29 dX12_addShorter_29 o_110 (by omega) (by omega) ((upN E1 (fun q => absurd q.2 (by omega))).trans ex2) ?_
  refine z_imulN (M := M_X12_addShorter) 30 dX12_addShorter_30 (by omega) (by omega) ?_
  refine z_iaddN (M := M_X12_addShorter) 31 dX12_addShorter_31 (by omega) (by omega) ?_
  refine z_iconst (M := M_X12_addShorter) 32 dX12_addShorter_32 ?_
  refine z_iaddN (M := M_X12_addShorter) 33 dX12_addShorter_33 (by omega) (by omega) ?_
  refine z_iload_n (M := M_X12_addShorter) 34 dX12_addShorter_34 rfl ?_
  refine z_iastH (M := M_X12_addShorter) 35 dX12_addShorter_35 o_110 (by omega) (by omega) (uw_s G1 (by omega) (by omega) (by omega) (by omega)) (R1.up rfl) (fun h2 E2 G2 R2 => ?_)
  refine z_aload_n (M := M_X12_addShorter) 36 dX12_addShorter_36 rfl ?_
  refine z_getR (M := M_X12_addShorter) 37 dX12_addShorter_37 f_X12_13 o_108 rfl (g_108_3 G2) ?_
  refine z_iconst (M := M_X12_addShorter) 40 dX12_addShorter_40 ?_
  refine z_dup2 (M := M_X12_addShorter) 41 dX12_addShorter_41 rfl rfl ?_
  refine z_ialdE (M := M_X12_addShorter) 42 dX12_addShorter_42 o_110 (by omega) (by omega) ((upN E2 (fun q => absurd q.2 (by omega))).trans ((upN E1 (fun q => absurd q.2 (by omega))).trans ex2)) ?_
  refine z_iconst (M := M_X12_addShorter) 43 dX12_addShorter_43 ?_
  refine z_iaddN (M := M_X12_addShorter) 44 dX12_addShorter_44 (by omega) (by omega) ?_
  refine z_iastH (M := M_X12_addShorter) 45 dX12_addShorter_45 o_110 (by omega) (by omega) (uw_1 G2 (by omega) (by omega)) (R2.up rfl) (fun h3 E3 G3 R3 => ?_)
  have w3 : h3 110 0 = x1 := ((upN E3 (fun q => absurd q.2 (by decide))).trans ((upN E2 (fun q => absurd q.2 (by omega))).trans ((upN E1 (fun q => absurd q.2 (by omega))).trans ex1)))
  have w4 : h3 110 1 = (x2 + 1) := (upE E3)
  have k0 : h0 110 0 = x1 := ex1
  have k1 : h0 110 1 = x2 := ex2
  exact z_retV (M := M_X12_addShorter) 46 dX12_addShorter_46 rfl ⟨G3, R3, by omega, by omega, (NPi.st (NPi.st (NPi.st NPi.rf E1 ⟨by omega, fun e => by omega⟩ (by omega)) E2 ⟨by omega, fun e => by omega⟩ (by omega)) E3 ⟨by omega, fun e => by omega⟩ (by omega))⟩
abbrev P_X12_shorter (h0 : m_H) (a1 a2 : Int) : Int → m_H → Prop := fun x h' => GI h' ∧ FR [109, 110] [(108, 0), (108, 1)] h0 h' ∧ (-5) ≤ x ∧ x ≤ 6 ∧ NPi h0 h'
set_option maxHeartbeats 4000000 in
set_option maxRecDepth 100000 in
theorem c_X12_shorter (h0 : m_H) (a1 a2 : Int) (G0 : GI h0) : m_CI M_X12_shorter [mR 108, mI a1, mI a2] h0 (P_X12_shorter h0 a1 a2) := by
  refine m_CI_of ⟨by decide, rfl, by simp [m_arg, m_isL, M_X12_shorter], ⟨rfl, rfl⟩, rfl, rfl⟩ (ls := [some (mR 108), some (mI a1), some (mI a2)]) rfl ?_
  refine z_ok (fun _ _ ok => ?_)
  have oa1 : m_32 a1 := ok 1 _ rfl
  unfold m_32 at oa1
  have oa2 : m_32 a2 := ok 2 _ rfl
  unfold m_32 at oa2
  refine z_aload_n (M := M_X12_shorter) 0 dX12_shorter_0 rfl ?_
  refine z_iconst (M := M_X12_shorter) 1 dX12_shorter_1 ?_
  refine z_putIH (M := M_X12_shorter) 2 dX12_shorter_2 p_X12_133 o_108 rfl (u_108_0 G0) ((FR.rf (cs := [109, 110]) (ss := [(108, 0), (108, 1)]) (h := h0)).up rfl) (fun h1 E1 G1 R1 => ?_)
  refine z_iload_n (M := M_X12_shorter) 5 dX12_shorter_5 rfl ?_
  refine z_sI (M := M_X12_shorter) 6 dX12_shorter_6 t_X12_isKeeper l_X12_169 (m_rr_of rfl) (rest := []) (c_X12_isKeeper h1 a1 G1) rfl rfl (Nat.le_of_ble_eq_true rfl) ⟨rfl, rfl⟩ (fun x1 h2 qx1 => ?_)
  obtain ⟨rfl, ⟨rfl, cx1⟩ | ⟨rfl, cx1⟩⟩ := qx1
  · refine z_if_eq_F (M := M_X12_shorter) 9 dX12_shorter_9 24 rfl (by omega) ?_
    refine z_iload_n (M := M_X12_shorter) 12 dX12_shorter_12 rfl ?_
    refine z_sI (M := M_X12_shorter) 13 dX12_shorter_13 t_X12_isKeeper l_X12_169 (m_rr_of rfl) (rest := []) (c_X12_isKeeper h1 a2 G1) rfl rfl (Nat.le_of_ble_eq_true rfl) ⟨rfl, rfl⟩ (fun x2 h3 qx2 => ?_)
    obtain ⟨rfl, ⟨rfl, cx2⟩ | ⟨rfl, cx2⟩⟩ := qx2
    · refine z_if_eq_F (M := M_X12_shorter) 16 dX12_shorter_16 24 rfl (by omega) ?_
      refine z_iload_n (M := M_X12_shorter) 19 dX12_shorter_19 rfl ?_
      refine z_iload_n (M := M_X12_shorter) 20 dX12_shorter_20 rfl ?_
      refine z_icmp_ne (M := M_X12_shorter) 21 dX12_shorter_21 30 rfl (fun c3 => ?_) (fun c3 => ?_)
      · refine z_aload_n (M := M_X12_shorter) 30 dX12_shorter_30 rfl ?_
        refine z_iload_n (M := M_X12_shorter) 31 dX12_shorter_31 rfl ?_
        refine z_iload_n (M := M_X12_shorter) 32 dX12_shorter_32 rfl ?_
        refine z_vI (M := M_X12_shorter) 33 dX12_shorter_33 t_X12_isShorter l_X12_172 (m_rr_of rfl) (rest := []) (c_X12_isShorter h1 a1 a2 G1) o_108 rfl rfl rfl (Nat.le_of_ble_eq_true rfl) ⟨rfl, rfl⟩ (fun x4 h4 qx4 => ?_)
        obtain ⟨G4, S4, ax4, bx4⟩ := qx4
        have R4 := R1.call S4 (by decide +kernel)
        refine z_if_eq (M := M_X12_shorter) 36 dX12_shorter_36 46 rfl (fun c5 => ?_) (fun c5 => ?_)
        · refine z_aload_n (M := M_X12_shorter) 46 dX12_shorter_46 rfl ?_
          refine z_getR (M := M_X12_shorter) 47 dX12_shorter_47 f_X12_13 o_108 rfl (g_108_3 G4) ?_
          refine z_iconst (M := M_X12_shorter) 50 dX12_shorter_50 ?_
          refine z_ialdG (M := M_X12_shorter) 51 dX12_shorter_51 o_110 (by omega) (by omega) (gw_1 G4) (fun x6 ex6 ax6 bx6 => ?_)
          refine z_bipush (M := M_X12_shorter) 52 dX12_shorter_52 ?_
          refine z_icmp_ne (M := M_X12_shorter) 54 dX12_shorter_54 64 rfl (fun c7 => ?_) (fun c7 => ?_)
          · refine z_aload_n (M := M_X12_shorter) 64 dX12_shorter_64 rfl ?_
            refine z_iload_n (M := M_X12_shorter) 65 dX12_shorter_65 rfl ?_
            refine z_iload_n (M := M_X12_shorter) 66 dX12_shorter_66 rfl ?_
            refine z_vV (M := M_X12_shorter) 67 dX12_shorter_67 t_X12_addShorter l_X12_176 (m_rr_of rfl) (rest := []) (c_X12_addShorter h4 a1 a2 G4 ⟨by omega, by omega⟩ ⟨by omega, by omega⟩ (le_e ex6 (by omega))) o_108 rfl rfl rfl (Nat.le_of_ble_eq_true rfl) ⟨rfl, rfl⟩ (fun h5 qx8 => ?_)
            obtain ⟨G5, S5, fx8_0, fx8_1, npx8⟩ := qx8
            have R5 := R4.call S5 (by decide +kernel)
            refine z_aload_n (M := M_X12_shorter) 70 dX12_shorter_70 rfl ?_
            refine z_aload_n (M := M_X12_shorter) 71 dX12_shorter_71 rfl ?_
            refine z_getR (M := M_X12_shorter) 72 dX12_shorter_72 f_X12_13 o_108 rfl (g_108_3 G5) ?_
            refine z_iconst (M := M_X12_shorter) 75 dX12_shorter_75 ?_
            refine z_ialdE (M := M_X12_shorter) 76 dX12_shorter_76 o_110 (by omega) (by omega) (eq_ad fx8_1 ex6) ?_
            refine z_vI (M := M_X12_shorter) 77 dX12_shorter_77 t_X12_answer l_X12_147 (m_rr_of rfl) (rest := []) (c_X12_answer h5 (x6 + 1) G5 ⟨by omega, by omega⟩) o_108 rfl rfl rfl (Nat.le_of_ble_eq_true rfl) ⟨rfl, rfl⟩ (fun x9 h6 qx9 => ?_)
            obtain ⟨G6, S6, rfl⟩ := qx9
            have R6 := R5.call S6 (by decide +kernel)
            exact z_retI (M := M_X12_shorter) 80 dX12_shorter_80 rfl ⟨G6, R6, by omega, by omega, (NPi.call (NPi.tr (NPi.call (NPi.put NPi.rf E1 (by decide)) S4 (fun _ => rfl) (fun _ => rfl) (fun _ => rfl)) npx8) S6 (fun _ => rfl) (fun _ => rfl) (fun _ => rfl))⟩
          · refine z_aload_n (M := M_X12_shorter) 57 dX12_shorter_57 rfl ?_
            refine z_bipush (M := M_X12_shorter) 58 dX12_shorter_58 ?_
            refine z_vI (M := M_X12_shorter) 60 dX12_shorter_60 t_X12_answer l_X12_147 (m_rr_of rfl) (rest := []) (c_X12_answer h4 (-5) G4 ⟨by omega, by omega⟩) o_108 rfl rfl rfl (Nat.le_of_ble_eq_true rfl) ⟨rfl, rfl⟩ (fun x10 h7 qx10 => ?_)
            obtain ⟨G7, S7, rfl⟩ := qx10
            have R7 := R4.call S7 (by decide +kernel)
            exact z_retI (M := M_X12_shorter) 63 dX12_shorter_63 rfl ⟨G7, R7, by omega, by omega, (NPi.call (NPi.call (NPi.put NPi.rf E1 (by decide)) S4 (fun _ => rfl) (fun _ => rfl) (fun _ => rfl)) S7 (fun _ => rfl) (fun _ => rfl) (fun _ => rfl))⟩
        · refine z_aload_n (M := M_X12_shorter) 39 dX12_shorter_39 rfl ?_
          refine z_bipush (M := M_X12_shorter) 40 dX12_shorter_40 ?_
          refine z_vI (M := M_X12_shorter) 42 dX12_shorter_42 t_X12_answer l_X12_147 (m_rr_of rfl) (rest := []) (c_X12_answer h4 (-3) G4 ⟨by omega, by omega⟩) o_108 rfl rfl rfl (Nat.le_of_ble_eq_true rfl) ⟨rfl, rfl⟩ (fun x11 h8 qx11 => ?_)
          obtain ⟨G8, S8, rfl⟩ := qx11
          have R8 := R4.call S8 (by decide +kernel)
          exact z_retI (M := M_X12_shorter) 45 dX12_shorter_45 rfl ⟨G8, R8, by omega, by omega, (NPi.call (NPi.call (NPi.put NPi.rf E1 (by decide)) S4 (fun _ => rfl) (fun _ => rfl) (fun _ => rfl)) S8 (fun _ => rfl) (fun _ => rfl) (fun _ => rfl))⟩
      · refine z_aload_n (M := M_X12_shorter) 24 dX12_shorter_24 rfl ?_
        refine z_iconst (M := M_X12_shorter) 25 dX12_shorter_25 ?_
        refine z_vI (M := M_X12_shorter) 26 dX12_shorter_26 t_X12_answer l_X12_147 (m_rr_of rfl) (rest := []) (c_X12_answer h1 (-1) G1 ⟨by omega, by omega⟩) o_108 rfl rfl rfl (Nat.le_of_ble_eq_true rfl) ⟨rfl, rfl⟩ (fun x12 h9 qx12 => ?_)
        obtain ⟨G9, S9, rfl⟩ := qx12
        have R9 := R1.call S9 (by decide +kernel)
        exact z_retI (M := M_X12_shorter) 29 dX12_shorter_29 rfl ⟨G9, R9, by omega, by omega, (NPi.call (NPi.put NPi.rf E1 (by decide)) S9 (fun _ => rfl) (fun _ => rfl) (fun _ => rfl))⟩
    · refine z_if_eq_T (M := M_X12_shorter) 16 dX12_shorter_16 24 rfl (by omega) ?_
      refine z_aload_n (M := M_X12_shorter) 24 dX12_shorter_24 rfl ?_
      refine z_iconst (M := M_X12_shorter) 25 dX12_shorter_25 ?_
      refine z_vI (M := M_X12_shorter) 26 dX12_shorter_26 t_X12_answer l_X12_147 (m_rr_of rfl) (rest := []) (c_X12_answer h1 (-1) G1 ⟨by omega, by omega⟩) o_108 rfl rfl rfl (Nat.le_of_ble_eq_true rfl) ⟨rfl, rfl⟩ (fun x13 h10 qx13 => ?_)
      obtain ⟨G10, S10, rfl⟩ := qx13
      have R10 := R1.call S10 (by decide +kernel)
      exact z_retI (M := M_X12_shorter) 29 dX12_shorter_29 rfl ⟨G10, R10, by omega, by omega, (NPi.call (NPi.put NPi.rf E1 (by decide)) S10 (fun _ => rfl) (fun _ => rfl) (fun _ => rfl))⟩
  · refine z_if_eq_T (M := M_X12_shorter) 9 dX12_shorter_9 24 rfl (by omega) ?_
    refine z_aload_n (M := M_X12_shorter) 24 dX12_shorter_24 rfl ?_
    refine z_iconst (M := M_X12_shorter) 25 dX12_shorter_25 ?_
    refine z_vI (M := M_X12_shorter) 26 dX12_shorter_26 t_X12_answer l_X12_147 (m_rr_of rfl) (rest := []) (c_X12_answer h1 (-1) G1 ⟨by omega, by omega⟩) o_108 rfl rfl rfl (Nat.le_of_ble_eq_true rfl) ⟨rfl, rfl⟩ (fun x14 h11 qx14 => ?_)
    obtain ⟨G11, S11, rfl⟩ := qx14
    have R11 := R1.call S11 (by decide +kernel)
    exact z_retI (M := M_X12_shorter) 29 dX12_shorter_29 rfl ⟨G11, R11, by omega, by omega, (NPi.call (NPi.put NPi.rf E1 (by decide)) S11 (fun _ => rfl) (fun _ => rfl) (fun _ => rfl))⟩
abbrev P_X12_addEntry (h0 : m_H) (a1 a2 a3 a4 : Int) : m_H → Prop := fun h' => GI h' ∧ FR [110] [] h0 h' ∧ h' 110 0 = h0 110 0 + 1 ∧ h' 110 1 = h0 110 1 ∧ NPi h0 h'
set_option maxHeartbeats 4000000 in
set_option maxRecDepth 100000 in
theorem c_X12_addEntry (h0 : m_H) (a1 a2 a3 a4 : Int) (G0 : GI h0) (pa1 : 0 ≤ a1 ∧ a1 ≤ 5) (pa2 : 0 ≤ a2 ∧ a2 ≤ 31) (pa3 : 1 ≤ a3 ∧ a3 ≤ 99) (pa4 : 0 ≤ a4 ∧ a4 ≤ 2) (he : h0 110 (0 : Int).toNat ≤ 23) : m_CV M_X12_addEntry [mR 108, mI a1, mI a2, mI a3, mI a4] h0 (P_X12_addEntry h0 a1 a2 a3 a4) := by
  refine m_CV_of ⟨by decide, rfl, by simp [m_arg, m_isL, M_X12_addEntry], ⟨rfl, rfl⟩, rfl, rfl⟩ (ls := [some (mR 108), some (mI a1), some (mI a2), some (mI a3), some (mI a4), none]) rfl ?_
  obtain ⟨x1, ex1⟩ : ∃ y : Int, h0 110 1 = y := ⟨_, rfl⟩
  have bx1 : 0 ≤ x1 ∧ x1 ≤ 6 := ex1 ▸ gw_1 G0
  refine z_bipush (M := M_X12_addEntry) 0 dX12_addEntry_0 ?_
  refine z_iconst (M := M_X12_addEntry) 2 dX12_addEntry_2 ?_
  refine z_aload_n (M := M_X12_addEntry) 3 dX12_addEntry_3 rfl ?_
  refine z_getR (M := M_X12_addEntry) 4 dX12_addEntry_4 f_X12_13 o_108 rfl (g_108_3 G0) ?_
  refine z_iconst (M := M_X12_addEntry) 7 dX12_addEntry_7 ?_
  refine z_ialdG (M := M_X12_addEntry) 8 dX12_addEntry_8 o_110 (by omega) (by omega) ⟨(gw_0 G0).1, he⟩ (fun x2 ex2 ax2 bx2 => ?_)
  refine z_imulN (M := M_X12_addEntry) 9 dX12_addEntry_9 (by omega) (by omega) ?_
  refine z_iaddN (M := M_X12_addEntry) 10 dX12_addEntry_10 (by omega) (by omega) ?_
  refine z_istore (M := M_X12_addEntry) 11 dX12_addEntry_11 (ls' := [some (mR 108), some (mI a1), some (mI a2), some (mI a3), some (mI a4), some (mI (80 + (5 * x2)))]) (by decide) rfl ?_
  refine z_aload_n (M := M_X12_addEntry) 13 dX12_addEntry_13 rfl ?_
  refine z_getR (M := M_X12_addEntry) 14 dX12_addEntry_14 f_X12_13 o_108 rfl (g_108_3 G0) ?_
  refine z_iload (M := M_X12_addEntry) 17 dX12_addEntry_17 rfl ?_
  refine z_iconst (M := M_X12_addEntry) 19 dX12_addEntry_19 ?_
  refine z_iaddN (M := M_X12_addEntry) 20 dX12_addEntry_20 (by omega) (by omega) ?_
  refine z_iload_n (M := M_X12_addEntry) 21 dX12_addEntry_21 rfl ?_
  refine z_iastH (M := M_X12_addEntry) 22 dX12_addEntry_22 o_110 (by omega) (by omega) (uw_e0 G0 (e := x2) (by omega) (by omega) (by omega) (by omega) (by omega)) ((FR.rf (cs := [110]) (ss := []) (h := h0)).up rfl) (fun h1 E1 G1 R1 => ?_)
  refine z_aload_n (M := M_X12_addEntry) 23 dX12_addEntry_23 rfl ?_
  refine z_getR (M := M_X12_addEntry) 24 dX12_addEntry_24 f_X12_13 o_108 rfl (g_108_3 G1) ?_
  refine z_iload (M := M_X12_addEntry) 27 dX12_addEntry_27 rfl ?_
  refine z_iconst (M := M_X12_addEntry) 29 dX12_addEntry_29 ?_
  refine z_iaddN (M := M_X12_addEntry) 30 dX12_addEntry_30 (by omega) (by omega) ?_
  refine z_iload_n (M := M_X12_addEntry) 31 dX12_addEntry_31 rfl ?_
  refine z_iastH (M := M_X12_addEntry) 32 dX12_addEntry_32 o_110 (by omega) (by omega) (uw_e1 G1 (e := x2) (by omega) (by omega) (by omega) (by omega) (by omega)) (R1.up rfl) (fun h2 E2 G2 R2 => ?_)
  refine z_aload_n (M := M_X12_addEntry) 33 dX12_addEntry_33 rfl ?_
  refine z_getR (M := M_X12_addEntry) 34 dX12_addEntry_34 f_X12_13 o_108 rfl (g_108_3 G2) ?_
  refine z_iload (M := M_X12_addEntry) 37 dX12_addEntry_37 rfl ?_
  refine z_iconst (M := M_X12_addEntry) 39 dX12_addEntry_39 ?_
  refine z_iaddN (M := M_X12_addEntry) 40 dX12_addEntry_40 (by omega) (by omega) ?_
  refine z_iload_n (M := M_X12_addEntry) 41 dX12_addEntry_41 rfl ?_
  refine z_iastH (M := M_X12_addEntry) 42 dX12_addEntry_42 o_110 (by omega) (by omega) (uw_e2 G2 (e := x2) (by omega) (by omega) (by omega) (by omega) (by omega)) (R2.up rfl) (fun h3 E3 G3 R3 => ?_)
  refine z_aload_n (M := M_X12_addEntry) 43 dX12_addEntry_43 rfl ?_
  refine z_getR (M := M_X12_addEntry) 44 dX12_addEntry_44 f_X12_13 o_108 rfl (g_108_3 G3) ?_
  refine z_iload (M := M_X12_addEntry) 47 dX12_addEntry_47 rfl ?_
  refine z_iconst (M := M_X12_addEntry) 49 dX12_addEntry_49 ?_
  refine z_iaddN (M := M_X12_addEntry) 50 dX12_addEntry_50 (by omega) (by omega) ?_
  refine z_iload (M := M_X12_addEntry) 51 dX12_addEntry_51 rfl ?_
  refine z_iastH (M := M_X12_addEntry) 53 dX12_addEntry_53 o_110 (by omega) (by omega) (uw_e3 G3 (e := x2) (by omega) (by omega) (by omega) (by omega) (by omega)) (R3.up rfl) (fun h4 E4 G4 R4 => ?_)
  refine z_aload_n (M := M_X12_addEntry) 54 dX12_addEntry_54 rfl ?_
  refine z_getR (M := M_X12_addEntry) 55 dX12_addEntry_55 f_X12_13 o_108 rfl (g_108_3 G4) ?_
  refine z_iload (M := M_X12_addEntry) 58 dX12_addEntry_58 rfl ?_
  refine z_iconst (M := M_X12_addEntry) 60 dX12_addEntry_60 ?_
  refine z_iaddN (M := M_X12_addEntry) 61 dX12_addEntry_61 (by omega) (by omega) ?_
  refine z_iconst (M := M_X12_addEntry) 62 dX12_addEntry_62 ?_
  refine z_iastH (M := M_X12_addEntry) 63 dX12_addEntry_63 o_110 (by omega) (by omega) (uw_e4 G4 (e := x2) (by omega) (by omega) (by omega) (by omega) (by omega)) (R4.up rfl) (fun h5 E5 G5 R5 => ?_)
  refine z_aload_n (M := M_X12_addEntry) 64 dX12_addEntry_64 rfl ?_
  refine z_getR (M := M_X12_addEntry) 65 dX12_addEntry_65 f_X12_13 o_108 rfl (g_108_3 G5) ?_
  refine z_iconst (M := M_X12_addEntry) 68 dX12_addEntry_68 ?_
  refine z_dup2 (M := M_X12_addEntry) 69 dX12_addEntry_69 rfl rfl ?_
  refine z_ialdE (M := M_X12_addEntry) 70 dX12_addEntry_70 o_110 (by omega) (by omega) ((upN E5 (fun q => absurd q.2 (by omega))).trans ((upN E4 (fun q => absurd q.2 (by omega))).trans ((upN E3 (fun q => absurd q.2 (by omega))).trans ((upN E2 (fun q => absurd q.2 (by omega))).trans ((upN E1 (fun q => absurd q.2 (by omega))).trans ex2))))) ?_
  refine z_iconst (M := M_X12_addEntry) 71 dX12_addEntry_71 ?_
  refine z_iaddN (M := M_X12_addEntry) 72 dX12_addEntry_72 (by omega) (by omega) ?_
  refine z_iastH (M := M_X12_addEntry) 73 dX12_addEntry_73 o_110 (by omega) (by omega) (uw_0 G5 (by omega) (by omega)) (R5.up rfl) (fun h6 E6 G6 R6 => ?_)
  have w3 : h6 110 0 = (x2 + 1) := (upE E6)
  have w4 : h6 110 1 = x1 := ((upN E6 (fun q => absurd q.2 (by decide))).trans ((upN E5 (fun q => absurd q.2 (by omega))).trans ((upN E4 (fun q => absurd q.2 (by omega))).trans ((upN E3 (fun q => absurd q.2 (by omega))).trans ((upN E2 (fun q => absurd q.2 (by omega))).trans ((upN E1 (fun q => absurd q.2 (by omega))).trans ex1))))))
  have k0 : h0 110 0 = x2 := ex2
  have k1 : h0 110 1 = x1 := ex1
  exact z_retV (M := M_X12_addEntry) 74 dX12_addEntry_74 rfl ⟨G6, R6, by omega, by omega, (NPi.inc (NPi.st (NPi.st (NPi.stN (NPi.st (NPi.st NPi.rf E1 ⟨by omega, fun e => by omega⟩ (by omega)) E2 ⟨by omega, fun e => by omega⟩ (by omega)) E3 (by omega) (by omega) (by omega)) E4 ⟨by omega, fun e => by omega⟩ (by omega)) E5 ⟨by omega, fun e => by omega⟩ (by omega)) E6 ((upN E5 (fun q => absurd q.2 (by omega))).trans ((upN E4 (fun q => absurd q.2 (by omega))).trans ((upN E3 (fun q => absurd q.2 (by omega))).trans ((upN E2 (fun q => absurd q.2 (by omega))).trans ((upN E1 (fun q => absurd q.2 (by omega))).trans ex2))))) (by omega) (NP_num (by omega) (by omega) E3 E4 E5))⟩
abbrev P_X12_entry (h0 : m_H) (a1 a2 a3 a4 : Int) : Int → m_H → Prop := fun x h' => GI h' ∧ FR [109, 110] [(108, 0), (108, 1)] h0 h' ∧ (-5) ≤ x ∧ x ≤ 23 ∧ NPi h0 h'
set_option maxHeartbeats 4000000 in
set_option maxRecDepth 100000 in
theorem c_X12_entry (h0 : m_H) (a1 a2 a3 a4 : Int) (G0 : GI h0) : m_CI M_X12_entry [mR 108, mI a1, mI a2, mI a3, mI a4] h0 (P_X12_entry h0 a1 a2 a3 a4) := by
  refine m_CI_of ⟨by decide, rfl, by simp [m_arg, m_isL, M_X12_entry], ⟨rfl, rfl⟩, rfl, rfl⟩ (ls := [some (mR 108), some (mI a1), some (mI a2), some (mI a3), some (mI a4)]) rfl ?_
  refine z_ok (fun _ _ ok => ?_)
  have oa1 : m_32 a1 := ok 1 _ rfl
  unfold m_32 at oa1
  have oa2 : m_32 a2 := ok 2 _ rfl
  unfold m_32 at oa2
  have oa3 : m_32 a3 := ok 3 _ rfl
  unfold m_32 at oa3
  have oa4 : m_32 a4 := ok 4 _ rfl
  unfold m_32 at oa4
  refine z_aload_n (M := M_X12_entry) 0 dX12_entry_0 rfl ?_
  refine z_iconst (M := M_X12_entry) 1 dX12_entry_1 ?_
  refine z_putIH (M := M_X12_entry) 2 dX12_entry_2 p_X12_133 o_108 rfl (u_108_0 G0) ((FR.rf (cs := [109, 110]) (ss := [(108, 0), (108, 1)]) (h := h0)).up rfl) (fun h1 E1 G1 R1 => ?_)
  refine z_iload_n (M := M_X12_entry) 5 dX12_entry_5 rfl ?_
  refine z_iload_n (M := M_X12_entry) 6 dX12_entry_6 rfl ?_
  refine z_iload_n (M := M_X12_entry) 7 dX12_entry_7 rfl ?_
  refine z_iload (M := M_X12_entry) 8 dX12_entry_8 rfl ?_
  refine z_sI (M := M_X12_entry) 10 dX12_entry_10 t_X12_canEnter l_X12_184 (m_rr_of rfl) (rest := []) (c_X12_canEnter h1 a1 a2 a3 a4 G1) rfl rfl (Nat.le_of_ble_eq_true rfl) ⟨rfl, rfl⟩ (fun x1 h2 qx1 => ?_)
  obtain ⟨rfl, ⟨rfl, cx1⟩ | ⟨rfl, cx1⟩⟩ := qx1
  · refine z_if_ne_T (M := M_X12_entry) 13 dX12_entry_13 22 rfl (by omega) ?_
    refine z_aload_n (M := M_X12_entry) 22 dX12_entry_22 rfl ?_
    refine z_getR (M := M_X12_entry) 23 dX12_entry_23 f_X12_13 o_108 rfl (g_108_3 G1) ?_
    refine z_iconst (M := M_X12_entry) 26 dX12_entry_26 ?_
    refine z_ialdG (M := M_X12_entry) 27 dX12_entry_27 o_110 (by omega) (by omega) (gw_0 G1) (fun x2 ex2 ax2 bx2 => ?_)
    refine z_bipush (M := M_X12_entry) 28 dX12_entry_28 ?_
    refine z_icmp_ne (M := M_X12_entry) 30 dX12_entry_30 40 rfl (fun c3 => ?_) (fun c3 => ?_)
    · refine z_aload_n (M := M_X12_entry) 40 dX12_entry_40 rfl ?_
      refine z_iload_n (M := M_X12_entry) 41 dX12_entry_41 rfl ?_
      refine z_iload_n (M := M_X12_entry) 42 dX12_entry_42 rfl ?_
      refine z_iload_n (M := M_X12_entry) 43 dX12_entry_43 rfl ?_
      refine z_iload (M := M_X12_entry) 44 dX12_entry_44 rfl ?_
      refine z_vV (M := M_X12_entry) 46 dX12_entry_46 t_X12_addEntry l_X12_188 (m_rr_of rfl) (rest := []) (c_X12_addEntry h1 a1 a2 a3 a4 G1 ⟨by omega, by omega⟩ ⟨by omega, by omega⟩ ⟨by omega, by omega⟩ ⟨by omega, by omega⟩ (le_e ex2 (by omega))) o_108 rfl rfl rfl (Nat.le_of_ble_eq_true rfl) ⟨rfl, rfl⟩ (fun h3 qx4 => ?_)
      obtain ⟨G3, S3, fx4_0, fx4_1, npx4⟩ := qx4
      have R3 := R1.call S3 (by decide +kernel)
      refine z_aload_n (M := M_X12_entry) 49 dX12_entry_49 rfl ?_
      refine z_aload_n (M := M_X12_entry) 50 dX12_entry_50 rfl ?_
      refine z_getR (M := M_X12_entry) 51 dX12_entry_51 f_X12_13 o_108 rfl (g_108_3 G3) ?_
      refine z_iconst (M := M_X12_entry) 54 dX12_entry_54 ?_
      refine z_ialdE (M := M_X12_entry) 55 dX12_entry_55 o_110 (by omega) (by omega) (eq_ad fx4_0 ex2) ?_
      refine z_iconst (M := M_X12_entry) 56 dX12_entry_56 ?_
      refine z_isubN (M := M_X12_entry) 57 dX12_entry_57 (by omega) (by omega) ?_
      refine z_vI (M := M_X12_entry) 58 dX12_entry_58 t_X12_answer l_X12_147 (m_rr_of rfl) (rest := []) (c_X12_answer h3 ((x2 + 1) - 1) G3 ⟨by omega, by omega⟩) o_108 rfl rfl rfl (Nat.le_of_ble_eq_true rfl) ⟨rfl, rfl⟩ (fun x5 h4 qx5 => ?_)
      obtain ⟨G4, S4, rfl⟩ := qx5
      have R4 := R3.call S4 (by decide +kernel)
      exact z_retI (M := M_X12_entry) 61 dX12_entry_61 rfl ⟨G4, R4, by omega, by omega, (NPi.call (NPi.tr (NPi.put NPi.rf E1 (by decide)) npx4) S4 (fun _ => rfl) (fun _ => rfl) (fun _ => rfl))⟩
    · refine z_aload_n (M := M_X12_entry) 33 dX12_entry_33 rfl ?_
      refine z_bipush (M := M_X12_entry) 34 dX12_entry_34 ?_
      refine z_vI (M := M_X12_entry) 36 dX12_entry_36 t_X12_answer l_X12_147 (m_rr_of rfl) (rest := []) (c_X12_answer h1 (-5) G1 ⟨by omega, by omega⟩) o_108 rfl rfl rfl (Nat.le_of_ble_eq_true rfl) ⟨rfl, rfl⟩ (fun x6 h5 qx6 => ?_)
      obtain ⟨G5, S5, rfl⟩ := qx6
      have R5 := R1.call S5 (by decide +kernel)
      exact z_retI (M := M_X12_entry) 39 dX12_entry_39 rfl ⟨G5, R5, by omega, by omega, (NPi.call (NPi.put NPi.rf E1 (by decide)) S5 (fun _ => rfl) (fun _ => rfl) (fun _ => rfl))⟩
  · refine z_if_ne_F (M := M_X12_entry) 13 dX12_entry_13 22 rfl (by omega) ?_
    refine z_aload_n (M := M_X12_entry) 16 dX12_entry_16 rfl ?_
    refine z_iconst (M := M_X12_entry) 17 dX12_entry_17 ?_
    refine z_vI (M := M_X12_entry) 18 dX12_entry_18 t_X12_answer l_X12_147 (m_rr_of rfl) (rest := []) (c_X12_answer h1 (-1) G1 ⟨by omega, by omega⟩) o_108 rfl rfl rfl (Nat.le_of_ble_eq_true rfl) ⟨rfl, rfl⟩ (fun x7 h6 qx7 => ?_)
    obtain ⟨G6, S6, rfl⟩ := qx7
    have R6 := R1.call S6 (by decide +kernel)
    exact z_retI (M := M_X12_entry) 21 dX12_entry_21 rfl ⟨G6, R6, by omega, by omega, (NPi.call (NPi.put NPi.rf E1 (by decide)) S6 (fun _ => rfl) (fun _ => rfl) (fun _ => rfl))⟩
abbrev P_X12_isEntry (h0 : m_H) (a1 : Int) : Int → m_H → Prop := fun x h' => h0 = h' ∧ ((x = 1 ∧ (0 ≤ a1 ∧ a1 ≤ 23 ∧ a1 < h0 110 (0 : Int).toNat)) ∨ (x = 0 ∧ ¬ (0 ≤ a1 ∧ a1 ≤ 23 ∧ a1 < h0 110 (0 : Int).toNat)))
set_option maxHeartbeats 4000000 in
set_option maxRecDepth 100000 in
theorem c_X12_isEntry (h0 : m_H) (a1 : Int) (G0 : GI h0) : m_CI M_X12_isEntry [mR 108, mI a1] h0 (P_X12_isEntry h0 a1) := by
  refine m_CI_of ⟨by decide, rfl, by simp [m_arg, m_isL, M_X12_isEntry], ⟨rfl, rfl⟩, rfl, rfl⟩ (ls := [some (mR 108), some (mI a1)]) rfl ?_
  refine z_ok (fun _ _ ok => ?_)
  have oa1 : m_32 a1 := ok 1 _ rfl
  unfold m_32 at oa1
  refine z_iload_n (M := M_X12_isEntry) 0 dX12_isEntry_0 rfl ?_
  refine z_i2l (M := M_X12_isEntry) 1 dX12_isEntry_1 ?_
  refine z_lconst (M := M_X12_isEntry) 2 dX12_isEntry_2 (v := 0) ?_
  refine z_aload_n (M := M_X12_isEntry) 3 dX12_isEntry_3 rfl ?_
  refine z_getR (M := M_X12_isEntry) 4 dX12_isEntry_4 f_X12_13 o_108 rfl (g_108_3 G0) ?_
  refine z_iconst (M := M_X12_isEntry) 7 dX12_isEntry_7 ?_
  refine z_ialdG (M := M_X12_isEntry) 8 dX12_isEntry_8 o_110 (by omega) (by omega) (gw_0 G0) (fun x1 ex1 ax1 bx1 => ?_)
  refine z_i2l (M := M_X12_isEntry) 9 dX12_isEntry_9 ?_
  refine z_lconst (M := M_X12_isEntry) 10 dX12_isEntry_10 (v := 1) ?_
  refine z_lsubN (M := M_X12_isEntry) 11 dX12_isEntry_11 (by omega) (by omega) ?_
  refine z_sI (M := M_X12_isEntry) 12 dX12_isEntry_12 t_X12_in l_X12_143 (m_rr_of rfl) (rest := []) (c_X12_in h0 a1 0 (x1 - 1) G0) rfl rfl (Nat.le_of_ble_eq_true rfl) ⟨rfl, rfl⟩ (fun x2 h1 qx2 => ?_)
  obtain ⟨rfl, ⟨rfl, cx2⟩ | ⟨rfl, cx2⟩⟩ := qx2
  · exact z_retZ (M := M_X12_isEntry) 15 dX12_isEntry_15 rfl (by omega) ⟨rfl, by omega⟩
  · exact z_retZ (M := M_X12_isEntry) 15 dX12_isEntry_15 rfl (by omega) ⟨rfl, by omega⟩
abbrev P_X12_ofEntry (h0 : m_H) (a1 a2 : Int) : Int → m_H → Prop := fun x h' => h0 = h' ∧ h0 110 (80 + 5 * a1 + a2).toNat = x
set_option maxHeartbeats 4000000 in
set_option maxRecDepth 100000 in
theorem c_X12_ofEntry (h0 : m_H) (a1 a2 : Int) (G0 : GI h0) (pa1 : 0 ≤ a1 ∧ a1 ≤ 23) (pa2 : 0 ≤ a2 ∧ a2 ≤ 4) : m_CI M_X12_ofEntry [mR 108, mI a1, mI a2] h0 (P_X12_ofEntry h0 a1 a2) := by
  refine m_CI_of ⟨by decide, rfl, by simp [m_arg, m_isL, M_X12_ofEntry], ⟨rfl, rfl⟩, rfl, rfl⟩ (ls := [some (mR 108), some (mI a1), some (mI a2)]) rfl ?_
  refine z_aload_n (M := M_X12_ofEntry) 0 dX12_ofEntry_0 rfl ?_
  refine z_getR (M := M_X12_ofEntry) 1 dX12_ofEntry_1 f_X12_13 o_108 rfl (g_108_3 G0) ?_
  refine z_bipush (M := M_X12_ofEntry) 4 dX12_ofEntry_4 ?_
  refine z_iconst (M := M_X12_ofEntry) 6 dX12_ofEntry_6 ?_
  refine z_iload_n (M := M_X12_ofEntry) 7 dX12_ofEntry_7 rfl ?_
  refine z_imulN (M := M_X12_ofEntry) 8 dX12_ofEntry_8 (by omega) (by omega) ?_
  refine z_iaddN (M := M_X12_ofEntry) 9 dX12_ofEntry_9 (by omega) (by omega) ?_
  refine z_iload_n (M := M_X12_ofEntry) 10 dX12_ofEntry_10 rfl ?_
  refine z_iaddN (M := M_X12_ofEntry) 11 dX12_ofEntry_11 (by omega) (by omega) ?_
  refine z_ialdG (M := M_X12_ofEntry) 12 dX12_ofEntry_12 o_110 (by omega) (by omega) (gw_e G0 (by omega) (by omega)) (fun x1 ex1 ax1 bx1 => ?_)
  exact z_retI (M := M_X12_ofEntry) 13 dX12_ofEntry_13 rfl ⟨rfl, ex1⟩
abbrev P_X12_counts (h0 : m_H) (a1 a2 : Int) : Int → m_H → Prop := fun x h' => GI h' ∧ FR [109, 110] [(108, 0), (108, 1)] h0 h' ∧ NPi h0 h'
set_option maxHeartbeats 4000000 in
set_option maxRecDepth 100000 in
theorem c_X12_counts (h0 : m_H) (a1 a2 : Int) (G0 : GI h0) : m_CI M_X12_counts [mR 108, mI a1, mI a2] h0 (P_X12_counts h0 a1 a2) := by
  refine m_CI_of ⟨by decide, rfl, by simp [m_arg, m_isL, M_X12_counts], ⟨rfl, rfl⟩, rfl, rfl⟩ (ls := [some (mR 108), some (mI a1), some (mI a2)]) rfl ?_
  refine z_ok (fun _ _ ok => ?_)
  have oa1 : m_32 a1 := ok 1 _ rfl
  unfold m_32 at oa1
  have oa2 : m_32 a2 := ok 2 _ rfl
  unfold m_32 at oa2
  refine z_aload_n (M := M_X12_counts) 0 dX12_counts_0 rfl ?_
  refine z_iconst (M := M_X12_counts) 1 dX12_counts_1 ?_
  refine z_putIH (M := M_X12_counts) 2 dX12_counts_2 p_X12_133 o_108 rfl (u_108_0 G0) ((FR.rf (cs := [109, 110]) (ss := [(108, 0), (108, 1)]) (h := h0)).up rfl) (fun h1 E1 G1 R1 => ?_)
  refine z_iload_n (M := M_X12_counts) 5 dX12_counts_5 rfl ?_
  refine z_i2l (M := M_X12_counts) 6 dX12_counts_6 ?_
  refine z_lconst (M := M_X12_counts) 7 dX12_counts_7 (v := 0) ?_
  refine z_lconst (M := M_X12_counts) 8 dX12_counts_8 (v := 1) ?_
  refine z_sI (M := M_X12_counts) 9 dX12_counts_9 t_X12_in l_X12_143 (m_rr_of rfl) (rest := []) (c_X12_in h1 a2 0 1 G1) rfl rfl (Nat.le_of_ble_eq_true rfl) ⟨rfl, rfl⟩ (fun x1 h2 qx1 => ?_)
  obtain ⟨rfl, ⟨rfl, cx1⟩ | ⟨rfl, cx1⟩⟩ := qx1
  · refine z_if_ne_T (M := M_X12_counts) 12 dX12_counts_12 21 rfl (by omega) ?_
    refine z_aload_n (M := M_X12_counts) 21 dX12_counts_21 rfl ?_
    refine z_iload_n (M := M_X12_counts) 22 dX12_counts_22 rfl ?_
    refine z_vI (M := M_X12_counts) 23 dX12_counts_23 t_X12_isEntry l_X12_192 (m_rr_of rfl) (rest := []) (c_X12_isEntry h1 a1 G1) o_108 rfl rfl rfl (Nat.le_of_ble_eq_true rfl) ⟨rfl, rfl⟩ (fun x2 h3 qx2 => ?_)
    obtain ⟨rfl, ⟨rfl, cx2⟩ | ⟨rfl, cx2⟩⟩ := qx2
    · refine z_if_eq_F (M := M_X12_counts) 26 dX12_counts_26 45 rfl (by omega) ?_
      refine z_aload_n (M := M_X12_counts) 29 dX12_counts_29 rfl ?_
      refine z_bipush (M := M_X12_counts) 30 dX12_counts_30 ?_
      refine z_iconst (M := M_X12_counts) 32 dX12_counts_32 ?_
      refine z_iload_n (M := M_X12_counts) 33 dX12_counts_33 rfl ?_
      refine z_imulN (M := M_X12_counts) 34 dX12_counts_34 (by omega) (by omega) ?_
      refine z_iaddN (M := M_X12_counts) 35 dX12_counts_35 (by omega) (by omega) ?_
      refine z_iconst (M := M_X12_counts) 36 dX12_counts_36 ?_
      refine z_iaddN (M := M_X12_counts) 37 dX12_counts_37 (by omega) (by omega) ?_
      refine z_iload_n (M := M_X12_counts) 38 dX12_counts_38 rfl ?_
      refine z_vI (M := M_X12_counts) 39 dX12_counts_39 t_X12_change l_X12_162 (m_rr_of rfl) (rest := []) (c_X12_change h1 ((80 + (5 * a1)) + 4) a2 G1 ⟨by omega, by omega⟩ (rb_e4 (e := a1) (by omega) (by omega) (by omega) (by omega) (by omega))) o_108 rfl rfl rfl (Nat.le_of_ble_eq_true rfl) ⟨rfl, rfl⟩ (fun x3 h4 qx3 => ?_)
      obtain ⟨G4, S4, fx3_0, fx3_1, fx3_2⟩ := qx3
      have R4 := R1.call S4 (by decide +kernel)
      refine z_ok (fun ox3 _ _ => ?_)
      have ox3 := ox3.1; unfold m_ok m_32 at ox3
      refine z_goto (M := M_X12_counts) 42 dX12_counts_42 51 rfl ?_
      exact z_retI (M := M_X12_counts) 51 dX12_counts_51 rfl ⟨G4, R4, (NPi.change (NPi.put NPi.rf E1 (by decide)) S4 (fun _ => rfl) (fun _ => rfl) fx3_1 ⟨by omega, fun e => by omega⟩ (by omega))⟩
    · refine z_if_eq_T (M := M_X12_counts) 26 dX12_counts_26 45 rfl (by omega) ?_
      refine z_aload_n (M := M_X12_counts) 45 dX12_counts_45 rfl ?_
      refine z_bipush (M := M_X12_counts) 46 dX12_counts_46 ?_
      refine z_vI (M := M_X12_counts) 48 dX12_counts_48 t_X12_answer l_X12_147 (m_rr_of rfl) (rest := []) (c_X12_answer h1 (-2) G1 ⟨by omega, by omega⟩) o_108 rfl rfl rfl (Nat.le_of_ble_eq_true rfl) ⟨rfl, rfl⟩ (fun x4 h5 qx4 => ?_)
      obtain ⟨G5, S5, rfl⟩ := qx4
      have R5 := R1.call S5 (by decide +kernel)
      exact z_retI (M := M_X12_counts) 51 dX12_counts_51 rfl ⟨G5, R5, (NPi.call (NPi.put NPi.rf E1 (by decide)) S5 (fun _ => rfl) (fun _ => rfl) (fun _ => rfl))⟩
  · refine z_if_ne_F (M := M_X12_counts) 12 dX12_counts_12 21 rfl (by omega) ?_
    refine z_aload_n (M := M_X12_counts) 15 dX12_counts_15 rfl ?_
    refine z_iconst (M := M_X12_counts) 16 dX12_counts_16 ?_
    refine z_vI (M := M_X12_counts) 17 dX12_counts_17 t_X12_answer l_X12_147 (m_rr_of rfl) (rest := []) (c_X12_answer h1 (-1) G1 ⟨by omega, by omega⟩) o_108 rfl rfl rfl (Nat.le_of_ble_eq_true rfl) ⟨rfl, rfl⟩ (fun x5 h6 qx5 => ?_)
    obtain ⟨G6, S6, rfl⟩ := qx5
    have R6 := R1.call S6 (by decide +kernel)
    exact z_retI (M := M_X12_counts) 20 dX12_counts_20 rfl ⟨G6, R6, (NPi.call (NPi.put NPi.rf E1 (by decide)) S6 (fun _ => rfl) (fun _ => rfl) (fun _ => rfl))⟩
abbrev P_X12_lengthOf (h0 : m_H) (a1 : Int) : Int → m_H → Prop := fun x h' => GI h' ∧ FR [] [] h0 h' ∧ 0 ≤ x ∧ x ≤ 11
set_option maxHeartbeats 4000000 in
set_option maxRecDepth 100000 in
theorem c_X12_lengthOf (h0 : m_H) (a1 : Int) (G0 : GI h0) (pa1 : 0 ≤ a1 ∧ a1 ≤ 23) : m_CI M_X12_lengthOf [mR 108, mI a1] h0 (P_X12_lengthOf h0 a1) := by
  refine m_CI_of ⟨by decide, rfl, by simp [m_arg, m_isL, M_X12_lengthOf], ⟨rfl, rfl⟩, rfl, rfl⟩ (ls := [some (mR 108), some (mI a1), none]) rfl ?_
  refine z_aload_n (M := M_X12_lengthOf) 0 dX12_lengthOf_0 rfl ?_
  refine z_iload_n (M := M_X12_lengthOf) 1 dX12_lengthOf_1 rfl ?_
  refine z_iconst (M := M_X12_lengthOf) 2 dX12_lengthOf_2 ?_
  refine z_vI (M := M_X12_lengthOf) 3 dX12_lengthOf_3 t_X12_ofEntry l_X12_195 (m_rr_of rfl) (rest := []) (c_X12_ofEntry h0 a1 0 G0 ⟨by omega, by omega⟩ ⟨by omega, by omega⟩) o_108 rfl rfl rfl (Nat.le_of_ble_eq_true rfl) ⟨rfl, rfl⟩ (fun x1 h1 qx1 => ?_)
  obtain ⟨rfl, fx1⟩ := qx1
  have gx1 := gw_e0 G0 (i := (80 + 5 * a1 + 0)) (e := a1) (by omega) (by omega) (by omega)
  rw [fx1] at gx1
  refine z_istore_n (M := M_X12_lengthOf) 6 dX12_lengthOf_6 (ls' := [some (mR 108), some (mI a1), some (mI x1)]) (by decide) rfl ?_
  refine z_aload_n (M := M_X12_lengthOf) 7 dX12_lengthOf_7 rfl ?_
  refine z_getR (M := M_X12_lengthOf) 8 dX12_lengthOf_8 f_X12_13 o_108 rfl (g_108_3 G0) ?_
  refine z_bipush (M := M_X12_lengthOf) 11 dX12_lengthOf_11 ?_
  refine z_iload_n (M := M_X12_lengthOf) 13 dX12_lengthOf_13 rfl ?_
  refine z_iaddN (M := M_X12_lengthOf) 14 dX12_lengthOf_14 (by omega) (by omega) ?_
  refine z_ialdG (M := M_X12_lengthOf) 15 dX12_lengthOf_15 o_110 (by omega) (by omega) (gw_c G0 (by omega) (by omega)) (fun x2 ex2 ax2 bx2 => ?_)
  refine z_iconst (M := M_X12_lengthOf) 16 dX12_lengthOf_16 ?_
  refine z_icmp_eq (M := M_X12_lengthOf) 17 dX12_lengthOf_17 45 rfl (fun c3 => ?_) (fun c3 => ?_)
  · refine z_iload_n (M := M_X12_lengthOf) 45 dX12_lengthOf_45 rfl ?_
    exact z_retI (M := M_X12_lengthOf) 46 dX12_lengthOf_46 rfl ⟨G0, (FR.rf (cs := []) (ss := []) (h := h0)), by omega, by omega⟩
  · refine z_aload_n (M := M_X12_lengthOf) 20 dX12_lengthOf_20 rfl ?_
    refine z_iload_n (M := M_X12_lengthOf) 21 dX12_lengthOf_21 rfl ?_
    refine z_iconst (M := M_X12_lengthOf) 22 dX12_lengthOf_22 ?_
    refine z_vI (M := M_X12_lengthOf) 23 dX12_lengthOf_23 t_X12_ofEntry l_X12_195 (m_rr_of rfl) (rest := []) (c_X12_ofEntry h0 a1 1 G0 ⟨by omega, by omega⟩ ⟨by omega, by omega⟩) o_108 rfl rfl rfl (Nat.le_of_ble_eq_true rfl) ⟨rfl, rfl⟩ (fun x4 h2 qx4 => ?_)
    obtain ⟨rfl, fx4⟩ := qx4
    have gx4 := gw_e1 G0 (i := (80 + 5 * a1 + 1)) (e := a1) (by omega) (by omega) (by omega)
    rw [fx4] at gx4
    refine z_aload_n (M := M_X12_lengthOf) 26 dX12_lengthOf_26 rfl ?_
    refine z_getR (M := M_X12_lengthOf) 27 dX12_lengthOf_27 f_X12_13 o_108 rfl (g_108_3 G0) ?_
    refine z_bipush (M := M_X12_lengthOf) 30 dX12_lengthOf_30 ?_
    refine z_iload_n (M := M_X12_lengthOf) 32 dX12_lengthOf_32 rfl ?_
    refine z_iaddN (M := M_X12_lengthOf) 33 dX12_lengthOf_33 (by omega) (by omega) ?_
    refine z_ialdE (M := M_X12_lengthOf) 34 dX12_lengthOf_34 o_110 (by omega) (by omega) ex2 ?_
    refine z_icmp_lt (M := M_X12_lengthOf) 35 dX12_lengthOf_35 45 rfl (fun c5 => ?_) (fun c5 => ?_)
    · refine z_iload_n (M := M_X12_lengthOf) 45 dX12_lengthOf_45 rfl ?_
      exact z_retI (M := M_X12_lengthOf) 46 dX12_lengthOf_46 rfl ⟨G0, (FR.rf (cs := []) (ss := []) (h := h0)), by omega, by omega⟩
    · refine z_bipush (M := M_X12_lengthOf) 38 dX12_lengthOf_38 ?_
      refine z_iload_n (M := M_X12_lengthOf) 40 dX12_lengthOf_40 rfl ?_
      refine z_iaddN (M := M_X12_lengthOf) 41 dX12_lengthOf_41 (by omega) (by omega) ?_
      refine z_goto (M := M_X12_lengthOf) 42 dX12_lengthOf_42 46 rfl ?_
      exact z_retI (M := M_X12_lengthOf) 46 dX12_lengthOf_46 rfl ⟨G0, (FR.rf (cs := []) (ss := []) (h := h0)), by omega, by omega⟩
abbrev P_X12_of (h0 : m_H) (a1 a2 : Int) : Int → m_H → Prop := fun x h' => GI h' ∧ FR [] [(108, 0)] h0 h' ∧ (-1) ≤ x ∧ x ≤ 99
set_option maxHeartbeats 4000000 in
set_option maxRecDepth 100000 in
theorem c_X12_of (h0 : m_H) (a1 a2 : Int) (G0 : GI h0) : m_CI M_X12_of [mR 108, mI a1, mI a2] h0 (P_X12_of h0 a1 a2) := by
  refine m_CI_of ⟨by decide, rfl, by simp [m_arg, m_isL, M_X12_of], ⟨rfl, rfl⟩, rfl, rfl⟩ (ls := [some (mR 108), some (mI a1), some (mI a2)]) rfl ?_
  refine z_ok (fun _ _ ok => ?_)
  have oa1 : m_32 a1 := ok 1 _ rfl
  unfold m_32 at oa1
  have oa2 : m_32 a2 := ok 2 _ rfl
  unfold m_32 at oa2
  refine z_aload_n (M := M_X12_of) 0 dX12_of_0 rfl ?_
  refine z_iconst (M := M_X12_of) 1 dX12_of_1 ?_
  refine z_putIH (M := M_X12_of) 2 dX12_of_2 p_X12_133 o_108 rfl (u_108_0 G0) ((FR.rf (cs := []) (ss := [(108, 0)]) (h := h0)).up rfl) (fun h1 E1 G1 R1 => ?_)
  refine z_aload_n (M := M_X12_of) 5 dX12_of_5 rfl ?_
  refine z_iload_n (M := M_X12_of) 6 dX12_of_6 rfl ?_
  refine z_vI (M := M_X12_of) 7 dX12_of_7 t_X12_isEntry l_X12_192 (m_rr_of rfl) (rest := []) (c_X12_isEntry h1 a1 G1) o_108 rfl rfl rfl (Nat.le_of_ble_eq_true rfl) ⟨rfl, rfl⟩ (fun x1 h2 qx1 => ?_)
  obtain ⟨rfl, ⟨rfl, cx1⟩ | ⟨rfl, cx1⟩⟩ := qx1
  · refine z_if_eq_F (M := M_X12_of) 10 dX12_of_10 25 rfl (by omega) ?_
    refine z_iload_n (M := M_X12_of) 13 dX12_of_13 rfl ?_
    refine z_i2l (M := M_X12_of) 14 dX12_of_14 ?_
    refine z_lconst (M := M_X12_of) 15 dX12_of_15 (v := 0) ?_
    refine z_ldc2 (M := M_X12_of) 16 dX12_of_16 k_X12_150 ?_
    refine z_sI (M := M_X12_of) 19 dX12_of_19 t_X12_in l_X12_143 (m_rr_of rfl) (rest := []) (c_X12_in h1 a2 0 5 G1) rfl rfl (Nat.le_of_ble_eq_true rfl) ⟨rfl, rfl⟩ (fun x2 h3 qx2 => ?_)
    obtain ⟨rfl, ⟨rfl, cx2⟩ | ⟨rfl, cx2⟩⟩ := qx2
    · refine z_if_ne_T (M := M_X12_of) 22 dX12_of_22 27 rfl (by omega) ?_
      refine z_iload_n (M := M_X12_of) 27 dX12_of_27 rfl ?_
      refine z_iconst (M := M_X12_of) 28 dX12_of_28 ?_
      refine z_icmp_ne (M := M_X12_of) 29 dX12_of_29 40 rfl (fun c3 => ?_) (fun c3 => ?_)
      · refine z_aload_n (M := M_X12_of) 40 dX12_of_40 rfl ?_
        refine z_iload_n (M := M_X12_of) 41 dX12_of_41 rfl ?_
        refine z_iload_n (M := M_X12_of) 42 dX12_of_42 rfl ?_
        refine z_vI (M := M_X12_of) 43 dX12_of_43 t_X12_ofEntry l_X12_195 (m_rr_of rfl) (rest := []) (c_X12_ofEntry h1 a1 a2 G1 ⟨by omega, by omega⟩ ⟨by omega, by omega⟩) o_108 rfl rfl rfl (Nat.le_of_ble_eq_true rfl) ⟨rfl, rfl⟩ (fun x4 h4 qx4 => ?_)
        obtain ⟨rfl, fx4⟩ := qx4
        have gx4 := gw_e G1 (i := (80 + 5 * a1 + a2)) (by omega) (by omega)
        rw [fx4] at gx4
        exact z_retI (M := M_X12_of) 46 dX12_of_46 rfl ⟨G1, R1, by omega, by omega⟩
      · refine z_aload_n (M := M_X12_of) 32 dX12_of_32 rfl ?_
        refine z_iload_n (M := M_X12_of) 33 dX12_of_33 rfl ?_
        refine z_vI (M := M_X12_of) 34 dX12_of_34 t_X12_lengthOf l_X12_198 (m_rr_of rfl) (rest := []) (c_X12_lengthOf h1 a1 G1 ⟨by omega, by omega⟩) o_108 rfl rfl rfl (Nat.le_of_ble_eq_true rfl) ⟨rfl, rfl⟩ (fun x5 h5 qx5 => ?_)
        obtain ⟨G5, S5, ax5, bx5⟩ := qx5
        have R5 := R1.call S5 (by decide +kernel)
        refine z_goto (M := M_X12_of) 37 dX12_of_37 46 rfl ?_
        exact z_retI (M := M_X12_of) 46 dX12_of_46 rfl ⟨G5, R5, by omega, by omega⟩
    · refine z_if_ne_F (M := M_X12_of) 22 dX12_of_22 27 rfl (by omega) ?_
      refine z_iconst (M := M_X12_of) 25 dX12_of_25 ?_
      exact z_retI (M := M_X12_of) 26 dX12_of_26 rfl ⟨G1, R1, by omega, by omega⟩
  · refine z_if_eq_T (M := M_X12_of) 10 dX12_of_10 25 rfl (by omega) ?_
    refine z_iconst (M := M_X12_of) 25 dX12_of_25 ?_
    exact z_retI (M := M_X12_of) 26 dX12_of_26 rfl ⟨G1, R1, by omega, by omega⟩
abbrev P_X12_row (h0 : m_H) : Int → m_H → Prop := fun x h' => GI h' ∧ FR [109, 110] [(108, 0), (108, 1), (108, 6), (108, 8)] h0 h' ∧ (-6) ≤ x ∧ x ≤ 100 ∧ h' 108 8 = 0 ∧ NPi h0 h'
def q_X12_row (h0 : m_H) (n : Nat) : Prop := (∀ (l1 l2 l3 : Int) (h : m_H), GI h → FR [109, 110] [(108, 0), (108, 1), (108, 6), (108, 8)] h0 h → 1 ≤ l1 → l1 ≤ 400 → 0 ≤ l2 → l2 ≤ 100 → 0 ≤ l3 → l3 ≤ 403 → (h 108 8 = 0) → (4 * l2 ≤ l3) → (NPi h0 h) → 2 * (403 - l3) + (1) ≤ (n : Int) → m_Z oF M_X12_row 35 [some (mR 108), some (mI l1), some (mI l2), some (mI l3), none] [] h (m_QI (P_X12_row h0)))
set_option maxHeartbeats 4000000 in
set_option maxRecDepth 100000 in
theorem s_X12_row_35 (h0 : m_H) (G0 : GI h0) (n : Nat) (ih : q_X12_row h0 n) : ∀ (l1 l2 l3 : Int) (h : m_H), GI h → FR [109, 110] [(108, 0), (108, 1), (108, 6), (108, 8)] h0 h → 1 ≤ l1 → l1 ≤ 400 → 0 ≤ l2 → l2 ≤ 100 → 0 ≤ l3 → l3 ≤ 403 → (h 108 8 = 0) → (4 * l2 ≤ l3) → (NPi h0 h) → 2 * (403 - l3) + (1) ≤ ((n + 1 : Nat) : Int) → m_Z oF M_X12_row 35 [some (mR 108), some (mI l1), some (mI l2), some (mI l3), none] [] h (m_QI (P_X12_row h0)) := by
  intro l1 l2 l3 h G R v0 v1 v2 v3 v4 v5 t_108_8 i0 i1 hr
  refine z_iload_n (M := M_X12_row) 35 dX12_row_35 rfl ?_
  refine z_iload_n (M := M_X12_row) 36 dX12_row_36 rfl ?_
  refine z_icmp_ge (M := M_X12_row) 37 dX12_row_37 174 rfl (fun c1 => ?_) (fun c1 => ?_)
  · refine z_aload_n (M := M_X12_row) 174 dX12_row_174 rfl ?_
    refine z_iload_n (M := M_X12_row) 175 dX12_row_175 rfl ?_
    refine z_vI (M := M_X12_row) 176 dX12_row_176 t_X12_answer l_X12_147 (m_rr_of rfl) (rest := []) (c_X12_answer h l2 G ⟨by omega, by omega⟩) o_108 rfl rfl rfl (Nat.le_of_ble_eq_true rfl) ⟨rfl, rfl⟩ (fun x2 h1 qx2 => ?_)
    obtain ⟨G1, S1, rfl⟩ := qx2
    have R1 := R.call S1 (by decide +kernel)
    have z8 : h1 108 8 = 0 := ((S1 108 8 rfl).trans t_108_8)
    exact z_retI (M := M_X12_row) 179 dX12_row_179 rfl ⟨G1, R1, by omega, by omega, by omega, (NPi.call i1 S1 (fun _ => rfl) (fun _ => rfl) (fun _ => rfl))⟩
  · refine z_iload_n (M := M_X12_row) 40 dX12_row_40 rfl ?_
    refine z_iconst (M := M_X12_row) 41 dX12_row_41 ?_
    refine z_iaddN (M := M_X12_row) 42 dX12_row_42 (by omega) (by omega) ?_
    refine z_iload_n (M := M_X12_row) 43 dX12_row_43 rfl ?_
    refine z_icmp_ge (M := M_X12_row) 44 dX12_row_44 62 rfl (fun c3 => ?_) (fun c3 => ?_)
    · refine z_iconst (M := M_X12_row) 62 dX12_row_62 ?_
      refine z_istore (M := M_X12_row) 63 dX12_row_63 (ls' := [some (mR 108), some (mI l1), some (mI l2), some (mI l3), some (mI 0)]) (by decide) rfl ?_
      refine z_iload (M := M_X12_row) 65 dX12_row_65 rfl ?_
      refine z_if_eq_T (M := M_X12_row) 67 dX12_row_67 110 rfl (by omega) ?_
      refine z_iconst (M := M_X12_row) 110 dX12_row_110 ?_
      refine z_istore (M := M_X12_row) 111 dX12_row_111 (ls' := [some (mR 108), some (mI l1), some (mI l2), some (mI l3), some (mI 0)]) (by decide) rfl ?_
      refine z_iload (M := M_X12_row) 113 dX12_row_113 rfl ?_
      refine z_if_eq_T (M := M_X12_row) 115 dX12_row_115 158 rfl (by omega) ?_
      refine z_aload_n (M := M_X12_row) 158 dX12_row_158 rfl ?_
      refine z_dup (M := M_X12_row) 159 dX12_row_159 rfl ?_
      refine z_getIV (M := M_X12_row) 160 dX12_row_160 f_X12_204 o_108 (by decide) (fun x4 ex4 => ?_)
      refine z_ok (fun ox4 _ _ => ?_)
      have ox4 := ox4.1; unfold m_ok m_32 at ox4
      refine z_iconst (M := M_X12_row) 163 dX12_row_163 ?_
      refine z_iadd (M := M_X12_row) 164 dX12_row_164 ?_
      refine z_topm (fun x5 ex5 ox5 => ?_)
      unfold m_32 at ox5
      refine z_putIH (M := M_X12_row) 165 dX12_row_165 p_X12_204 o_108 rfl (u_108_6 G) (R.up rfl) (fun h2 E2 G2 R2 => ?_)
      refine z_iincN (M := M_X12_row) 168 dX12_row_168 (ls' := [some (mR 108), some (mI l1), some (mI l2), some (mI (l3 + 4)), some (mI 0)]) (by decide) rfl (by (unfold m_32; decide)) (by omega) (by omega) rfl ?_
      refine z_goto (M := M_X12_row) 171 dX12_row_171 35 rfl ?_
      exact z_mask [true, true, true, true, false] rfl (ih l1 l2 (l3 + 4) h2 G2 R2 (by omega) (by omega) (by omega) (by omega) (by omega) (by omega) ((upN E2 (fun q => absurd q.2 (by decide))).trans t_108_8) (by omega) (NPi.put i1 E2 (by decide)) (by omega))
    · refine z_aload_n (M := M_X12_row) 47 dX12_row_47 rfl ?_
      refine z_getR (M := M_X12_row) 48 dX12_row_48 f_X12_13 o_108 rfl (g_108_3 G) ?_
      refine z_iconst (M := M_X12_row) 51 dX12_row_51 ?_
      refine z_ialdG (M := M_X12_row) 52 dX12_row_52 o_110 (by omega) (by omega) (gw_0 G) (fun x6 ex6 ax6 bx6 => ?_)
      refine z_bipush (M := M_X12_row) 53 dX12_row_53 ?_
      refine z_icmp_ge (M := M_X12_row) 55 dX12_row_55 62 rfl (fun c7 => ?_) (fun c7 => ?_)
      · refine z_iconst (M := M_X12_row) 62 dX12_row_62 ?_
        refine z_istore (M := M_X12_row) 63 dX12_row_63 (ls' := [some (mR 108), some (mI l1), some (mI l2), some (mI l3), some (mI 0)]) (by decide) rfl ?_
        refine z_iload (M := M_X12_row) 65 dX12_row_65 rfl ?_
        refine z_if_eq_T (M := M_X12_row) 67 dX12_row_67 110 rfl (by omega) ?_
        refine z_iconst (M := M_X12_row) 110 dX12_row_110 ?_
        refine z_istore (M := M_X12_row) 111 dX12_row_111 (ls' := [some (mR 108), some (mI l1), some (mI l2), some (mI l3), some (mI 0)]) (by decide) rfl ?_
        refine z_iload (M := M_X12_row) 113 dX12_row_113 rfl ?_
        refine z_if_eq_T (M := M_X12_row) 115 dX12_row_115 158 rfl (by omega) ?_
        refine z_aload_n (M := M_X12_row) 158 dX12_row_158 rfl ?_
        refine z_dup (M := M_X12_row) 159 dX12_row_159 rfl ?_
        refine z_getIV (M := M_X12_row) 160 dX12_row_160 f_X12_204 o_108 (by decide) (fun x8 ex8 => ?_)
        refine z_ok (fun ox8 _ _ => ?_)
        have ox8 := ox8.1; unfold m_ok m_32 at ox8
        refine z_iconst (M := M_X12_row) 163 dX12_row_163 ?_
        refine z_iadd (M := M_X12_row) 164 dX12_row_164 ?_
        refine z_topm (fun x9 ex9 ox9 => ?_)
        unfold m_32 at ox9
        refine z_putIH (M := M_X12_row) 165 dX12_row_165 p_X12_204 o_108 rfl (u_108_6 G) (R.up rfl) (fun h3 E3 G3 R3 => ?_)
        refine z_iincN (M := M_X12_row) 168 dX12_row_168 (ls' := [some (mR 108), some (mI l1), some (mI l2), some (mI (l3 + 4)), some (mI 0)]) (by decide) rfl (by (unfold m_32; decide)) (by omega) (by omega) rfl ?_
        refine z_goto (M := M_X12_row) 171 dX12_row_171 35 rfl ?_
        exact z_mask [true, true, true, true, false] rfl (ih l1 l2 (l3 + 4) h3 G3 R3 (by omega) (by omega) (by omega) (by omega) (by omega) (by omega) ((upN E3 (fun q => absurd q.2 (by decide))).trans t_108_8) (by omega) (NPi.put i1 E3 (by decide)) (by omega))
      · refine z_iconst (M := M_X12_row) 58 dX12_row_58 ?_
        refine z_goto (M := M_X12_row) 59 dX12_row_59 63 rfl ?_
        refine z_istore (M := M_X12_row) 63 dX12_row_63 (ls' := [some (mR 108), some (mI l1), some (mI l2), some (mI l3), some (mI 1)]) (by decide) rfl ?_
        refine z_iload (M := M_X12_row) 65 dX12_row_65 rfl ?_
        refine z_if_eq_F (M := M_X12_row) 67 dX12_row_67 110 rfl (by omega) ?_
        refine z_aload_n (M := M_X12_row) 70 dX12_row_70 rfl ?_
        refine z_getR (M := M_X12_row) 71 dX12_row_71 f_X12_23 o_108 rfl (g_108_7 G) ?_
        refine z_iload_n (M := M_X12_row) 74 dX12_row_74 rfl ?_
        refine z_ialdG (M := M_X12_row) 75 dX12_row_75 o_113 (by omega) (by omega) (g_113 G (by omega)) (fun x10 ex10 ax10 bx10 => ?_)
        refine z_aload_n (M := M_X12_row) 76 dX12_row_76 rfl ?_
        refine z_getR (M := M_X12_row) 77 dX12_row_77 f_X12_23 o_108 rfl (g_108_7 G) ?_
        refine z_iload_n (M := M_X12_row) 80 dX12_row_80 rfl ?_
        refine z_iconst (M := M_X12_row) 81 dX12_row_81 ?_
        refine z_iaddN (M := M_X12_row) 82 dX12_row_82 (by omega) (by omega) ?_
        refine z_ialdG (M := M_X12_row) 83 dX12_row_83 o_113 (by omega) (by omega) (g_113 G (by omega)) (fun x11 ex11 ax11 bx11 => ?_)
        refine z_aload_n (M := M_X12_row) 84 dX12_row_84 rfl ?_
        refine z_getR (M := M_X12_row) 85 dX12_row_85 f_X12_23 o_108 rfl (g_108_7 G) ?_
        refine z_iload_n (M := M_X12_row) 88 dX12_row_88 rfl ?_
        refine z_iconst (M := M_X12_row) 89 dX12_row_89 ?_
        refine z_iaddN (M := M_X12_row) 90 dX12_row_90 (by omega) (by omega) ?_
        refine z_ialdG (M := M_X12_row) 91 dX12_row_91 o_113 (by omega) (by omega) (g_113 G (by omega)) (fun x12 ex12 ax12 bx12 => ?_)
        refine z_aload_n (M := M_X12_row) 92 dX12_row_92 rfl ?_
        refine z_getR (M := M_X12_row) 93 dX12_row_93 f_X12_23 o_108 rfl (g_108_7 G) ?_
        refine z_iload_n (M := M_X12_row) 96 dX12_row_96 rfl ?_
        refine z_iconst (M := M_X12_row) 97 dX12_row_97 ?_
        refine z_iaddN (M := M_X12_row) 98 dX12_row_98 (by omega) (by omega) ?_
        refine z_ialdG (M := M_X12_row) 99 dX12_row_99 o_113 (by omega) (by omega) (g_113 G (by omega)) (fun x13 ex13 ax13 bx13 => ?_)
        refine z_sI (M := M_X12_row) 100 dX12_row_100 t_X12_canEnter l_X12_184 (m_rr_of rfl) (rest := []) (c_X12_canEnter h x10 x11 x12 x13 G) rfl rfl (Nat.le_of_ble_eq_true rfl) ⟨rfl, rfl⟩ (fun x14 h4 qx14 => ?_)
        obtain ⟨rfl, ⟨rfl, cx14⟩ | ⟨rfl, cx14⟩⟩ := qx14
        · refine z_if_eq_F (M := M_X12_row) 103 dX12_row_103 110 rfl (by omega) ?_
          refine z_iconst (M := M_X12_row) 106 dX12_row_106 ?_
          refine z_goto (M := M_X12_row) 107 dX12_row_107 111 rfl ?_
          refine z_istore (M := M_X12_row) 111 dX12_row_111 (ls' := [some (mR 108), some (mI l1), some (mI l2), some (mI l3), some (mI 1)]) (by decide) rfl ?_
          refine z_iload (M := M_X12_row) 113 dX12_row_113 rfl ?_
          refine z_if_eq_F (M := M_X12_row) 115 dX12_row_115 158 rfl (by omega) ?_
          refine z_aload_n (M := M_X12_row) 118 dX12_row_118 rfl ?_
          refine z_aload_n (M := M_X12_row) 119 dX12_row_119 rfl ?_
          refine z_getR (M := M_X12_row) 120 dX12_row_120 f_X12_23 o_108 rfl (g_108_7 G) ?_
          refine z_iload_n (M := M_X12_row) 123 dX12_row_123 rfl ?_
          refine z_ialdE (M := M_X12_row) 124 dX12_row_124 o_113 (by omega) (by omega) ex10 ?_
          refine z_aload_n (M := M_X12_row) 125 dX12_row_125 rfl ?_
          refine z_getR (M := M_X12_row) 126 dX12_row_126 f_X12_23 o_108 rfl (g_108_7 G) ?_
          refine z_iload_n (M := M_X12_row) 129 dX12_row_129 rfl ?_
          refine z_iconst (M := M_X12_row) 130 dX12_row_130 ?_
          refine z_iaddN (M := M_X12_row) 131 dX12_row_131 (by omega) (by omega) ?_
          refine z_ialdE (M := M_X12_row) 132 dX12_row_132 o_113 (by omega) (by omega) ex11 ?_
          refine z_aload_n (M := M_X12_row) 133 dX12_row_133 rfl ?_
          refine z_getR (M := M_X12_row) 134 dX12_row_134 f_X12_23 o_108 rfl (g_108_7 G) ?_
          refine z_iload_n (M := M_X12_row) 137 dX12_row_137 rfl ?_
          refine z_iconst (M := M_X12_row) 138 dX12_row_138 ?_
          refine z_iaddN (M := M_X12_row) 139 dX12_row_139 (by omega) (by omega) ?_
          refine z_ialdE (M := M_X12_row) 140 dX12_row_140 o_113 (by omega) (by omega) ex12 ?_
          refine z_aload_n (M := M_X12_row) 141 dX12_row_141 rfl ?_
          refine z_getR (M := M_X12_row) 142 dX12_row_142 f_X12_23 o_108 rfl (g_108_7 G) ?_
          refine z_iload_n (M := M_X12_row) 145 dX12_row_145 rfl ?_
          refine z_iconst (M := M_X12_row) 146 dX12_row_146 ?_
          refine z_iaddN (M := M_X12_row) 147 dX12_row_147 (by omega) (by omega) ?_
          refine z_ialdE (M := M_X12_row) 148 dX12_row_148 o_113 (by omega) (by omega) ex13 ?_
          refine z_vV (M := M_X12_row) 149 dX12_row_149 t_X12_addEntry l_X12_188 (m_rr_of rfl) (rest := []) (c_X12_addEntry h x10 x11 x12 x13 G ⟨by omega, by omega⟩ ⟨by omega, by omega⟩ ⟨by omega, by omega⟩ ⟨by omega, by omega⟩ (le_e ex6 (by omega))) o_108 rfl rfl rfl (Nat.le_of_ble_eq_true rfl) ⟨rfl, rfl⟩ (fun h5 qx15 => ?_)
          obtain ⟨G5, S5, fx15_0, fx15_1, npx15⟩ := qx15
          have R5 := R.call S5 (by decide +kernel)
          refine z_iincN (M := M_X12_row) 152 dX12_row_152 (ls' := [some (mR 108), some (mI l1), some (mI (l2 + 1)), some (mI l3), some (mI 1)]) (by decide) rfl (by (unfold m_32; decide)) (by omega) (by omega) rfl ?_
          refine z_goto (M := M_X12_row) 155 dX12_row_155 168 rfl ?_
          refine z_iincN (M := M_X12_row) 168 dX12_row_168 (ls' := [some (mR 108), some (mI l1), some (mI (l2 + 1)), some (mI (l3 + 4)), some (mI 1)]) (by decide) rfl (by (unfold m_32; decide)) (by omega) (by omega) rfl ?_
          refine z_goto (M := M_X12_row) 171 dX12_row_171 35 rfl ?_
          exact z_mask [true, true, true, true, false] rfl (ih l1 (l2 + 1) (l3 + 4) h5 G5 R5 (by omega) (by omega) (by omega) (by omega) (by omega) (by omega) ((S5 108 8 rfl).trans t_108_8) (by omega) (NPi.tr i1 npx15) (by omega))
        · refine z_if_eq_T (M := M_X12_row) 103 dX12_row_103 110 rfl (by omega) ?_
          refine z_iconst (M := M_X12_row) 110 dX12_row_110 ?_
          refine z_istore (M := M_X12_row) 111 dX12_row_111 (ls' := [some (mR 108), some (mI l1), some (mI l2), some (mI l3), some (mI 0)]) (by decide) rfl ?_
          refine z_iload (M := M_X12_row) 113 dX12_row_113 rfl ?_
          refine z_if_eq_T (M := M_X12_row) 115 dX12_row_115 158 rfl (by omega) ?_
          refine z_aload_n (M := M_X12_row) 158 dX12_row_158 rfl ?_
          refine z_dup (M := M_X12_row) 159 dX12_row_159 rfl ?_
          refine z_getIV (M := M_X12_row) 160 dX12_row_160 f_X12_204 o_108 (by decide) (fun x16 ex16 => ?_)
          refine z_ok (fun ox16 _ _ => ?_)
          have ox16 := ox16.1; unfold m_ok m_32 at ox16
          refine z_iconst (M := M_X12_row) 163 dX12_row_163 ?_
          refine z_iadd (M := M_X12_row) 164 dX12_row_164 ?_
          refine z_topm (fun x17 ex17 ox17 => ?_)
          unfold m_32 at ox17
          refine z_putIH (M := M_X12_row) 165 dX12_row_165 p_X12_204 o_108 rfl (u_108_6 G) (R.up rfl) (fun h6 E6 G6 R6 => ?_)
          refine z_iincN (M := M_X12_row) 168 dX12_row_168 (ls' := [some (mR 108), some (mI l1), some (mI l2), some (mI (l3 + 4)), some (mI 0)]) (by decide) rfl (by (unfold m_32; decide)) (by omega) (by omega) rfl ?_
          refine z_goto (M := M_X12_row) 171 dX12_row_171 35 rfl ?_
          exact z_mask [true, true, true, true, false] rfl (ih l1 l2 (l3 + 4) h6 G6 R6 (by omega) (by omega) (by omega) (by omega) (by omega) (by omega) ((upN E6 (fun q => absurd q.2 (by decide))).trans t_108_8) (by omega) (NPi.put i1 E6 (by decide)) (by omega))
theorem a_X12_row (h0 : m_H) (G0 : GI h0) : ∀ n, q_X12_row h0 n := by
  intro n
  induction n with
  | zero => unfold q_X12_row; intros; omega
  | succ n ih => exact s_X12_row_35 h0 G0 n ih
set_option maxHeartbeats 4000000 in
set_option maxRecDepth 100000 in
theorem c_X12_row (h0 : m_H) (G0 : GI h0) : m_CI M_X12_row [mR 108] h0 (P_X12_row h0) := by
  refine m_CI_of ⟨by decide, rfl, by simp [m_arg, m_isL, M_X12_row], ⟨rfl, rfl⟩, rfl, rfl⟩ (ls := [some (mR 108), none, none, none, none]) rfl ?_
  have ih := a_X12_row h0 G0 814
  refine z_aload_n (M := M_X12_row) 0 dX12_row_0 rfl ?_
  refine z_iconst (M := M_X12_row) 1 dX12_row_1 ?_
  refine z_putIH (M := M_X12_row) 2 dX12_row_2 p_X12_133 o_108 rfl (u_108_0 G0) ((FR.rf (cs := [109, 110]) (ss := [(108, 0), (108, 1), (108, 6), (108, 8)]) (h := h0)).up rfl) (fun h1 E1 G1 R1 => ?_)
  refine z_aload_n (M := M_X12_row) 5 dX12_row_5 rfl ?_
  refine z_getIG (M := M_X12_row) 6 dX12_row_6 f_X12_201 o_108 (by decide) (g_108_8 G1) (fun x1 ex1 ax1 bx1 => ?_)
  refine z_istore_n (M := M_X12_row) 9 dX12_row_9 (ls' := [some (mR 108), some (mI x1), none, none, none]) (by decide) rfl ?_
  refine z_aload_n (M := M_X12_row) 10 dX12_row_10 rfl ?_
  refine z_iconst (M := M_X12_row) 11 dX12_row_11 ?_
  refine z_putIH (M := M_X12_row) 12 dX12_row_12 p_X12_201 o_108 rfl (u_108_8 G1 (by omega) (by omega)) (R1.up rfl) (fun h2 E2 G2 R2 => ?_)
  refine z_iload_n (M := M_X12_row) 15 dX12_row_15 rfl ?_
  refine z_if_ne (M := M_X12_row) 16 dX12_row_16 26 rfl (fun c2 => ?_) (fun c2 => ?_)
  · refine z_aload_n (M := M_X12_row) 26 dX12_row_26 rfl ?_
    refine z_iconst (M := M_X12_row) 27 dX12_row_27 ?_
    refine z_putIH (M := M_X12_row) 28 dX12_row_28 p_X12_204 o_108 rfl (u_108_6 G2) (R2.up rfl) (fun h3 E3 G3 R3 => ?_)
    refine z_iconst (M := M_X12_row) 31 dX12_row_31 ?_
    refine z_istore_n (M := M_X12_row) 32 dX12_row_32 (ls' := [some (mR 108), some (mI x1), some (mI 0), none, none]) (by decide) rfl ?_
    refine z_iconst (M := M_X12_row) 33 dX12_row_33 ?_
    refine z_istore_n (M := M_X12_row) 34 dX12_row_34 (ls' := [some (mR 108), some (mI x1), some (mI 0), some (mI 0), none]) (by decide) rfl ?_
    exact z_mask [true, true, true, true, false] rfl (ih x1 0 0 h3 G3 R3 (by omega) (by omega) (by omega) (by omega) (by omega) (by omega) ((upN E3 (fun q => absurd q.2 (by decide))).trans (upE E2)) (by omega) (NPi.put (NPi.put (NPi.put NPi.rf E1 (by decide)) E2 (by decide)) E3 (by decide)) (by omega))
  · refine z_aload_n (M := M_X12_row) 19 dX12_row_19 rfl ?_
    refine z_bipush (M := M_X12_row) 20 dX12_row_20 ?_
    refine z_vI (M := M_X12_row) 22 dX12_row_22 t_X12_answer l_X12_147 (m_rr_of rfl) (rest := []) (c_X12_answer h2 (-6) G2 ⟨by omega, by omega⟩) o_108 rfl rfl rfl (Nat.le_of_ble_eq_true rfl) ⟨rfl, rfl⟩ (fun x3 h4 qx3 => ?_)
    obtain ⟨G4, S4, rfl⟩ := qx3
    have R4 := R2.call S4 (by decide +kernel)
    have z8 : h4 108 8 = 0 := ((S4 108 8 rfl).trans (upE E2))
    exact z_retI (M := M_X12_row) 25 dX12_row_25 rfl ⟨G4, R4, by omega, by omega, by omega, (NPi.call (NPi.put (NPi.put NPi.rf E1 (by decide)) E2 (by decide)) S4 (fun _ => rfl) (fun _ => rfl) (fun _ => rfl))⟩
abbrev P_X12_blurred (h0 : m_H) : Int → m_H → Prop := fun x h' => GI h' ∧ FR [] [(108, 0)] h0 h'
set_option maxHeartbeats 4000000 in
set_option maxRecDepth 100000 in
theorem c_X12_blurred (h0 : m_H) (G0 : GI h0) : m_CI M_X12_blurred [mR 108] h0 (P_X12_blurred h0) := by
  refine m_CI_of ⟨by decide, rfl, by simp [m_arg, m_isL, M_X12_blurred], ⟨rfl, rfl⟩, rfl, rfl⟩ (ls := [some (mR 108)]) rfl ?_
  refine z_aload_n (M := M_X12_blurred) 0 dX12_blurred_0 rfl ?_
  refine z_iconst (M := M_X12_blurred) 1 dX12_blurred_1 ?_
  refine z_putIH (M := M_X12_blurred) 2 dX12_blurred_2 p_X12_133 o_108 rfl (u_108_0 G0) ((FR.rf (cs := []) (ss := [(108, 0)]) (h := h0)).up rfl) (fun h1 E1 G1 R1 => ?_)
  refine z_aload_n (M := M_X12_blurred) 5 dX12_blurred_5 rfl ?_
  refine z_getIV (M := M_X12_blurred) 6 dX12_blurred_6 f_X12_204 o_108 (by decide) (fun x1 ex1 => ?_)
  refine z_ok (fun ox1 _ _ => ?_)
  have ox1 := ox1.1; unfold m_ok m_32 at ox1
  exact z_retI (M := M_X12_blurred) 9 dX12_blurred_9 rfl ⟨G1, R1⟩
abbrev P_X12_four (h0 : m_H) (a1 : Int) : m_H → Prop := fun h' => GI h' ∧ FR [113] [(108, 8)] h0 h' ∧ h' 108 8 = h0 108 8 + 4
def q_X12_four (h0 : m_H) (a1 : Int) (n : Nat) : Prop := (∀ (l2 y_108_8 : Int) (h : m_H), GI h → FR [113] [(108, 8)] h0 h → (-8) ≤ l2 → l2 ≤ 24 → 0 ≤ y_108_8 → y_108_8 ≤ 400 → (-2147483648) ≤ a1 → a1 ≤ 2147483647 → (h 108 8 = y_108_8) → (8 * y_108_8 = 8 * h0 108 8 + 24 - l2) → 2 * (l2 - (-8)) + (1) ≤ (n : Int) → m_Z oF M_X12_four 3 [some (mR 108), some (mI a1), some (mI l2)] [] h (m_QV (P_X12_four h0 a1)))
set_option maxHeartbeats 4000000 in
set_option maxRecDepth 100000 in
theorem s_X12_four_3 (h0 : m_H) (a1 : Int) (G0 : GI h0) (ht : h0 108 8 ≤ 396) (n : Nat) (ih : q_X12_four h0 a1 n) : ∀ (l2 y_108_8 : Int) (h : m_H), GI h → FR [113] [(108, 8)] h0 h → (-8) ≤ l2 → l2 ≤ 24 → 0 ≤ y_108_8 → y_108_8 ≤ 400 → (-2147483648) ≤ a1 → a1 ≤ 2147483647 → (h 108 8 = y_108_8) → (8 * y_108_8 = 8 * h0 108 8 + 24 - l2) → 2 * (l2 - (-8)) + (1) ≤ ((n + 1 : Nat) : Int) → m_Z oF M_X12_four 3 [some (mR 108), some (mI a1), some (mI l2)] [] h (m_QV (P_X12_four h0 a1)) := by
  intro l2 y_108_8 h G R v0 v1 v2 v3 v4 v5 t_108_8 i0 hr
  refine z_iload_n (M := M_X12_four) 3 dX12_four_3 rfl ?_
  refine z_if_lt (M := M_X12_four) 4 dX12_four_4 39 rfl (fun c1 => ?_) (fun c1 => ?_)
  · exact z_retV (M := M_X12_four) 39 dX12_four_39 rfl ⟨G, R, by omega⟩
  · refine z_aload_n (M := M_X12_four) 7 dX12_four_7 rfl ?_
    refine z_getR (M := M_X12_four) 8 dX12_four_8 f_X12_23 o_108 rfl (g_108_7 G) ?_
    refine z_aload_n (M := M_X12_four) 11 dX12_four_11 rfl ?_
    refine z_getIE (M := M_X12_four) 12 dX12_four_12 f_X12_201 o_108 (by decide) t_108_8 ?_
    refine z_iload_n (M := M_X12_four) 15 dX12_four_15 rfl ?_
    refine z_iload_n (M := M_X12_four) 16 dX12_four_16 rfl ?_
    refine z_ishr (M := M_X12_four) 17 dX12_four_17 ?_
    refine z_topm (fun x2 ex2 ox2 => ?_)
    unfold m_32 at ox2
    refine z_sipush (M := M_X12_four) 18 dX12_four_18 ?_
    refine z_iand (M := M_X12_four) 21 dX12_four_21 ?_
    refine z_topBI (m_and_255 _) (fun x3 ex3 ax3 bx3 => ?_)
    refine z_iastH (M := M_X12_four) 22 dX12_four_22 o_113 (by omega) (by omega) (u_113 G (by omega) (by omega)) (R.up rfl) (fun h1 E1 G1 R1 => ?_)
    refine z_aload_n (M := M_X12_four) 23 dX12_four_23 rfl ?_
    refine z_dup (M := M_X12_four) 24 dX12_four_24 rfl ?_
    refine z_getIE (M := M_X12_four) 25 dX12_four_25 f_X12_201 o_108 (by decide) ((upN E1 (fun q => absurd q.1 (by decide))).trans t_108_8) ?_
    refine z_iconst (M := M_X12_four) 28 dX12_four_28 ?_
    refine z_iaddN (M := M_X12_four) 29 dX12_four_29 (by omega) (by omega) ?_
    refine z_putIH (M := M_X12_four) 30 dX12_four_30 p_X12_201 o_108 rfl (u_108_8 G1 (by omega) (by omega)) (R1.up rfl) (fun h2 E2 G2 R2 => ?_)
    refine z_iincN (M := M_X12_four) 33 dX12_four_33 (ls' := [some (mR 108), some (mI a1), some (mI (l2 + (-8)))]) (by decide) rfl (by (unfold m_32; decide)) (by omega) (by omega) rfl ?_
    refine z_goto (M := M_X12_four) 36 dX12_four_36 3 rfl ?_
    exact z_mask [true, true, true] rfl (ih (l2 + (-8)) (y_108_8 + 1) h2 G2 R2 (by omega) (by omega) (by omega) (by omega) (by omega) (by omega) (upE E2) (by omega) (by omega))
theorem a_X12_four (h0 : m_H) (a1 : Int) (G0 : GI h0) (ht : h0 108 8 ≤ 396) : ∀ n, q_X12_four h0 a1 n := by
  intro n
  induction n with
  | zero => unfold q_X12_four; intros; omega
  | succ n ih => exact s_X12_four_3 h0 a1 G0 ht n ih
set_option maxHeartbeats 4000000 in
set_option maxRecDepth 100000 in
theorem c_X12_four (h0 : m_H) (a1 : Int) (G0 : GI h0) (ht : h0 108 8 ≤ 396) : m_CV M_X12_four [mR 108, mI a1] h0 (P_X12_four h0 a1) := by
  refine m_CV_of ⟨by decide, rfl, by simp [m_arg, m_isL, M_X12_four], ⟨rfl, rfl⟩, rfl, rfl⟩ (ls := [some (mR 108), some (mI a1), none]) rfl ?_
  have ih := a_X12_four h0 a1 G0 ht 72
  refine z_ok (fun _ _ ok => ?_)
  have oa1 : m_32 a1 := ok 1 _ rfl
  unfold m_32 at oa1
  obtain ⟨x1, ex1⟩ : ∃ y : Int, h0 108 8 = y := ⟨_, rfl⟩
  have bx1 : 0 ≤ x1 ∧ x1 ≤ 400 := ex1 ▸ g_108_8 G0
  refine z_bipush (M := M_X12_four) 0 dX12_four_0 ?_
  refine z_istore_n (M := M_X12_four) 2 dX12_four_2 (ls' := [some (mR 108), some (mI a1), some (mI 24)]) (by decide) rfl ?_
  exact z_mask [true, true, true] rfl (ih 24 x1 h0 G0 (FR.rf (cs := [113]) (ss := [(108, 8)]) (h := h0)) (by omega) (by omega) (by omega) (by omega) (by omega) (by omega) ex1 (by omega) (by omega))
abbrev P_X12_feed (h0 : m_H) (a1 a2 a3 a4 a5 : Int) : Int → m_H → Prop := fun x h' => GI h' ∧ FR [113] [(108, 0), (108, 8)] h0 h' ∧ ((380 < h0 108 8 ∧ x = -1 ∧ h' 108 8 = h0 108 8) ∨ (h0 108 8 ≤ 380 ∧ x = h0 108 8 + 20 ∧ h' 108 8 = h0 108 8 + 20))
set_option maxHeartbeats 4000000 in
set_option maxRecDepth 100000 in
theorem c_X12_feed (h0 : m_H) (a1 a2 a3 a4 a5 : Int) (G0 : GI h0) : m_CI M_X12_feed [mR 108, mI a1, mI a2, mI a3, mI a4, mI a5] h0 (P_X12_feed h0 a1 a2 a3 a4 a5) := by
  refine m_CI_of ⟨by decide, rfl, by simp [m_arg, m_isL, M_X12_feed], ⟨rfl, rfl⟩, rfl, rfl⟩ (ls := [some (mR 108), some (mI a1), some (mI a2), some (mI a3), some (mI a4), some (mI a5)]) rfl ?_
  refine z_ok (fun _ _ ok => ?_)
  have oa1 : m_32 a1 := ok 1 _ rfl
  unfold m_32 at oa1
  have oa2 : m_32 a2 := ok 2 _ rfl
  unfold m_32 at oa2
  have oa3 : m_32 a3 := ok 3 _ rfl
  unfold m_32 at oa3
  have oa4 : m_32 a4 := ok 4 _ rfl
  unfold m_32 at oa4
  have oa5 : m_32 a5 := ok 5 _ rfl
  unfold m_32 at oa5
  obtain ⟨x1, ex1⟩ : ∃ y : Int, h0 108 8 = y := ⟨_, rfl⟩
  have bx1 : 0 ≤ x1 ∧ x1 ≤ 400 := ex1 ▸ g_108_8 G0
  refine z_aload_n (M := M_X12_feed) 0 dX12_feed_0 rfl ?_
  refine z_iconst (M := M_X12_feed) 1 dX12_feed_1 ?_
  refine z_putIH (M := M_X12_feed) 2 dX12_feed_2 p_X12_133 o_108 rfl (u_108_0 G0) ((FR.rf (cs := [113]) (ss := [(108, 0), (108, 8)]) (h := h0)).up rfl) (fun h1 E1 G1 R1 => ?_)
  refine z_aload_n (M := M_X12_feed) 5 dX12_feed_5 rfl ?_
  refine z_getIE (M := M_X12_feed) 6 dX12_feed_6 f_X12_201 o_108 (by decide) ((upN E1 (fun q => absurd q.2 (by decide))).trans ex1) ?_
  refine z_bipush (M := M_X12_feed) 9 dX12_feed_9 ?_
  refine z_iaddN (M := M_X12_feed) 11 dX12_feed_11 (by omega) (by omega) ?_
  refine z_sipush (M := M_X12_feed) 12 dX12_feed_12 ?_
  refine z_icmp_le (M := M_X12_feed) 15 dX12_feed_15 20 rfl (fun c2 => ?_) (fun c2 => ?_)
  · refine z_aload_n (M := M_X12_feed) 20 dX12_feed_20 rfl ?_
    refine z_iload_n (M := M_X12_feed) 21 dX12_feed_21 rfl ?_
    refine z_vV (M := M_X12_feed) 22 dX12_feed_22 t_X12_four l_X12_207 (m_rr_of rfl) (rest := []) (c_X12_four h1 a1 G1 (le_e ((upN E1 (fun q => absurd q.2 (by decide))).trans ex1) (by omega))) o_108 rfl rfl rfl (Nat.le_of_ble_eq_true rfl) ⟨rfl, rfl⟩ (fun h2 qx3 => ?_)
    obtain ⟨G2, S2, fx3_0⟩ := qx3
    have R2 := R1.call S2 (by decide +kernel)
    refine z_aload_n (M := M_X12_feed) 25 dX12_feed_25 rfl ?_
    refine z_iload_n (M := M_X12_feed) 26 dX12_feed_26 rfl ?_
    refine z_vV (M := M_X12_feed) 27 dX12_feed_27 t_X12_four l_X12_207 (m_rr_of rfl) (rest := []) (c_X12_four h2 a2 G2 (le_e (eq_ad fx3_0 ((upN E1 (fun q => absurd q.2 (by decide))).trans ex1)) (by omega))) o_108 rfl rfl rfl (Nat.le_of_ble_eq_true rfl) ⟨rfl, rfl⟩ (fun h3 qx4 => ?_)
    obtain ⟨G3, S3, fx4_0⟩ := qx4
    have R3 := R2.call S3 (by decide +kernel)
    refine z_aload_n (M := M_X12_feed) 30 dX12_feed_30 rfl ?_
    refine z_iload_n (M := M_X12_feed) 31 dX12_feed_31 rfl ?_
    refine z_vV (M := M_X12_feed) 32 dX12_feed_32 t_X12_four l_X12_207 (m_rr_of rfl) (rest := []) (c_X12_four h3 a3 G3 (le_e (eq_ad fx4_0 (eq_ad fx3_0 ((upN E1 (fun q => absurd q.2 (by decide))).trans ex1))) (by omega))) o_108 rfl rfl rfl (Nat.le_of_ble_eq_true rfl) ⟨rfl, rfl⟩ (fun h4 qx5 => ?_)
    obtain ⟨G4, S4, fx5_0⟩ := qx5
    have R4 := R3.call S4 (by decide +kernel)
    refine z_aload_n (M := M_X12_feed) 35 dX12_feed_35 rfl ?_
    refine z_iload (M := M_X12_feed) 36 dX12_feed_36 rfl ?_
    refine z_vV (M := M_X12_feed) 38 dX12_feed_38 t_X12_four l_X12_207 (m_rr_of rfl) (rest := []) (c_X12_four h4 a4 G4 (le_e (eq_ad fx5_0 (eq_ad fx4_0 (eq_ad fx3_0 ((upN E1 (fun q => absurd q.2 (by decide))).trans ex1)))) (by omega))) o_108 rfl rfl rfl (Nat.le_of_ble_eq_true rfl) ⟨rfl, rfl⟩ (fun h5 qx6 => ?_)
    obtain ⟨G5, S5, fx6_0⟩ := qx6
    have R5 := R4.call S5 (by decide +kernel)
    refine z_aload_n (M := M_X12_feed) 41 dX12_feed_41 rfl ?_
    refine z_iload (M := M_X12_feed) 42 dX12_feed_42 rfl ?_
    refine z_vV (M := M_X12_feed) 44 dX12_feed_44 t_X12_four l_X12_207 (m_rr_of rfl) (rest := []) (c_X12_four h5 a5 G5 (le_e (eq_ad fx6_0 (eq_ad fx5_0 (eq_ad fx4_0 (eq_ad fx3_0 ((upN E1 (fun q => absurd q.2 (by decide))).trans ex1))))) (by omega))) o_108 rfl rfl rfl (Nat.le_of_ble_eq_true rfl) ⟨rfl, rfl⟩ (fun h6 qx7 => ?_)
    obtain ⟨G6, S6, fx7_0⟩ := qx7
    have R6 := R5.call S6 (by decide +kernel)
    refine z_aload_n (M := M_X12_feed) 47 dX12_feed_47 rfl ?_
    refine z_getIE (M := M_X12_feed) 48 dX12_feed_48 f_X12_201 o_108 (by decide) (eq_ad fx7_0 (eq_ad fx6_0 (eq_ad fx5_0 (eq_ad fx4_0 (eq_ad fx3_0 ((upN E1 (fun q => absurd q.2 (by decide))).trans ex1)))))) ?_
    have z8 : h6 108 8 = (((((x1 + 4) + 4) + 4) + 4) + 4) := (eq_ad fx7_0 (eq_ad fx6_0 (eq_ad fx5_0 (eq_ad fx4_0 (eq_ad fx3_0 ((upN E1 (fun q => absurd q.2 (by decide))).trans ex1))))))
    exact z_retI (M := M_X12_feed) 51 dX12_feed_51 rfl ⟨G6, R6, by omega⟩
  · refine z_iconst (M := M_X12_feed) 18 dX12_feed_18 ?_
    have z8 : h1 108 8 = x1 := ((upN E1 (fun q => absurd q.2 (by decide))).trans ex1)
    exact z_retI (M := M_X12_feed) 19 dX12_feed_19 rfl ⟨G1, R1, by omega⟩
abbrev P_X12_end (h0 : m_H) (a1 : Int) : Int → m_H → Prop := fun x h' => GI h' ∧ FR [] [(108, 0), (108, 8)] h0 h' ∧ (((a1 < 0 ∨ h0 108 8 < a1) ∧ x = -1 ∧ h' 108 8 = h0 108 8) ∨ (0 ≤ a1 ∧ a1 ≤ h0 108 8 ∧ x = a1 ∧ h' 108 8 = a1))
set_option maxHeartbeats 4000000 in
set_option maxRecDepth 100000 in
theorem c_X12_end (h0 : m_H) (a1 : Int) (G0 : GI h0) : m_CI M_X12_end [mR 108, mI a1] h0 (P_X12_end h0 a1) := by
  refine m_CI_of ⟨by decide, rfl, by simp [m_arg, m_isL, M_X12_end], ⟨rfl, rfl⟩, rfl, rfl⟩ (ls := [some (mR 108), some (mI a1)]) rfl ?_
  refine z_ok (fun _ _ ok => ?_)
  have oa1 : m_32 a1 := ok 1 _ rfl
  unfold m_32 at oa1
  obtain ⟨x1, ex1⟩ : ∃ y : Int, h0 108 8 = y := ⟨_, rfl⟩
  have bx1 : 0 ≤ x1 ∧ x1 ≤ 400 := ex1 ▸ g_108_8 G0
  refine z_aload_n (M := M_X12_end) 0 dX12_end_0 rfl ?_
  refine z_iconst (M := M_X12_end) 1 dX12_end_1 ?_
  refine z_putIH (M := M_X12_end) 2 dX12_end_2 p_X12_133 o_108 rfl (u_108_0 G0) ((FR.rf (cs := []) (ss := [(108, 0), (108, 8)]) (h := h0)).up rfl) (fun h1 E1 G1 R1 => ?_)
  refine z_iload_n (M := M_X12_end) 5 dX12_end_5 rfl ?_
  refine z_if_lt (M := M_X12_end) 6 dX12_end_6 17 rfl (fun c2 => ?_) (fun c2 => ?_)
  · refine z_iconst (M := M_X12_end) 17 dX12_end_17 ?_
    have z8 : h1 108 8 = x1 := ((upN E1 (fun q => absurd q.2 (by decide))).trans ex1)
    exact z_retI (M := M_X12_end) 18 dX12_end_18 rfl ⟨G1, R1, by omega⟩
  · refine z_iload_n (M := M_X12_end) 9 dX12_end_9 rfl ?_
    refine z_aload_n (M := M_X12_end) 10 dX12_end_10 rfl ?_
    refine z_getIE (M := M_X12_end) 11 dX12_end_11 f_X12_201 o_108 (by decide) ((upN E1 (fun q => absurd q.2 (by decide))).trans ex1) ?_
    refine z_icmp_le (M := M_X12_end) 14 dX12_end_14 19 rfl (fun c3 => ?_) (fun c3 => ?_)
    · refine z_aload_n (M := M_X12_end) 19 dX12_end_19 rfl ?_
      refine z_iload_n (M := M_X12_end) 20 dX12_end_20 rfl ?_
      refine z_putIH (M := M_X12_end) 21 dX12_end_21 p_X12_201 o_108 rfl (u_108_8 G1 (by omega) (by omega)) (R1.up rfl) (fun h2 E2 G2 R2 => ?_)
      refine z_iload_n (M := M_X12_end) 24 dX12_end_24 rfl ?_
      have z8 : h2 108 8 = a1 := (upE E2)
      exact z_retI (M := M_X12_end) 25 dX12_end_25 rfl ⟨G2, R2, by omega⟩
    · refine z_iconst (M := M_X12_end) 17 dX12_end_17 ?_
      have z8 : h1 108 8 = x1 := ((upN E1 (fun q => absurd q.2 (by decide))).trans ex1)
      exact z_retI (M := M_X12_end) 18 dX12_end_18 rfl ⟨G1, R1, by omega⟩
abbrev P_X12_fault (h0 : m_H) : Int → m_H → Prop := fun x h' => GI h' ∧ FR [] [(108, 0)] h0 h'
set_option maxHeartbeats 4000000 in
set_option maxRecDepth 100000 in
theorem c_X12_fault (h0 : m_H) (G0 : GI h0) : m_CI M_X12_fault [mR 108] h0 (P_X12_fault h0) := by
  refine m_CI_of ⟨by decide, rfl, by simp [m_arg, m_isL, M_X12_fault], ⟨rfl, rfl⟩, rfl, rfl⟩ (ls := [some (mR 108)]) rfl ?_
  refine z_aload_n (M := M_X12_fault) 0 dX12_fault_0 rfl ?_
  refine z_iconst (M := M_X12_fault) 1 dX12_fault_1 ?_
  refine z_putIH (M := M_X12_fault) 2 dX12_fault_2 p_X12_133 o_108 rfl (u_108_0 G0) ((FR.rf (cs := []) (ss := [(108, 0)]) (h := h0)).up rfl) (fun h1 E1 G1 R1 => ?_)
  refine z_aload_n (M := M_X12_fault) 5 dX12_fault_5 rfl ?_
  refine z_getIV (M := M_X12_fault) 6 dX12_fault_6 f_X12_26 o_108 (by decide) (fun x1 ex1 => ?_)
  refine z_ok (fun ox1 _ _ => ?_)
  have ox1 := ox1.1; unfold m_ok m_32 at ox1
  exact z_retI (M := M_X12_fault) 9 dX12_fault_9 rfl ⟨G1, R1⟩
abbrev P_X12_status (h0 : m_H) : Int → m_H → Prop := fun x h' => GI h' ∧ FR [] [(108, 0)] h0 h'
set_option maxHeartbeats 4000000 in
set_option maxRecDepth 100000 in
theorem c_X12_status (h0 : m_H) (G0 : GI h0) : m_CI M_X12_status [mR 108] h0 (P_X12_status h0) := by
  refine m_CI_of ⟨by decide, rfl, by simp [m_arg, m_isL, M_X12_status], ⟨rfl, rfl⟩, rfl, rfl⟩ (ls := [some (mR 108)]) rfl ?_
  refine z_aload_n (M := M_X12_status) 0 dX12_status_0 rfl ?_
  refine z_iconst (M := M_X12_status) 1 dX12_status_1 ?_
  refine z_putIH (M := M_X12_status) 2 dX12_status_2 p_X12_133 o_108 rfl (u_108_0 G0) ((FR.rf (cs := []) (ss := [(108, 0)]) (h := h0)).up rfl) (fun h1 E1 G1 R1 => ?_)
  refine z_aload_n (M := M_X12_status) 5 dX12_status_5 rfl ?_
  refine z_getIV (M := M_X12_status) 6 dX12_status_6 f_X12_136 o_108 (by decide) (fun x1 ex1 => ?_)
  refine z_ok (fun ox1 _ _ => ?_)
  have ox1 := ox1.1; unfold m_ok m_32 at ox1
  exact z_retI (M := M_X12_status) 9 dX12_status_9 rfl ⟨G1, R1⟩
abbrev P_X12_asIs (h0 : m_H) : m_H → Prop := fun h' => GI h' ∧ FR [122, 123] [] h0 h'
def q_X12_asIs (h0 : m_H) (n : Nat) : Prop := (∀ (l1 : Int) (h : m_H), GI h → FR [122, 123] [] h0 h → 0 ≤ l1 → l1 ≤ 32 → 2 * (32 - l1) + (16) ≤ (n : Int) → m_Z oF M_X12_asIs 2 [some (mR 108), some (mI l1)] [] h (m_QV (P_X12_asIs h0))) ∧ (∀ (l1 : Int) (h : m_H), GI h → FR [122, 123] [] h0 h → 0 ≤ l1 → l1 ≤ 6 → 2 * (6 - l1) + (1) ≤ (n : Int) → m_Z oF M_X12_asIs 31 [some (mR 108), some (mI l1)] [] h (m_QV (P_X12_asIs h0)))
set_option maxHeartbeats 4000000 in
set_option maxRecDepth 100000 in
theorem s_X12_asIs_2 (h0 : m_H) (G0 : GI h0) (n : Nat) (ih : q_X12_asIs h0 n) : ∀ (l1 : Int) (h : m_H), GI h → FR [122, 123] [] h0 h → 0 ≤ l1 → l1 ≤ 32 → 2 * (32 - l1) + (16) ≤ ((n + 1 : Nat) : Int) → m_Z oF M_X12_asIs 2 [some (mR 108), some (mI l1)] [] h (m_QV (P_X12_asIs h0)) := by
  intro l1 h G R v0 v1 hr
  refine z_iload_n (M := M_X12_asIs) 2 dX12_asIs_2 rfl ?_
  refine z_bipush (M := M_X12_asIs) 3 dX12_asIs_3 ?_
  refine z_icmp_ge (M := M_X12_asIs) 5 dX12_asIs_5 29 rfl (fun c1 => ?_) (fun c1 => ?_)
  · refine z_iconst (M := M_X12_asIs) 29 dX12_asIs_29 ?_
    refine z_istore_n (M := M_X12_asIs) 30 dX12_asIs_30 (ls' := [some (mR 108), some (mI 0)]) (by decide) rfl ?_
    exact z_mask [true, true] rfl (ih.2 0 h G R (by omega) (by omega) (by omega))
  · refine z_aload_n (M := M_X12_asIs) 8 dX12_asIs_8 rfl ?_
    refine z_getR (M := M_X12_asIs) 9 dX12_asIs_9 f_X12_55 o_108 rfl (g_108_27 G) ?_
    refine z_iload_n (M := M_X12_asIs) 12 dX12_asIs_12 rfl ?_
    refine z_aload_n (M := M_X12_asIs) 13 dX12_asIs_13 rfl ?_
    refine z_getR (M := M_X12_asIs) 14 dX12_asIs_14 f_X12_13 o_108 rfl (g_108_3 G) ?_
    refine z_bipush (M := M_X12_asIs) 17 dX12_asIs_17 ?_
    refine z_iload_n (M := M_X12_asIs) 19 dX12_asIs_19 rfl ?_
    refine z_iaddN (M := M_X12_asIs) 20 dX12_asIs_20 (by omega) (by omega) ?_
    refine z_ialdG (M := M_X12_asIs) 21 dX12_asIs_21 o_110 (by omega) (by omega) (gw_w G (by omega) (by omega)) (fun x2 ex2 ax2 bx2 => ?_)
    refine z_iastH (M := M_X12_asIs) 22 dX12_asIs_22 o_122 (by omega) (by omega) (u_122 G (by omega) (by omega)) (R.up rfl) (fun h1 E1 G1 R1 => ?_)
    refine z_iincN (M := M_X12_asIs) 23 dX12_asIs_23 (ls' := [some (mR 108), some (mI (l1 + 1))]) (by decide) rfl (by (unfold m_32; decide)) (by omega) (by omega) rfl ?_
    refine z_goto (M := M_X12_asIs) 26 dX12_asIs_26 2 rfl ?_
    exact z_mask [true, true] rfl (ih.1 (l1 + 1) h1 G1 R1 (by omega) (by omega) (by omega))
set_option maxHeartbeats 4000000 in
set_option maxRecDepth 100000 in
theorem s_X12_asIs_31 (h0 : m_H) (G0 : GI h0) (n : Nat) (ih : q_X12_asIs h0 n) : ∀ (l1 : Int) (h : m_H), GI h → FR [122, 123] [] h0 h → 0 ≤ l1 → l1 ≤ 6 → 2 * (6 - l1) + (1) ≤ ((n + 1 : Nat) : Int) → m_Z oF M_X12_asIs 31 [some (mR 108), some (mI l1)] [] h (m_QV (P_X12_asIs h0)) := by
  intro l1 h G R v0 v1 hr
  refine z_iload_n (M := M_X12_asIs) 31 dX12_asIs_31 rfl ?_
  refine z_bipush (M := M_X12_asIs) 32 dX12_asIs_32 ?_
  refine z_icmp_ge (M := M_X12_asIs) 34 dX12_asIs_34 58 rfl (fun c1 => ?_) (fun c1 => ?_)
  · exact z_retV (M := M_X12_asIs) 58 dX12_asIs_58 rfl ⟨G, R⟩
  · refine z_aload_n (M := M_X12_asIs) 37 dX12_asIs_37 rfl ?_
    refine z_getR (M := M_X12_asIs) 38 dX12_asIs_38 f_X12_58 o_108 rfl (g_108_28 G) ?_
    refine z_iload_n (M := M_X12_asIs) 41 dX12_asIs_41 rfl ?_
    refine z_aload_n (M := M_X12_asIs) 42 dX12_asIs_42 rfl ?_
    refine z_getR (M := M_X12_asIs) 43 dX12_asIs_43 f_X12_13 o_108 rfl (g_108_3 G) ?_
    refine z_bipush (M := M_X12_asIs) 46 dX12_asIs_46 ?_
    refine z_iload_n (M := M_X12_asIs) 48 dX12_asIs_48 rfl ?_
    refine z_iaddN (M := M_X12_asIs) 49 dX12_asIs_49 (by omega) (by omega) ?_
    refine z_ialdG (M := M_X12_asIs) 50 dX12_asIs_50 o_110 (by omega) (by omega) (gw_c G (by omega) (by omega)) (fun x2 ex2 ax2 bx2 => ?_)
    refine z_iastH (M := M_X12_asIs) 51 dX12_asIs_51 o_123 (by omega) (by omega) (u_123 G (by omega) (by omega)) (R.up rfl) (fun h1 E1 G1 R1 => ?_)
    refine z_iincN (M := M_X12_asIs) 52 dX12_asIs_52 (ls' := [some (mR 108), some (mI (l1 + 1))]) (by decide) rfl (by (unfold m_32; decide)) (by omega) (by omega) rfl ?_
    refine z_goto (M := M_X12_asIs) 55 dX12_asIs_55 31 rfl ?_
    exact z_mask [true, true] rfl (ih.2 (l1 + 1) h1 G1 R1 (by omega) (by omega) (by omega))
theorem a_X12_asIs (h0 : m_H) (G0 : GI h0) : ∀ n, q_X12_asIs h0 n := by
  intro n
  induction n with
  | zero => unfold q_X12_asIs; refine ⟨?_, ?_⟩ <;> (intros; omega)
  | succ n ih => exact ⟨s_X12_asIs_2 h0 G0 n ih, s_X12_asIs_31 h0 G0 n ih⟩
set_option maxHeartbeats 4000000 in
set_option maxRecDepth 100000 in
theorem c_X12_asIs (h0 : m_H) (G0 : GI h0) : m_CV M_X12_asIs [mR 108] h0 (P_X12_asIs h0) := by
  refine m_CV_of ⟨by decide, rfl, by simp [m_arg, m_isL, M_X12_asIs], ⟨rfl, rfl⟩, rfl, rfl⟩ (ls := [some (mR 108), none]) rfl ?_
  have ih := a_X12_asIs h0 G0 87
  refine z_iconst (M := M_X12_asIs) 0 dX12_asIs_0 ?_
  refine z_istore_n (M := M_X12_asIs) 1 dX12_asIs_1 (ls' := [some (mR 108), some (mI 0)]) (by decide) rfl ?_
  exact z_mask [true, true] rfl (ih.1 0 h0 G0 (FR.rf (cs := [122, 123]) (ss := []) (h := h0)) (by omega) (by omega) (by omega))
abbrev P_X12_counting (h0 : m_H) : Int → m_H → Prop := fun x h' => GI h' ∧ FR [] [] h0 h'
def q_X12_counting (h0 : m_H) (n : Nat) : Prop := (∀ (l1 l2 : Int) (h : m_H), GI h → FR [] [] h0 h → 0 ≤ l2 → l2 ≤ 24 → 2 * (24 - l2) + (1) ≤ (n : Int) → m_Z oF M_X12_counting 4 [some (mR 108), some (mI l1), some (mI l2)] [] h (m_QI (P_X12_counting h0)))
set_option maxHeartbeats 4000000 in
set_option maxRecDepth 100000 in
theorem s_X12_counting_4 (h0 : m_H) (G0 : GI h0) (n : Nat) (ih : q_X12_counting h0 n) : ∀ (l1 l2 : Int) (h : m_H), GI h → FR [] [] h0 h → 0 ≤ l2 → l2 ≤ 24 → 2 * (24 - l2) + (1) ≤ ((n + 1 : Nat) : Int) → m_Z oF M_X12_counting 4 [some (mR 108), some (mI l1), some (mI l2)] [] h (m_QI (P_X12_counting h0)) := by
  intro l1 l2 h G R v0 v1 hr
  refine z_ok (fun ostk _ olocs => ?_)
  have ol1 : m_32 l1 := olocs 1 _ rfl
  unfold m_32 at ol1
  refine z_iload_n (M := M_X12_counting) 4 dX12_counting_4 rfl ?_
  refine z_aload_n (M := M_X12_counting) 5 dX12_counting_5 rfl ?_
  refine z_getR (M := M_X12_counting) 6 dX12_counting_6 f_X12_13 o_108 rfl (g_108_3 G) ?_
  refine z_iconst (M := M_X12_counting) 9 dX12_counting_9 ?_
  refine z_ialdG (M := M_X12_counting) 10 dX12_counting_10 o_110 (by omega) (by omega) (gw_0 G) (fun x1 ex1 ax1 bx1 => ?_)
  refine z_icmp_ge (M := M_X12_counting) 11 dX12_counting_11 40 rfl (fun c2 => ?_) (fun c2 => ?_)
  · refine z_iload_n (M := M_X12_counting) 40 dX12_counting_40 rfl ?_
    exact z_retI (M := M_X12_counting) 41 dX12_counting_41 rfl ⟨G, R⟩
  · refine z_iload_n (M := M_X12_counting) 14 dX12_counting_14 rfl ?_
    refine z_aload_n (M := M_X12_counting) 15 dX12_counting_15 rfl ?_
    refine z_iload_n (M := M_X12_counting) 16 dX12_counting_16 rfl ?_
    refine z_iconst (M := M_X12_counting) 17 dX12_counting_17 ?_
    refine z_vI (M := M_X12_counting) 18 dX12_counting_18 t_X12_ofEntry l_X12_195 (m_rr_of rfl) (rest := [mI l1]) (c_X12_ofEntry h l2 4 G ⟨by omega, by omega⟩ ⟨by omega, by omega⟩) o_108 rfl rfl rfl (Nat.le_of_ble_eq_true rfl) ⟨rfl, rfl⟩ (fun x3 h1 qx3 => ?_)
    obtain ⟨rfl, fx3⟩ := qx3
    have gx3 := gw_e4 G (i := (80 + 5 * l2 + 4)) (e := l2) (by omega) (by omega) (by omega)
    rw [fx3] at gx3
    refine z_iconst (M := M_X12_counting) 21 dX12_counting_21 ?_
    refine z_icmp_ne (M := M_X12_counting) 22 dX12_counting_22 31 rfl (fun c4 => ?_) (fun c4 => ?_)
    · refine z_iconst (M := M_X12_counting) 31 dX12_counting_31 ?_
      refine z_ior (M := M_X12_counting) 32 dX12_counting_32 ?_
      refine z_topm (fun x5 ex5 ox5 => ?_)
      unfold m_32 at ox5
      refine z_istore_n (M := M_X12_counting) 33 dX12_counting_33 (ls' := [some (mR 108), some (mI x5), some (mI l2)]) (by decide) rfl ?_
      refine z_iincN (M := M_X12_counting) 34 dX12_counting_34 (ls' := [some (mR 108), some (mI x5), some (mI (l2 + 1))]) (by decide) rfl (by (unfold m_32; decide)) (by omega) (by omega) rfl ?_
      refine z_goto (M := M_X12_counting) 37 dX12_counting_37 4 rfl ?_
      exact z_mask [true, true, true] rfl (ih x5 (l2 + 1) h G R (by omega) (by omega) (by omega))
    · refine z_iconst (M := M_X12_counting) 25 dX12_counting_25 ?_
      refine z_iload_n (M := M_X12_counting) 26 dX12_counting_26 rfl ?_
      refine z_ishl (M := M_X12_counting) 27 dX12_counting_27 ?_
      refine z_topm (fun x6 ex6 ox6 => ?_)
      unfold m_32 at ox6
      refine z_goto (M := M_X12_counting) 28 dX12_counting_28 32 rfl ?_
      refine z_ior (M := M_X12_counting) 32 dX12_counting_32 ?_
      refine z_topm (fun x7 ex7 ox7 => ?_)
      unfold m_32 at ox7
      refine z_istore_n (M := M_X12_counting) 33 dX12_counting_33 (ls' := [some (mR 108), some (mI x7), some (mI l2)]) (by decide) rfl ?_
      refine z_iincN (M := M_X12_counting) 34 dX12_counting_34 (ls' := [some (mR 108), some (mI x7), some (mI (l2 + 1))]) (by decide) rfl (by (unfold m_32; decide)) (by omega) (by omega) rfl ?_
      refine z_goto (M := M_X12_counting) 37 dX12_counting_37 4 rfl ?_
      exact z_mask [true, true, true] rfl (ih x7 (l2 + 1) h G R (by omega) (by omega) (by omega))
theorem a_X12_counting (h0 : m_H) (G0 : GI h0) : ∀ n, q_X12_counting h0 n := by
  intro n
  induction n with
  | zero => unfold q_X12_counting; intros; omega
  | succ n ih => exact s_X12_counting_4 h0 G0 n ih
set_option maxHeartbeats 4000000 in
set_option maxRecDepth 100000 in
theorem c_X12_counting (h0 : m_H) (G0 : GI h0) : m_CI M_X12_counting [mR 108] h0 (P_X12_counting h0) := by
  refine m_CI_of ⟨by decide, rfl, by simp [m_arg, m_isL, M_X12_counting], ⟨rfl, rfl⟩, rfl, rfl⟩ (ls := [some (mR 108), none, none]) rfl ?_
  have ih := a_X12_counting h0 G0 56
  refine z_iconst (M := M_X12_counting) 0 dX12_counting_0 ?_
  refine z_istore_n (M := M_X12_counting) 1 dX12_counting_1 (ls' := [some (mR 108), some (mI 0), none]) (by decide) rfl ?_
  refine z_iconst (M := M_X12_counting) 2 dX12_counting_2 ?_
  refine z_istore_n (M := M_X12_counting) 3 dX12_counting_3 (ls' := [some (mR 108), some (mI 0), some (mI 0)]) (by decide) rfl ?_
  exact z_mask [true, true, true] rfl (ih 0 0 h0 G0 (FR.rf (cs := []) (ss := []) (h := h0)) (by omega) (by omega) (by omega))
abbrev P_X12_isLength (h0 : m_H) (a1 : Int) : Int → m_H → Prop := fun x h' => GI h' ∧ FR [] [] h0 h' ∧ 0 ≤ x ∧ x ≤ 1
set_option maxHeartbeats 4000000 in
set_option maxRecDepth 100000 in
theorem c_X12_isLength (h0 : m_H) (a1 : Int) (G0 : GI h0) : m_CI M_X12_isLength [mR 108, mI a1] h0 (P_X12_isLength h0 a1) := by
  refine m_CI_of ⟨by decide, rfl, by simp [m_arg, m_isL, M_X12_isLength], ⟨rfl, rfl⟩, rfl, rfl⟩ (ls := [some (mR 108), some (mI a1)]) rfl ?_
  refine z_ok (fun _ _ ok => ?_)
  have oa1 : m_32 a1 := ok 1 _ rfl
  unfold m_32 at oa1
  refine z_iload_n (M := M_X12_isLength) 0 dX12_isLength_0 rfl ?_
  refine z_i2l (M := M_X12_isLength) 1 dX12_isLength_1 ?_
  refine z_lconst (M := M_X12_isLength) 2 dX12_isLength_2 (v := 0) ?_
  refine z_ldc2 (M := M_X12_isLength) 3 dX12_isLength_3 k_X12_381 ?_
  refine z_sI (M := M_X12_isLength) 6 dX12_isLength_6 t_X12_in l_X12_143 (m_rr_of rfl) (rest := []) (c_X12_in h0 a1 0 15 G0) rfl rfl (Nat.le_of_ble_eq_true rfl) ⟨rfl, rfl⟩ (fun x1 h1 qx1 => ?_)
  obtain ⟨rfl, ⟨rfl, cx1⟩ | ⟨rfl, cx1⟩⟩ := qx1
  · refine z_if_eq_F (M := M_X12_isLength) 9 dX12_isLength_9 62 rfl (by omega) ?_
    refine z_iload_n (M := M_X12_isLength) 12 dX12_isLength_12 rfl ?_
    refine z_bipush (M := M_X12_isLength) 13 dX12_isLength_13 ?_
    refine z_icmp_lt (M := M_X12_isLength) 15 dX12_isLength_15 58 rfl (fun c2 => ?_) (fun c2 => ?_)
    · refine z_iconst (M := M_X12_isLength) 58 dX12_isLength_58 ?_
      refine z_goto (M := M_X12_isLength) 59 dX12_isLength_59 63 rfl ?_
      exact z_retZ (M := M_X12_isLength) 63 dX12_isLength_63 rfl (by omega) ⟨G0, (FR.rf (cs := []) (ss := []) (h := h0)), by omega, by omega⟩
    · refine z_iload_n (M := M_X12_isLength) 18 dX12_isLength_18 rfl ?_
      refine z_bipush (M := M_X12_isLength) 19 dX12_isLength_19 ?_
      refine z_icmp_gt (M := M_X12_isLength) 21 dX12_isLength_21 58 rfl (fun c3 => ?_) (fun c3 => ?_)
      · refine z_iconst (M := M_X12_isLength) 58 dX12_isLength_58 ?_
        refine z_goto (M := M_X12_isLength) 59 dX12_isLength_59 63 rfl ?_
        exact z_retZ (M := M_X12_isLength) 63 dX12_isLength_63 rfl (by omega) ⟨G0, (FR.rf (cs := []) (ss := []) (h := h0)), by omega, by omega⟩
      · refine z_aload_n (M := M_X12_isLength) 24 dX12_isLength_24 rfl ?_
        refine z_getR (M := M_X12_isLength) 25 dX12_isLength_25 f_X12_13 o_108 rfl (g_108_3 G0) ?_
        refine z_bipush (M := M_X12_isLength) 28 dX12_isLength_28 ?_
        refine z_iload_n (M := M_X12_isLength) 30 dX12_isLength_30 rfl ?_
        refine z_i2l (M := M_X12_isLength) 31 dX12_isLength_31 ?_
        refine z_ldc2 (M := M_X12_isLength) 32 dX12_isLength_32 k_X12_383 ?_
        refine z_ldc2 (M := M_X12_isLength) 35 dX12_isLength_35 k_X12_385 ?_
        refine z_sI (M := M_X12_isLength) 38 dX12_isLength_38 t_X12_in l_X12_143 (m_rr_of rfl) (rest := [mI 42, mR 110]) (c_X12_in h0 a1 6 11 G0) rfl rfl (Nat.le_of_ble_eq_true rfl) ⟨rfl, rfl⟩ (fun x4 h2 qx4 => ?_)
        obtain ⟨rfl, ⟨rfl, cx4⟩ | ⟨rfl, cx4⟩⟩ := qx4
        · refine z_if_eq_F (M := M_X12_isLength) 41 dX12_isLength_41 51 rfl (by omega) ?_
          refine z_iload_n (M := M_X12_isLength) 44 dX12_isLength_44 rfl ?_
          refine z_bipush (M := M_X12_isLength) 45 dX12_isLength_45 ?_
          refine z_isubN (M := M_X12_isLength) 47 dX12_isLength_47 (by omega) (by omega) ?_
          refine z_goto (M := M_X12_isLength) 48 dX12_isLength_48 52 rfl ?_
          refine z_iaddN (M := M_X12_isLength) 52 dX12_isLength_52 (by omega) (by omega) ?_
          refine z_ialdG (M := M_X12_isLength) 53 dX12_isLength_53 o_110 (by omega) (by omega) (gw_c G0 (by omega) (by omega)) (fun x5 ex5 ax5 bx5 => ?_)
          refine z_iconst (M := M_X12_isLength) 54 dX12_isLength_54 ?_
          refine z_icmp_eq (M := M_X12_isLength) 55 dX12_isLength_55 62 rfl (fun c6 => ?_) (fun c6 => ?_)
          · refine z_iconst (M := M_X12_isLength) 62 dX12_isLength_62 ?_
            exact z_retZ (M := M_X12_isLength) 63 dX12_isLength_63 rfl (by omega) ⟨G0, (FR.rf (cs := []) (ss := []) (h := h0)), by omega, by omega⟩
          · refine z_iconst (M := M_X12_isLength) 58 dX12_isLength_58 ?_
            refine z_goto (M := M_X12_isLength) 59 dX12_isLength_59 63 rfl ?_
            exact z_retZ (M := M_X12_isLength) 63 dX12_isLength_63 rfl (by omega) ⟨G0, (FR.rf (cs := []) (ss := []) (h := h0)), by omega, by omega⟩
        · refine z_if_eq_T (M := M_X12_isLength) 41 dX12_isLength_41 51 rfl (by omega) ?_
          refine z_iconst (M := M_X12_isLength) 51 dX12_isLength_51 ?_
          refine z_iaddN (M := M_X12_isLength) 52 dX12_isLength_52 (by omega) (by omega) ?_
          refine z_ialdG (M := M_X12_isLength) 53 dX12_isLength_53 o_110 (by omega) (by omega) (gw_c G0 (by omega) (by omega)) (fun x7 ex7 ax7 bx7 => ?_)
          refine z_iconst (M := M_X12_isLength) 54 dX12_isLength_54 ?_
          refine z_icmp_eq (M := M_X12_isLength) 55 dX12_isLength_55 62 rfl (fun c8 => ?_) (fun c8 => ?_)
          · refine z_iconst (M := M_X12_isLength) 62 dX12_isLength_62 ?_
            exact z_retZ (M := M_X12_isLength) 63 dX12_isLength_63 rfl (by omega) ⟨G0, (FR.rf (cs := []) (ss := []) (h := h0)), by omega, by omega⟩
          · refine z_iconst (M := M_X12_isLength) 58 dX12_isLength_58 ?_
            refine z_goto (M := M_X12_isLength) 59 dX12_isLength_59 63 rfl ?_
            exact z_retZ (M := M_X12_isLength) 63 dX12_isLength_63 rfl (by omega) ⟨G0, (FR.rf (cs := []) (ss := []) (h := h0)), by omega, by omega⟩
  · refine z_if_eq_T (M := M_X12_isLength) 9 dX12_isLength_9 62 rfl (by omega) ?_
    refine z_iconst (M := M_X12_isLength) 62 dX12_isLength_62 ?_
    exact z_retZ (M := M_X12_isLength) 63 dX12_isLength_63 rfl (by omega) ⟨G0, (FR.rf (cs := []) (ss := []) (h := h0)), by omega, by omega⟩
abbrev P_X12_feetOf (h0 : m_H) (a1 a2 : Int) : Int → m_H → Prop := fun x h' => GI h' ∧ FR [] [] h0 h' ∧ 0 ≤ x ∧ x ≤ 9999
set_option maxHeartbeats 4000000 in
set_option maxRecDepth 100000 in
theorem c_X12_feetOf (h0 : m_H) (a1 a2 : Int) (G0 : GI h0) (pa1 : 0 ≤ a1 ∧ a1 ≤ 11) (pa2 : 0 ≤ a2 ∧ a2 ≤ 3) : m_CI M_X12_feetOf [mR 108, mI a1, mI a2] h0 (P_X12_feetOf h0 a1 a2) := by
  refine m_CI_of ⟨by decide, rfl, by simp [m_arg, m_isL, M_X12_feetOf], ⟨rfl, rfl⟩, rfl, rfl⟩ (ls := [some (mR 108), some (mI a1), some (mI a2)]) rfl ?_
  refine z_aload_n (M := M_X12_feetOf) 0 dX12_feetOf_0 rfl ?_
  refine z_getR (M := M_X12_feetOf) 1 dX12_feetOf_1 f_X12_13 o_108 rfl (g_108_3 G0) ?_
  refine z_bipush (M := M_X12_feetOf) 4 dX12_feetOf_4 ?_
  refine z_iload_n (M := M_X12_feetOf) 6 dX12_feetOf_6 rfl ?_
  refine z_iaddN (M := M_X12_feetOf) 7 dX12_feetOf_7 (by omega) (by omega) ?_
  refine z_ialdG (M := M_X12_feetOf) 8 dX12_feetOf_8 o_110 (by omega) (by omega) (gw_l G0 (by omega) (by omega)) (fun x1 ex1 ax1 bx1 => ?_)
  refine z_aload_n (M := M_X12_feetOf) 9 dX12_feetOf_9 rfl ?_
  refine z_getR (M := M_X12_feetOf) 10 dX12_feetOf_10 f_X12_13 o_108 rfl (g_108_3 G0) ?_
  refine z_bipush (M := M_X12_feetOf) 13 dX12_feetOf_13 ?_
  refine z_iload_n (M := M_X12_feetOf) 15 dX12_feetOf_15 rfl ?_
  refine z_iaddN (M := M_X12_feetOf) 16 dX12_feetOf_16 (by omega) (by omega) ?_
  refine z_ialdG (M := M_X12_feetOf) 17 dX12_feetOf_17 o_110 (by omega) (by omega) (gw_l G0 (by omega) (by omega)) (fun x2 ex2 ax2 bx2 => ?_)
  refine z_idivN (M := M_X12_feetOf) 18 dX12_feetOf_18 (by omega) (by omega) ?_
  refine z_topBI (lo := 0) (hi := 9999) (ediv_bd (by omega) (by omega) (by omega)) (fun x3 ex3 ax3 bx3 => ?_)
  exact z_retI (M := M_X12_feetOf) 19 dX12_feetOf_19 rfl ⟨G0, (FR.rf (cs := []) (ss := []) (h := h0)), by omega, by omega⟩
abbrev P_X12_says (h0 : m_H) (a1 a2 a3 : Int) : Int → m_H → Prop := fun x h' => GI h' ∧ FR [] [(108, 0)] h0 h' ∧ (-1) ≤ x ∧ x ≤ 999900
set_option maxHeartbeats 4000000 in
set_option maxRecDepth 100000 in
theorem c_X12_says (h0 : m_H) (a1 a2 a3 : Int) (G0 : GI h0) : m_CI M_X12_says [mR 108, mI a1, mI a2, mI a3] h0 (P_X12_says h0 a1 a2 a3) := by
  refine m_CI_of ⟨by decide, rfl, by simp [m_arg, m_isL, M_X12_says], ⟨rfl, rfl⟩, rfl, rfl⟩ (ls := [some (mR 108), some (mI a1), some (mI a2), some (mI a3), none, none]) rfl ?_
  refine z_ok (fun _ _ ok => ?_)
  have oa1 : m_32 a1 := ok 1 _ rfl
  unfold m_32 at oa1
  have oa2 : m_32 a2 := ok 2 _ rfl
  unfold m_32 at oa2
  have oa3 : m_32 a3 := ok 3 _ rfl
  unfold m_32 at oa3
  refine z_aload_n (M := M_X12_says) 0 dX12_says_0 rfl ?_
  refine z_iconst (M := M_X12_says) 1 dX12_says_1 ?_
  refine z_putIH (M := M_X12_says) 2 dX12_says_2 p_X12_133 o_108 rfl (u_108_0 G0) ((FR.rf (cs := []) (ss := [(108, 0)]) (h := h0)).up rfl) (fun h1 E1 G1 R1 => ?_)
  refine z_iload_n (M := M_X12_says) 5 dX12_says_5 rfl ?_
  refine z_i2l (M := M_X12_says) 6 dX12_says_6 ?_
  refine z_lconst (M := M_X12_says) 7 dX12_says_7 (v := 0) ?_
  refine z_ldc2 (M := M_X12_says) 8 dX12_says_8 k_X12_385 ?_
  refine z_sI (M := M_X12_says) 11 dX12_says_11 t_X12_in l_X12_143 (m_rr_of rfl) (rest := []) (c_X12_in h1 a1 0 11 G1) rfl rfl (Nat.le_of_ble_eq_true rfl) ⟨rfl, rfl⟩ (fun x1 h2 qx1 => ?_)
  obtain ⟨rfl, ⟨rfl, cx1⟩ | ⟨rfl, cx1⟩⟩ := qx1
  · refine z_if_eq_F (M := M_X12_says) 14 dX12_says_14 36 rfl (by omega) ?_
    refine z_iload_n (M := M_X12_says) 17 dX12_says_17 rfl ?_
    refine z_sI (M := M_X12_says) 18 dX12_says_18 t_X12_isKeeper l_X12_169 (m_rr_of rfl) (rest := []) (c_X12_isKeeper h1 a2 G1) rfl rfl (Nat.le_of_ble_eq_true rfl) ⟨rfl, rfl⟩ (fun x2 h3 qx2 => ?_)
    obtain ⟨rfl, ⟨rfl, cx2⟩ | ⟨rfl, cx2⟩⟩ := qx2
    · refine z_if_eq_F (M := M_X12_says) 21 dX12_says_21 36 rfl (by omega) ?_
      refine z_iload_n (M := M_X12_says) 24 dX12_says_24 rfl ?_
      refine z_i2l (M := M_X12_says) 25 dX12_says_25 ?_
      refine z_lconst (M := M_X12_says) 26 dX12_says_26 (v := 0) ?_
      refine z_ldc2 (M := M_X12_says) 27 dX12_says_27 k_X12_182 ?_
      refine z_sI (M := M_X12_says) 30 dX12_says_30 t_X12_in l_X12_143 (m_rr_of rfl) (rest := []) (c_X12_in h1 a3 0 2 G1) rfl rfl (Nat.le_of_ble_eq_true rfl) ⟨rfl, rfl⟩ (fun x3 h4 qx3 => ?_)
      obtain ⟨rfl, ⟨rfl, cx3⟩ | ⟨rfl, cx3⟩⟩ := qx3
      · refine z_if_ne_T (M := M_X12_says) 33 dX12_says_33 38 rfl (by omega) ?_
        refine z_aload_n (M := M_X12_says) 38 dX12_says_38 rfl ?_
        refine z_getR (M := M_X12_says) 39 dX12_says_39 f_X12_13 o_108 rfl (g_108_3 G1) ?_
        refine z_bipush (M := M_X12_says) 42 dX12_says_42 ?_
        refine z_iload_n (M := M_X12_says) 44 dX12_says_44 rfl ?_
        refine z_iaddN (M := M_X12_says) 45 dX12_says_45 (by omega) (by omega) ?_
        refine z_ialdG (M := M_X12_says) 46 dX12_says_46 o_110 (by omega) (by omega) (gw_l G1 (by omega) (by omega)) (fun x4 ex4 ax4 bx4 => ?_)
        refine z_istore (M := M_X12_says) 47 dX12_says_47 (ls' := [some (mR 108), some (mI a1), some (mI a2), some (mI a3), some (mI x4), none]) (by decide) rfl ?_
        refine z_aload_n (M := M_X12_says) 49 dX12_says_49 rfl ?_
        refine z_getR (M := M_X12_says) 50 dX12_says_50 f_X12_13 o_108 rfl (g_108_3 G1) ?_
        refine z_bipush (M := M_X12_says) 53 dX12_says_53 ?_
        refine z_iload_n (M := M_X12_says) 55 dX12_says_55 rfl ?_
        refine z_iaddN (M := M_X12_says) 56 dX12_says_56 (by omega) (by omega) ?_
        refine z_ialdG (M := M_X12_says) 57 dX12_says_57 o_110 (by omega) (by omega) (gw_l G1 (by omega) (by omega)) (fun x5 ex5 ax5 bx5 => ?_)
        refine z_istore (M := M_X12_says) 58 dX12_says_58 (ls' := [some (mR 108), some (mI a1), some (mI a2), some (mI a3), some (mI x4), some (mI x5)]) (by decide) rfl ?_
        refine z_iload_n (M := M_X12_says) 60 dX12_says_60 rfl ?_
        refine z_if_ne (M := M_X12_says) 61 dX12_says_61 75 rfl (fun c6 => ?_) (fun c6 => ?_)
        · refine z_iload_n (M := M_X12_says) 75 dX12_says_75 rfl ?_
          refine z_iconst (M := M_X12_says) 76 dX12_says_76 ?_
          refine z_icmp_ne (M := M_X12_says) 77 dX12_says_77 88 rfl (fun c7 => ?_) (fun c7 => ?_)
          · refine z_iconst (M := M_X12_says) 88 dX12_says_88 ?_
            refine z_iload (M := M_X12_says) 89 dX12_says_89 rfl ?_
            refine z_imulN (M := M_X12_says) 91 dX12_says_91 (by omega) (by omega) ?_
            refine z_iload (M := M_X12_says) 92 dX12_says_92 rfl ?_
            refine z_iaddN (M := M_X12_says) 94 dX12_says_94 (by omega) (by omega) ?_
            refine z_iconst (M := M_X12_says) 95 dX12_says_95 ?_
            refine z_iload (M := M_X12_says) 96 dX12_says_96 rfl ?_
            refine z_imulN (M := M_X12_says) 98 dX12_says_98 (by omega) (by omega) ?_
            refine z_idivN (M := M_X12_says) 99 dX12_says_99 (by omega) (by omega) ?_
            refine z_topBI (lo := 0) (hi := 29997) (ediv_bd (by omega) (by omega) (by omega)) (fun x8 ex8 ax8 bx8 => ?_)
            exact z_retI (M := M_X12_says) 100 dX12_says_100 rfl ⟨G1, R1, by omega, by omega⟩
          · refine z_iload (M := M_X12_says) 80 dX12_says_80 rfl ?_
            refine z_iload (M := M_X12_says) 82 dX12_says_82 rfl ?_
            refine z_idivN (M := M_X12_says) 84 dX12_says_84 (by omega) (by omega) ?_
            refine z_topBI (lo := 0) (hi := 9999) (ediv_bd (by omega) (by omega) (by omega)) (fun x9 ex9 ax9 bx9 => ?_)
            refine z_goto (M := M_X12_says) 85 dX12_says_85 100 rfl ?_
            exact z_retI (M := M_X12_says) 100 dX12_says_100 rfl ⟨G1, R1, by omega, by omega⟩
        · refine z_bipush (M := M_X12_says) 64 dX12_says_64 ?_
          refine z_iload (M := M_X12_says) 66 dX12_says_66 rfl ?_
          refine z_imulN (M := M_X12_says) 68 dX12_says_68 (by omega) (by omega) ?_
          refine z_iload (M := M_X12_says) 69 dX12_says_69 rfl ?_
          refine z_idivN (M := M_X12_says) 71 dX12_says_71 (by omega) (by omega) ?_
          refine z_topBI (lo := 0) (hi := 999900) (ediv_bd (by omega) (by omega) (by omega)) (fun x10 ex10 ax10 bx10 => ?_)
          refine z_goto (M := M_X12_says) 72 dX12_says_72 100 rfl ?_
          exact z_retI (M := M_X12_says) 100 dX12_says_100 rfl ⟨G1, R1, by omega, by omega⟩
      · refine z_if_ne_F (M := M_X12_says) 33 dX12_says_33 38 rfl (by omega) ?_
        refine z_iconst (M := M_X12_says) 36 dX12_says_36 ?_
        exact z_retI (M := M_X12_says) 37 dX12_says_37 rfl ⟨G1, R1, by omega, by omega⟩
    · refine z_if_eq_T (M := M_X12_says) 21 dX12_says_21 36 rfl (by omega) ?_
      refine z_iconst (M := M_X12_says) 36 dX12_says_36 ?_
      exact z_retI (M := M_X12_says) 37 dX12_says_37 rfl ⟨G1, R1, by omega, by omega⟩
  · refine z_if_eq_T (M := M_X12_says) 14 dX12_says_14 36 rfl (by omega) ?_
    refine z_iconst (M := M_X12_says) 36 dX12_says_36 ?_
    exact z_retI (M := M_X12_says) 37 dX12_says_37 rfl ⟨G1, R1, by omega, by omega⟩
abbrev P_X12_trade (h0 : m_H) (a1 : Int) : Int → m_H → Prop := fun x h' => GI h' ∧ FR [] [(108, 0)] h0 h' ∧ (-1) ≤ x ∧ x ≤ 31
set_option maxHeartbeats 4000000 in
set_option maxRecDepth 100000 in
theorem c_X12_trade (h0 : m_H) (a1 : Int) (G0 : GI h0) : m_CI M_X12_trade [mR 108, mI a1] h0 (P_X12_trade h0 a1) := by
  refine m_CI_of ⟨by decide, rfl, by simp [m_arg, m_isL, M_X12_trade], ⟨rfl, rfl⟩, rfl, rfl⟩ (ls := [some (mR 108), some (mI a1)]) rfl ?_
  refine z_ok (fun _ _ ok => ?_)
  have oa1 : m_32 a1 := ok 1 _ rfl
  unfold m_32 at oa1
  refine z_aload_n (M := M_X12_trade) 0 dX12_trade_0 rfl ?_
  refine z_iconst (M := M_X12_trade) 1 dX12_trade_1 ?_
  refine z_putIH (M := M_X12_trade) 2 dX12_trade_2 p_X12_133 o_108 rfl (u_108_0 G0) ((FR.rf (cs := []) (ss := [(108, 0)]) (h := h0)).up rfl) (fun h1 E1 G1 R1 => ?_)
  refine z_aload_n (M := M_X12_trade) 5 dX12_trade_5 rfl ?_
  refine z_getIG (M := M_X12_trade) 6 dX12_trade_6 f_X12_512 o_108 (by decide) (g_108_60 G1) (fun x1 ex1 ax1 bx1 => ?_)
  refine z_if_eq (M := M_X12_trade) 9 dX12_trade_9 24 rfl (fun c2 => ?_) (fun c2 => ?_)
  · refine z_iconst (M := M_X12_trade) 24 dX12_trade_24 ?_
    exact z_retI (M := M_X12_trade) 25 dX12_trade_25 rfl ⟨G1, R1, by omega, by omega⟩
  · refine z_iload_n (M := M_X12_trade) 12 dX12_trade_12 rfl ?_
    refine z_i2l (M := M_X12_trade) 13 dX12_trade_13 ?_
    refine z_lconst (M := M_X12_trade) 14 dX12_trade_14 (v := 0) ?_
    refine z_ldc2 (M := M_X12_trade) 15 dX12_trade_15 k_X12_524 ?_
    refine z_sI (M := M_X12_trade) 18 dX12_trade_18 t_X12_in l_X12_143 (m_rr_of rfl) (rest := []) (c_X12_in h1 a1 0 33 G1) rfl rfl (Nat.le_of_ble_eq_true rfl) ⟨rfl, rfl⟩ (fun x3 h2 qx3 => ?_)
    obtain ⟨rfl, ⟨rfl, cx3⟩ | ⟨rfl, cx3⟩⟩ := qx3
    · refine z_if_ne_T (M := M_X12_trade) 21 dX12_trade_21 26 rfl (by omega) ?_
      refine z_iload_n (M := M_X12_trade) 26 dX12_trade_26 rfl ?_
      refine z_if_ne (M := M_X12_trade) 27 dX12_trade_27 37 rfl (fun c4 => ?_) (fun c4 => ?_)
      · refine z_iload_n (M := M_X12_trade) 37 dX12_trade_37 rfl ?_
        refine z_iconst (M := M_X12_trade) 38 dX12_trade_38 ?_
        refine z_icmp_ne (M := M_X12_trade) 39 dX12_trade_39 49 rfl (fun c5 => ?_) (fun c5 => ?_)
        · refine z_aload_n (M := M_X12_trade) 49 dX12_trade_49 rfl ?_
          refine z_getR (M := M_X12_trade) 50 dX12_trade_50 f_X12_130 o_108 rfl (g_108_59 G1) ?_
          refine z_iload_n (M := M_X12_trade) 53 dX12_trade_53 rfl ?_
          refine z_iconst (M := M_X12_trade) 54 dX12_trade_54 ?_
          refine z_isubN (M := M_X12_trade) 55 dX12_trade_55 (by omega) (by omega) ?_
          refine z_ialdG (M := M_X12_trade) 56 dX12_trade_56 o_147 (by omega) (by omega) (g_147 G1 (by omega)) (fun x6 ex6 ax6 bx6 => ?_)
          exact z_retI (M := M_X12_trade) 57 dX12_trade_57 rfl ⟨G1, R1, by omega, by omega⟩
        · refine z_aload_n (M := M_X12_trade) 42 dX12_trade_42 rfl ?_
          refine z_getIG (M := M_X12_trade) 43 dX12_trade_43 f_X12_518 o_108 (by decide) (g_108_62 G1) (fun x7 ex7 ax7 bx7 => ?_)
          refine z_goto (M := M_X12_trade) 46 dX12_trade_46 57 rfl ?_
          exact z_retI (M := M_X12_trade) 57 dX12_trade_57 rfl ⟨G1, R1, by omega, by omega⟩
      · refine z_aload_n (M := M_X12_trade) 30 dX12_trade_30 rfl ?_
        refine z_getIG (M := M_X12_trade) 31 dX12_trade_31 f_X12_515 o_108 (by decide) (g_108_61 G1) (fun x8 ex8 ax8 bx8 => ?_)
        refine z_goto (M := M_X12_trade) 34 dX12_trade_34 57 rfl ?_
        exact z_retI (M := M_X12_trade) 57 dX12_trade_57 rfl ⟨G1, R1, by omega, by omega⟩
    · refine z_if_ne_F (M := M_X12_trade) 21 dX12_trade_21 26 rfl (by omega) ?_
      refine z_iconst (M := M_X12_trade) 24 dX12_trade_24 ?_
      exact z_retI (M := M_X12_trade) 25 dX12_trade_25 rfl ⟨G1, R1, by omega, by omega⟩
abbrev P_X12_told (h0 : m_H) (a1 : Int) : Int → m_H → Prop := fun x h' => GI h' ∧ FR [] [(108, 0)] h0 h'
def q_X12_told (h0 : m_H) (a1 : Int) (n : Nat) : Prop := (∀ (l2 l3 : Int) (h : m_H), GI h → FR [] [(108, 0)] h0 h → 0 ≤ l3 → l3 ≤ 32 → 0 ≤ a1 → a1 ≤ 5 → 2 * (32 - l3) + (1) ≤ (n : Int) → m_Z oF M_X12_told 25 [some (mR 108), some (mI a1), some (mI l2), some (mI l3), none] [] h (m_QI (P_X12_told h0 a1)))
set_option maxHeartbeats 4000000 in
set_option maxRecDepth 100000 in
theorem s_X12_told_25 (h0 : m_H) (a1 : Int) (G0 : GI h0) (n : Nat) (ih : q_X12_told h0 a1 n) : ∀ (l2 l3 : Int) (h : m_H), GI h → FR [] [(108, 0)] h0 h → 0 ≤ l3 → l3 ≤ 32 → 0 ≤ a1 → a1 ≤ 5 → 2 * (32 - l3) + (1) ≤ ((n + 1 : Nat) : Int) → m_Z oF M_X12_told 25 [some (mR 108), some (mI a1), some (mI l2), some (mI l3), none] [] h (m_QI (P_X12_told h0 a1)) := by
  intro l2 l3 h G R v0 v1 v2 v3 hr
  refine z_ok (fun ostk _ olocs => ?_)
  have ol2 : m_32 l2 := olocs 2 _ rfl
  unfold m_32 at ol2
  refine z_iload_n (M := M_X12_told) 25 dX12_told_25 rfl ?_
  refine z_bipush (M := M_X12_told) 26 dX12_told_26 ?_
  refine z_icmp_ge (M := M_X12_told) 28 dX12_told_28 88 rfl (fun c1 => ?_) (fun c1 => ?_)
  · refine z_iload_n (M := M_X12_told) 88 dX12_told_88 rfl ?_
    exact z_retI (M := M_X12_told) 89 dX12_told_89 rfl ⟨G, R⟩
  · refine z_aload_n (M := M_X12_told) 31 dX12_told_31 rfl ?_
    refine z_getR (M := M_X12_told) 32 dX12_told_32 f_X12_13 o_108 rfl (g_108_3 G) ?_
    refine z_bipush (M := M_X12_told) 35 dX12_told_35 ?_
    refine z_iload_n (M := M_X12_told) 37 dX12_told_37 rfl ?_
    refine z_iaddN (M := M_X12_told) 38 dX12_told_38 (by omega) (by omega) ?_
    refine z_ialdG (M := M_X12_told) 39 dX12_told_39 o_110 (by omega) (by omega) (gw_c G (by omega) (by omega)) (fun x2 ex2 ax2 bx2 => ?_)
    refine z_iconst (M := M_X12_told) 40 dX12_told_40 ?_
    refine z_icmp_eq (M := M_X12_told) 41 dX12_told_41 64 rfl (fun c3 => ?_) (fun c3 => ?_)
    · refine z_iload_n (M := M_X12_told) 64 dX12_told_64 rfl ?_
      refine z_istore (M := M_X12_told) 65 dX12_told_65 (ls' := [some (mR 108), some (mI a1), some (mI l2), some (mI l3), some (mI a1)]) (by decide) rfl ?_
      refine z_iload_n (M := M_X12_told) 67 dX12_told_67 rfl ?_
      refine z_aload_n (M := M_X12_told) 68 dX12_told_68 rfl ?_
      refine z_iload (M := M_X12_told) 69 dX12_told_69 rfl ?_
      refine z_aload_n (M := M_X12_told) 71 dX12_told_71 rfl ?_
      refine z_getR (M := M_X12_told) 72 dX12_told_72 f_X12_130 o_108 rfl (g_108_59 G) ?_
      refine z_iload_n (M := M_X12_told) 75 dX12_told_75 rfl ?_
      refine z_ialdG (M := M_X12_told) 76 dX12_told_76 o_147 (by omega) (by omega) (g_147 G (by omega)) (fun x4 ex4 ax4 bx4 => ?_)
      refine z_vI (M := M_X12_told) 77 dX12_told_77 t_X12_feetOf l_X12_521 (m_rr_of rfl) (rest := [mI l2]) (c_X12_feetOf h a1 x4 G ⟨by omega, by omega⟩ ⟨by omega, by omega⟩) o_108 rfl rfl rfl (Nat.le_of_ble_eq_true rfl) ⟨rfl, rfl⟩ (fun x5 h1 qx5 => ?_)
      obtain ⟨G1, S1, ax5, bx5⟩ := qx5
      have R1 := R.call S1 (by decide +kernel)
      refine z_iadd (M := M_X12_told) 80 dX12_told_80 ?_
      refine z_topm (fun x6 ex6 ox6 => ?_)
      unfold m_32 at ox6
      refine z_istore_n (M := M_X12_told) 81 dX12_told_81 (ls' := [some (mR 108), some (mI a1), some (mI x6), some (mI l3), some (mI a1)]) (by decide) rfl ?_
      refine z_iincN (M := M_X12_told) 82 dX12_told_82 (ls' := [some (mR 108), some (mI a1), some (mI x6), some (mI (l3 + 1)), some (mI a1)]) (by decide) rfl (by (unfold m_32; decide)) (by omega) (by omega) rfl ?_
      refine z_goto (M := M_X12_told) 85 dX12_told_85 25 rfl ?_
      exact z_mask [true, true, true, true, false] rfl (ih x6 (l3 + 1) h1 G1 R1 (by omega) (by omega) (by omega) (by omega) (by omega))
    · refine z_iload_n (M := M_X12_told) 44 dX12_told_44 rfl ?_
      refine z_aload_n (M := M_X12_told) 45 dX12_told_45 rfl ?_
      refine z_getR (M := M_X12_told) 46 dX12_told_46 f_X12_13 o_108 rfl (g_108_3 G) ?_
      refine z_bipush (M := M_X12_told) 49 dX12_told_49 ?_
      refine z_iload_n (M := M_X12_told) 51 dX12_told_51 rfl ?_
      refine z_iaddN (M := M_X12_told) 52 dX12_told_52 (by omega) (by omega) ?_
      refine z_ialdE (M := M_X12_told) 53 dX12_told_53 o_110 (by omega) (by omega) ex2 ?_
      refine z_icmp_lt (M := M_X12_told) 54 dX12_told_54 64 rfl (fun c7 => ?_) (fun c7 => ?_)
      · refine z_iload_n (M := M_X12_told) 64 dX12_told_64 rfl ?_
        refine z_istore (M := M_X12_told) 65 dX12_told_65 (ls' := [some (mR 108), some (mI a1), some (mI l2), some (mI l3), some (mI a1)]) (by decide) rfl ?_
        refine z_iload_n (M := M_X12_told) 67 dX12_told_67 rfl ?_
        refine z_aload_n (M := M_X12_told) 68 dX12_told_68 rfl ?_
        refine z_iload (M := M_X12_told) 69 dX12_told_69 rfl ?_
        refine z_aload_n (M := M_X12_told) 71 dX12_told_71 rfl ?_
        refine z_getR (M := M_X12_told) 72 dX12_told_72 f_X12_130 o_108 rfl (g_108_59 G) ?_
        refine z_iload_n (M := M_X12_told) 75 dX12_told_75 rfl ?_
        refine z_ialdG (M := M_X12_told) 76 dX12_told_76 o_147 (by omega) (by omega) (g_147 G (by omega)) (fun x8 ex8 ax8 bx8 => ?_)
        refine z_vI (M := M_X12_told) 77 dX12_told_77 t_X12_feetOf l_X12_521 (m_rr_of rfl) (rest := [mI l2]) (c_X12_feetOf h a1 x8 G ⟨by omega, by omega⟩ ⟨by omega, by omega⟩) o_108 rfl rfl rfl (Nat.le_of_ble_eq_true rfl) ⟨rfl, rfl⟩ (fun x9 h2 qx9 => ?_)
        obtain ⟨G2, S2, ax9, bx9⟩ := qx9
        have R2 := R.call S2 (by decide +kernel)
        refine z_iadd (M := M_X12_told) 80 dX12_told_80 ?_
        refine z_topm (fun x10 ex10 ox10 => ?_)
        unfold m_32 at ox10
        refine z_istore_n (M := M_X12_told) 81 dX12_told_81 (ls' := [some (mR 108), some (mI a1), some (mI x10), some (mI l3), some (mI a1)]) (by decide) rfl ?_
        refine z_iincN (M := M_X12_told) 82 dX12_told_82 (ls' := [some (mR 108), some (mI a1), some (mI x10), some (mI (l3 + 1)), some (mI a1)]) (by decide) rfl (by (unfold m_32; decide)) (by omega) (by omega) rfl ?_
        refine z_goto (M := M_X12_told) 85 dX12_told_85 25 rfl ?_
        exact z_mask [true, true, true, true, false] rfl (ih x10 (l3 + 1) h2 G2 R2 (by omega) (by omega) (by omega) (by omega) (by omega))
      · refine z_bipush (M := M_X12_told) 57 dX12_told_57 ?_
        refine z_iload_n (M := M_X12_told) 59 dX12_told_59 rfl ?_
        refine z_iaddN (M := M_X12_told) 60 dX12_told_60 (by omega) (by omega) ?_
        refine z_goto (M := M_X12_told) 61 dX12_told_61 65 rfl ?_
        refine z_istore (M := M_X12_told) 65 dX12_told_65 (ls' := [some (mR 108), some (mI a1), some (mI l2), some (mI l3), some (mI (6 + a1))]) (by decide) rfl ?_
        refine z_iload_n (M := M_X12_told) 67 dX12_told_67 rfl ?_
        refine z_aload_n (M := M_X12_told) 68 dX12_told_68 rfl ?_
        refine z_iload (M := M_X12_told) 69 dX12_told_69 rfl ?_
        refine z_aload_n (M := M_X12_told) 71 dX12_told_71 rfl ?_
        refine z_getR (M := M_X12_told) 72 dX12_told_72 f_X12_130 o_108 rfl (g_108_59 G) ?_
        refine z_iload_n (M := M_X12_told) 75 dX12_told_75 rfl ?_
        refine z_ialdG (M := M_X12_told) 76 dX12_told_76 o_147 (by omega) (by omega) (g_147 G (by omega)) (fun x11 ex11 ax11 bx11 => ?_)
        refine z_vI (M := M_X12_told) 77 dX12_told_77 t_X12_feetOf l_X12_521 (m_rr_of rfl) (rest := [mI l2]) (c_X12_feetOf h (6 + a1) x11 G ⟨by omega, by omega⟩ ⟨by omega, by omega⟩) o_108 rfl rfl rfl (Nat.le_of_ble_eq_true rfl) ⟨rfl, rfl⟩ (fun x12 h3 qx12 => ?_)
        obtain ⟨G3, S3, ax12, bx12⟩ := qx12
        have R3 := R.call S3 (by decide +kernel)
        refine z_iadd (M := M_X12_told) 80 dX12_told_80 ?_
        refine z_topm (fun x13 ex13 ox13 => ?_)
        unfold m_32 at ox13
        refine z_istore_n (M := M_X12_told) 81 dX12_told_81 (ls' := [some (mR 108), some (mI a1), some (mI x13), some (mI l3), some (mI (6 + a1))]) (by decide) rfl ?_
        refine z_iincN (M := M_X12_told) 82 dX12_told_82 (ls' := [some (mR 108), some (mI a1), some (mI x13), some (mI (l3 + 1)), some (mI (6 + a1))]) (by decide) rfl (by (unfold m_32; decide)) (by omega) (by omega) rfl ?_
        refine z_goto (M := M_X12_told) 85 dX12_told_85 25 rfl ?_
        exact z_mask [true, true, true, true, false] rfl (ih x13 (l3 + 1) h3 G3 R3 (by omega) (by omega) (by omega) (by omega) (by omega))
theorem a_X12_told (h0 : m_H) (a1 : Int) (G0 : GI h0) : ∀ n, q_X12_told h0 a1 n := by
  intro n
  induction n with
  | zero => unfold q_X12_told; intros; omega
  | succ n ih => exact s_X12_told_25 h0 a1 G0 n ih
set_option maxHeartbeats 4000000 in
set_option maxRecDepth 100000 in
theorem c_X12_told (h0 : m_H) (a1 : Int) (G0 : GI h0) : m_CI M_X12_told [mR 108, mI a1] h0 (P_X12_told h0 a1) := by
  refine m_CI_of ⟨by decide, rfl, by simp [m_arg, m_isL, M_X12_told], ⟨rfl, rfl⟩, rfl, rfl⟩ (ls := [some (mR 108), some (mI a1), none, none, none]) rfl ?_
  have ih := a_X12_told h0 a1 G0 72
  refine z_ok (fun _ _ ok => ?_)
  have oa1 : m_32 a1 := ok 1 _ rfl
  unfold m_32 at oa1
  refine z_aload_n (M := M_X12_told) 0 dX12_told_0 rfl ?_
  refine z_iconst (M := M_X12_told) 1 dX12_told_1 ?_
  refine z_putIH (M := M_X12_told) 2 dX12_told_2 p_X12_133 o_108 rfl (u_108_0 G0) ((FR.rf (cs := []) (ss := [(108, 0)]) (h := h0)).up rfl) (fun h1 E1 G1 R1 => ?_)
  refine z_aload_n (M := M_X12_told) 5 dX12_told_5 rfl ?_
  refine z_getIG (M := M_X12_told) 6 dX12_told_6 f_X12_512 o_108 (by decide) (g_108_60 G1) (fun x1 ex1 ax1 bx1 => ?_)
  refine z_if_eq (M := M_X12_told) 9 dX12_told_9 19 rfl (fun c2 => ?_) (fun c2 => ?_)
  · refine z_iconst (M := M_X12_told) 19 dX12_told_19 ?_
    exact z_retI (M := M_X12_told) 20 dX12_told_20 rfl ⟨G1, R1⟩
  · refine z_iload_n (M := M_X12_told) 12 dX12_told_12 rfl ?_
    refine z_sI (M := M_X12_told) 13 dX12_told_13 t_X12_isThing l_X12_166 (m_rr_of rfl) (rest := []) (c_X12_isThing h1 a1 G1) rfl rfl (Nat.le_of_ble_eq_true rfl) ⟨rfl, rfl⟩ (fun x3 h2 qx3 => ?_)
    obtain ⟨rfl, ⟨rfl, cx3⟩ | ⟨rfl, cx3⟩⟩ := qx3
    · refine z_if_ne_T (M := M_X12_told) 16 dX12_told_16 21 rfl (by omega) ?_
      refine z_iconst (M := M_X12_told) 21 dX12_told_21 ?_
      refine z_istore_n (M := M_X12_told) 22 dX12_told_22 (ls' := [some (mR 108), some (mI a1), some (mI 0), none, none]) (by decide) rfl ?_
      refine z_iconst (M := M_X12_told) 23 dX12_told_23 ?_
      refine z_istore_n (M := M_X12_told) 24 dX12_told_24 (ls' := [some (mR 108), some (mI a1), some (mI 0), some (mI 0), none]) (by decide) rfl ?_
      exact z_mask [true, true, true, true, false] rfl (ih 0 0 h1 G1 R1 (by omega) (by omega) (by omega) (by omega) (by omega))
    · refine z_if_ne_F (M := M_X12_told) 16 dX12_told_16 21 rfl (by omega) ?_
      refine z_iconst (M := M_X12_told) 19 dX12_told_19 ?_
      exact z_retI (M := M_X12_told) 20 dX12_told_20 rfl ⟨G1, R1⟩
abbrev P_X12_bits (h0 : m_H) (a0 : Int) : Int → m_H → Prop := fun x h' => GI h' ∧ FR [] [] h0 h'
def q_X12_bits (h0 : m_H) (a0 : Int) (n : Nat) : Prop := (∀ (l1 l2 : Int) (h : m_H), GI h → FR [] [] h0 h → 0 ≤ l2 → l2 ≤ 24 → (-2147483648) ≤ a0 → a0 ≤ 2147483647 → 2 * (24 - l2) + (1) ≤ (n : Int) → m_Z oF M_X12_bits 4 [some (mI a0), some (mI l1), some (mI l2)] [] h (m_QI (P_X12_bits h0 a0)))
set_option maxHeartbeats 4000000 in
set_option maxRecDepth 100000 in
theorem s_X12_bits_4 (h0 : m_H) (a0 : Int) (G0 : GI h0) (n : Nat) (ih : q_X12_bits h0 a0 n) : ∀ (l1 l2 : Int) (h : m_H), GI h → FR [] [] h0 h → 0 ≤ l2 → l2 ≤ 24 → (-2147483648) ≤ a0 → a0 ≤ 2147483647 → 2 * (24 - l2) + (1) ≤ ((n + 1 : Nat) : Int) → m_Z oF M_X12_bits 4 [some (mI a0), some (mI l1), some (mI l2)] [] h (m_QI (P_X12_bits h0 a0)) := by
  intro l1 l2 h G R v0 v1 v2 v3 hr
  refine z_ok (fun ostk _ olocs => ?_)
  have ol1 : m_32 l1 := olocs 1 _ rfl
  unfold m_32 at ol1
  refine z_iload_n (M := M_X12_bits) 4 dX12_bits_4 rfl ?_
  refine z_bipush (M := M_X12_bits) 5 dX12_bits_5 ?_
  refine z_icmp_ge (M := M_X12_bits) 7 dX12_bits_7 24 rfl (fun c1 => ?_) (fun c1 => ?_)
  · refine z_iload_n (M := M_X12_bits) 24 dX12_bits_24 rfl ?_
    exact z_retI (M := M_X12_bits) 25 dX12_bits_25 rfl ⟨G, R⟩
  · refine z_iload_n (M := M_X12_bits) 10 dX12_bits_10 rfl ?_
    refine z_iload_n (M := M_X12_bits) 11 dX12_bits_11 rfl ?_
    refine z_iload_n (M := M_X12_bits) 12 dX12_bits_12 rfl ?_
    refine z_ishr (M := M_X12_bits) 13 dX12_bits_13 ?_
    refine z_topm (fun x2 ex2 ox2 => ?_)
    unfold m_32 at ox2
    refine z_iconst (M := M_X12_bits) 14 dX12_bits_14 ?_
    refine z_iand (M := M_X12_bits) 15 dX12_bits_15 ?_
    refine z_topBI (m_and_1 _) (fun x3 ex3 ax3 bx3 => ?_)
    refine z_iadd (M := M_X12_bits) 16 dX12_bits_16 ?_
    refine z_topm (fun x4 ex4 ox4 => ?_)
    unfold m_32 at ox4
    refine z_istore_n (M := M_X12_bits) 17 dX12_bits_17 (ls' := [some (mI a0), some (mI x4), some (mI l2)]) (by decide) rfl ?_
    refine z_iincN (M := M_X12_bits) 18 dX12_bits_18 (ls' := [some (mI a0), some (mI x4), some (mI (l2 + 1))]) (by decide) rfl (by (unfold m_32; decide)) (by omega) (by omega) rfl ?_
    refine z_goto (M := M_X12_bits) 21 dX12_bits_21 4 rfl ?_
    exact z_mask [true, true, true] rfl (ih x4 (l2 + 1) h G R (by omega) (by omega) (by omega) (by omega) (by omega))
theorem a_X12_bits (h0 : m_H) (a0 : Int) (G0 : GI h0) : ∀ n, q_X12_bits h0 a0 n := by
  intro n
  induction n with
  | zero => unfold q_X12_bits; intros; omega
  | succ n ih => exact s_X12_bits_4 h0 a0 G0 n ih
set_option maxHeartbeats 4000000 in
set_option maxRecDepth 100000 in
theorem c_X12_bits (h0 : m_H) (a0 : Int) (G0 : GI h0) : m_CI M_X12_bits [mI a0] h0 (P_X12_bits h0 a0) := by
  refine m_CI_of ⟨by decide, rfl, by simp [m_arg, m_isL, M_X12_bits], ⟨rfl, rfl⟩, rfl, rfl⟩ (ls := [some (mI a0), none, none]) rfl ?_
  have ih := a_X12_bits h0 a0 G0 56
  refine z_ok (fun _ _ ok => ?_)
  have oa0 : m_32 a0 := ok 0 _ rfl
  unfold m_32 at oa0
  refine z_iconst (M := M_X12_bits) 0 dX12_bits_0 ?_
  refine z_istore_n (M := M_X12_bits) 1 dX12_bits_1 (ls' := [some (mI a0), some (mI 0), none]) (by decide) rfl ?_
  refine z_iconst (M := M_X12_bits) 2 dX12_bits_2 ?_
  refine z_istore_n (M := M_X12_bits) 3 dX12_bits_3 (ls' := [some (mI a0), some (mI 0), some (mI 0)]) (by decide) rfl ?_
  exact z_mask [true, true, true] rfl (ih 0 0 h0 G0 (FR.rf (cs := []) (ss := []) (h := h0)) (by omega) (by omega) (by omega) (by omega) (by omega))
abbrev P_X12_count (h0 : m_H) (a1 : Int) : Int → m_H → Prop := fun x h' => GI h' ∧ FR [] [(108, 0)] h0 h'
def q_X12_count (h0 : m_H) (a1 : Int) (n : Nat) : Prop := (∀ (l2 l4 : Int) (h : m_H), GI h → FR [] [(108, 0)] h0 h → 0 ≤ l4 → l4 ≤ 32 → (-2147483648) ≤ a1 → a1 ≤ 2147483647 → 2 * (32 - l4) + (16) ≤ (n : Int) → m_Z oF M_X12_count 12 [some (mR 108), some (mI a1), some (mI l2), some (mI 0), some (mI l4)] [] h (m_QI (P_X12_count h0 a1))) ∧ (∀ (l2 l3 l4 : Int) (h : m_H), GI h → FR [] [(108, 0)] h0 h → 0 ≤ l4 → l4 ≤ 6 → (-2147483648) ≤ a1 → a1 ≤ 2147483647 → 2 * (6 - l4) + (1) ≤ (n : Int) → m_Z oF M_X12_count 50 [some (mR 108), some (mI a1), some (mI l2), some (mI l3), some (mI l4)] [] h (m_QI (P_X12_count h0 a1)))
set_option maxHeartbeats 4000000 in
set_option maxRecDepth 100000 in
theorem s_X12_count_12 (h0 : m_H) (a1 : Int) (G0 : GI h0) (n : Nat) (ih : q_X12_count h0 a1 n) : ∀ (l2 l4 : Int) (h : m_H), GI h → FR [] [(108, 0)] h0 h → 0 ≤ l4 → l4 ≤ 32 → (-2147483648) ≤ a1 → a1 ≤ 2147483647 → 2 * (32 - l4) + (16) ≤ ((n + 1 : Nat) : Int) → m_Z oF M_X12_count 12 [some (mR 108), some (mI a1), some (mI l2), some (mI 0), some (mI l4)] [] h (m_QI (P_X12_count h0 a1)) := by
  intro l2 l4 h G R v0 v1 v2 v3 hr
  refine z_ok (fun ostk _ olocs => ?_)
  have ol2 : m_32 l2 := olocs 2 _ rfl
  unfold m_32 at ol2
  refine z_iload (M := M_X12_count) 12 dX12_count_12 rfl ?_
  refine z_bipush (M := M_X12_count) 14 dX12_count_14 ?_
  refine z_icmp_ge (M := M_X12_count) 16 dX12_count_16 47 rfl (fun c1 => ?_) (fun c1 => ?_)
  · refine z_iconst (M := M_X12_count) 47 dX12_count_47 ?_
    refine z_istore (M := M_X12_count) 48 dX12_count_48 (ls' := [some (mR 108), some (mI a1), some (mI l2), some (mI 0), some (mI 0)]) (by decide) rfl ?_
    exact z_mask [true, true, true, true, true] rfl (ih.2 l2 0 0 h G R (by omega) (by omega) (by omega) (by omega) (by omega))
  · refine z_iload_n (M := M_X12_count) 19 dX12_count_19 rfl ?_
    refine z_aload_n (M := M_X12_count) 20 dX12_count_20 rfl ?_
    refine z_getR (M := M_X12_count) 21 dX12_count_21 f_X12_13 o_108 rfl (g_108_3 G) ?_
    refine z_bipush (M := M_X12_count) 24 dX12_count_24 ?_
    refine z_iload (M := M_X12_count) 26 dX12_count_26 rfl ?_
    refine z_iaddN (M := M_X12_count) 28 dX12_count_28 (by omega) (by omega) ?_
    refine z_ialdG (M := M_X12_count) 29 dX12_count_29 o_110 (by omega) (by omega) (gw_w G (by omega) (by omega)) (fun x2 ex2 ax2 bx2 => ?_)
    refine z_iconst (M := M_X12_count) 30 dX12_count_30 ?_
    refine z_icmp_eq (M := M_X12_count) 31 dX12_count_31 38 rfl (fun c3 => ?_) (fun c3 => ?_)
    · refine z_iconst (M := M_X12_count) 38 dX12_count_38 ?_
      refine z_iaddN (M := M_X12_count) 39 dX12_count_39 (by omega) (by omega) ?_
      refine z_istore_n (M := M_X12_count) 40 dX12_count_40 (ls' := [some (mR 108), some (mI a1), some (mI (l2 + 0)), some (mI 0), some (mI l4)]) (by decide) rfl ?_
      refine z_iincN (M := M_X12_count) 41 dX12_count_41 (ls' := [some (mR 108), some (mI a1), some (mI (l2 + 0)), some (mI 0), some (mI (l4 + 1))]) (by decide) rfl (by (unfold m_32; decide)) (by omega) (by omega) rfl ?_
      refine z_goto (M := M_X12_count) 44 dX12_count_44 12 rfl ?_
      exact z_mask [true, true, true, true, true] rfl (ih.1 (l2 + 0) (l4 + 1) h G R (by omega) (by omega) (by omega) (by omega) (by omega))
    · refine z_iconst (M := M_X12_count) 34 dX12_count_34 ?_
      refine z_goto (M := M_X12_count) 35 dX12_count_35 39 rfl ?_
      refine z_iadd (M := M_X12_count) 39 dX12_count_39 ?_
      refine z_topm (fun x4 ex4 ox4 => ?_)
      unfold m_32 at ox4
      refine z_istore_n (M := M_X12_count) 40 dX12_count_40 (ls' := [some (mR 108), some (mI a1), some (mI x4), some (mI 0), some (mI l4)]) (by decide) rfl ?_
      refine z_iincN (M := M_X12_count) 41 dX12_count_41 (ls' := [some (mR 108), some (mI a1), some (mI x4), some (mI 0), some (mI (l4 + 1))]) (by decide) rfl (by (unfold m_32; decide)) (by omega) (by omega) rfl ?_
      refine z_goto (M := M_X12_count) 44 dX12_count_44 12 rfl ?_
      exact z_mask [true, true, true, true, true] rfl (ih.1 x4 (l4 + 1) h G R (by omega) (by omega) (by omega) (by omega) (by omega))
set_option maxHeartbeats 4000000 in
set_option maxRecDepth 100000 in
theorem s_X12_count_50 (h0 : m_H) (a1 : Int) (G0 : GI h0) (n : Nat) (ih : q_X12_count h0 a1 n) : ∀ (l2 l3 l4 : Int) (h : m_H), GI h → FR [] [(108, 0)] h0 h → 0 ≤ l4 → l4 ≤ 6 → (-2147483648) ≤ a1 → a1 ≤ 2147483647 → 2 * (6 - l4) + (1) ≤ ((n + 1 : Nat) : Int) → m_Z oF M_X12_count 50 [some (mR 108), some (mI a1), some (mI l2), some (mI l3), some (mI l4)] [] h (m_QI (P_X12_count h0 a1)) := by
  intro l2 l3 l4 h G R v0 v1 v2 v3 hr
  refine z_ok (fun ostk _ olocs => ?_)
  have ol2 : m_32 l2 := olocs 2 _ rfl
  unfold m_32 at ol2
  have ol3 : m_32 l3 := olocs 3 _ rfl
  unfold m_32 at ol3
  refine z_iload (M := M_X12_count) 50 dX12_count_50 rfl ?_
  refine z_bipush (M := M_X12_count) 52 dX12_count_52 ?_
  refine z_icmp_ge (M := M_X12_count) 54 dX12_count_54 85 rfl (fun c1 => ?_) (fun c1 => ?_)
  · refine z_iload_n (M := M_X12_count) 85 dX12_count_85 rfl ?_
    by_cases c2 : a1 = 0 ∨ a1 = 1 ∨ a1 = 2 ∨ a1 = 3 ∨ a1 = 4 ∨ a1 = 5 ∨ a1 = 6 ∨ a1 = 7 ∨ a1 = 8 ∨ a1 = 9 ∨ a1 = 10
    · rcases c2 with c2_0 | c2_1 | c2_2 | c2_3 | c2_4 | c2_5 | c2_6 | c2_7 | c2_8 | c2_9 | c2_10
      · refine z_tabIn (M := M_X12_count) 86 dX12_count_86 (off := 58) 144 (by omega) (by omega) (by rw [c2_0]; rfl) rfl ?_
        refine z_aload_n (M := M_X12_count) 144 dX12_count_144 rfl ?_
        refine z_getR (M := M_X12_count) 145 dX12_count_145 f_X12_13 o_108 rfl (g_108_3 G) ?_
        refine z_iconst (M := M_X12_count) 148 dX12_count_148 ?_
        refine z_ialdG (M := M_X12_count) 149 dX12_count_149 o_110 (by omega) (by omega) (gw_0 G) (fun x3 ex3 ax3 bx3 => ?_)
        exact z_retI (M := M_X12_count) 150 dX12_count_150 rfl ⟨G, R⟩
      · refine z_tabIn (M := M_X12_count) 86 dX12_count_86 (off := 65) 151 (by omega) (by omega) (by rw [c2_1]; rfl) rfl ?_
        refine z_aload_n (M := M_X12_count) 151 dX12_count_151 rfl ?_
        refine z_vI (M := M_X12_count) 152 dX12_count_152 t_X12_counting l_X12_370 (m_rr_of rfl) (rest := []) (c_X12_counting h G) o_108 rfl rfl rfl (Nat.le_of_ble_eq_true rfl) ⟨rfl, rfl⟩ (fun x4 h1 qx4 => ?_)
        obtain ⟨G1, S1⟩ := qx4
        have R1 := R.call S1 (by decide +kernel)
        refine z_ok (fun ox4 _ _ => ?_)
        have ox4 := ox4.1; unfold m_ok m_32 at ox4
        refine z_sI (M := M_X12_count) 155 dX12_count_155 t_X12_bits l_X12_526 (m_rr_of rfl) (rest := []) (c_X12_bits h1 x4 G1) rfl rfl (Nat.le_of_ble_eq_true rfl) ⟨rfl, rfl⟩ (fun x5 h2 qx5 => ?_)
        obtain ⟨G2, S2⟩ := qx5
        have R2 := R1.call S2 (by decide +kernel)
        refine z_ok (fun ox5 _ _ => ?_)
        have ox5 := ox5.1; unfold m_ok m_32 at ox5
        exact z_retI (M := M_X12_count) 158 dX12_count_158 rfl ⟨G2, R2⟩
      · refine z_tabIn (M := M_X12_count) 86 dX12_count_86 (off := 73) 159 (by omega) (by omega) (by rw [c2_2]; rfl) rfl ?_
        refine z_aload_n (M := M_X12_count) 159 dX12_count_159 rfl ?_
        refine z_getR (M := M_X12_count) 160 dX12_count_160 f_X12_13 o_108 rfl (g_108_3 G) ?_
        refine z_iconst (M := M_X12_count) 163 dX12_count_163 ?_
        refine z_ialdG (M := M_X12_count) 164 dX12_count_164 o_110 (by omega) (by omega) (gw_1 G) (fun x6 ex6 ax6 bx6 => ?_)
        exact z_retI (M := M_X12_count) 165 dX12_count_165 rfl ⟨G, R⟩
      · refine z_tabIn (M := M_X12_count) 86 dX12_count_86 (off := 80) 166 (by omega) (by omega) (by rw [c2_3]; rfl) rfl ?_
        refine z_iload_n (M := M_X12_count) 166 dX12_count_166 rfl ?_
        exact z_retI (M := M_X12_count) 167 dX12_count_167 rfl ⟨G, R⟩
      · refine z_tabIn (M := M_X12_count) 86 dX12_count_86 (off := 82) 168 (by omega) (by omega) (by rw [c2_4]; rfl) rfl ?_
        refine z_iload_n (M := M_X12_count) 168 dX12_count_168 rfl ?_
        exact z_retI (M := M_X12_count) 169 dX12_count_169 rfl ⟨G, R⟩
      · refine z_tabIn (M := M_X12_count) 86 dX12_count_86 (off := 84) 170 (by omega) (by omega) (by rw [c2_5]; rfl) rfl ?_
        refine z_aload_n (M := M_X12_count) 170 dX12_count_170 rfl ?_
        refine z_getIG (M := M_X12_count) 171 dX12_count_171 f_X12_201 o_108 (by decide) (g_108_8 G) (fun x7 ex7 ax7 bx7 => ?_)
        exact z_retI (M := M_X12_count) 174 dX12_count_174 rfl ⟨G, R⟩
      · refine z_tabIn (M := M_X12_count) 86 dX12_count_86 (off := 89) 175 (by omega) (by omega) (by rw [c2_6]; rfl) rfl ?_
        refine z_aload_n (M := M_X12_count) 175 dX12_count_175 rfl ?_
        refine z_getR (M := M_X12_count) 176 dX12_count_176 f_X12_7 o_108 rfl (g_108_2 G) ?_
        refine z_iconst (M := M_X12_count) 179 dX12_count_179 ?_
        refine z_ialdV (M := M_X12_count) 180 dX12_count_180 o_109 (by omega) (by omega) (fun x8 ex8 => ?_)
        refine z_ok (fun ox8 _ _ => ?_)
        have ox8 := ox8.1; unfold m_ok m_32 at ox8
        exact z_retI (M := M_X12_count) 181 dX12_count_181 rfl ⟨G, R⟩
      · refine z_tabIn (M := M_X12_count) 86 dX12_count_86 (off := 96) 182 (by omega) (by omega) (by rw [c2_7]; rfl) rfl ?_
        refine z_aload_n (M := M_X12_count) 182 dX12_count_182 rfl ?_
        refine z_getR (M := M_X12_count) 183 dX12_count_183 f_X12_7 o_108 rfl (g_108_2 G) ?_
        refine z_iconst (M := M_X12_count) 186 dX12_count_186 ?_
        refine z_ialdV (M := M_X12_count) 187 dX12_count_187 o_109 (by omega) (by omega) (fun x9 ex9 => ?_)
        refine z_ok (fun ox9 _ _ => ?_)
        have ox9 := ox9.1; unfold m_ok m_32 at ox9
        exact z_retI (M := M_X12_count) 188 dX12_count_188 rfl ⟨G, R⟩
      · refine z_tabIn (M := M_X12_count) 86 dX12_count_86 (off := 103) 189 (by omega) (by omega) (by rw [c2_8]; rfl) rfl ?_
        refine z_aload_n (M := M_X12_count) 189 dX12_count_189 rfl ?_
        refine z_getR (M := M_X12_count) 190 dX12_count_190 f_X12_7 o_108 rfl (g_108_2 G) ?_
        refine z_iconst (M := M_X12_count) 193 dX12_count_193 ?_
        refine z_ialdV (M := M_X12_count) 194 dX12_count_194 o_109 (by omega) (by omega) (fun x10 ex10 => ?_)
        refine z_ok (fun ox10 _ _ => ?_)
        have ox10 := ox10.1; unfold m_ok m_32 at ox10
        exact z_retI (M := M_X12_count) 195 dX12_count_195 rfl ⟨G, R⟩
      · refine z_tabIn (M := M_X12_count) 86 dX12_count_86 (off := 110) 196 (by omega) (by omega) (by rw [c2_9]; rfl) rfl ?_
        refine z_aload_n (M := M_X12_count) 196 dX12_count_196 rfl ?_
        refine z_getR (M := M_X12_count) 197 dX12_count_197 f_X12_7 o_108 rfl (g_108_2 G) ?_
        refine z_iconst (M := M_X12_count) 200 dX12_count_200 ?_
        refine z_ialdV (M := M_X12_count) 201 dX12_count_201 o_109 (by omega) (by omega) (fun x11 ex11 => ?_)
        refine z_ok (fun ox11 _ _ => ?_)
        have ox11 := ox11.1; unfold m_ok m_32 at ox11
        exact z_retI (M := M_X12_count) 202 dX12_count_202 rfl ⟨G, R⟩
      · refine z_tabIn (M := M_X12_count) 86 dX12_count_86 (off := 117) 203 (by omega) (by omega) (by rw [c2_10]; rfl) rfl ?_
        refine z_aload_n (M := M_X12_count) 203 dX12_count_203 rfl ?_
        refine z_getR (M := M_X12_count) 204 dX12_count_204 f_X12_7 o_108 rfl (g_108_2 G) ?_
        refine z_bipush (M := M_X12_count) 207 dX12_count_207 ?_
        refine z_ialdV (M := M_X12_count) 209 dX12_count_209 o_109 (by omega) (by omega) (fun x12 ex12 => ?_)
        refine z_ok (fun ox12 _ _ => ?_)
        have ox12 := ox12.1; unfold m_ok m_32 at ox12
        exact z_retI (M := M_X12_count) 210 dX12_count_210 rfl ⟨G, R⟩
    · refine z_tabOut (M := M_X12_count) 86 dX12_count_86 211 (by omega) rfl ?_
      refine z_iconst (M := M_X12_count) 211 dX12_count_211 ?_
      exact z_retI (M := M_X12_count) 212 dX12_count_212 rfl ⟨G, R⟩
  · refine z_iload_n (M := M_X12_count) 57 dX12_count_57 rfl ?_
    refine z_aload_n (M := M_X12_count) 58 dX12_count_58 rfl ?_
    refine z_getR (M := M_X12_count) 59 dX12_count_59 f_X12_13 o_108 rfl (g_108_3 G) ?_
    refine z_bipush (M := M_X12_count) 62 dX12_count_62 ?_
    refine z_iload (M := M_X12_count) 64 dX12_count_64 rfl ?_
    refine z_iaddN (M := M_X12_count) 66 dX12_count_66 (by omega) (by omega) ?_
    refine z_ialdG (M := M_X12_count) 67 dX12_count_67 o_110 (by omega) (by omega) (gw_c G (by omega) (by omega)) (fun x13 ex13 ax13 bx13 => ?_)
    refine z_iconst (M := M_X12_count) 68 dX12_count_68 ?_
    refine z_icmp_eq (M := M_X12_count) 69 dX12_count_69 76 rfl (fun c14 => ?_) (fun c14 => ?_)
    · refine z_iconst (M := M_X12_count) 76 dX12_count_76 ?_
      refine z_iaddN (M := M_X12_count) 77 dX12_count_77 (by omega) (by omega) ?_
      refine z_istore_n (M := M_X12_count) 78 dX12_count_78 (ls' := [some (mR 108), some (mI a1), some (mI l2), some (mI (l3 + 0)), some (mI l4)]) (by decide) rfl ?_
      refine z_iincN (M := M_X12_count) 79 dX12_count_79 (ls' := [some (mR 108), some (mI a1), some (mI l2), some (mI (l3 + 0)), some (mI (l4 + 1))]) (by decide) rfl (by (unfold m_32; decide)) (by omega) (by omega) rfl ?_
      refine z_goto (M := M_X12_count) 82 dX12_count_82 50 rfl ?_
      exact z_mask [true, true, true, true, true] rfl (ih.2 l2 (l3 + 0) (l4 + 1) h G R (by omega) (by omega) (by omega) (by omega) (by omega))
    · refine z_iconst (M := M_X12_count) 72 dX12_count_72 ?_
      refine z_goto (M := M_X12_count) 73 dX12_count_73 77 rfl ?_
      refine z_iadd (M := M_X12_count) 77 dX12_count_77 ?_
      refine z_topm (fun x15 ex15 ox15 => ?_)
      unfold m_32 at ox15
      refine z_istore_n (M := M_X12_count) 78 dX12_count_78 (ls' := [some (mR 108), some (mI a1), some (mI l2), some (mI x15), some (mI l4)]) (by decide) rfl ?_
      refine z_iincN (M := M_X12_count) 79 dX12_count_79 (ls' := [some (mR 108), some (mI a1), some (mI l2), some (mI x15), some (mI (l4 + 1))]) (by decide) rfl (by (unfold m_32; decide)) (by omega) (by omega) rfl ?_
      refine z_goto (M := M_X12_count) 82 dX12_count_82 50 rfl ?_
      exact z_mask [true, true, true, true, true] rfl (ih.2 l2 x15 (l4 + 1) h G R (by omega) (by omega) (by omega) (by omega) (by omega))
theorem a_X12_count (h0 : m_H) (a1 : Int) (G0 : GI h0) : ∀ n, q_X12_count h0 a1 n := by
  intro n
  induction n with
  | zero => unfold q_X12_count; refine ⟨?_, ?_⟩ <;> (intros; omega)
  | succ n ih => exact ⟨s_X12_count_12 h0 a1 G0 n ih, s_X12_count_50 h0 a1 G0 n ih⟩
set_option maxHeartbeats 4000000 in
set_option maxRecDepth 100000 in
theorem c_X12_count (h0 : m_H) (a1 : Int) (G0 : GI h0) : m_CI M_X12_count [mR 108, mI a1] h0 (P_X12_count h0 a1) := by
  refine m_CI_of ⟨by decide, rfl, by simp [m_arg, m_isL, M_X12_count], ⟨rfl, rfl⟩, rfl, rfl⟩ (ls := [some (mR 108), some (mI a1), none, none, none]) rfl ?_
  have ih := a_X12_count h0 a1 G0 87
  refine z_ok (fun _ _ ok => ?_)
  have oa1 : m_32 a1 := ok 1 _ rfl
  unfold m_32 at oa1
  refine z_aload_n (M := M_X12_count) 0 dX12_count_0 rfl ?_
  refine z_iconst (M := M_X12_count) 1 dX12_count_1 ?_
  refine z_putIH (M := M_X12_count) 2 dX12_count_2 p_X12_133 o_108 rfl (u_108_0 G0) ((FR.rf (cs := []) (ss := [(108, 0)]) (h := h0)).up rfl) (fun h1 E1 G1 R1 => ?_)
  refine z_iconst (M := M_X12_count) 5 dX12_count_5 ?_
  refine z_istore_n (M := M_X12_count) 6 dX12_count_6 (ls' := [some (mR 108), some (mI a1), some (mI 0), none, none]) (by decide) rfl ?_
  refine z_iconst (M := M_X12_count) 7 dX12_count_7 ?_
  refine z_istore_n (M := M_X12_count) 8 dX12_count_8 (ls' := [some (mR 108), some (mI a1), some (mI 0), some (mI 0), none]) (by decide) rfl ?_
  refine z_iconst (M := M_X12_count) 9 dX12_count_9 ?_
  refine z_istore (M := M_X12_count) 10 dX12_count_10 (ls' := [some (mR 108), some (mI a1), some (mI 0), some (mI 0), some (mI 0)]) (by decide) rfl ?_
  exact z_mask [true, true, true, true, true] rfl (ih.1 0 0 h1 G1 R1 (by omega) (by omega) (by omega) (by omega) (by omega))
abbrev P_X12_isSo (h0 : m_H) (a1 : Int) : Int → m_H → Prop := fun x h' => GI h' ∧ FR [] [] h0 h' ∧ 0 ≤ x ∧ x ≤ 1
set_option maxHeartbeats 4000000 in
set_option maxRecDepth 100000 in
theorem c_X12_isSo (h0 : m_H) (a1 : Int) (G0 : GI h0) (pa1 : 0 ≤ a1 ∧ a1 ≤ 23) : m_CI M_X12_isSo [mR 108, mI a1] h0 (P_X12_isSo h0 a1) := by
  refine m_CI_of ⟨by decide, rfl, by simp [m_arg, m_isL, M_X12_isSo], ⟨rfl, rfl⟩, rfl, rfl⟩ (ls := [some (mR 108), some (mI a1), none, none, none]) rfl ?_
  refine z_aload_n (M := M_X12_isSo) 0 dX12_isSo_0 rfl ?_
  refine z_getR (M := M_X12_isSo) 1 dX12_isSo_1 f_X12_13 o_108 rfl (g_108_3 G0) ?_
  refine z_bipush (M := M_X12_isSo) 4 dX12_isSo_4 ?_
  refine z_aload_n (M := M_X12_isSo) 6 dX12_isSo_6 rfl ?_
  refine z_iload_n (M := M_X12_isSo) 7 dX12_isSo_7 rfl ?_
  refine z_vI (M := M_X12_isSo) 8 dX12_isSo_8 t_X12_lengthOf l_X12_198 (m_rr_of rfl) (rest := [mI 60, mR 110]) (c_X12_lengthOf h0 a1 G0 ⟨by omega, by omega⟩) o_108 rfl rfl rfl (Nat.le_of_ble_eq_true rfl) ⟨rfl, rfl⟩ (fun x1 h1 qx1 => ?_)
  obtain ⟨G1, S1, ax1, bx1⟩ := qx1
  have R1 := (FR.rf (cs := []) (ss := []) (h := h0)).call S1 (by decide +kernel)
  refine z_iaddN (M := M_X12_isSo) 11 dX12_isSo_11 (by omega) (by omega) ?_
  refine z_ialdG (M := M_X12_isSo) 12 dX12_isSo_12 o_110 (by omega) (by omega) (gw_l G1 (by omega) (by omega)) (fun x2 ex2 ax2 bx2 => ?_)
  refine z_istore_n (M := M_X12_isSo) 13 dX12_isSo_13 (ls' := [some (mR 108), some (mI a1), some (mI x2), none, none]) (by decide) rfl ?_
  refine z_aload_n (M := M_X12_isSo) 14 dX12_isSo_14 rfl ?_
  refine z_getR (M := M_X12_isSo) 15 dX12_isSo_15 f_X12_13 o_108 rfl (g_108_3 G1) ?_
  refine z_bipush (M := M_X12_isSo) 18 dX12_isSo_18 ?_
  refine z_aload_n (M := M_X12_isSo) 20 dX12_isSo_20 rfl ?_
  refine z_getR (M := M_X12_isSo) 21 dX12_isSo_21 f_X12_13 o_108 rfl (g_108_3 G1) ?_
  refine z_bipush (M := M_X12_isSo) 24 dX12_isSo_24 ?_
  refine z_aload_n (M := M_X12_isSo) 26 dX12_isSo_26 rfl ?_
  refine z_iload_n (M := M_X12_isSo) 27 dX12_isSo_27 rfl ?_
  refine z_iconst (M := M_X12_isSo) 28 dX12_isSo_28 ?_
  refine z_vI (M := M_X12_isSo) 29 dX12_isSo_29 t_X12_ofEntry l_X12_195 (m_rr_of rfl) (rest := [mI 10, mR 110, mI 72, mR 110]) (c_X12_ofEntry h1 a1 1 G1 ⟨by omega, by omega⟩ ⟨by omega, by omega⟩) o_108 rfl rfl rfl (Nat.le_of_ble_eq_true rfl) ⟨rfl, rfl⟩ (fun x3 h2 qx3 => ?_)
  obtain ⟨rfl, fx3⟩ := qx3
  have gx3 := gw_e1 G1 (i := (80 + 5 * a1 + 1)) (e := a1) (by omega) (by omega) (by omega)
  rw [fx3] at gx3
  refine z_iaddN (M := M_X12_isSo) 32 dX12_isSo_32 (by omega) (by omega) ?_
  refine z_ialdG (M := M_X12_isSo) 33 dX12_isSo_33 o_110 (by omega) (by omega) (gw_w G1 (by omega) (by omega)) (fun x4 ex4 ax4 bx4 => ?_)
  refine z_iaddN (M := M_X12_isSo) 34 dX12_isSo_34 (by omega) (by omega) ?_
  refine z_ialdG (M := M_X12_isSo) 35 dX12_isSo_35 o_110 (by omega) (by omega) (gw_l G1 (by omega) (by omega)) (fun x5 ex5 ax5 bx5 => ?_)
  refine z_istore_n (M := M_X12_isSo) 36 dX12_isSo_36 (ls' := [some (mR 108), some (mI a1), some (mI x2), some (mI x5), none]) (by decide) rfl ?_
  refine z_aload_n (M := M_X12_isSo) 37 dX12_isSo_37 rfl ?_
  refine z_iload_n (M := M_X12_isSo) 38 dX12_isSo_38 rfl ?_
  refine z_iconst (M := M_X12_isSo) 39 dX12_isSo_39 ?_
  refine z_vI (M := M_X12_isSo) 40 dX12_isSo_40 t_X12_ofEntry l_X12_195 (m_rr_of rfl) (rest := []) (c_X12_ofEntry h1 a1 2 G1 ⟨by omega, by omega⟩ ⟨by omega, by omega⟩) o_108 rfl rfl rfl (Nat.le_of_ble_eq_true rfl) ⟨rfl, rfl⟩ (fun x6 h3 qx6 => ?_)
  obtain ⟨rfl, fx6⟩ := qx6
  have gx6 := gw_e2 G1 (i := (80 + 5 * a1 + 2)) (e := a1) (by omega) (by omega) (by omega)
  rw [fx6] at gx6
  refine z_istore (M := M_X12_isSo) 43 dX12_isSo_43 (ls' := [some (mR 108), some (mI a1), some (mI x2), some (mI x5), some (mI x6)]) (by decide) rfl ?_
  refine z_aload_n (M := M_X12_isSo) 45 dX12_isSo_45 rfl ?_
  refine z_iload_n (M := M_X12_isSo) 46 dX12_isSo_46 rfl ?_
  refine z_iconst (M := M_X12_isSo) 47 dX12_isSo_47 ?_
  refine z_vI (M := M_X12_isSo) 48 dX12_isSo_48 t_X12_ofEntry l_X12_195 (m_rr_of rfl) (rest := []) (c_X12_ofEntry h1 a1 3 G1 ⟨by omega, by omega⟩ ⟨by omega, by omega⟩) o_108 rfl rfl rfl (Nat.le_of_ble_eq_true rfl) ⟨rfl, rfl⟩ (fun x7 h4 qx7 => ?_)
  obtain ⟨rfl, fx7⟩ := qx7
  have gx7 := gw_e3 G1 (i := (80 + 5 * a1 + 3)) (e := a1) (by omega) (by omega) (by omega)
  rw [fx7] at gx7
  by_cases c8 : x7 = 0 ∨ x7 = 1
  · rcases c8 with c8_0 | c8_1
    · refine z_lookup (M := M_X12_isSo) 51 dX12_isSo_51 (off := 25) 76 (by decide) (by rw [c8_0]; rfl) rfl ?_
      refine z_iload_n (M := M_X12_isSo) 76 dX12_isSo_76 rfl ?_
      refine z_iload (M := M_X12_isSo) 77 dX12_isSo_77 rfl ?_
      refine z_iload_n (M := M_X12_isSo) 79 dX12_isSo_79 rfl ?_
      refine z_imul (M := M_X12_isSo) 80 dX12_isSo_80 ?_
      refine z_topm (fun x9 ex9 ox9 => ?_)
      unfold m_32 at ox9
      refine z_icmp_ne (M := M_X12_isSo) 81 dX12_isSo_81 88 rfl (fun c10 => ?_) (fun c10 => ?_)
      · refine z_iconst (M := M_X12_isSo) 88 dX12_isSo_88 ?_
        exact z_retZ (M := M_X12_isSo) 89 dX12_isSo_89 rfl (by omega) ⟨G1, R1, by omega, by omega⟩
      · refine z_iconst (M := M_X12_isSo) 84 dX12_isSo_84 ?_
        refine z_goto (M := M_X12_isSo) 85 dX12_isSo_85 89 rfl ?_
        exact z_retZ (M := M_X12_isSo) 89 dX12_isSo_89 rfl (by omega) ⟨G1, R1, by omega, by omega⟩
    · refine z_lookup (M := M_X12_isSo) 51 dX12_isSo_51 (off := 39) 90 (by decide) (by rw [c8_1]; rfl) rfl ?_
      refine z_iload_n (M := M_X12_isSo) 90 dX12_isSo_90 rfl ?_
      refine z_iload (M := M_X12_isSo) 91 dX12_isSo_91 rfl ?_
      refine z_iload_n (M := M_X12_isSo) 93 dX12_isSo_93 rfl ?_
      refine z_imul (M := M_X12_isSo) 94 dX12_isSo_94 ?_
      refine z_topm (fun x11 ex11 ox11 => ?_)
      unfold m_32 at ox11
      refine z_icmp_lt (M := M_X12_isSo) 95 dX12_isSo_95 112 rfl (fun c12 => ?_) (fun c12 => ?_)
      · refine z_iconst (M := M_X12_isSo) 112 dX12_isSo_112 ?_
        exact z_retZ (M := M_X12_isSo) 113 dX12_isSo_113 rfl (by omega) ⟨G1, R1, by omega, by omega⟩
      · refine z_iload_n (M := M_X12_isSo) 98 dX12_isSo_98 rfl ?_
        refine z_iload (M := M_X12_isSo) 99 dX12_isSo_99 rfl ?_
        refine z_iconst (M := M_X12_isSo) 101 dX12_isSo_101 ?_
        refine z_iaddN (M := M_X12_isSo) 102 dX12_isSo_102 (by omega) (by omega) ?_
        refine z_iload_n (M := M_X12_isSo) 103 dX12_isSo_103 rfl ?_
        refine z_imul (M := M_X12_isSo) 104 dX12_isSo_104 ?_
        refine z_topm (fun x13 ex13 ox13 => ?_)
        unfold m_32 at ox13
        refine z_icmp_ge (M := M_X12_isSo) 105 dX12_isSo_105 112 rfl (fun c14 => ?_) (fun c14 => ?_)
        · refine z_iconst (M := M_X12_isSo) 112 dX12_isSo_112 ?_
          exact z_retZ (M := M_X12_isSo) 113 dX12_isSo_113 rfl (by omega) ⟨G1, R1, by omega, by omega⟩
        · refine z_iconst (M := M_X12_isSo) 108 dX12_isSo_108 ?_
          refine z_goto (M := M_X12_isSo) 109 dX12_isSo_109 113 rfl ?_
          exact z_retZ (M := M_X12_isSo) 113 dX12_isSo_113 rfl (by omega) ⟨G1, R1, by omega, by omega⟩
  · refine z_lookup (M := M_X12_isSo) 51 dX12_isSo_51 (off := 63) 114 (by decide) (by simp only [Op.lookupswitch.offset]; split <;> (try omega) <;> (split <;> omega)) rfl ?_
    refine z_iconst (M := M_X12_isSo) 114 dX12_isSo_114 ?_
    refine z_iload_n (M := M_X12_isSo) 115 dX12_isSo_115 rfl ?_
    refine z_imulN (M := M_X12_isSo) 116 dX12_isSo_116 (by omega) (by omega) ?_
    refine z_iconst (M := M_X12_isSo) 117 dX12_isSo_117 ?_
    refine z_iload (M := M_X12_isSo) 118 dX12_isSo_118 rfl ?_
    refine z_imulN (M := M_X12_isSo) 120 dX12_isSo_120 (by omega) (by omega) ?_
    refine z_iconst (M := M_X12_isSo) 121 dX12_isSo_121 ?_
    refine z_isubN (M := M_X12_isSo) 122 dX12_isSo_122 (by omega) (by omega) ?_
    refine z_iload_n (M := M_X12_isSo) 123 dX12_isSo_123 rfl ?_
    refine z_imul (M := M_X12_isSo) 124 dX12_isSo_124 ?_
    refine z_topm (fun x15 ex15 ox15 => ?_)
    unfold m_32 at ox15
    refine z_icmp_lt (M := M_X12_isSo) 125 dX12_isSo_125 146 rfl (fun c16 => ?_) (fun c16 => ?_)
    · refine z_iconst (M := M_X12_isSo) 146 dX12_isSo_146 ?_
      exact z_retZ (M := M_X12_isSo) 147 dX12_isSo_147 rfl (by omega) ⟨G1, R1, by omega, by omega⟩
    · refine z_iconst (M := M_X12_isSo) 128 dX12_isSo_128 ?_
      refine z_iload_n (M := M_X12_isSo) 129 dX12_isSo_129 rfl ?_
      refine z_imulN (M := M_X12_isSo) 130 dX12_isSo_130 (by omega) (by omega) ?_
      refine z_iconst (M := M_X12_isSo) 131 dX12_isSo_131 ?_
      refine z_iload (M := M_X12_isSo) 132 dX12_isSo_132 rfl ?_
      refine z_imulN (M := M_X12_isSo) 134 dX12_isSo_134 (by omega) (by omega) ?_
      refine z_iconst (M := M_X12_isSo) 135 dX12_isSo_135 ?_
      refine z_iaddN (M := M_X12_isSo) 136 dX12_isSo_136 (by omega) (by omega) ?_
      refine z_iload_n (M := M_X12_isSo) 137 dX12_isSo_137 rfl ?_
      refine z_imul (M := M_X12_isSo) 138 dX12_isSo_138 ?_
      refine z_topm (fun x17 ex17 ox17 => ?_)
      unfold m_32 at ox17
      refine z_icmp_ge (M := M_X12_isSo) 139 dX12_isSo_139 146 rfl (fun c18 => ?_) (fun c18 => ?_)
      · refine z_iconst (M := M_X12_isSo) 146 dX12_isSo_146 ?_
        exact z_retZ (M := M_X12_isSo) 147 dX12_isSo_147 rfl (by omega) ⟨G1, R1, by omega, by omega⟩
      · refine z_iconst (M := M_X12_isSo) 142 dX12_isSo_142 ?_
        refine z_goto (M := M_X12_isSo) 143 dX12_isSo_143 147 rfl ?_
        exact z_retZ (M := M_X12_isSo) 147 dX12_isSo_147 rfl (by omega) ⟨G1, R1, by omega, by omega⟩
abbrev P_X12_judge (h0 : m_H) (a1 : Int) : Int → m_H → Prop := fun x h' => GI h' ∧ FR [] [(108, 0)] h0 h'
def q_X12_judge (h0 : m_H) (a1 : Int) (n : Nat) : Prop := (∀ (l2 l3 l4 : Int) (h : m_H), GI h → FR [] [(108, 0)] h0 h → (-1) ≤ l3 → l3 ≤ 23 → (-1) ≤ l4 → l4 ≤ 23 → 0 ≤ a1 → a1 ≤ 2 → 2 * (l4 - (-1)) + (31) ≤ (n : Int) → m_Z oF M_X12_judge 33 [some (mR 108), some (mI a1), some (mI l2), some (mI l3), some (mI l4), none] [] h (m_QI (P_X12_judge h0 a1))) ∧ (∀ (l4 l5 : Int) (h : m_H), GI h → FR [] [(108, 0)] h0 h → 0 ≤ l4 → l4 ≤ 1 → 0 ≤ l5 → l5 ≤ 6 → 2 ≤ a1 → a1 ≤ 2 → 2 * (6 - l5) + (16) ≤ (n : Int) → m_Z oF M_X12_judge 118 [some (mR 108), none, none, none, some (mI l4), some (mI l5)] [] h (m_QI (P_X12_judge h0 a1))) ∧ (∀ (l4 l5 : Int) (h : m_H), GI h → FR [] [(108, 0)] h0 h → 0 ≤ l4 → l4 ≤ 1 → 0 ≤ l5 → l5 ≤ 6 → 2 ≤ a1 → a1 ≤ 2 → 2 * (6 - l5) + (1) ≤ (n : Int) → m_Z oF M_X12_judge 195 [some (mR 108), none, none, none, some (mI l4), some (mI l5)] [] h (m_QI (P_X12_judge h0 a1)))
set_option maxHeartbeats 4000000 in
set_option maxRecDepth 100000 in
theorem s_X12_judge_33 (h0 : m_H) (a1 : Int) (G0 : GI h0) (n : Nat) (ih : q_X12_judge h0 a1 n) : ∀ (l2 l3 l4 : Int) (h : m_H), GI h → FR [] [(108, 0)] h0 h → (-1) ≤ l3 → l3 ≤ 23 → (-1) ≤ l4 → l4 ≤ 23 → 0 ≤ a1 → a1 ≤ 2 → 2 * (l4 - (-1)) + (31) ≤ ((n + 1 : Nat) : Int) → m_Z oF M_X12_judge 33 [some (mR 108), some (mI a1), some (mI l2), some (mI l3), some (mI l4), none] [] h (m_QI (P_X12_judge h0 a1)) := by
  intro l2 l3 l4 h G R v0 v1 v2 v3 v4 v5 hr
  refine z_ok (fun ostk _ olocs => ?_)
  have ol2 : m_32 l2 := olocs 2 _ rfl
  unfold m_32 at ol2
  refine z_iload (M := M_X12_judge) 33 dX12_judge_33 rfl ?_
  refine z_if_lt (M := M_X12_judge) 35 dX12_judge_35 89 rfl (fun c1 => ?_) (fun c1 => ?_)
  · refine z_iload_n (M := M_X12_judge) 89 dX12_judge_89 rfl ?_
    refine z_iconst (M := M_X12_judge) 90 dX12_judge_90 ?_
    refine z_icmp_ge (M := M_X12_judge) 91 dX12_judge_91 104 rfl (fun c2 => ?_) (fun c2 => ?_)
    · refine z_iload_n (M := M_X12_judge) 104 dX12_judge_104 rfl ?_
      refine z_if_ne (M := M_X12_judge) 105 dX12_judge_105 112 rfl (fun c3 => ?_) (fun c3 => ?_)
      · refine z_iconst (M := M_X12_judge) 112 dX12_judge_112 ?_
        refine z_istore (M := M_X12_judge) 113 dX12_judge_113 (ls' := [some (mR 108), some (mI a1), some (mI l2), some (mI l3), some (mI 0), none]) (by decide) rfl ?_
        refine z_iconst (M := M_X12_judge) 115 dX12_judge_115 ?_
        refine z_istore (M := M_X12_judge) 116 dX12_judge_116 (ls' := [some (mR 108), some (mI a1), some (mI l2), some (mI l3), some (mI 0), some (mI 0)]) (by decide) rfl ?_
        exact z_mask [true, false, false, false, true, true] rfl (ih.2.1 0 0 h G R (by omega) (by omega) (by omega) (by omega) (by omega) (by omega) (by omega))
      · refine z_iconst (M := M_X12_judge) 108 dX12_judge_108 ?_
        refine z_goto (M := M_X12_judge) 109 dX12_judge_109 113 rfl ?_
        refine z_istore (M := M_X12_judge) 113 dX12_judge_113 (ls' := [some (mR 108), some (mI a1), some (mI l2), some (mI l3), some (mI 1), none]) (by decide) rfl ?_
        refine z_iconst (M := M_X12_judge) 115 dX12_judge_115 ?_
        refine z_istore (M := M_X12_judge) 116 dX12_judge_116 (ls' := [some (mR 108), some (mI a1), some (mI l2), some (mI l3), some (mI 1), some (mI 0)]) (by decide) rfl ?_
        exact z_mask [true, false, false, false, true, true] rfl (ih.2.1 1 0 h G R (by omega) (by omega) (by omega) (by omega) (by omega) (by omega) (by omega))
    · refine z_iload_n (M := M_X12_judge) 94 dX12_judge_94 rfl ?_
      refine z_if_ne (M := M_X12_judge) 95 dX12_judge_95 102 rfl (fun c4 => ?_) (fun c4 => ?_)
      · refine z_iload_n (M := M_X12_judge) 102 dX12_judge_102 rfl ?_
        exact z_retI (M := M_X12_judge) 103 dX12_judge_103 rfl ⟨G, R⟩
      · refine z_iload_n (M := M_X12_judge) 98 dX12_judge_98 rfl ?_
        refine z_goto (M := M_X12_judge) 99 dX12_judge_99 103 rfl ?_
        exact z_retI (M := M_X12_judge) 103 dX12_judge_103 rfl ⟨G, R⟩
  · refine z_aload_n (M := M_X12_judge) 38 dX12_judge_38 rfl ?_
    refine z_iload (M := M_X12_judge) 39 dX12_judge_39 rfl ?_
    refine z_iconst (M := M_X12_judge) 41 dX12_judge_41 ?_
    refine z_vI (M := M_X12_judge) 42 dX12_judge_42 t_X12_ofEntry l_X12_195 (m_rr_of rfl) (rest := []) (c_X12_ofEntry h l4 4 G ⟨by omega, by omega⟩ ⟨by omega, by omega⟩) o_108 rfl rfl rfl (Nat.le_of_ble_eq_true rfl) ⟨rfl, rfl⟩ (fun x5 h1 qx5 => ?_)
    obtain ⟨rfl, fx5⟩ := qx5
    have gx5 := gw_e4 G (i := (80 + 5 * l4 + 4)) (e := l4) (by omega) (by omega) (by omega)
    rw [fx5] at gx5
    refine z_iconst (M := M_X12_judge) 45 dX12_judge_45 ?_
    refine z_icmp_ne (M := M_X12_judge) 46 dX12_judge_46 83 rfl (fun c6 => ?_) (fun c6 => ?_)
    · refine z_iincN (M := M_X12_judge) 83 dX12_judge_83 (ls' := [some (mR 108), some (mI a1), some (mI l2), some (mI l3), some (mI (l4 + (-1))), none]) (by decide) rfl (by (unfold m_32; decide)) (by omega) (by omega) rfl ?_
      refine z_goto (M := M_X12_judge) 86 dX12_judge_86 33 rfl ?_
      exact z_mask [true, true, true, true, true, false] rfl (ih.1 l2 l3 (l4 + (-1)) h G R (by omega) (by omega) (by omega) (by omega) (by omega) (by omega) (by omega))
    · refine z_aload_n (M := M_X12_judge) 49 dX12_judge_49 rfl ?_
      refine z_getR (M := M_X12_judge) 50 dX12_judge_50 f_X12_13 o_108 rfl (g_108_3 G) ?_
      refine z_bipush (M := M_X12_judge) 53 dX12_judge_53 ?_
      refine z_aload_n (M := M_X12_judge) 55 dX12_judge_55 rfl ?_
      refine z_iload (M := M_X12_judge) 56 dX12_judge_56 rfl ?_
      refine z_iconst (M := M_X12_judge) 58 dX12_judge_58 ?_
      refine z_vI (M := M_X12_judge) 59 dX12_judge_59 t_X12_ofEntry l_X12_195 (m_rr_of rfl) (rest := [mI 10, mR 110]) (c_X12_ofEntry h l4 1 G ⟨by omega, by omega⟩ ⟨by omega, by omega⟩) o_108 rfl rfl rfl (Nat.le_of_ble_eq_true rfl) ⟨rfl, rfl⟩ (fun x7 h2 qx7 => ?_)
      obtain ⟨rfl, fx7⟩ := qx7
      have gx7 := gw_e1 G (i := (80 + 5 * l4 + 1)) (e := l4) (by omega) (by omega) (by omega)
      rw [fx7] at gx7
      refine z_iaddN (M := M_X12_judge) 62 dX12_judge_62 (by omega) (by omega) ?_
      refine z_ialdG (M := M_X12_judge) 63 dX12_judge_63 o_110 (by omega) (by omega) (gw_w G (by omega) (by omega)) (fun x8 ex8 ax8 bx8 => ?_)
      refine z_iconst (M := M_X12_judge) 64 dX12_judge_64 ?_
      refine z_icmp_eq (M := M_X12_judge) 65 dX12_judge_65 83 rfl (fun c9 => ?_) (fun c9 => ?_)
      · refine z_iincN (M := M_X12_judge) 83 dX12_judge_83 (ls' := [some (mR 108), some (mI a1), some (mI l2), some (mI l3), some (mI (l4 + (-1))), none]) (by decide) rfl (by (unfold m_32; decide)) (by omega) (by omega) rfl ?_
        refine z_goto (M := M_X12_judge) 86 dX12_judge_86 33 rfl ?_
        exact z_mask [true, true, true, true, true, false] rfl (ih.1 l2 l3 (l4 + (-1)) h G R (by omega) (by omega) (by omega) (by omega) (by omega) (by omega) (by omega))
      · refine z_aload_n (M := M_X12_judge) 68 dX12_judge_68 rfl ?_
        refine z_iload (M := M_X12_judge) 69 dX12_judge_69 rfl ?_
        refine z_vI (M := M_X12_judge) 71 dX12_judge_71 t_X12_isSo l_X12_501 (m_rr_of rfl) (rest := []) (c_X12_isSo h l4 G ⟨by omega, by omega⟩) o_108 rfl rfl rfl (Nat.le_of_ble_eq_true rfl) ⟨rfl, rfl⟩ (fun x10 h3 qx10 => ?_)
        obtain ⟨G3, S3, ax10, bx10⟩ := qx10
        have R3 := R.call S3 (by decide +kernel)
        refine z_if_ne (M := M_X12_judge) 74 dX12_judge_74 83 rfl (fun c11 => ?_) (fun c11 => ?_)
        · refine z_iincN (M := M_X12_judge) 83 dX12_judge_83 (ls' := [some (mR 108), some (mI a1), some (mI l2), some (mI l3), some (mI (l4 + (-1))), none]) (by decide) rfl (by (unfold m_32; decide)) (by omega) (by omega) rfl ?_
          refine z_goto (M := M_X12_judge) 86 dX12_judge_86 33 rfl ?_
          exact z_mask [true, true, true, true, true, false] rfl (ih.1 l2 l3 (l4 + (-1)) h3 G3 R3 (by omega) (by omega) (by omega) (by omega) (by omega) (by omega) (by omega))
        · refine z_iincW (M := M_X12_judge) 77 dX12_judge_77 (by decide) rfl (by (unfold m_32; decide)) (fun x12 ox12 => ?_)
          unfold m_32 at ox12
          refine z_ls (ls' := [some (mR 108), some (mI a1), some (mI x12), some (mI l3), some (mI l4), none]) rfl ?_
          refine z_iload (M := M_X12_judge) 80 dX12_judge_80 rfl ?_
          refine z_istore_n (M := M_X12_judge) 82 dX12_judge_82 (ls' := [some (mR 108), some (mI a1), some (mI x12), some (mI l4), some (mI l4), none]) (by decide) rfl ?_
          refine z_iincN (M := M_X12_judge) 83 dX12_judge_83 (ls' := [some (mR 108), some (mI a1), some (mI x12), some (mI l4), some (mI (l4 + (-1))), none]) (by decide) rfl (by (unfold m_32; decide)) (by omega) (by omega) rfl ?_
          refine z_goto (M := M_X12_judge) 86 dX12_judge_86 33 rfl ?_
          exact z_mask [true, true, true, true, true, false] rfl (ih.1 x12 l4 (l4 + (-1)) h3 G3 R3 (by omega) (by omega) (by omega) (by omega) (by omega) (by omega) (by omega))
set_option maxHeartbeats 4000000 in
set_option maxRecDepth 100000 in
theorem s_X12_judge_118 (h0 : m_H) (a1 : Int) (G0 : GI h0) (n : Nat) (ih : q_X12_judge h0 a1 n) : ∀ (l4 l5 : Int) (h : m_H), GI h → FR [] [(108, 0)] h0 h → 0 ≤ l4 → l4 ≤ 1 → 0 ≤ l5 → l5 ≤ 6 → 2 ≤ a1 → a1 ≤ 2 → 2 * (6 - l5) + (16) ≤ ((n + 1 : Nat) : Int) → m_Z oF M_X12_judge 118 [some (mR 108), none, none, none, some (mI l4), some (mI l5)] [] h (m_QI (P_X12_judge h0 a1)) := by
  intro l4 l5 h G R v0 v1 v2 v3 v4 v5 hr
  refine z_iload (M := M_X12_judge) 118 dX12_judge_118 rfl ?_
  refine z_aload_n (M := M_X12_judge) 120 dX12_judge_120 rfl ?_
  refine z_getR (M := M_X12_judge) 121 dX12_judge_121 f_X12_13 o_108 rfl (g_108_3 G) ?_
  refine z_iconst (M := M_X12_judge) 124 dX12_judge_124 ?_
  refine z_ialdG (M := M_X12_judge) 125 dX12_judge_125 o_110 (by omega) (by omega) (gw_1 G) (fun x1 ex1 ax1 bx1 => ?_)
  refine z_icmp_ge (M := M_X12_judge) 126 dX12_judge_126 192 rfl (fun c2 => ?_) (fun c2 => ?_)
  · refine z_iconst (M := M_X12_judge) 192 dX12_judge_192 ?_
    refine z_istore (M := M_X12_judge) 193 dX12_judge_193 (ls' := [some (mR 108), none, none, none, some (mI l4), some (mI 0)]) (by decide) rfl ?_
    exact z_mask [true, false, false, false, true, true] rfl (ih.2.2 l4 0 h G R (by omega) (by omega) (by omega) (by omega) (by omega) (by omega) (by omega))
  · refine z_iload (M := M_X12_judge) 129 dX12_judge_129 rfl ?_
    refine z_if_eq (M := M_X12_judge) 131 dX12_judge_131 183 rfl (fun c3 => ?_) (fun c3 => ?_)
    · refine z_iconst (M := M_X12_judge) 183 dX12_judge_183 ?_
      refine z_istore (M := M_X12_judge) 184 dX12_judge_184 (ls' := [some (mR 108), none, none, none, some (mI 0), some (mI l5)]) (by decide) rfl ?_
      refine z_iincN (M := M_X12_judge) 186 dX12_judge_186 (ls' := [some (mR 108), none, none, none, some (mI 0), some (mI (l5 + 1))]) (by decide) rfl (by (unfold m_32; decide)) (by omega) (by omega) rfl ?_
      refine z_goto (M := M_X12_judge) 189 dX12_judge_189 118 rfl ?_
      exact z_mask [true, false, false, false, true, true] rfl (ih.2.1 0 (l5 + 1) h G R (by omega) (by omega) (by omega) (by omega) (by omega) (by omega) (by omega))
    · refine z_aload_n (M := M_X12_judge) 134 dX12_judge_134 rfl ?_
      refine z_getR (M := M_X12_judge) 135 dX12_judge_135 f_X12_13 o_108 rfl (g_108_3 G) ?_
      refine z_bipush (M := M_X12_judge) 138 dX12_judge_138 ?_
      refine z_aload_n (M := M_X12_judge) 140 dX12_judge_140 rfl ?_
      refine z_getR (M := M_X12_judge) 141 dX12_judge_141 f_X12_13 o_108 rfl (g_108_3 G) ?_
      refine z_bipush (M := M_X12_judge) 144 dX12_judge_144 ?_
      refine z_iconst (M := M_X12_judge) 146 dX12_judge_146 ?_
      refine z_iload (M := M_X12_judge) 147 dX12_judge_147 rfl ?_
      refine z_imulN (M := M_X12_judge) 149 dX12_judge_149 (by omega) (by omega) ?_
      refine z_iaddN (M := M_X12_judge) 150 dX12_judge_150 (by omega) (by omega) ?_
      refine z_ialdG (M := M_X12_judge) 151 dX12_judge_151 o_110 (by omega) (by omega) (gw_s G (by omega) (by omega)) (fun x4 ex4 ax4 bx4 => ?_)
      refine z_iaddN (M := M_X12_judge) 152 dX12_judge_152 (by omega) (by omega) ?_
      refine z_ialdG (M := M_X12_judge) 153 dX12_judge_153 o_110 (by omega) (by omega) (gw_l G (by omega) (by omega)) (fun x5 ex5 ax5 bx5 => ?_)
      refine z_aload_n (M := M_X12_judge) 154 dX12_judge_154 rfl ?_
      refine z_getR (M := M_X12_judge) 155 dX12_judge_155 f_X12_13 o_108 rfl (g_108_3 G) ?_
      refine z_bipush (M := M_X12_judge) 158 dX12_judge_158 ?_
      refine z_aload_n (M := M_X12_judge) 160 dX12_judge_160 rfl ?_
      refine z_getR (M := M_X12_judge) 161 dX12_judge_161 f_X12_13 o_108 rfl (g_108_3 G) ?_
      refine z_bipush (M := M_X12_judge) 164 dX12_judge_164 ?_
      refine z_iconst (M := M_X12_judge) 166 dX12_judge_166 ?_
      refine z_iload (M := M_X12_judge) 167 dX12_judge_167 rfl ?_
      refine z_imulN (M := M_X12_judge) 169 dX12_judge_169 (by omega) (by omega) ?_
      refine z_iaddN (M := M_X12_judge) 170 dX12_judge_170 (by omega) (by omega) ?_
      refine z_iconst (M := M_X12_judge) 171 dX12_judge_171 ?_
      refine z_iaddN (M := M_X12_judge) 172 dX12_judge_172 (by omega) (by omega) ?_
      refine z_ialdG (M := M_X12_judge) 173 dX12_judge_173 o_110 (by omega) (by omega) (gw_s G (by omega) (by omega)) (fun x6 ex6 ax6 bx6 => ?_)
      refine z_iaddN (M := M_X12_judge) 174 dX12_judge_174 (by omega) (by omega) ?_
      refine z_ialdG (M := M_X12_judge) 175 dX12_judge_175 o_110 (by omega) (by omega) (gw_l G (by omega) (by omega)) (fun x7 ex7 ax7 bx7 => ?_)
      refine z_icmp_ge (M := M_X12_judge) 176 dX12_judge_176 183 rfl (fun c8 => ?_) (fun c8 => ?_)
      · refine z_iconst (M := M_X12_judge) 183 dX12_judge_183 ?_
        refine z_istore (M := M_X12_judge) 184 dX12_judge_184 (ls' := [some (mR 108), none, none, none, some (mI 0), some (mI l5)]) (by decide) rfl ?_
        refine z_iincN (M := M_X12_judge) 186 dX12_judge_186 (ls' := [some (mR 108), none, none, none, some (mI 0), some (mI (l5 + 1))]) (by decide) rfl (by (unfold m_32; decide)) (by omega) (by omega) rfl ?_
        refine z_goto (M := M_X12_judge) 189 dX12_judge_189 118 rfl ?_
        exact z_mask [true, false, false, false, true, true] rfl (ih.2.1 0 (l5 + 1) h G R (by omega) (by omega) (by omega) (by omega) (by omega) (by omega) (by omega))
      · refine z_iconst (M := M_X12_judge) 179 dX12_judge_179 ?_
        refine z_goto (M := M_X12_judge) 180 dX12_judge_180 184 rfl ?_
        refine z_istore (M := M_X12_judge) 184 dX12_judge_184 (ls' := [some (mR 108), none, none, none, some (mI 1), some (mI l5)]) (by decide) rfl ?_
        refine z_iincN (M := M_X12_judge) 186 dX12_judge_186 (ls' := [some (mR 108), none, none, none, some (mI 1), some (mI (l5 + 1))]) (by decide) rfl (by (unfold m_32; decide)) (by omega) (by omega) rfl ?_
        refine z_goto (M := M_X12_judge) 189 dX12_judge_189 118 rfl ?_
        exact z_mask [true, false, false, false, true, true] rfl (ih.2.1 1 (l5 + 1) h G R (by omega) (by omega) (by omega) (by omega) (by omega) (by omega) (by omega))
set_option maxHeartbeats 4000000 in
set_option maxRecDepth 100000 in
theorem s_X12_judge_195 (h0 : m_H) (a1 : Int) (G0 : GI h0) (n : Nat) (ih : q_X12_judge h0 a1 n) : ∀ (l4 l5 : Int) (h : m_H), GI h → FR [] [(108, 0)] h0 h → 0 ≤ l4 → l4 ≤ 1 → 0 ≤ l5 → l5 ≤ 6 → 2 ≤ a1 → a1 ≤ 2 → 2 * (6 - l5) + (1) ≤ ((n + 1 : Nat) : Int) → m_Z oF M_X12_judge 195 [some (mR 108), none, none, none, some (mI l4), some (mI l5)] [] h (m_QI (P_X12_judge h0 a1)) := by
  intro l4 l5 h G R v0 v1 v2 v3 v4 v5 hr
  refine z_iload (M := M_X12_judge) 195 dX12_judge_195 rfl ?_
  refine z_bipush (M := M_X12_judge) 197 dX12_judge_197 ?_
  refine z_icmp_ge (M := M_X12_judge) 199 dX12_judge_199 257 rfl (fun c1 => ?_) (fun c1 => ?_)
  · refine z_iload (M := M_X12_judge) 257 dX12_judge_257 rfl ?_
    refine z_if_eq (M := M_X12_judge) 259 dX12_judge_259 266 rfl (fun c2 => ?_) (fun c2 => ?_)
    · refine z_iconst (M := M_X12_judge) 266 dX12_judge_266 ?_
      exact z_retI (M := M_X12_judge) 267 dX12_judge_267 rfl ⟨G, R⟩
    · refine z_iconst (M := M_X12_judge) 262 dX12_judge_262 ?_
      refine z_goto (M := M_X12_judge) 263 dX12_judge_263 267 rfl ?_
      exact z_retI (M := M_X12_judge) 267 dX12_judge_267 rfl ⟨G, R⟩
  · refine z_iload (M := M_X12_judge) 202 dX12_judge_202 rfl ?_
    refine z_if_eq (M := M_X12_judge) 204 dX12_judge_204 248 rfl (fun c3 => ?_) (fun c3 => ?_)
    · refine z_iconst (M := M_X12_judge) 248 dX12_judge_248 ?_
      refine z_istore (M := M_X12_judge) 249 dX12_judge_249 (ls' := [some (mR 108), none, none, none, some (mI 0), some (mI l5)]) (by decide) rfl ?_
      refine z_iincN (M := M_X12_judge) 251 dX12_judge_251 (ls' := [some (mR 108), none, none, none, some (mI 0), some (mI (l5 + 1))]) (by decide) rfl (by (unfold m_32; decide)) (by omega) (by omega) rfl ?_
      refine z_goto (M := M_X12_judge) 254 dX12_judge_254 195 rfl ?_
      exact z_mask [true, false, false, false, true, true] rfl (ih.2.2 0 (l5 + 1) h G R (by omega) (by omega) (by omega) (by omega) (by omega) (by omega) (by omega))
    · refine z_aload_n (M := M_X12_judge) 207 dX12_judge_207 rfl ?_
      refine z_getR (M := M_X12_judge) 208 dX12_judge_208 f_X12_13 o_108 rfl (g_108_3 G) ?_
      refine z_bipush (M := M_X12_judge) 211 dX12_judge_211 ?_
      refine z_iload (M := M_X12_judge) 213 dX12_judge_213 rfl ?_
      refine z_iaddN (M := M_X12_judge) 215 dX12_judge_215 (by omega) (by omega) ?_
      refine z_ialdG (M := M_X12_judge) 216 dX12_judge_216 o_110 (by omega) (by omega) (gw_c G (by omega) (by omega)) (fun x4 ex4 ax4 bx4 => ?_)
      refine z_iconst (M := M_X12_judge) 217 dX12_judge_217 ?_
      refine z_icmp_eq (M := M_X12_judge) 218 dX12_judge_218 244 rfl (fun c5 => ?_) (fun c5 => ?_)
      · refine z_iconst (M := M_X12_judge) 244 dX12_judge_244 ?_
        refine z_goto (M := M_X12_judge) 245 dX12_judge_245 249 rfl ?_
        refine z_istore (M := M_X12_judge) 249 dX12_judge_249 (ls' := [some (mR 108), none, none, none, some (mI 1), some (mI l5)]) (by decide) rfl ?_
        refine z_iincN (M := M_X12_judge) 251 dX12_judge_251 (ls' := [some (mR 108), none, none, none, some (mI 1), some (mI (l5 + 1))]) (by decide) rfl (by (unfold m_32; decide)) (by omega) (by omega) rfl ?_
        refine z_goto (M := M_X12_judge) 254 dX12_judge_254 195 rfl ?_
        exact z_mask [true, false, false, false, true, true] rfl (ih.2.2 1 (l5 + 1) h G R (by omega) (by omega) (by omega) (by omega) (by omega) (by omega) (by omega))
      · refine z_aload_n (M := M_X12_judge) 221 dX12_judge_221 rfl ?_
        refine z_getR (M := M_X12_judge) 222 dX12_judge_222 f_X12_13 o_108 rfl (g_108_3 G) ?_
        refine z_bipush (M := M_X12_judge) 225 dX12_judge_225 ?_
        refine z_iload (M := M_X12_judge) 227 dX12_judge_227 rfl ?_
        refine z_iaddN (M := M_X12_judge) 229 dX12_judge_229 (by omega) (by omega) ?_
        refine z_ialdG (M := M_X12_judge) 230 dX12_judge_230 o_110 (by omega) (by omega) (gw_l G (by omega) (by omega)) (fun x6 ex6 ax6 bx6 => ?_)
        refine z_aload_n (M := M_X12_judge) 231 dX12_judge_231 rfl ?_
        refine z_getR (M := M_X12_judge) 232 dX12_judge_232 f_X12_13 o_108 rfl (g_108_3 G) ?_
        refine z_bipush (M := M_X12_judge) 235 dX12_judge_235 ?_
        refine z_iload (M := M_X12_judge) 237 dX12_judge_237 rfl ?_
        refine z_iaddN (M := M_X12_judge) 239 dX12_judge_239 (by omega) (by omega) ?_
        refine z_ialdG (M := M_X12_judge) 240 dX12_judge_240 o_110 (by omega) (by omega) (gw_l G (by omega) (by omega)) (fun x7 ex7 ax7 bx7 => ?_)
        refine z_icmp_gt (M := M_X12_judge) 241 dX12_judge_241 248 rfl (fun c8 => ?_) (fun c8 => ?_)
        · refine z_iconst (M := M_X12_judge) 248 dX12_judge_248 ?_
          refine z_istore (M := M_X12_judge) 249 dX12_judge_249 (ls' := [some (mR 108), none, none, none, some (mI 0), some (mI l5)]) (by decide) rfl ?_
          refine z_iincN (M := M_X12_judge) 251 dX12_judge_251 (ls' := [some (mR 108), none, none, none, some (mI 0), some (mI (l5 + 1))]) (by decide) rfl (by (unfold m_32; decide)) (by omega) (by omega) rfl ?_
          refine z_goto (M := M_X12_judge) 254 dX12_judge_254 195 rfl ?_
          exact z_mask [true, false, false, false, true, true] rfl (ih.2.2 0 (l5 + 1) h G R (by omega) (by omega) (by omega) (by omega) (by omega) (by omega) (by omega))
        · refine z_iconst (M := M_X12_judge) 244 dX12_judge_244 ?_
          refine z_goto (M := M_X12_judge) 245 dX12_judge_245 249 rfl ?_
          refine z_istore (M := M_X12_judge) 249 dX12_judge_249 (ls' := [some (mR 108), none, none, none, some (mI 1), some (mI l5)]) (by decide) rfl ?_
          refine z_iincN (M := M_X12_judge) 251 dX12_judge_251 (ls' := [some (mR 108), none, none, none, some (mI 1), some (mI (l5 + 1))]) (by decide) rfl (by (unfold m_32; decide)) (by omega) (by omega) rfl ?_
          refine z_goto (M := M_X12_judge) 254 dX12_judge_254 195 rfl ?_
          exact z_mask [true, false, false, false, true, true] rfl (ih.2.2 1 (l5 + 1) h G R (by omega) (by omega) (by omega) (by omega) (by omega) (by omega) (by omega))
theorem a_X12_judge (h0 : m_H) (a1 : Int) (G0 : GI h0) : ∀ n, q_X12_judge h0 a1 n := by
  intro n
  induction n with
  | zero => unfold q_X12_judge; refine ⟨?_, ?_, ?_⟩ <;> (intros; omega)
  | succ n ih => exact ⟨s_X12_judge_33 h0 a1 G0 n ih, s_X12_judge_118 h0 a1 G0 n ih, s_X12_judge_195 h0 a1 G0 n ih⟩
set_option maxHeartbeats 4000000 in
set_option maxRecDepth 100000 in
theorem c_X12_judge (h0 : m_H) (a1 : Int) (G0 : GI h0) : m_CI M_X12_judge [mR 108, mI a1] h0 (P_X12_judge h0 a1) := by
  refine m_CI_of ⟨by decide, rfl, by simp [m_arg, m_isL, M_X12_judge], ⟨rfl, rfl⟩, rfl, rfl⟩ (ls := [some (mR 108), some (mI a1), none, none, none, none]) rfl ?_
  have ih := a_X12_judge h0 a1 G0 86
  refine z_ok (fun _ _ ok => ?_)
  have oa1 : m_32 a1 := ok 1 _ rfl
  unfold m_32 at oa1
  refine z_aload_n (M := M_X12_judge) 0 dX12_judge_0 rfl ?_
  refine z_iconst (M := M_X12_judge) 1 dX12_judge_1 ?_
  refine z_putIH (M := M_X12_judge) 2 dX12_judge_2 p_X12_133 o_108 rfl (u_108_0 G0) ((FR.rf (cs := []) (ss := [(108, 0)]) (h := h0)).up rfl) (fun h1 E1 G1 R1 => ?_)
  refine z_iload_n (M := M_X12_judge) 5 dX12_judge_5 rfl ?_
  refine z_i2l (M := M_X12_judge) 6 dX12_judge_6 ?_
  refine z_lconst (M := M_X12_judge) 7 dX12_judge_7 (v := 0) ?_
  refine z_ldc2 (M := M_X12_judge) 8 dX12_judge_8 k_X12_182 ?_
  refine z_sI (M := M_X12_judge) 11 dX12_judge_11 t_X12_in l_X12_143 (m_rr_of rfl) (rest := []) (c_X12_in h1 a1 0 2 G1) rfl rfl (Nat.le_of_ble_eq_true rfl) ⟨rfl, rfl⟩ (fun x1 h2 qx1 => ?_)
  obtain ⟨rfl, ⟨rfl, cx1⟩ | ⟨rfl, cx1⟩⟩ := qx1
  · refine z_if_ne_T (M := M_X12_judge) 14 dX12_judge_14 19 rfl (by omega) ?_
    refine z_iconst (M := M_X12_judge) 19 dX12_judge_19 ?_
    refine z_istore_n (M := M_X12_judge) 20 dX12_judge_20 (ls' := [some (mR 108), some (mI a1), some (mI 0), none, none, none]) (by decide) rfl ?_
    refine z_iconst (M := M_X12_judge) 21 dX12_judge_21 ?_
    refine z_istore_n (M := M_X12_judge) 22 dX12_judge_22 (ls' := [some (mR 108), some (mI a1), some (mI 0), some (mI (-1)), none, none]) (by decide) rfl ?_
    refine z_aload_n (M := M_X12_judge) 23 dX12_judge_23 rfl ?_
    refine z_getR (M := M_X12_judge) 24 dX12_judge_24 f_X12_13 o_108 rfl (g_108_3 G1) ?_
    refine z_iconst (M := M_X12_judge) 27 dX12_judge_27 ?_
    refine z_ialdG (M := M_X12_judge) 28 dX12_judge_28 o_110 (by omega) (by omega) (gw_0 G1) (fun x2 ex2 ax2 bx2 => ?_)
    refine z_iconst (M := M_X12_judge) 29 dX12_judge_29 ?_
    refine z_isubN (M := M_X12_judge) 30 dX12_judge_30 (by omega) (by omega) ?_
    refine z_istore (M := M_X12_judge) 31 dX12_judge_31 (ls' := [some (mR 108), some (mI a1), some (mI 0), some (mI (-1)), some (mI (x2 - 1)), none]) (by decide) rfl ?_
    exact z_mask [true, true, true, true, true, false] rfl (ih.1 0 (-1) (x2 - 1) h1 G1 R1 (by omega) (by omega) (by omega) (by omega) (by omega) (by omega) (by omega))
  · refine z_if_ne_F (M := M_X12_judge) 14 dX12_judge_14 19 rfl (by omega) ?_
    refine z_iconst (M := M_X12_judge) 17 dX12_judge_17 ?_
    exact z_retI (M := M_X12_judge) 18 dX12_judge_18 rfl ⟨G1, R1⟩
abbrev P_X12_year (h0 : m_H) (a1 a2 a3 : Int) : Int → m_H → Prop := fun x h' => GI h' ∧ FR [109, 147] [(108, 0), (108, 1), (108, 60), (108, 61), (108, 62)] h0 h' ∧ (-1) ≤ x ∧ x ≤ 2147483647
def q_X12_year (h0 : m_H) (a1 a2 a3 : Int) (n : Nat) : Prop := (∀ (l4 l6 : Int) (h : m_H), GI h → FR [109, 147] [(108, 0), (108, 1), (108, 60), (108, 61), (108, 62)] h0 h → 0 ≤ l4 → l4 ≤ 1000002 → 0 ≤ l6 → l6 ≤ 32 → 0 ≤ a1 → a1 ≤ 1000000 → 0 ≤ a2 → a2 ≤ 5 → 1 ≤ a3 → a3 ≤ 99 → 2 * (32 - l6) + (2213) ≤ (n : Int) → m_Z oF M_X12_year 49 [some (mR 108), none, some (mI a2), some (mI a3), some (mJ l4), none, some (mI l6), none, none, none] [] h (m_QI (P_X12_year h0 a1 a2 a3))) ∧ (∀ (l6 l7 : Int) (h : m_H), GI h → FR [109, 147] [(108, 0), (108, 1), (108, 60), (108, 61), (108, 62)] h0 h → 0 ≤ l6 → l6 ≤ 2147483647 → 0 ≤ l7 → l7 ≤ 32 → 0 ≤ a1 → a1 ≤ 1000000 → 0 ≤ a2 → a2 ≤ 5 → 1 ≤ a3 → a3 ≤ 99 → 67 * (32 - l7) + (66) ≤ (n : Int) → m_Z oF M_X12_year 113 [some (mR 108), none, some (mI a2), some (mI a3), none, none, some (mI l6), some (mI l7), none, none] [] h (m_QI (P_X12_year h0 a1 a2 a3))) ∧ (∀ (l6 l7 l8 : Int) (h : m_H), GI h → FR [109, 147] [(108, 0), (108, 1), (108, 60), (108, 61), (108, 62)] h0 h → 0 ≤ l6 → l6 ≤ 2147483647 → 0 ≤ l7 → l7 ≤ 31 → 1 ≤ l8 → l8 ≤ 32 → 0 ≤ a1 → a1 ≤ 1000000 → 0 ≤ a2 → a2 ≤ 5 → 1 ≤ a3 → a3 ≤ 99 → 67 * (32 - l7) + 2 * (32 - l8) + (1) ≤ (n : Int) → m_Z oF M_X12_year 126 [some (mR 108), none, some (mI a2), some (mI a3), none, none, some (mI l6), some (mI l7), some (mI l8), none] [] h (m_QI (P_X12_year h0 a1 a2 a3)))
set_option maxHeartbeats 4000000 in
set_option maxRecDepth 100000 in
theorem s_X12_year_49 (h0 : m_H) (a1 a2 a3 : Int) (G0 : GI h0) (n : Nat) (ih : q_X12_year h0 a1 a2 a3 n) : ∀ (l4 l6 : Int) (h : m_H), GI h → FR [109, 147] [(108, 0), (108, 1), (108, 60), (108, 61), (108, 62)] h0 h → 0 ≤ l4 → l4 ≤ 1000002 → 0 ≤ l6 → l6 ≤ 32 → 0 ≤ a1 → a1 ≤ 1000000 → 0 ≤ a2 → a2 ≤ 5 → 1 ≤ a3 → a3 ≤ 99 → 2 * (32 - l6) + (2213) ≤ ((n + 1 : Nat) : Int) → m_Z oF M_X12_year 49 [some (mR 108), none, some (mI a2), some (mI a3), some (mJ l4), none, some (mI l6), none, none, none] [] h (m_QI (P_X12_year h0 a1 a2 a3)) := by
  intro l4 l6 h G R v0 v1 v2 v3 v4 v5 v6 v7 v8 v9 hr
  refine z_iload (M := M_X12_year) 49 dX12_year_49 rfl ?_
  refine z_bipush (M := M_X12_year) 51 dX12_year_51 ?_
  refine z_icmp_ge (M := M_X12_year) 53 dX12_year_53 92 rfl (fun c1 => ?_) (fun c1 => ?_)
  · refine z_aload_n (M := M_X12_year) 92 dX12_year_92 rfl ?_
    refine z_iconst (M := M_X12_year) 93 dX12_year_93 ?_
    refine z_putZH (M := M_X12_year) 94 dX12_year_94 p_X12_512 o_108 rfl (by omega) (u_108_60 G (by omega) (by omega)) (R.up rfl) (fun h1 E1 G1 R1 => ?_)
    refine z_aload_n (M := M_X12_year) 97 dX12_year_97 rfl ?_
    refine z_iconst (M := M_X12_year) 98 dX12_year_98 ?_
    refine z_putIH (M := M_X12_year) 99 dX12_year_99 p_X12_515 o_108 rfl (u_108_61 G1 (by omega) (by omega)) (R1.up rfl) (fun h2 E2 G2 R2 => ?_)
    refine z_aload_n (M := M_X12_year) 102 dX12_year_102 rfl ?_
    refine z_iconst (M := M_X12_year) 103 dX12_year_103 ?_
    refine z_putIH (M := M_X12_year) 104 dX12_year_104 p_X12_518 o_108 rfl (u_108_62 G2 (by omega) (by omega)) (R2.up rfl) (fun h3 E3 G3 R3 => ?_)
    refine z_iconst (M := M_X12_year) 107 dX12_year_107 ?_
    refine z_istore (M := M_X12_year) 108 dX12_year_108 (ls' := [some (mR 108), none, some (mI a2), some (mI a3), some (mJ l4), none, some (mI 0), none, none, none]) (by decide) rfl ?_
    refine z_iconst (M := M_X12_year) 110 dX12_year_110 ?_
    refine z_istore (M := M_X12_year) 111 dX12_year_111 (ls' := [some (mR 108), none, some (mI a2), some (mI a3), some (mJ l4), none, some (mI 0), some (mI 0), none, none]) (by decide) rfl ?_
    exact z_mask [true, false, true, true, false, false, true, true, false, false] rfl (ih.2.1 0 0 h3 G3 R3 (by omega) (by omega) (by omega) (by omega) (by omega) (by omega) (by omega) (by omega) (by omega) (by omega) (by omega))
  · refine z_lload (M := M_X12_year) 56 dX12_year_56 rfl ?_
    refine z_ldc2 (M := M_X12_year) 58 dX12_year_58 k_X12_504 ?_
    refine z_lmulN (M := M_X12_year) 61 dX12_year_61 (by omega) (by omega) ?_
    refine z_ldc2 (M := M_X12_year) 62 dX12_year_62 k_X12_506 ?_
    refine z_laddN (M := M_X12_year) 65 dX12_year_65 (by omega) (by omega) ?_
    refine z_ldc2 (M := M_X12_year) 66 dX12_year_66 k_X12_508 ?_
    refine z_lremN (M := M_X12_year) 69 dX12_year_69 (by omega) (by omega) ?_
    refine z_topBJ (lo := 0) (hi := 1000002) ⟨by omega, by omega⟩ (fun x2 ex2 ax2 bx2 => ?_)
    refine z_lstore (M := M_X12_year) 70 dX12_year_70 (ls' := [some (mR 108), none, some (mI a2), some (mI a3), some (mJ x2), none, some (mI l6), none, none, none]) (by decide) rfl ?_
    refine z_aload_n (M := M_X12_year) 72 dX12_year_72 rfl ?_
    refine z_getR (M := M_X12_year) 73 dX12_year_73 f_X12_130 o_108 rfl (g_108_59 G) ?_
    refine z_iload (M := M_X12_year) 76 dX12_year_76 rfl ?_
    refine z_lload (M := M_X12_year) 78 dX12_year_78 rfl ?_
    refine z_ldc2 (M := M_X12_year) 80 dX12_year_80 k_X12_510 ?_
    refine z_lremN (M := M_X12_year) 83 dX12_year_83 (by omega) (by omega) ?_
    refine z_topBJ (lo := 0) (hi := 3) ⟨by omega, by omega⟩ (fun x3 ex3 ax3 bx3 => ?_)
    refine z_l2iN (M := M_X12_year) 84 dX12_year_84 (by omega) (by omega) ?_
    refine z_iastH (M := M_X12_year) 85 dX12_year_85 o_147 (by omega) (by omega) (u_147 G (by omega) (by omega)) (R.up rfl) (fun h4 E4 G4 R4 => ?_)
    refine z_iincN (M := M_X12_year) 86 dX12_year_86 (ls' := [some (mR 108), none, some (mI a2), some (mI a3), some (mJ x2), none, some (mI (l6 + 1)), none, none, none]) (by decide) rfl (by (unfold m_32; decide)) (by omega) (by omega) rfl ?_
    refine z_goto (M := M_X12_year) 89 dX12_year_89 49 rfl ?_
    exact z_mask [true, false, true, true, true, false, true, false, false, false] rfl (ih.1 x2 (l6 + 1) h4 G4 R4 (by omega) (by omega) (by omega) (by omega) (by omega) (by omega) (by omega) (by omega) (by omega) (by omega) (by omega))
set_option maxHeartbeats 4000000 in
set_option maxRecDepth 100000 in
theorem s_X12_year_113 (h0 : m_H) (a1 a2 a3 : Int) (G0 : GI h0) (n : Nat) (ih : q_X12_year h0 a1 a2 a3 n) : ∀ (l6 l7 : Int) (h : m_H), GI h → FR [109, 147] [(108, 0), (108, 1), (108, 60), (108, 61), (108, 62)] h0 h → 0 ≤ l6 → l6 ≤ 2147483647 → 0 ≤ l7 → l7 ≤ 32 → 0 ≤ a1 → a1 ≤ 1000000 → 0 ≤ a2 → a2 ≤ 5 → 1 ≤ a3 → a3 ≤ 99 → 67 * (32 - l7) + (66) ≤ ((n + 1 : Nat) : Int) → m_Z oF M_X12_year 113 [some (mR 108), none, some (mI a2), some (mI a3), none, none, some (mI l6), some (mI l7), none, none] [] h (m_QI (P_X12_year h0 a1 a2 a3)) := by
  intro l6 l7 h G R v0 v1 v2 v3 v4 v5 v6 v7 v8 v9 hr
  refine z_iload (M := M_X12_year) 113 dX12_year_113 rfl ?_
  refine z_bipush (M := M_X12_year) 115 dX12_year_115 ?_
  refine z_icmp_ge (M := M_X12_year) 117 dX12_year_117 197 rfl (fun c1 => ?_) (fun c1 => ?_)
  · refine z_aload_n (M := M_X12_year) 197 dX12_year_197 rfl ?_
    refine z_iload (M := M_X12_year) 198 dX12_year_198 rfl ?_
    refine z_vI (M := M_X12_year) 200 dX12_year_200 t_X12_answer l_X12_147 (m_rr_of rfl) (rest := []) (c_X12_answer h l6 G ⟨by omega, by omega⟩) o_108 rfl rfl rfl (Nat.le_of_ble_eq_true rfl) ⟨rfl, rfl⟩ (fun x2 h1 qx2 => ?_)
    obtain ⟨G1, S1, rfl⟩ := qx2
    have R1 := R.call S1 (by decide +kernel)
    exact z_retI (M := M_X12_year) 203 dX12_year_203 rfl ⟨G1, R1, by omega, by omega⟩
  · refine z_iload (M := M_X12_year) 120 dX12_year_120 rfl ?_
    refine z_iconst (M := M_X12_year) 122 dX12_year_122 ?_
    refine z_iaddN (M := M_X12_year) 123 dX12_year_123 (by omega) (by omega) ?_
    refine z_istore (M := M_X12_year) 124 dX12_year_124 (ls' := [some (mR 108), none, some (mI a2), some (mI a3), none, none, some (mI l6), some (mI l7), some (mI (l7 + 1)), none]) (by decide) rfl ?_
    exact z_mask [true, false, true, true, false, false, true, true, true, false] rfl (ih.2.2 l6 l7 (l7 + 1) h G R (by omega) (by omega) (by omega) (by omega) (by omega) (by omega) (by omega) (by omega) (by omega) (by omega) (by omega) (by omega) (by omega))
set_option maxHeartbeats 4000000 in
set_option maxRecDepth 100000 in
theorem s_X12_year_126 (h0 : m_H) (a1 a2 a3 : Int) (G0 : GI h0) (n : Nat) (ih : q_X12_year h0 a1 a2 a3 n) : ∀ (l6 l7 l8 : Int) (h : m_H), GI h → FR [109, 147] [(108, 0), (108, 1), (108, 60), (108, 61), (108, 62)] h0 h → 0 ≤ l6 → l6 ≤ 2147483647 → 0 ≤ l7 → l7 ≤ 31 → 1 ≤ l8 → l8 ≤ 32 → 0 ≤ a1 → a1 ≤ 1000000 → 0 ≤ a2 → a2 ≤ 5 → 1 ≤ a3 → a3 ≤ 99 → 67 * (32 - l7) + 2 * (32 - l8) + (1) ≤ ((n + 1 : Nat) : Int) → m_Z oF M_X12_year 126 [some (mR 108), none, some (mI a2), some (mI a3), none, none, some (mI l6), some (mI l7), some (mI l8), none] [] h (m_QI (P_X12_year h0 a1 a2 a3)) := by
  intro l6 l7 l8 h G R v0 v1 v2 v3 v4 v5 v6 v7 v8 v9 v10 v11 hr
  refine z_iload (M := M_X12_year) 126 dX12_year_126 rfl ?_
  refine z_bipush (M := M_X12_year) 128 dX12_year_128 ?_
  refine z_icmp_ge (M := M_X12_year) 130 dX12_year_130 191 rfl (fun c1 => ?_) (fun c1 => ?_)
  · refine z_iincN (M := M_X12_year) 191 dX12_year_191 (ls' := [some (mR 108), none, some (mI a2), some (mI a3), none, none, some (mI l6), some (mI (l7 + 1)), some (mI l8), none]) (by decide) rfl (by (unfold m_32; decide)) (by omega) (by omega) rfl ?_
    refine z_goto (M := M_X12_year) 194 dX12_year_194 113 rfl ?_
    exact z_mask [true, false, true, true, false, false, true, true, false, false] rfl (ih.2.1 l6 (l7 + 1) h G R (by omega) (by omega) (by omega) (by omega) (by omega) (by omega) (by omega) (by omega) (by omega) (by omega) (by omega))
  · refine z_iload_n (M := M_X12_year) 133 dX12_year_133 rfl ?_
    refine z_aload_n (M := M_X12_year) 134 dX12_year_134 rfl ?_
    refine z_iload_n (M := M_X12_year) 135 dX12_year_135 rfl ?_
    refine z_aload_n (M := M_X12_year) 136 dX12_year_136 rfl ?_
    refine z_getR (M := M_X12_year) 137 dX12_year_137 f_X12_130 o_108 rfl (g_108_59 G) ?_
    refine z_iload (M := M_X12_year) 140 dX12_year_140 rfl ?_
    refine z_ialdG (M := M_X12_year) 142 dX12_year_142 o_147 (by omega) (by omega) (g_147 G (by omega)) (fun x2 ex2 ax2 bx2 => ?_)
    refine z_vI (M := M_X12_year) 143 dX12_year_143 t_X12_feetOf l_X12_521 (m_rr_of rfl) (rest := [mI a3]) (c_X12_feetOf h a2 x2 G ⟨by omega, by omega⟩ ⟨by omega, by omega⟩) o_108 rfl rfl rfl (Nat.le_of_ble_eq_true rfl) ⟨rfl, rfl⟩ (fun x3 h1 qx3 => ?_)
    obtain ⟨G1, S1, ax3, bx3⟩ := qx3
    have R1 := R.call S1 (by decide +kernel)
    refine z_aload_n (M := M_X12_year) 146 dX12_year_146 rfl ?_
    refine z_iload_n (M := M_X12_year) 147 dX12_year_147 rfl ?_
    refine z_aload_n (M := M_X12_year) 148 dX12_year_148 rfl ?_
    refine z_getR (M := M_X12_year) 149 dX12_year_149 f_X12_130 o_108 rfl (g_108_59 G1) ?_
    refine z_iload (M := M_X12_year) 152 dX12_year_152 rfl ?_
    refine z_ialdG (M := M_X12_year) 154 dX12_year_154 o_147 (by omega) (by omega) (g_147 G1 (by omega)) (fun x4 ex4 ax4 bx4 => ?_)
    refine z_vI (M := M_X12_year) 155 dX12_year_155 t_X12_feetOf l_X12_521 (m_rr_of rfl) (rest := [mI x3, mI a3]) (c_X12_feetOf h1 a2 x4 G1 ⟨by omega, by omega⟩ ⟨by omega, by omega⟩) o_108 rfl rfl rfl (Nat.le_of_ble_eq_true rfl) ⟨rfl, rfl⟩ (fun x5 h2 qx5 => ?_)
    obtain ⟨G2, S2, ax5, bx5⟩ := qx5
    have R2 := R1.call S2 (by decide +kernel)
    refine z_isubN (M := M_X12_year) 158 dX12_year_158 (by omega) (by omega) ?_
    refine z_imul (M := M_X12_year) 159 dX12_year_159 ?_
    refine z_topm (fun x6 ex6 ox6 => ?_)
    unfold m_32 at ox6
    refine z_istore (M := M_X12_year) 160 dX12_year_160 (ls' := [some (mR 108), none, some (mI a2), some (mI a3), none, none, some (mI l6), some (mI l7), some (mI l8), some (mI x6)]) (by decide) rfl ?_
    refine z_iload (M := M_X12_year) 162 dX12_year_162 rfl ?_
    refine z_iload (M := M_X12_year) 164 dX12_year_164 rfl ?_
    refine z_icmp_le (M := M_X12_year) 166 dX12_year_166 185 rfl (fun c7 => ?_) (fun c7 => ?_)
    · refine z_iincN (M := M_X12_year) 185 dX12_year_185 (ls' := [some (mR 108), none, some (mI a2), some (mI a3), none, none, some (mI l6), some (mI l7), some (mI (l8 + 1)), some (mI x6)]) (by decide) rfl (by (unfold m_32; decide)) (by omega) (by omega) rfl ?_
      refine z_goto (M := M_X12_year) 188 dX12_year_188 126 rfl ?_
      exact z_mask [true, false, true, true, false, false, true, true, true, false] rfl (ih.2.2 l6 l7 (l8 + 1) h2 G2 R2 (by omega) (by omega) (by omega) (by omega) (by omega) (by omega) (by omega) (by omega) (by omega) (by omega) (by omega) (by omega) (by omega))
    · refine z_iload (M := M_X12_year) 169 dX12_year_169 rfl ?_
      refine z_istore (M := M_X12_year) 171 dX12_year_171 (ls' := [some (mR 108), none, some (mI a2), some (mI a3), none, none, some (mI x6), some (mI l7), some (mI l8), some (mI x6)]) (by decide) rfl ?_
      refine z_aload_n (M := M_X12_year) 173 dX12_year_173 rfl ?_
      refine z_iload (M := M_X12_year) 174 dX12_year_174 rfl ?_
      refine z_putIH (M := M_X12_year) 176 dX12_year_176 p_X12_515 o_108 rfl (u_108_61 G2 (by omega) (by omega)) (R2.up rfl) (fun h3 E3 G3 R3 => ?_)
      refine z_aload_n (M := M_X12_year) 179 dX12_year_179 rfl ?_
      refine z_iload (M := M_X12_year) 180 dX12_year_180 rfl ?_
      refine z_putIH (M := M_X12_year) 182 dX12_year_182 p_X12_518 o_108 rfl (u_108_62 G3 (by omega) (by omega)) (R3.up rfl) (fun h4 E4 G4 R4 => ?_)
      refine z_iincN (M := M_X12_year) 185 dX12_year_185 (ls' := [some (mR 108), none, some (mI a2), some (mI a3), none, none, some (mI x6), some (mI l7), some (mI (l8 + 1)), some (mI x6)]) (by decide) rfl (by (unfold m_32; decide)) (by omega) (by omega) rfl ?_
      refine z_goto (M := M_X12_year) 188 dX12_year_188 126 rfl ?_
      exact z_mask [true, false, true, true, false, false, true, true, true, false] rfl (ih.2.2 x6 l7 (l8 + 1) h4 G4 R4 (by omega) (by omega) (by omega) (by omega) (by omega) (by omega) (by omega) (by omega) (by omega) (by omega) (by omega) (by omega) (by omega))
theorem a_X12_year (h0 : m_H) (a1 a2 a3 : Int) (G0 : GI h0) : ∀ n, q_X12_year h0 a1 a2 a3 n := by
  intro n
  induction n with
  | zero => unfold q_X12_year; refine ⟨?_, ?_, ?_⟩ <;> (intros; omega)
  | succ n ih => exact ⟨s_X12_year_49 h0 a1 a2 a3 G0 n ih, s_X12_year_113 h0 a1 a2 a3 G0 n ih, s_X12_year_126 h0 a1 a2 a3 G0 n ih⟩
set_option maxHeartbeats 4000000 in
set_option maxRecDepth 100000 in
theorem c_X12_year (h0 : m_H) (a1 a2 a3 : Int) (G0 : GI h0) : m_CI M_X12_year [mR 108, mI a1, mI a2, mI a3] h0 (P_X12_year h0 a1 a2 a3) := by
  refine m_CI_of ⟨by decide, rfl, by simp [m_arg, m_isL, M_X12_year], ⟨rfl, rfl⟩, rfl, rfl⟩ (ls := [some (mR 108), some (mI a1), some (mI a2), some (mI a3), none, none, none, none, none, none]) rfl ?_
  have ih := a_X12_year h0 a1 a2 a3 G0 2284
  refine z_ok (fun _ _ ok => ?_)
  have oa1 : m_32 a1 := ok 1 _ rfl
  unfold m_32 at oa1
  have oa2 : m_32 a2 := ok 2 _ rfl
  unfold m_32 at oa2
  have oa3 : m_32 a3 := ok 3 _ rfl
  unfold m_32 at oa3
  refine z_aload_n (M := M_X12_year) 0 dX12_year_0 rfl ?_
  refine z_iconst (M := M_X12_year) 1 dX12_year_1 ?_
  refine z_putIH (M := M_X12_year) 2 dX12_year_2 p_X12_133 o_108 rfl (u_108_0 G0) ((FR.rf (cs := [109, 147]) (ss := [(108, 0), (108, 1), (108, 60), (108, 61), (108, 62)]) (h := h0)).up rfl) (fun h1 E1 G1 R1 => ?_)
  refine z_iload_n (M := M_X12_year) 5 dX12_year_5 rfl ?_
  refine z_i2l (M := M_X12_year) 6 dX12_year_6 ?_
  refine z_lconst (M := M_X12_year) 7 dX12_year_7 (v := 0) ?_
  refine z_ldc2 (M := M_X12_year) 8 dX12_year_8 k_X12_241 ?_
  refine z_sI (M := M_X12_year) 11 dX12_year_11 t_X12_in l_X12_143 (m_rr_of rfl) (rest := []) (c_X12_in h1 a1 0 1000000 G1) rfl rfl (Nat.le_of_ble_eq_true rfl) ⟨rfl, rfl⟩ (fun x1 h2 qx1 => ?_)
  obtain ⟨rfl, ⟨rfl, cx1⟩ | ⟨rfl, cx1⟩⟩ := qx1
  · refine z_if_eq_F (M := M_X12_year) 14 dX12_year_14 36 rfl (by omega) ?_
    refine z_iload_n (M := M_X12_year) 17 dX12_year_17 rfl ?_
    refine z_sI (M := M_X12_year) 18 dX12_year_18 t_X12_isThing l_X12_166 (m_rr_of rfl) (rest := []) (c_X12_isThing h1 a2 G1) rfl rfl (Nat.le_of_ble_eq_true rfl) ⟨rfl, rfl⟩ (fun x2 h3 qx2 => ?_)
    obtain ⟨rfl, ⟨rfl, cx2⟩ | ⟨rfl, cx2⟩⟩ := qx2
    · refine z_if_eq_F (M := M_X12_year) 21 dX12_year_21 36 rfl (by omega) ?_
      refine z_iload_n (M := M_X12_year) 24 dX12_year_24 rfl ?_
      refine z_i2l (M := M_X12_year) 25 dX12_year_25 ?_
      refine z_lconst (M := M_X12_year) 26 dX12_year_26 (v := 1) ?_
      refine z_ldc2 (M := M_X12_year) 27 dX12_year_27 k_X12_180 ?_
      refine z_sI (M := M_X12_year) 30 dX12_year_30 t_X12_in l_X12_143 (m_rr_of rfl) (rest := []) (c_X12_in h1 a3 1 99 G1) rfl rfl (Nat.le_of_ble_eq_true rfl) ⟨rfl, rfl⟩ (fun x3 h4 qx3 => ?_)
      obtain ⟨rfl, ⟨rfl, cx3⟩ | ⟨rfl, cx3⟩⟩ := qx3
      · refine z_if_ne_T (M := M_X12_year) 33 dX12_year_33 42 rfl (by omega) ?_
        refine z_iload_n (M := M_X12_year) 42 dX12_year_42 rfl ?_
        refine z_i2l (M := M_X12_year) 43 dX12_year_43 ?_
        refine z_lstore (M := M_X12_year) 44 dX12_year_44 (ls' := [some (mR 108), some (mI a1), some (mI a2), some (mI a3), some (mJ a1), none, none, none, none, none]) (by decide) rfl ?_
        refine z_iconst (M := M_X12_year) 46 dX12_year_46 ?_
        refine z_istore (M := M_X12_year) 47 dX12_year_47 (ls' := [some (mR 108), some (mI a1), some (mI a2), some (mI a3), some (mJ a1), none, some (mI 0), none, none, none]) (by decide) rfl ?_
        exact z_mask [true, false, true, true, true, false, true, false, false, false] rfl (ih.1 a1 0 h1 G1 R1 (by omega) (by omega) (by omega) (by omega) (by omega) (by omega) (by omega) (by omega) (by omega) (by omega) (by omega))
      · refine z_if_ne_F (M := M_X12_year) 33 dX12_year_33 42 rfl (by omega) ?_
        refine z_aload_n (M := M_X12_year) 36 dX12_year_36 rfl ?_
        refine z_iconst (M := M_X12_year) 37 dX12_year_37 ?_
        refine z_vI (M := M_X12_year) 38 dX12_year_38 t_X12_answer l_X12_147 (m_rr_of rfl) (rest := []) (c_X12_answer h1 (-1) G1 ⟨by omega, by omega⟩) o_108 rfl rfl rfl (Nat.le_of_ble_eq_true rfl) ⟨rfl, rfl⟩ (fun x4 h5 qx4 => ?_)
        obtain ⟨G5, S5, rfl⟩ := qx4
        have R5 := R1.call S5 (by decide +kernel)
        exact z_retI (M := M_X12_year) 41 dX12_year_41 rfl ⟨G5, R5, by omega, by omega⟩
    · refine z_if_eq_T (M := M_X12_year) 21 dX12_year_21 36 rfl (by omega) ?_
      refine z_aload_n (M := M_X12_year) 36 dX12_year_36 rfl ?_
      refine z_iconst (M := M_X12_year) 37 dX12_year_37 ?_
      refine z_vI (M := M_X12_year) 38 dX12_year_38 t_X12_answer l_X12_147 (m_rr_of rfl) (rest := []) (c_X12_answer h1 (-1) G1 ⟨by omega, by omega⟩) o_108 rfl rfl rfl (Nat.le_of_ble_eq_true rfl) ⟨rfl, rfl⟩ (fun x5 h6 qx5 => ?_)
      obtain ⟨G6, S6, rfl⟩ := qx5
      have R6 := R1.call S6 (by decide +kernel)
      exact z_retI (M := M_X12_year) 41 dX12_year_41 rfl ⟨G6, R6, by omega, by omega⟩
  · refine z_if_eq_T (M := M_X12_year) 14 dX12_year_14 36 rfl (by omega) ?_
    refine z_aload_n (M := M_X12_year) 36 dX12_year_36 rfl ?_
    refine z_iconst (M := M_X12_year) 37 dX12_year_37 ?_
    refine z_vI (M := M_X12_year) 38 dX12_year_38 t_X12_answer l_X12_147 (m_rr_of rfl) (rest := []) (c_X12_answer h1 (-1) G1 ⟨by omega, by omega⟩) o_108 rfl rfl rfl (Nat.le_of_ble_eq_true rfl) ⟨rfl, rfl⟩ (fun x6 h7 qx6 => ?_)
    obtain ⟨G7, S7, rfl⟩ := qx6
    have R7 := R1.call S7 (by decide +kernel)
    exact z_retI (M := M_X12_year) 41 dX12_year_41 rfl ⟨G7, R7, by omega, by omega⟩
abbrev P_X12_findAsked (h0 : m_H) : Int → m_H → Prop := fun x h' => GI h' ∧ FR [122, 123, 146] [(108, 58)] h0 h' ∧ 0 ≤ x ∧ x ≤ 1
def q_X12_findAsked (h0 : m_H) (n : Nat) : Prop := (∀ (l1 : Int) (h : m_H), GI h → FR [122, 123, 146] [(108, 58)] h0 h → 0 ≤ l1 → l1 ≤ 32 → 53 * (32 - l1) + (52) ≤ (n : Int) → m_Z oF M_X12_findAsked 11 [some (mR 108), some (mI l1), none, none] [] h (m_QI (P_X12_findAsked h0))) ∧ (∀ (l1 l2 l3 : Int) (h : m_H), GI h → FR [122, 123, 146] [(108, 58)] h0 h → 0 ≤ l1 → l1 ≤ 31 → 0 ≤ l2 → l2 ≤ 1 → 0 ≤ l3 → l3 ≤ 24 → 53 * (32 - l1) + 2 * (24 - l3) + (1) ≤ (n : Int) → m_Z oF M_X12_findAsked 21 [some (mR 108), some (mI l1), some (mI l2), some (mI l3)] [] h (m_QI (P_X12_findAsked h0)))
set_option maxHeartbeats 4000000 in
set_option maxRecDepth 100000 in
theorem s_X12_findAsked_11 (h0 : m_H) (G0 : GI h0) (n : Nat) (ih : q_X12_findAsked h0 n) : ∀ (l1 : Int) (h : m_H), GI h → FR [122, 123, 146] [(108, 58)] h0 h → 0 ≤ l1 → l1 ≤ 32 → 53 * (32 - l1) + (52) ≤ ((n + 1 : Nat) : Int) → m_Z oF M_X12_findAsked 11 [some (mR 108), some (mI l1), none, none] [] h (m_QI (P_X12_findAsked h0)) := by
  intro l1 h G R v0 v1 hr
  refine z_iload_n (M := M_X12_findAsked) 11 dX12_findAsked_11 rfl ?_
  refine z_bipush (M := M_X12_findAsked) 12 dX12_findAsked_12 ?_
  refine z_icmp_ge (M := M_X12_findAsked) 14 dX12_findAsked_14 120 rfl (fun c1 => ?_) (fun c1 => ?_)
  · refine z_iconst (M := M_X12_findAsked) 120 dX12_findAsked_120 ?_
    exact z_retZ (M := M_X12_findAsked) 121 dX12_findAsked_121 rfl (by omega) ⟨G, R, by omega, by omega⟩
  · refine z_iconst (M := M_X12_findAsked) 17 dX12_findAsked_17 ?_
    refine z_istore_n (M := M_X12_findAsked) 18 dX12_findAsked_18 (ls' := [some (mR 108), some (mI l1), some (mI 0), none]) (by decide) rfl ?_
    refine z_iconst (M := M_X12_findAsked) 19 dX12_findAsked_19 ?_
    refine z_istore_n (M := M_X12_findAsked) 20 dX12_findAsked_20 (ls' := [some (mR 108), some (mI l1), some (mI 0), some (mI 0)]) (by decide) rfl ?_
    exact z_mask [true, true, true, true] rfl (ih.2 l1 0 0 h G R (by omega) (by omega) (by omega) (by omega) (by omega) (by omega) (by omega))
set_option maxHeartbeats 4000000 in
set_option maxRecDepth 100000 in
theorem s_X12_findAsked_21 (h0 : m_H) (G0 : GI h0) (n : Nat) (ih : q_X12_findAsked h0 n) : ∀ (l1 l2 l3 : Int) (h : m_H), GI h → FR [122, 123, 146] [(108, 58)] h0 h → 0 ≤ l1 → l1 ≤ 31 → 0 ≤ l2 → l2 ≤ 1 → 0 ≤ l3 → l3 ≤ 24 → 53 * (32 - l1) + 2 * (24 - l3) + (1) ≤ ((n + 1 : Nat) : Int) → m_Z oF M_X12_findAsked 21 [some (mR 108), some (mI l1), some (mI l2), some (mI l3)] [] h (m_QI (P_X12_findAsked h0)) := by
  intro l1 l2 l3 h G R v0 v1 v2 v3 v4 v5 hr
  refine z_iload_n (M := M_X12_findAsked) 21 dX12_findAsked_21 rfl ?_
  refine z_aload_n (M := M_X12_findAsked) 22 dX12_findAsked_22 rfl ?_
  refine z_getR (M := M_X12_findAsked) 23 dX12_findAsked_23 f_X12_13 o_108 rfl (g_108_3 G) ?_
  refine z_iconst (M := M_X12_findAsked) 26 dX12_findAsked_26 ?_
  refine z_ialdG (M := M_X12_findAsked) 27 dX12_findAsked_27 o_110 (by omega) (by omega) (gw_0 G) (fun x1 ex1 ax1 bx1 => ?_)
  refine z_icmp_ge (M := M_X12_findAsked) 28 dX12_findAsked_28 67 rfl (fun c2 => ?_) (fun c2 => ?_)
  · refine z_iload_n (M := M_X12_findAsked) 67 dX12_findAsked_67 rfl ?_
    refine z_if_eq (M := M_X12_findAsked) 68 dX12_findAsked_68 114 rfl (fun c3 => ?_) (fun c3 => ?_)
    · refine z_iincN (M := M_X12_findAsked) 114 dX12_findAsked_114 (ls' := [some (mR 108), some (mI (l1 + 1)), some (mI l2), some (mI l3)]) (by decide) rfl (by (unfold m_32; decide)) (by omega) (by omega) rfl ?_
      refine z_goto (M := M_X12_findAsked) 117 dX12_findAsked_117 11 rfl ?_
      exact z_mask [true, true, false, false] rfl (ih.1 (l1 + 1) h G R (by omega) (by omega) (by omega))
    · refine z_aload_n (M := M_X12_findAsked) 71 dX12_findAsked_71 rfl ?_
      refine z_getR (M := M_X12_findAsked) 72 dX12_findAsked_72 f_X12_13 o_108 rfl (g_108_3 G) ?_
      refine z_bipush (M := M_X12_findAsked) 75 dX12_findAsked_75 ?_
      refine z_iload_n (M := M_X12_findAsked) 77 dX12_findAsked_77 rfl ?_
      refine z_iaddN (M := M_X12_findAsked) 78 dX12_findAsked_78 (by omega) (by omega) ?_
      refine z_ialdG (M := M_X12_findAsked) 79 dX12_findAsked_79 o_110 (by omega) (by omega) (gw_w G (by omega) (by omega)) (fun x4 ex4 ax4 bx4 => ?_)
      refine z_iconst (M := M_X12_findAsked) 80 dX12_findAsked_80 ?_
      refine z_icmp_ne (M := M_X12_findAsked) 81 dX12_findAsked_81 114 rfl (fun c5 => ?_) (fun c5 => ?_)
      · refine z_iincN (M := M_X12_findAsked) 114 dX12_findAsked_114 (ls' := [some (mR 108), some (mI (l1 + 1)), some (mI l2), some (mI l3)]) (by decide) rfl (by (unfold m_32; decide)) (by omega) (by omega) rfl ?_
        refine z_goto (M := M_X12_findAsked) 117 dX12_findAsked_117 11 rfl ?_
        exact z_mask [true, true, false, false] rfl (ih.1 (l1 + 1) h G R (by omega) (by omega) (by omega))
      · refine z_aload_n (M := M_X12_findAsked) 84 dX12_findAsked_84 rfl ?_
        refine z_getIG (M := M_X12_findAsked) 85 dX12_findAsked_85 f_X12_487 o_108 (by decide) (g_108_58 G) (fun x6 ex6 ax6 bx6 => ?_)
        refine z_iconst (M := M_X12_findAsked) 88 dX12_findAsked_88 ?_
        refine z_icmp_ne (M := M_X12_findAsked) 89 dX12_findAsked_89 94 rfl (fun c7 => ?_) (fun c7 => ?_)
        · refine z_aload_n (M := M_X12_findAsked) 94 dX12_findAsked_94 rfl ?_
          refine z_getR (M := M_X12_findAsked) 95 dX12_findAsked_95 f_X12_127 o_108 rfl (g_108_57 G) ?_
          refine z_aload_n (M := M_X12_findAsked) 98 dX12_findAsked_98 rfl ?_
          refine z_getIE (M := M_X12_findAsked) 99 dX12_findAsked_99 f_X12_487 o_108 (by decide) ex6 ?_
          refine z_iload_n (M := M_X12_findAsked) 102 dX12_findAsked_102 rfl ?_
          refine z_iastH (M := M_X12_findAsked) 103 dX12_findAsked_103 o_146 (by omega) (by omega) (u_146 G (by omega) (by omega)) (R.up rfl) (fun h1 E1 G1 R1 => ?_)
          refine z_aload_n (M := M_X12_findAsked) 104 dX12_findAsked_104 rfl ?_
          refine z_dup (M := M_X12_findAsked) 105 dX12_findAsked_105 rfl ?_
          refine z_getIE (M := M_X12_findAsked) 106 dX12_findAsked_106 f_X12_487 o_108 (by decide) ((upN E1 (fun q => absurd q.1 (by decide))).trans ex6) ?_
          refine z_iconst (M := M_X12_findAsked) 109 dX12_findAsked_109 ?_
          refine z_iaddN (M := M_X12_findAsked) 110 dX12_findAsked_110 (by omega) (by omega) ?_
          refine z_putIH (M := M_X12_findAsked) 111 dX12_findAsked_111 p_X12_487 o_108 rfl (u_108_58 G1 (by omega) (by omega)) (R1.up rfl) (fun h2 E2 G2 R2 => ?_)
          refine z_iincN (M := M_X12_findAsked) 114 dX12_findAsked_114 (ls' := [some (mR 108), some (mI (l1 + 1)), some (mI l2), some (mI l3)]) (by decide) rfl (by (unfold m_32; decide)) (by omega) (by omega) rfl ?_
          refine z_goto (M := M_X12_findAsked) 117 dX12_findAsked_117 11 rfl ?_
          exact z_mask [true, true, false, false] rfl (ih.1 (l1 + 1) h2 G2 R2 (by omega) (by omega) (by omega))
        · refine z_iconst (M := M_X12_findAsked) 92 dX12_findAsked_92 ?_
          exact z_retZ (M := M_X12_findAsked) 93 dX12_findAsked_93 rfl (by omega) ⟨G, R, by omega, by omega⟩
  · refine z_iload_n (M := M_X12_findAsked) 31 dX12_findAsked_31 rfl ?_
    refine z_if_ne (M := M_X12_findAsked) 32 dX12_findAsked_32 55 rfl (fun c8 => ?_) (fun c8 => ?_)
    · refine z_iconst (M := M_X12_findAsked) 55 dX12_findAsked_55 ?_
      refine z_goto (M := M_X12_findAsked) 56 dX12_findAsked_56 60 rfl ?_
      refine z_istore_n (M := M_X12_findAsked) 60 dX12_findAsked_60 (ls' := [some (mR 108), some (mI l1), some (mI 1), some (mI l3)]) (by decide) rfl ?_
      refine z_iincN (M := M_X12_findAsked) 61 dX12_findAsked_61 (ls' := [some (mR 108), some (mI l1), some (mI 1), some (mI (l3 + 1))]) (by decide) rfl (by (unfold m_32; decide)) (by omega) (by omega) rfl ?_
      refine z_goto (M := M_X12_findAsked) 64 dX12_findAsked_64 21 rfl ?_
      exact z_mask [true, true, true, true] rfl (ih.2 l1 1 (l3 + 1) h G R (by omega) (by omega) (by omega) (by omega) (by omega) (by omega) (by omega))
    · refine z_aload_n (M := M_X12_findAsked) 35 dX12_findAsked_35 rfl ?_
      refine z_iload_n (M := M_X12_findAsked) 36 dX12_findAsked_36 rfl ?_
      refine z_iconst (M := M_X12_findAsked) 37 dX12_findAsked_37 ?_
      refine z_vI (M := M_X12_findAsked) 38 dX12_findAsked_38 t_X12_ofEntry l_X12_195 (m_rr_of rfl) (rest := []) (c_X12_ofEntry h l3 4 G ⟨by omega, by omega⟩ ⟨by omega, by omega⟩) o_108 rfl rfl rfl (Nat.le_of_ble_eq_true rfl) ⟨rfl, rfl⟩ (fun x9 h3 qx9 => ?_)
      obtain ⟨rfl, fx9⟩ := qx9
      have gx9 := gw_e4 G (i := (80 + 5 * l3 + 4)) (e := l3) (by omega) (by omega) (by omega)
      rw [fx9] at gx9
      refine z_iconst (M := M_X12_findAsked) 41 dX12_findAsked_41 ?_
      refine z_icmp_ne (M := M_X12_findAsked) 42 dX12_findAsked_42 59 rfl (fun c10 => ?_) (fun c10 => ?_)
      · refine z_iconst (M := M_X12_findAsked) 59 dX12_findAsked_59 ?_
        refine z_istore_n (M := M_X12_findAsked) 60 dX12_findAsked_60 (ls' := [some (mR 108), some (mI l1), some (mI 0), some (mI l3)]) (by decide) rfl ?_
        refine z_iincN (M := M_X12_findAsked) 61 dX12_findAsked_61 (ls' := [some (mR 108), some (mI l1), some (mI 0), some (mI (l3 + 1))]) (by decide) rfl (by (unfold m_32; decide)) (by omega) (by omega) rfl ?_
        refine z_goto (M := M_X12_findAsked) 64 dX12_findAsked_64 21 rfl ?_
        exact z_mask [true, true, true, true] rfl (ih.2 l1 0 (l3 + 1) h G R (by omega) (by omega) (by omega) (by omega) (by omega) (by omega) (by omega))
      · refine z_aload_n (M := M_X12_findAsked) 45 dX12_findAsked_45 rfl ?_
        refine z_iload_n (M := M_X12_findAsked) 46 dX12_findAsked_46 rfl ?_
        refine z_iconst (M := M_X12_findAsked) 47 dX12_findAsked_47 ?_
        refine z_vI (M := M_X12_findAsked) 48 dX12_findAsked_48 t_X12_ofEntry l_X12_195 (m_rr_of rfl) (rest := []) (c_X12_ofEntry h l3 1 G ⟨by omega, by omega⟩ ⟨by omega, by omega⟩) o_108 rfl rfl rfl (Nat.le_of_ble_eq_true rfl) ⟨rfl, rfl⟩ (fun x11 h4 qx11 => ?_)
        obtain ⟨rfl, fx11⟩ := qx11
        have gx11 := gw_e1 G (i := (80 + 5 * l3 + 1)) (e := l3) (by omega) (by omega) (by omega)
        rw [fx11] at gx11
        refine z_iload_n (M := M_X12_findAsked) 51 dX12_findAsked_51 rfl ?_
        refine z_icmp_ne (M := M_X12_findAsked) 52 dX12_findAsked_52 59 rfl (fun c12 => ?_) (fun c12 => ?_)
        · refine z_iconst (M := M_X12_findAsked) 59 dX12_findAsked_59 ?_
          refine z_istore_n (M := M_X12_findAsked) 60 dX12_findAsked_60 (ls' := [some (mR 108), some (mI l1), some (mI 0), some (mI l3)]) (by decide) rfl ?_
          refine z_iincN (M := M_X12_findAsked) 61 dX12_findAsked_61 (ls' := [some (mR 108), some (mI l1), some (mI 0), some (mI (l3 + 1))]) (by decide) rfl (by (unfold m_32; decide)) (by omega) (by omega) rfl ?_
          refine z_goto (M := M_X12_findAsked) 64 dX12_findAsked_64 21 rfl ?_
          exact z_mask [true, true, true, true] rfl (ih.2 l1 0 (l3 + 1) h G R (by omega) (by omega) (by omega) (by omega) (by omega) (by omega) (by omega))
        · refine z_iconst (M := M_X12_findAsked) 55 dX12_findAsked_55 ?_
          refine z_goto (M := M_X12_findAsked) 56 dX12_findAsked_56 60 rfl ?_
          refine z_istore_n (M := M_X12_findAsked) 60 dX12_findAsked_60 (ls' := [some (mR 108), some (mI l1), some (mI 1), some (mI l3)]) (by decide) rfl ?_
          refine z_iincN (M := M_X12_findAsked) 61 dX12_findAsked_61 (ls' := [some (mR 108), some (mI l1), some (mI 1), some (mI (l3 + 1))]) (by decide) rfl (by (unfold m_32; decide)) (by omega) (by omega) rfl ?_
          refine z_goto (M := M_X12_findAsked) 64 dX12_findAsked_64 21 rfl ?_
          exact z_mask [true, true, true, true] rfl (ih.2 l1 1 (l3 + 1) h G R (by omega) (by omega) (by omega) (by omega) (by omega) (by omega) (by omega))
theorem a_X12_findAsked (h0 : m_H) (G0 : GI h0) : ∀ n, q_X12_findAsked h0 n := by
  intro n
  induction n with
  | zero => unfold q_X12_findAsked; refine ⟨?_, ?_⟩ <;> (intros; omega)
  | succ n ih => exact ⟨s_X12_findAsked_11 h0 G0 n ih, s_X12_findAsked_21 h0 G0 n ih⟩
set_option maxHeartbeats 4000000 in
set_option maxRecDepth 100000 in
theorem c_X12_findAsked (h0 : m_H) (G0 : GI h0) : m_CI M_X12_findAsked [mR 108] h0 (P_X12_findAsked h0) := by
  refine m_CI_of ⟨by decide, rfl, by simp [m_arg, m_isL, M_X12_findAsked], ⟨rfl, rfl⟩, rfl, rfl⟩ (ls := [some (mR 108), none, none, none]) rfl ?_
  have ih := a_X12_findAsked h0 G0 1755
  refine z_aload_n (M := M_X12_findAsked) 0 dX12_findAsked_0 rfl ?_
  refine z_vV (M := M_X12_findAsked) 1 dX12_findAsked_1 t_X12_asIs l_X12_367 (m_rr_of rfl) (rest := []) (c_X12_asIs h0 G0) o_108 rfl rfl rfl (Nat.le_of_ble_eq_true rfl) ⟨rfl, rfl⟩ (fun h1 qx1 => ?_)
  obtain ⟨G1, S1⟩ := qx1
  have R1 := (FR.rf (cs := [122, 123, 146]) (ss := [(108, 58)]) (h := h0)).call S1 (by decide +kernel)
  refine z_aload_n (M := M_X12_findAsked) 4 dX12_findAsked_4 rfl ?_
  refine z_iconst (M := M_X12_findAsked) 5 dX12_findAsked_5 ?_
  refine z_putIH (M := M_X12_findAsked) 6 dX12_findAsked_6 p_X12_487 o_108 rfl (u_108_58 G1 (by omega) (by omega)) (R1.up rfl) (fun h2 E2 G2 R2 => ?_)
  refine z_iconst (M := M_X12_findAsked) 9 dX12_findAsked_9 ?_
  refine z_istore_n (M := M_X12_findAsked) 10 dX12_findAsked_10 (ls' := [some (mR 108), some (mI 0), none, none]) (by decide) rfl ?_
  exact z_mask [true, true, false, false] rfl (ih.1 0 h2 G2 R2 (by omega) (by omega) (by omega))
abbrev P_X12_whichOf (h0 : m_H) (a1 : Int) : Int → m_H → Prop := fun x h' => GI h' ∧ FR [] [] h0 h' ∧ (-1) ≤ x ∧ x ≤ 2
def q_X12_whichOf (h0 : m_H) (a1 : Int) (n : Nat) : Prop := (∀ (l2 l3 : Int) (h : m_H), GI h → FR [] [] h0 h → (-1) ≤ l2 → l2 ≤ 2 → 0 ≤ l3 → l3 ≤ 3 → (-2147483648) ≤ a1 → a1 ≤ 2147483647 → 2 * (3 - l3) + (1) ≤ (n : Int) → m_Z oF M_X12_whichOf 4 [some (mR 108), some (mI a1), some (mI l2), some (mI l3)] [] h (m_QI (P_X12_whichOf h0 a1)))
set_option maxHeartbeats 4000000 in
set_option maxRecDepth 100000 in
theorem s_X12_whichOf_4 (h0 : m_H) (a1 : Int) (G0 : GI h0) (n : Nat) (ih : q_X12_whichOf h0 a1 n) : ∀ (l2 l3 : Int) (h : m_H), GI h → FR [] [] h0 h → (-1) ≤ l2 → l2 ≤ 2 → 0 ≤ l3 → l3 ≤ 3 → (-2147483648) ≤ a1 → a1 ≤ 2147483647 → 2 * (3 - l3) + (1) ≤ ((n + 1 : Nat) : Int) → m_Z oF M_X12_whichOf 4 [some (mR 108), some (mI a1), some (mI l2), some (mI l3)] [] h (m_QI (P_X12_whichOf h0 a1)) := by
  intro l2 l3 h G R v0 v1 v2 v3 v4 v5 hr
  refine z_iload_n (M := M_X12_whichOf) 4 dX12_whichOf_4 rfl ?_
  refine z_aload_n (M := M_X12_whichOf) 5 dX12_whichOf_5 rfl ?_
  refine z_getIG (M := M_X12_whichOf) 6 dX12_whichOf_6 f_X12_487 o_108 (by decide) (g_108_58 G) (fun x1 ex1 ax1 bx1 => ?_)
  refine z_icmp_ge (M := M_X12_whichOf) 9 dX12_whichOf_9 34 rfl (fun c2 => ?_) (fun c2 => ?_)
  · refine z_iload_n (M := M_X12_whichOf) 34 dX12_whichOf_34 rfl ?_
    exact z_retI (M := M_X12_whichOf) 35 dX12_whichOf_35 rfl ⟨G, R, by omega, by omega⟩
  · refine z_aload_n (M := M_X12_whichOf) 12 dX12_whichOf_12 rfl ?_
    refine z_getR (M := M_X12_whichOf) 13 dX12_whichOf_13 f_X12_127 o_108 rfl (g_108_57 G) ?_
    refine z_iload_n (M := M_X12_whichOf) 16 dX12_whichOf_16 rfl ?_
    refine z_ialdG (M := M_X12_whichOf) 17 dX12_whichOf_17 o_146 (by omega) (by omega) (g_146 G (by omega)) (fun x3 ex3 ax3 bx3 => ?_)
    refine z_iload_n (M := M_X12_whichOf) 18 dX12_whichOf_18 rfl ?_
    refine z_icmp_ne (M := M_X12_whichOf) 19 dX12_whichOf_19 26 rfl (fun c4 => ?_) (fun c4 => ?_)
    · refine z_iload_n (M := M_X12_whichOf) 26 dX12_whichOf_26 rfl ?_
      refine z_istore_n (M := M_X12_whichOf) 27 dX12_whichOf_27 (ls' := [some (mR 108), some (mI a1), some (mI l2), some (mI l3)]) (by decide) rfl ?_
      refine z_iincN (M := M_X12_whichOf) 28 dX12_whichOf_28 (ls' := [some (mR 108), some (mI a1), some (mI l2), some (mI (l3 + 1))]) (by decide) rfl (by (unfold m_32; decide)) (by omega) (by omega) rfl ?_
      refine z_goto (M := M_X12_whichOf) 31 dX12_whichOf_31 4 rfl ?_
      exact z_mask [true, true, true, true] rfl (ih l2 (l3 + 1) h G R (by omega) (by omega) (by omega) (by omega) (by omega) (by omega) (by omega))
    · refine z_iload_n (M := M_X12_whichOf) 22 dX12_whichOf_22 rfl ?_
      refine z_goto (M := M_X12_whichOf) 23 dX12_whichOf_23 27 rfl ?_
      refine z_istore_n (M := M_X12_whichOf) 27 dX12_whichOf_27 (ls' := [some (mR 108), some (mI a1), some (mI l3), some (mI l3)]) (by decide) rfl ?_
      refine z_iincN (M := M_X12_whichOf) 28 dX12_whichOf_28 (ls' := [some (mR 108), some (mI a1), some (mI l3), some (mI (l3 + 1))]) (by decide) rfl (by (unfold m_32; decide)) (by omega) (by omega) rfl ?_
      refine z_goto (M := M_X12_whichOf) 31 dX12_whichOf_31 4 rfl ?_
      exact z_mask [true, true, true, true] rfl (ih l3 (l3 + 1) h G R (by omega) (by omega) (by omega) (by omega) (by omega) (by omega) (by omega))
theorem a_X12_whichOf (h0 : m_H) (a1 : Int) (G0 : GI h0) : ∀ n, q_X12_whichOf h0 a1 n := by
  intro n
  induction n with
  | zero => unfold q_X12_whichOf; intros; omega
  | succ n ih => exact s_X12_whichOf_4 h0 a1 G0 n ih
set_option maxHeartbeats 4000000 in
set_option maxRecDepth 100000 in
theorem c_X12_whichOf (h0 : m_H) (a1 : Int) (G0 : GI h0) : m_CI M_X12_whichOf [mR 108, mI a1] h0 (P_X12_whichOf h0 a1) := by
  refine m_CI_of ⟨by decide, rfl, by simp [m_arg, m_isL, M_X12_whichOf], ⟨rfl, rfl⟩, rfl, rfl⟩ (ls := [some (mR 108), some (mI a1), none, none]) rfl ?_
  have ih := a_X12_whichOf h0 a1 G0 14
  refine z_ok (fun _ _ ok => ?_)
  have oa1 : m_32 a1 := ok 1 _ rfl
  unfold m_32 at oa1
  refine z_iconst (M := M_X12_whichOf) 0 dX12_whichOf_0 ?_
  refine z_istore_n (M := M_X12_whichOf) 1 dX12_whichOf_1 (ls' := [some (mR 108), some (mI a1), some (mI (-1)), none]) (by decide) rfl ?_
  refine z_iconst (M := M_X12_whichOf) 2 dX12_whichOf_2 ?_
  refine z_istore_n (M := M_X12_whichOf) 3 dX12_whichOf_3 (ls' := [some (mR 108), some (mI a1), some (mI (-1)), some (mI 0)]) (by decide) rfl ?_
  exact z_mask [true, true, true, true] rfl (ih (-1) 0 h0 G0 (FR.rf (cs := []) (ss := []) (h := h0)) (by omega) (by omega) (by omega) (by omega) (by omega) (by omega) (by omega))
theorem oC_135_136 {t : Nat} (i : t = 135 ∨ t = 136) : oF[t]? = some (1, 10) := by rcases i with rfl | rfl <;> rfl
theorem uC_135_136 {h : m_H} {t : Nat} (i : t = 135 ∨ t = 136) (G : GI h) {j : Nat} {v : Int} : GI (m_up h t j v) := by rcases i with rfl | rfl <;> first | exact u_135 G | exact u_136 G
theorem oC_124_125 {t : Nat} (i : t = 124 ∨ t = 125) : oF[t]? = some (1, 80) := by rcases i with rfl | rfl <;> rfl
theorem gC_124_125 {h : m_H} {t : Nat} (i : t = 124 ∨ t = 125) (G : GI h) {j : Nat} (hj : j < 80) : (0 : Int) ≤ h t j ∧ h t j ≤ 99999999 := by rcases i with rfl | rfl <;> first | exact g_124 G hj | exact g_125 G hj
theorem uC_124_125 {h : m_H} {t : Nat} (i : t = 124 ∨ t = 125) (G : GI h) {j : Nat} {v : Int} (h1 : (0 : Int) ≤ v) (h2 : v ≤ 99999999) : GI (m_up h t j v) := by rcases i with rfl | rfl <;> first | exact u_124 G h1 h2 | exact u_125 G h1 h2
theorem oC_138 {t : Nat} (i : t = 138) : oF[t]? = some (1, 20) := by rcases i with rfl <;> rfl
theorem gC_138 {h : m_H} {t : Nat} (i : t = 138) (G : GI h) {j : Nat} (hj : j < 20) : (0 : Int) ≤ h t j ∧ h t j ≤ 99999999 := by rcases i with rfl <;> first | exact g_138 G hj
theorem uC_138 {h : m_H} {t : Nat} (i : t = 138) (G : GI h) {j : Nat} {v : Int} (h1 : (0 : Int) ≤ v) (h2 : v ≤ 99999999) : GI (m_up h t j v) := by rcases i with rfl <;> first | exact u_138 G h1 h2
theorem oC_139_140_141 {t : Nat} (i : t = 139 ∨ t = 140 ∨ t = 141) : oF[t]? = some (1, 10) := by rcases i with rfl | rfl | rfl <;> rfl
theorem uC_139_140_141 {h : m_H} {t : Nat} (i : t = 139 ∨ t = 140 ∨ t = 141) (G : GI h) {j : Nat} {v : Int} : GI (m_up h t j v) := by rcases i with rfl | rfl | rfl <;> first | exact u_139 G | exact u_140 G | exact u_141 G
abbrev P_X12_wide80 (h0 : m_H) (t : Nat) (f : Nat) (a2 a3 : Int) : m_H → Prop := fun h' => GI h' ∧ FR [t] [] h0 h'
def q_X12_wide80 (h0 : m_H) (t : Nat) (f : Nat) (a2 a3 : Int) (n : Nat) : Prop := (∀ (l5 l7 : Int) (h : m_H), GI h → FR [t] [] h0 h → 0 ≤ l7 → l7 ≤ 10 → 2 * (10 - l7) + (1) ≤ (n : Int) → m_Z oF M_X12_wide 6 [some (mR t), some (mR f), some (mI a2), some (mJ a3), none, some (mJ l5), none, some (mI l7), none, none] [] h (m_QV (P_X12_wide80 h0 t f a2 a3)))
set_option maxHeartbeats 4000000 in
set_option maxRecDepth 100000 in
theorem s_X12_wide80_6 (h0 : m_H) (t : Nat) (f : Nat) (a2 a3 : Int) (w_t : t = 135 ∨ t = 136) (w_f : f = 124 ∨ f = 125) (G0 : GI h0) (pa2 : 0 ≤ a2 ∧ a2 ≤ 75) (n : Nat) (ih : q_X12_wide80 h0 t f a2 a3 n) : ∀ (l5 l7 : Int) (h : m_H), GI h → FR [t] [] h0 h → 0 ≤ l7 → l7 ≤ 10 → 2 * (10 - l7) + (1) ≤ ((n + 1 : Nat) : Int) → m_Z oF M_X12_wide 6 [some (mR t), some (mR f), some (mI a2), some (mJ a3), none, some (mJ l5), none, some (mI l7), none, none] [] h (m_QV (P_X12_wide80 h0 t f a2 a3)) := by
  intro l5 l7 h G R v0 v1 hr
  refine z_iload (M := M_X12_wide) 6 dX12_wide_6 rfl ?_
  refine z_bipush (M := M_X12_wide) 8 dX12_wide_8 ?_
  refine z_icmp_ge (M := M_X12_wide) 10 dX12_wide_10 60 rfl (fun c1 => ?_) (fun c1 => ?_)
  · exact z_retV (M := M_X12_wide) 60 dX12_wide_60 rfl ⟨G, R⟩
  · refine z_iload (M := M_X12_wide) 13 dX12_wide_13 rfl ?_
    refine z_iconst (M := M_X12_wide) 15 dX12_wide_15 ?_
    refine z_icmp_ge (M := M_X12_wide) 16 dX12_wide_16 30 rfl (fun c2 => ?_) (fun c2 => ?_)
    · refine z_lconst (M := M_X12_wide) 30 dX12_wide_30 (v := 0) ?_
      refine z_lload (M := M_X12_wide) 31 dX12_wide_31 rfl ?_
      refine z_ladd (M := M_X12_wide) 33 dX12_wide_33 ?_
      refine z_topJ (fun x3 ex3 => ?_)
      refine z_lstore (M := M_X12_wide) 34 dX12_wide_34 (ls' := [some (mR t), some (mR f), some (mI a2), some (mJ a3), none, some (mJ l5), none, some (mI l7), some (mJ x3), none]) (by decide) rfl ?_
      refine z_aload_n (M := M_X12_wide) 36 dX12_wide_36 rfl ?_
      refine z_iload (M := M_X12_wide) 37 dX12_wide_37 rfl ?_
      refine z_lload (M := M_X12_wide) 39 dX12_wide_39 rfl ?_
      refine z_ldc2 (M := M_X12_wide) 41 dX12_wide_41 k_X12_327 ?_
      refine z_lrem (M := M_X12_wide) 44 dX12_wide_44 (by omega) ?_
      refine z_topJ (fun x4 ex4 => ?_)
      refine z_lastH (M := M_X12_wide) 45 dX12_wide_45 (oC_135_136 w_t) (by omega) (by omega) (uC_135_136 w_t G) (R.up (by simp [fr])) (fun h1 E1 G1 R1 => ?_)
      refine z_lload (M := M_X12_wide) 46 dX12_wide_46 rfl ?_
      refine z_ldc2 (M := M_X12_wide) 48 dX12_wide_48 k_X12_327 ?_
      refine z_ldiv (M := M_X12_wide) 51 dX12_wide_51 (by omega) ?_
      refine z_topJ (fun x5 ex5 => ?_)
      refine z_lstore (M := M_X12_wide) 52 dX12_wide_52 (ls' := [some (mR t), some (mR f), some (mI a2), some (mJ a3), none, some (mJ x5), none, some (mI l7), some (mJ x3), none]) (by decide) rfl ?_
      refine z_iincN (M := M_X12_wide) 54 dX12_wide_54 (ls' := [some (mR t), some (mR f), some (mI a2), some (mJ a3), none, some (mJ x5), none, some (mI (l7 + 1)), some (mJ x3), none]) (by decide) rfl (by (unfold m_32; decide)) (by omega) (by omega) rfl ?_
      refine z_goto (M := M_X12_wide) 57 dX12_wide_57 6 rfl ?_
      exact z_mask [true, true, true, true, false, true, false, true, false, false] rfl (ih x5 (l7 + 1) h1 G1 R1 (by omega) (by omega) (by omega))
    · refine z_aload_n (M := M_X12_wide) 19 dX12_wide_19 rfl ?_
      refine z_iload_n (M := M_X12_wide) 20 dX12_wide_20 rfl ?_
      refine z_iload (M := M_X12_wide) 21 dX12_wide_21 rfl ?_
      refine z_iaddN (M := M_X12_wide) 23 dX12_wide_23 (by omega) (by omega) ?_
      refine z_laldG (M := M_X12_wide) 24 dX12_wide_24 (oC_124_125 w_f) (by omega) (by omega) (gC_124_125 w_f G (by omega)) (fun x6 ex6 ax6 bx6 => ?_)
      refine z_lload_n (M := M_X12_wide) 25 dX12_wide_25 rfl ?_
      refine z_lmul (M := M_X12_wide) 26 dX12_wide_26 ?_
      refine z_topJ (fun x7 ex7 => ?_)
      refine z_goto (M := M_X12_wide) 27 dX12_wide_27 31 rfl ?_
      refine z_lload (M := M_X12_wide) 31 dX12_wide_31 rfl ?_
      refine z_ladd (M := M_X12_wide) 33 dX12_wide_33 ?_
      refine z_topJ (fun x8 ex8 => ?_)
      refine z_lstore (M := M_X12_wide) 34 dX12_wide_34 (ls' := [some (mR t), some (mR f), some (mI a2), some (mJ a3), none, some (mJ l5), none, some (mI l7), some (mJ x8), none]) (by decide) rfl ?_
      refine z_aload_n (M := M_X12_wide) 36 dX12_wide_36 rfl ?_
      refine z_iload (M := M_X12_wide) 37 dX12_wide_37 rfl ?_
      refine z_lload (M := M_X12_wide) 39 dX12_wide_39 rfl ?_
      refine z_ldc2 (M := M_X12_wide) 41 dX12_wide_41 k_X12_327 ?_
      refine z_lrem (M := M_X12_wide) 44 dX12_wide_44 (by omega) ?_
      refine z_topJ (fun x9 ex9 => ?_)
      refine z_lastH (M := M_X12_wide) 45 dX12_wide_45 (oC_135_136 w_t) (by omega) (by omega) (uC_135_136 w_t G) (R.up (by simp [fr])) (fun h2 E2 G2 R2 => ?_)
      refine z_lload (M := M_X12_wide) 46 dX12_wide_46 rfl ?_
      refine z_ldc2 (M := M_X12_wide) 48 dX12_wide_48 k_X12_327 ?_
      refine z_ldiv (M := M_X12_wide) 51 dX12_wide_51 (by omega) ?_
      refine z_topJ (fun x10 ex10 => ?_)
      refine z_lstore (M := M_X12_wide) 52 dX12_wide_52 (ls' := [some (mR t), some (mR f), some (mI a2), some (mJ a3), none, some (mJ x10), none, some (mI l7), some (mJ x8), none]) (by decide) rfl ?_
      refine z_iincN (M := M_X12_wide) 54 dX12_wide_54 (ls' := [some (mR t), some (mR f), some (mI a2), some (mJ a3), none, some (mJ x10), none, some (mI (l7 + 1)), some (mJ x8), none]) (by decide) rfl (by (unfold m_32; decide)) (by omega) (by omega) rfl ?_
      refine z_goto (M := M_X12_wide) 57 dX12_wide_57 6 rfl ?_
      exact z_mask [true, true, true, true, false, true, false, true, false, false] rfl (ih x10 (l7 + 1) h2 G2 R2 (by omega) (by omega) (by omega))
theorem a_X12_wide80 (h0 : m_H) (t : Nat) (f : Nat) (a2 a3 : Int) (w_t : t = 135 ∨ t = 136) (w_f : f = 124 ∨ f = 125) (G0 : GI h0) (pa2 : 0 ≤ a2 ∧ a2 ≤ 75) : ∀ n, q_X12_wide80 h0 t f a2 a3 n := by
  intro n
  induction n with
  | zero => unfold q_X12_wide80; intros; omega
  | succ n ih => exact s_X12_wide80_6 h0 t f a2 a3 w_t w_f G0 pa2 n ih
set_option maxHeartbeats 4000000 in
set_option maxRecDepth 100000 in
theorem c_X12_wide80 (h0 : m_H) (t : Nat) (f : Nat) (a2 a3 : Int) (w_t : t = 135 ∨ t = 136) (w_f : f = 124 ∨ f = 125) (G0 : GI h0) (pa2 : 0 ≤ a2 ∧ a2 ≤ 75) : m_CV M_X12_wide [mR t, mR f, mI a2, mJ a3] h0 (P_X12_wide80 h0 t f a2 a3) := by
  refine m_CV_of ⟨by decide, rfl, by simp [m_arg, m_isL, M_X12_wide], ⟨rfl, rfl⟩, rfl, rfl⟩ (ls := [some (mR t), some (mR f), some (mI a2), some (mJ a3), none, none, none, none, none, none]) rfl ?_
  have ih := a_X12_wide80 h0 t f a2 a3 w_t w_f G0 pa2 28
  refine z_lconst (M := M_X12_wide) 0 dX12_wide_0 (v := 0) ?_
  refine z_lstore (M := M_X12_wide) 1 dX12_wide_1 (ls' := [some (mR t), some (mR f), some (mI a2), some (mJ a3), none, some (mJ 0), none, none, none, none]) (by decide) rfl ?_
  refine z_iconst (M := M_X12_wide) 3 dX12_wide_3 ?_
  refine z_istore (M := M_X12_wide) 4 dX12_wide_4 (ls' := [some (mR t), some (mR f), some (mI a2), some (mJ a3), none, some (mJ 0), none, some (mI 0), none, none]) (by decide) rfl ?_
  exact z_mask [true, true, true, true, false, true, false, true, false, false] rfl (ih 0 0 h0 G0 (FR.rf (cs := [t]) (ss := []) (h := h0)) (by omega) (by omega) (by omega))
abbrev P_X12_wide20 (h0 : m_H) (t : Nat) (f : Nat) (a2 a3 : Int) : m_H → Prop := fun h' => GI h' ∧ FR [t] [] h0 h'
def q_X12_wide20 (h0 : m_H) (t : Nat) (f : Nat) (a2 a3 : Int) (n : Nat) : Prop := (∀ (l5 l7 : Int) (h : m_H), GI h → FR [t] [] h0 h → 0 ≤ l7 → l7 ≤ 10 → 2 * (10 - l7) + (1) ≤ (n : Int) → m_Z oF M_X12_wide 6 [some (mR t), some (mR f), some (mI a2), some (mJ a3), none, some (mJ l5), none, some (mI l7), none, none] [] h (m_QV (P_X12_wide20 h0 t f a2 a3)))
set_option maxHeartbeats 4000000 in
set_option maxRecDepth 100000 in
theorem s_X12_wide20_6 (h0 : m_H) (t : Nat) (f : Nat) (a2 a3 : Int) (w_t : t = 135 ∨ t = 136) (w_f : f = 138) (G0 : GI h0) (pa2 : 0 ≤ a2 ∧ a2 ≤ 15) (n : Nat) (ih : q_X12_wide20 h0 t f a2 a3 n) : ∀ (l5 l7 : Int) (h : m_H), GI h → FR [t] [] h0 h → 0 ≤ l7 → l7 ≤ 10 → 2 * (10 - l7) + (1) ≤ ((n + 1 : Nat) : Int) → m_Z oF M_X12_wide 6 [some (mR t), some (mR f), some (mI a2), some (mJ a3), none, some (mJ l5), none, some (mI l7), none, none] [] h (m_QV (P_X12_wide20 h0 t f a2 a3)) := by
  intro l5 l7 h G R v0 v1 hr
  refine z_iload (M := M_X12_wide) 6 dX12_wide_6 rfl ?_
  refine z_bipush (M := M_X12_wide) 8 dX12_wide_8 ?_
  refine z_icmp_ge (M := M_X12_wide) 10 dX12_wide_10 60 rfl (fun c1 => ?_) (fun c1 => ?_)
  · exact z_retV (M := M_X12_wide) 60 dX12_wide_60 rfl ⟨G, R⟩
  · refine z_iload (M := M_X12_wide) 13 dX12_wide_13 rfl ?_
    refine z_iconst (M := M_X12_wide) 15 dX12_wide_15 ?_
    refine z_icmp_ge (M := M_X12_wide) 16 dX12_wide_16 30 rfl (fun c2 => ?_) (fun c2 => ?_)
    · refine z_lconst (M := M_X12_wide) 30 dX12_wide_30 (v := 0) ?_
      refine z_lload (M := M_X12_wide) 31 dX12_wide_31 rfl ?_
      refine z_ladd (M := M_X12_wide) 33 dX12_wide_33 ?_
      refine z_topJ (fun x3 ex3 => ?_)
      refine z_lstore (M := M_X12_wide) 34 dX12_wide_34 (ls' := [some (mR t), some (mR f), some (mI a2), some (mJ a3), none, some (mJ l5), none, some (mI l7), some (mJ x3), none]) (by decide) rfl ?_
      refine z_aload_n (M := M_X12_wide) 36 dX12_wide_36 rfl ?_
      refine z_iload (M := M_X12_wide) 37 dX12_wide_37 rfl ?_
      refine z_lload (M := M_X12_wide) 39 dX12_wide_39 rfl ?_
      refine z_ldc2 (M := M_X12_wide) 41 dX12_wide_41 k_X12_327 ?_
      refine z_lrem (M := M_X12_wide) 44 dX12_wide_44 (by omega) ?_
      refine z_topJ (fun x4 ex4 => ?_)
      refine z_lastH (M := M_X12_wide) 45 dX12_wide_45 (oC_135_136 w_t) (by omega) (by omega) (uC_135_136 w_t G) (R.up (by simp [fr])) (fun h1 E1 G1 R1 => ?_)
      refine z_lload (M := M_X12_wide) 46 dX12_wide_46 rfl ?_
      refine z_ldc2 (M := M_X12_wide) 48 dX12_wide_48 k_X12_327 ?_
      refine z_ldiv (M := M_X12_wide) 51 dX12_wide_51 (by omega) ?_
      refine z_topJ (fun x5 ex5 => ?_)
      refine z_lstore (M := M_X12_wide) 52 dX12_wide_52 (ls' := [some (mR t), some (mR f), some (mI a2), some (mJ a3), none, some (mJ x5), none, some (mI l7), some (mJ x3), none]) (by decide) rfl ?_
      refine z_iincN (M := M_X12_wide) 54 dX12_wide_54 (ls' := [some (mR t), some (mR f), some (mI a2), some (mJ a3), none, some (mJ x5), none, some (mI (l7 + 1)), some (mJ x3), none]) (by decide) rfl (by (unfold m_32; decide)) (by omega) (by omega) rfl ?_
      refine z_goto (M := M_X12_wide) 57 dX12_wide_57 6 rfl ?_
      exact z_mask [true, true, true, true, false, true, false, true, false, false] rfl (ih x5 (l7 + 1) h1 G1 R1 (by omega) (by omega) (by omega))
    · refine z_aload_n (M := M_X12_wide) 19 dX12_wide_19 rfl ?_
      refine z_iload_n (M := M_X12_wide) 20 dX12_wide_20 rfl ?_
      refine z_iload (M := M_X12_wide) 21 dX12_wide_21 rfl ?_
      refine z_iaddN (M := M_X12_wide) 23 dX12_wide_23 (by omega) (by omega) ?_
      refine z_laldG (M := M_X12_wide) 24 dX12_wide_24 (oC_138 w_f) (by omega) (by omega) (gC_138 w_f G (by omega)) (fun x6 ex6 ax6 bx6 => ?_)
      refine z_lload_n (M := M_X12_wide) 25 dX12_wide_25 rfl ?_
      refine z_lmul (M := M_X12_wide) 26 dX12_wide_26 ?_
      refine z_topJ (fun x7 ex7 => ?_)
      refine z_goto (M := M_X12_wide) 27 dX12_wide_27 31 rfl ?_
      refine z_lload (M := M_X12_wide) 31 dX12_wide_31 rfl ?_
      refine z_ladd (M := M_X12_wide) 33 dX12_wide_33 ?_
      refine z_topJ (fun x8 ex8 => ?_)
      refine z_lstore (M := M_X12_wide) 34 dX12_wide_34 (ls' := [some (mR t), some (mR f), some (mI a2), some (mJ a3), none, some (mJ l5), none, some (mI l7), some (mJ x8), none]) (by decide) rfl ?_
      refine z_aload_n (M := M_X12_wide) 36 dX12_wide_36 rfl ?_
      refine z_iload (M := M_X12_wide) 37 dX12_wide_37 rfl ?_
      refine z_lload (M := M_X12_wide) 39 dX12_wide_39 rfl ?_
      refine z_ldc2 (M := M_X12_wide) 41 dX12_wide_41 k_X12_327 ?_
      refine z_lrem (M := M_X12_wide) 44 dX12_wide_44 (by omega) ?_
      refine z_topJ (fun x9 ex9 => ?_)
      refine z_lastH (M := M_X12_wide) 45 dX12_wide_45 (oC_135_136 w_t) (by omega) (by omega) (uC_135_136 w_t G) (R.up (by simp [fr])) (fun h2 E2 G2 R2 => ?_)
      refine z_lload (M := M_X12_wide) 46 dX12_wide_46 rfl ?_
      refine z_ldc2 (M := M_X12_wide) 48 dX12_wide_48 k_X12_327 ?_
      refine z_ldiv (M := M_X12_wide) 51 dX12_wide_51 (by omega) ?_
      refine z_topJ (fun x10 ex10 => ?_)
      refine z_lstore (M := M_X12_wide) 52 dX12_wide_52 (ls' := [some (mR t), some (mR f), some (mI a2), some (mJ a3), none, some (mJ x10), none, some (mI l7), some (mJ x8), none]) (by decide) rfl ?_
      refine z_iincN (M := M_X12_wide) 54 dX12_wide_54 (ls' := [some (mR t), some (mR f), some (mI a2), some (mJ a3), none, some (mJ x10), none, some (mI (l7 + 1)), some (mJ x8), none]) (by decide) rfl (by (unfold m_32; decide)) (by omega) (by omega) rfl ?_
      refine z_goto (M := M_X12_wide) 57 dX12_wide_57 6 rfl ?_
      exact z_mask [true, true, true, true, false, true, false, true, false, false] rfl (ih x10 (l7 + 1) h2 G2 R2 (by omega) (by omega) (by omega))
theorem a_X12_wide20 (h0 : m_H) (t : Nat) (f : Nat) (a2 a3 : Int) (w_t : t = 135 ∨ t = 136) (w_f : f = 138) (G0 : GI h0) (pa2 : 0 ≤ a2 ∧ a2 ≤ 15) : ∀ n, q_X12_wide20 h0 t f a2 a3 n := by
  intro n
  induction n with
  | zero => unfold q_X12_wide20; intros; omega
  | succ n ih => exact s_X12_wide20_6 h0 t f a2 a3 w_t w_f G0 pa2 n ih
set_option maxHeartbeats 4000000 in
set_option maxRecDepth 100000 in
theorem c_X12_wide20 (h0 : m_H) (t : Nat) (f : Nat) (a2 a3 : Int) (w_t : t = 135 ∨ t = 136) (w_f : f = 138) (G0 : GI h0) (pa2 : 0 ≤ a2 ∧ a2 ≤ 15) : m_CV M_X12_wide [mR t, mR f, mI a2, mJ a3] h0 (P_X12_wide20 h0 t f a2 a3) := by
  refine m_CV_of ⟨by decide, rfl, by simp [m_arg, m_isL, M_X12_wide], ⟨rfl, rfl⟩, rfl, rfl⟩ (ls := [some (mR t), some (mR f), some (mI a2), some (mJ a3), none, none, none, none, none, none]) rfl ?_
  have ih := a_X12_wide20 h0 t f a2 a3 w_t w_f G0 pa2 28
  refine z_lconst (M := M_X12_wide) 0 dX12_wide_0 (v := 0) ?_
  refine z_lstore (M := M_X12_wide) 1 dX12_wide_1 (ls' := [some (mR t), some (mR f), some (mI a2), some (mJ a3), none, some (mJ 0), none, none, none, none]) (by decide) rfl ?_
  refine z_iconst (M := M_X12_wide) 3 dX12_wide_3 ?_
  refine z_istore (M := M_X12_wide) 4 dX12_wide_4 (ls' := [some (mR t), some (mR f), some (mI a2), some (mJ a3), none, some (mJ 0), none, some (mI 0), none, none]) (by decide) rfl ?_
  exact z_mask [true, true, true, true, false, true, false, true, false, false] rfl (ih 0 0 h0 G0 (FR.rf (cs := [t]) (ss := []) (h := h0)) (by omega) (by omega) (by omega))
abbrev P_X12_share (h0 : m_H) (f : Nat) (f2 : Nat) (a2 a4 a5 a6 : Int) : Int → m_H → Prop := fun x h' => GI h' ∧ FR [135, 136] [] h0 h' ∧ 0 ≤ x ∧ x ≤ 2000000000
def q_X12_share (h0 : m_H) (f : Nat) (f2 : Nat) (a2 a4 a5 a6 : Int) (n : Nat) : Prop := (∀ (l7 l8 : Int) (h : m_H), GI h → FR [135, 136] [] h0 h → 0 ≤ l7 → l7 ≤ 2000000000 → 0 ≤ l8 → l8 ≤ 2000000000 → (-2147483648) ≤ a5 → a5 ≤ 2147483647 → (l7 ≤ l8) → 25 * (l8 - l7) + (24) ≤ (n : Int) → m_Z oF M_X12_share 19 [some (mR 108), none, none, some (mR f2), some (mI a4), none, none, some (mI l7), some (mI l8), none, none, none, none] [] h (m_QI (P_X12_share h0 f f2 a2 a4 a5 a6))) ∧ (∀ (l7 l8 l9 l10 l11 l12 : Int) (h : m_H), GI h → FR [135, 136] [] h0 h → 0 ≤ l7 → l7 ≤ 1999999999 → 1 ≤ l8 → l8 ≤ 2000000000 → 0 ≤ l9 → l9 ≤ 2000000000 → 0 ≤ l10 → l10 ≤ 1 → 0 ≤ l11 → l11 ≤ 1 → (-1) ≤ l12 → l12 ≤ 9 → (-2147483648) ≤ a5 → a5 ≤ 2147483647 → (l7 ≤ l9 - 1 ∧ l9 ≤ l8) → 25 * (l8 - l7) + 2 * (l12 - (-1)) + (1) ≤ (n : Int) → m_Z oF M_X12_share 63 [some (mR 108), none, none, some (mR f2), some (mI a4), none, none, some (mI l7), some (mI l8), some (mI l9), some (mI l10), some (mI l11), some (mI l12)] [] h (m_QI (P_X12_share h0 f f2 a2 a4 a5 a6)))
set_option maxHeartbeats 4000000 in
set_option maxRecDepth 100000 in
theorem s_X12_share_19 (h0 : m_H) (f : Nat) (f2 : Nat) (a2 a4 a5 a6 : Int) (w_f : f = 124 ∨ f = 125) (w_f2 : f2 = 124 ∨ f2 = 125) (G0 : GI h0) (pa2 : 0 ≤ a2 ∧ a2 ≤ 75) (pa4 : 0 ≤ a4 ∧ a4 ≤ 75) (pa6 : 0 ≤ a6 ∧ a6 ≤ 2000000000) (n : Nat) (ih : q_X12_share h0 f f2 a2 a4 a5 a6 n) : ∀ (l7 l8 : Int) (h : m_H), GI h → FR [135, 136] [] h0 h → 0 ≤ l7 → l7 ≤ 2000000000 → 0 ≤ l8 → l8 ≤ 2000000000 → (-2147483648) ≤ a5 → a5 ≤ 2147483647 → (l7 ≤ l8) → 25 * (l8 - l7) + (24) ≤ ((n + 1 : Nat) : Int) → m_Z oF M_X12_share 19 [some (mR 108), none, none, some (mR f2), some (mI a4), none, none, some (mI l7), some (mI l8), none, none, none, none] [] h (m_QI (P_X12_share h0 f f2 a2 a4 a5 a6)) := by
  intro l7 l8 h G R v0 v1 v2 v3 v4 v5 i0 hr
  refine z_iload (M := M_X12_share) 19 dX12_share_19 rfl ?_
  refine z_iload (M := M_X12_share) 21 dX12_share_21 rfl ?_
  refine z_icmp_ge (M := M_X12_share) 23 dX12_share_23 150 rfl (fun c1 => ?_) (fun c1 => ?_)
  · refine z_iload (M := M_X12_share) 150 dX12_share_150 rfl ?_
    exact z_retI (M := M_X12_share) 152 dX12_share_152 rfl ⟨G, R, by omega, by omega⟩
  · refine z_iload (M := M_X12_share) 26 dX12_share_26 rfl ?_
    refine z_iload (M := M_X12_share) 28 dX12_share_28 rfl ?_
    refine z_iload (M := M_X12_share) 30 dX12_share_30 rfl ?_
    refine z_isubN (M := M_X12_share) 32 dX12_share_32 (by omega) (by omega) ?_
    refine z_iconst (M := M_X12_share) 33 dX12_share_33 ?_
    refine z_iaddN (M := M_X12_share) 34 dX12_share_34 (by omega) (by omega) ?_
    refine z_iconst (M := M_X12_share) 35 dX12_share_35 ?_
    refine z_idivN (M := M_X12_share) 36 dX12_share_36 (by omega) (by omega) ?_
    refine z_topBI (lo := 0) (hi := 1000000000) ⟨by omega, by omega⟩ (fun x2 ex2 ax2 bx2 => ?_)
    refine z_iaddN (M := M_X12_share) 37 dX12_share_37 (by omega) (by omega) ?_
    refine z_topBI (lo := 0) (hi := 2000000000) ⟨by omega, by omega⟩ (fun x3 ex3 ax3 bx3 => ?_)
    refine z_istore (M := M_X12_share) 38 dX12_share_38 (ls' := [some (mR 108), none, none, some (mR f2), some (mI a4), none, none, some (mI l7), some (mI l8), some (mI x3), none, none, none]) (by decide) rfl ?_
    refine z_aload_n (M := M_X12_share) 40 dX12_share_40 rfl ?_
    refine z_getR (M := M_X12_share) 41 dX12_share_41 f_X12_97 o_108 rfl (g_108_41 G) ?_
    refine z_aload_n (M := M_X12_share) 44 dX12_share_44 rfl ?_
    refine z_iload (M := M_X12_share) 45 dX12_share_45 rfl ?_
    refine z_iload (M := M_X12_share) 47 dX12_share_47 rfl ?_
    refine z_i2l (M := M_X12_share) 49 dX12_share_49 ?_
    refine z_sV (M := M_X12_share) 50 dX12_share_50 t_X12_wide l_X12_387 (m_rr_of rfl) (rest := []) (c_X12_wide80 h 136 f2 a4 x3 (Or.inr rfl) w_f2 G ⟨by omega, by omega⟩) rfl rfl (Nat.le_of_ble_eq_true rfl) ⟨rfl, rfl⟩ (fun h1 qx4 => ?_)
    obtain ⟨G1, S1⟩ := qx4
    have R1 := R.call S1 (by decide +kernel)
    refine z_iconst (M := M_X12_share) 53 dX12_share_53 ?_
    refine z_istore (M := M_X12_share) 54 dX12_share_54 (ls' := [some (mR 108), none, none, some (mR f2), some (mI a4), none, none, some (mI l7), some (mI l8), some (mI x3), some (mI 1), none, none]) (by decide) rfl ?_
    refine z_iconst (M := M_X12_share) 56 dX12_share_56 ?_
    refine z_istore (M := M_X12_share) 57 dX12_share_57 (ls' := [some (mR 108), none, none, some (mR f2), some (mI a4), none, none, some (mI l7), some (mI l8), some (mI x3), some (mI 1), some (mI 1), none]) (by decide) rfl ?_
    refine z_bipush (M := M_X12_share) 59 dX12_share_59 ?_
    refine z_istore (M := M_X12_share) 61 dX12_share_61 (ls' := [some (mR 108), none, none, some (mR f2), some (mI a4), none, none, some (mI l7), some (mI l8), some (mI x3), some (mI 1), some (mI 1), some (mI 9)]) (by decide) rfl ?_
    exact z_mask [true, false, false, true, true, false, false, true, true, true, true, true, true] rfl (ih.2 l7 l8 x3 1 1 9 h1 G1 R1 (by omega) (by omega) (by omega) (by omega) (by omega) (by omega) (by omega) (by omega) (by omega) (by omega) (by omega) (by omega) (by omega) (by omega) (by omega) (by omega))
set_option maxHeartbeats 4000000 in
set_option maxRecDepth 100000 in
theorem s_X12_share_63 (h0 : m_H) (f : Nat) (f2 : Nat) (a2 a4 a5 a6 : Int) (w_f : f = 124 ∨ f = 125) (w_f2 : f2 = 124 ∨ f2 = 125) (G0 : GI h0) (pa2 : 0 ≤ a2 ∧ a2 ≤ 75) (pa4 : 0 ≤ a4 ∧ a4 ≤ 75) (pa6 : 0 ≤ a6 ∧ a6 ≤ 2000000000) (n : Nat) (ih : q_X12_share h0 f f2 a2 a4 a5 a6 n) : ∀ (l7 l8 l9 l10 l11 l12 : Int) (h : m_H), GI h → FR [135, 136] [] h0 h → 0 ≤ l7 → l7 ≤ 1999999999 → 1 ≤ l8 → l8 ≤ 2000000000 → 0 ≤ l9 → l9 ≤ 2000000000 → 0 ≤ l10 → l10 ≤ 1 → 0 ≤ l11 → l11 ≤ 1 → (-1) ≤ l12 → l12 ≤ 9 → (-2147483648) ≤ a5 → a5 ≤ 2147483647 → (l7 ≤ l9 - 1 ∧ l9 ≤ l8) → 25 * (l8 - l7) + 2 * (l12 - (-1)) + (1) ≤ ((n + 1 : Nat) : Int) → m_Z oF M_X12_share 63 [some (mR 108), none, none, some (mR f2), some (mI a4), none, none, some (mI l7), some (mI l8), some (mI l9), some (mI l10), some (mI l11), some (mI l12)] [] h (m_QI (P_X12_share h0 f f2 a2 a4 a5 a6)) := by
  intro l7 l8 l9 l10 l11 l12 h G R v0 v1 v2 v3 v4 v5 v6 v7 v8 v9 v10 v11 v12 v13 i0 hr
  refine z_iload (M := M_X12_share) 63 dX12_share_63 rfl ?_
  refine z_if_lt (M := M_X12_share) 65 dX12_share_65 129 rfl (fun c1 => ?_) (fun c1 => ?_)
  · refine z_iload (M := M_X12_share) 129 dX12_share_129 rfl ?_
    refine z_if_eq (M := M_X12_share) 131 dX12_share_131 141 rfl (fun c2 => ?_) (fun c2 => ?_)
    · refine z_iload (M := M_X12_share) 141 dX12_share_141 rfl ?_
      refine z_iconst (M := M_X12_share) 143 dX12_share_143 ?_
      refine z_isubN (M := M_X12_share) 144 dX12_share_144 (by omega) (by omega) ?_
      refine z_istore (M := M_X12_share) 145 dX12_share_145 (ls' := [some (mR 108), none, none, some (mR f2), some (mI a4), none, none, some (mI l7), some (mI (l9 - 1)), some (mI l9), some (mI l10), some (mI l11), some (mI l12)]) (by decide) rfl ?_
      refine z_goto (M := M_X12_share) 147 dX12_share_147 19 rfl ?_
      exact z_mask [true, false, false, true, true, false, false, true, true, false, false, false, false] rfl (ih.1 l7 (l9 - 1) h G R (by omega) (by omega) (by omega) (by omega) (by omega) (by omega) (by omega) (by omega))
    · refine z_iload (M := M_X12_share) 134 dX12_share_134 rfl ?_
      refine z_istore (M := M_X12_share) 136 dX12_share_136 (ls' := [some (mR 108), none, none, some (mR f2), some (mI a4), none, none, some (mI l9), some (mI l8), some (mI l9), some (mI l10), some (mI l11), some (mI l12)]) (by decide) rfl ?_
      refine z_goto (M := M_X12_share) 138 dX12_share_138 147 rfl ?_
      refine z_goto (M := M_X12_share) 147 dX12_share_147 19 rfl ?_
      exact z_mask [true, false, false, true, true, false, false, true, true, false, false, false, false] rfl (ih.1 l9 l8 h G R (by omega) (by omega) (by omega) (by omega) (by omega) (by omega) (by omega) (by omega))
  · refine z_iload (M := M_X12_share) 68 dX12_share_68 rfl ?_
    refine z_if_eq (M := M_X12_share) 70 dX12_share_70 129 rfl (fun c3 => ?_) (fun c3 => ?_)
    · refine z_iload (M := M_X12_share) 129 dX12_share_129 rfl ?_
      refine z_if_eq (M := M_X12_share) 131 dX12_share_131 141 rfl (fun c4 => ?_) (fun c4 => ?_)
      · refine z_iload (M := M_X12_share) 141 dX12_share_141 rfl ?_
        refine z_iconst (M := M_X12_share) 143 dX12_share_143 ?_
        refine z_isubN (M := M_X12_share) 144 dX12_share_144 (by omega) (by omega) ?_
        refine z_istore (M := M_X12_share) 145 dX12_share_145 (ls' := [some (mR 108), none, none, some (mR f2), some (mI a4), none, none, some (mI l7), some (mI (l9 - 1)), some (mI l9), some (mI l10), some (mI l11), some (mI l12)]) (by decide) rfl ?_
        refine z_goto (M := M_X12_share) 147 dX12_share_147 19 rfl ?_
        exact z_mask [true, false, false, true, true, false, false, true, true, false, false, false, false] rfl (ih.1 l7 (l9 - 1) h G R (by omega) (by omega) (by omega) (by omega) (by omega) (by omega) (by omega) (by omega))
      · refine z_iload (M := M_X12_share) 134 dX12_share_134 rfl ?_
        refine z_istore (M := M_X12_share) 136 dX12_share_136 (ls' := [some (mR 108), none, none, some (mR f2), some (mI a4), none, none, some (mI l9), some (mI l8), some (mI l9), some (mI l10), some (mI l11), some (mI l12)]) (by decide) rfl ?_
        refine z_goto (M := M_X12_share) 138 dX12_share_138 147 rfl ?_
        refine z_goto (M := M_X12_share) 147 dX12_share_147 19 rfl ?_
        exact z_mask [true, false, false, true, true, false, false, true, true, false, false, false, false] rfl (ih.1 l9 l8 h G R (by omega) (by omega) (by omega) (by omega) (by omega) (by omega) (by omega) (by omega))
    · refine z_aload_n (M := M_X12_share) 73 dX12_share_73 rfl ?_
      refine z_getR (M := M_X12_share) 74 dX12_share_74 f_X12_97 o_108 rfl (g_108_41 G) ?_
      refine z_iload (M := M_X12_share) 77 dX12_share_77 rfl ?_
      refine z_laldV (M := M_X12_share) 79 dX12_share_79 o_136 (by omega) (by omega) (fun x5 ex5 => ?_)
      refine z_aload_n (M := M_X12_share) 80 dX12_share_80 rfl ?_
      refine z_getR (M := M_X12_share) 81 dX12_share_81 f_X12_94 o_108 rfl (g_108_40 G) ?_
      refine z_iload (M := M_X12_share) 84 dX12_share_84 rfl ?_
      refine z_laldV (M := M_X12_share) 86 dX12_share_86 o_135 (by omega) (by omega) (fun x6 ex6 => ?_)
      refine z_lcmp (M := M_X12_share) 87 dX12_share_87 ?_
      refine z_if_ne (M := M_X12_share) 88 dX12_share_88 95 rfl (fun c7 => ?_) (fun c7 => ?_)
      · rw [m_cmp_eq] at c7
        refine z_iconst (M := M_X12_share) 95 dX12_share_95 ?_
        refine z_istore (M := M_X12_share) 96 dX12_share_96 (ls' := [some (mR 108), none, none, some (mR f2), some (mI a4), none, none, some (mI l7), some (mI l8), some (mI l9), some (mI l10), some (mI 0), some (mI l12)]) (by decide) rfl ?_
        refine z_aload_n (M := M_X12_share) 98 dX12_share_98 rfl ?_
        refine z_getR (M := M_X12_share) 99 dX12_share_99 f_X12_97 o_108 rfl (g_108_41 G) ?_
        refine z_iload (M := M_X12_share) 102 dX12_share_102 rfl ?_
        refine z_laldE (M := M_X12_share) 104 dX12_share_104 o_136 (by omega) (by omega) ex5 ?_
        refine z_aload_n (M := M_X12_share) 105 dX12_share_105 rfl ?_
        refine z_getR (M := M_X12_share) 106 dX12_share_106 f_X12_94 o_108 rfl (g_108_40 G) ?_
        refine z_iload (M := M_X12_share) 109 dX12_share_109 rfl ?_
        refine z_laldE (M := M_X12_share) 111 dX12_share_111 o_135 (by omega) (by omega) ex6 ?_
        refine z_lcmp (M := M_X12_share) 112 dX12_share_112 ?_
        refine z_if_gt (M := M_X12_share) 113 dX12_share_113 120 rfl (fun c8 => ?_) (fun c8 => ?_)
        · rw [m_cmp_gt] at c8
          refine z_iconst (M := M_X12_share) 120 dX12_share_120 ?_
          refine z_istore (M := M_X12_share) 121 dX12_share_121 (ls' := [some (mR 108), none, none, some (mR f2), some (mI a4), none, none, some (mI l7), some (mI l8), some (mI l9), some (mI 0), some (mI 0), some (mI l12)]) (by decide) rfl ?_
          refine z_iincN (M := M_X12_share) 123 dX12_share_123 (ls' := [some (mR 108), none, none, some (mR f2), some (mI a4), none, none, some (mI l7), some (mI l8), some (mI l9), some (mI 0), some (mI 0), some (mI (l12 + (-1)))]) (by decide) rfl (by (unfold m_32; decide)) (by omega) (by omega) rfl ?_
          refine z_goto (M := M_X12_share) 126 dX12_share_126 63 rfl ?_
          exact z_mask [true, false, false, true, true, false, false, true, true, true, true, true, true] rfl (ih.2 l7 l8 l9 0 0 (l12 + (-1)) h G R (by omega) (by omega) (by omega) (by omega) (by omega) (by omega) (by omega) (by omega) (by omega) (by omega) (by omega) (by omega) (by omega) (by omega) (by omega) (by omega))
        · rw [m_cmp_gt] at c8
          refine z_iconst (M := M_X12_share) 116 dX12_share_116 ?_
          refine z_goto (M := M_X12_share) 117 dX12_share_117 121 rfl ?_
          refine z_istore (M := M_X12_share) 121 dX12_share_121 (ls' := [some (mR 108), none, none, some (mR f2), some (mI a4), none, none, some (mI l7), some (mI l8), some (mI l9), some (mI 1), some (mI 0), some (mI l12)]) (by decide) rfl ?_
          refine z_iincN (M := M_X12_share) 123 dX12_share_123 (ls' := [some (mR 108), none, none, some (mR f2), some (mI a4), none, none, some (mI l7), some (mI l8), some (mI l9), some (mI 1), some (mI 0), some (mI (l12 + (-1)))]) (by decide) rfl (by (unfold m_32; decide)) (by omega) (by omega) rfl ?_
          refine z_goto (M := M_X12_share) 126 dX12_share_126 63 rfl ?_
          exact z_mask [true, false, false, true, true, false, false, true, true, true, true, true, true] rfl (ih.2 l7 l8 l9 1 0 (l12 + (-1)) h G R (by omega) (by omega) (by omega) (by omega) (by omega) (by omega) (by omega) (by omega) (by omega) (by omega) (by omega) (by omega) (by omega) (by omega) (by omega) (by omega))
      · rw [m_cmp_eq] at c7
        refine z_iconst (M := M_X12_share) 91 dX12_share_91 ?_
        refine z_goto (M := M_X12_share) 92 dX12_share_92 96 rfl ?_
        refine z_istore (M := M_X12_share) 96 dX12_share_96 (ls' := [some (mR 108), none, none, some (mR f2), some (mI a4), none, none, some (mI l7), some (mI l8), some (mI l9), some (mI l10), some (mI 1), some (mI l12)]) (by decide) rfl ?_
        refine z_aload_n (M := M_X12_share) 98 dX12_share_98 rfl ?_
        refine z_getR (M := M_X12_share) 99 dX12_share_99 f_X12_97 o_108 rfl (g_108_41 G) ?_
        refine z_iload (M := M_X12_share) 102 dX12_share_102 rfl ?_
        refine z_laldE (M := M_X12_share) 104 dX12_share_104 o_136 (by omega) (by omega) ex5 ?_
        refine z_aload_n (M := M_X12_share) 105 dX12_share_105 rfl ?_
        refine z_getR (M := M_X12_share) 106 dX12_share_106 f_X12_94 o_108 rfl (g_108_40 G) ?_
        refine z_iload (M := M_X12_share) 109 dX12_share_109 rfl ?_
        refine z_laldE (M := M_X12_share) 111 dX12_share_111 o_135 (by omega) (by omega) ex6 ?_
        refine z_lcmp (M := M_X12_share) 112 dX12_share_112 ?_
        refine z_if_gt (M := M_X12_share) 113 dX12_share_113 120 rfl (fun c9 => ?_) (fun c9 => ?_)
        · rw [m_cmp_gt] at c9
          refine z_iconst (M := M_X12_share) 120 dX12_share_120 ?_
          refine z_istore (M := M_X12_share) 121 dX12_share_121 (ls' := [some (mR 108), none, none, some (mR f2), some (mI a4), none, none, some (mI l7), some (mI l8), some (mI l9), some (mI 0), some (mI 1), some (mI l12)]) (by decide) rfl ?_
          refine z_iincN (M := M_X12_share) 123 dX12_share_123 (ls' := [some (mR 108), none, none, some (mR f2), some (mI a4), none, none, some (mI l7), some (mI l8), some (mI l9), some (mI 0), some (mI 1), some (mI (l12 + (-1)))]) (by decide) rfl (by (unfold m_32; decide)) (by omega) (by omega) rfl ?_
          refine z_goto (M := M_X12_share) 126 dX12_share_126 63 rfl ?_
          exact z_mask [true, false, false, true, true, false, false, true, true, true, true, true, true] rfl (ih.2 l7 l8 l9 0 1 (l12 + (-1)) h G R (by omega) (by omega) (by omega) (by omega) (by omega) (by omega) (by omega) (by omega) (by omega) (by omega) (by omega) (by omega) (by omega) (by omega) (by omega) (by omega))
        · rw [m_cmp_gt] at c9
          refine z_iconst (M := M_X12_share) 116 dX12_share_116 ?_
          refine z_goto (M := M_X12_share) 117 dX12_share_117 121 rfl ?_
          refine z_istore (M := M_X12_share) 121 dX12_share_121 (ls' := [some (mR 108), none, none, some (mR f2), some (mI a4), none, none, some (mI l7), some (mI l8), some (mI l9), some (mI 1), some (mI 1), some (mI l12)]) (by decide) rfl ?_
          refine z_iincN (M := M_X12_share) 123 dX12_share_123 (ls' := [some (mR 108), none, none, some (mR f2), some (mI a4), none, none, some (mI l7), some (mI l8), some (mI l9), some (mI 1), some (mI 1), some (mI (l12 + (-1)))]) (by decide) rfl (by (unfold m_32; decide)) (by omega) (by omega) rfl ?_
          refine z_goto (M := M_X12_share) 126 dX12_share_126 63 rfl ?_
          exact z_mask [true, false, false, true, true, false, false, true, true, true, true, true, true] rfl (ih.2 l7 l8 l9 1 1 (l12 + (-1)) h G R (by omega) (by omega) (by omega) (by omega) (by omega) (by omega) (by omega) (by omega) (by omega) (by omega) (by omega) (by omega) (by omega) (by omega) (by omega) (by omega))
theorem a_X12_share (h0 : m_H) (f : Nat) (f2 : Nat) (a2 a4 a5 a6 : Int) (w_f : f = 124 ∨ f = 125) (w_f2 : f2 = 124 ∨ f2 = 125) (G0 : GI h0) (pa2 : 0 ≤ a2 ∧ a2 ≤ 75) (pa4 : 0 ≤ a4 ∧ a4 ≤ 75) (pa6 : 0 ≤ a6 ∧ a6 ≤ 2000000000) : ∀ n, q_X12_share h0 f f2 a2 a4 a5 a6 n := by
  intro n
  induction n with
  | zero => unfold q_X12_share; refine ⟨?_, ?_⟩ <;> (intros; omega)
  | succ n ih => exact ⟨s_X12_share_19 h0 f f2 a2 a4 a5 a6 w_f w_f2 G0 pa2 pa4 pa6 n ih, s_X12_share_63 h0 f f2 a2 a4 a5 a6 w_f w_f2 G0 pa2 pa4 pa6 n ih⟩
set_option maxHeartbeats 4000000 in
set_option maxRecDepth 100000 in
theorem c_X12_share (h0 : m_H) (f : Nat) (f2 : Nat) (a2 a4 a5 a6 : Int) (w_f : f = 124 ∨ f = 125) (w_f2 : f2 = 124 ∨ f2 = 125) (G0 : GI h0) (pa2 : 0 ≤ a2 ∧ a2 ≤ 75) (pa4 : 0 ≤ a4 ∧ a4 ≤ 75) (pa6 : 0 ≤ a6 ∧ a6 ≤ 2000000000) : m_CI M_X12_share [mR 108, mR f, mI a2, mR f2, mI a4, mI a5, mI a6] h0 (P_X12_share h0 f f2 a2 a4 a5 a6) := by
  refine m_CI_of ⟨by decide, rfl, by simp [m_arg, m_isL, M_X12_share], ⟨rfl, rfl⟩, rfl, rfl⟩ (ls := [some (mR 108), some (mR f), some (mI a2), some (mR f2), some (mI a4), some (mI a5), some (mI a6), none, none, none, none, none, none]) rfl ?_
  have ih := a_X12_share h0 f f2 a2 a4 a5 a6 w_f w_f2 G0 pa2 pa4 pa6 50000000031
  refine z_ok (fun _ _ ok => ?_)
  have oa5 : m_32 a5 := ok 5 _ rfl
  unfold m_32 at oa5
  refine z_iconst (M := M_X12_share) 0 dX12_share_0 ?_
  refine z_istore (M := M_X12_share) 1 dX12_share_1 (ls' := [some (mR 108), some (mR f), some (mI a2), some (mR f2), some (mI a4), some (mI a5), some (mI a6), some (mI 0), none, none, none, none, none]) (by decide) rfl ?_
  refine z_iload (M := M_X12_share) 3 dX12_share_3 rfl ?_
  refine z_istore (M := M_X12_share) 5 dX12_share_5 (ls' := [some (mR 108), some (mR f), some (mI a2), some (mR f2), some (mI a4), some (mI a5), some (mI a6), some (mI 0), some (mI a6), none, none, none, none]) (by decide) rfl ?_
  refine z_aload_n (M := M_X12_share) 7 dX12_share_7 rfl ?_
  refine z_getR (M := M_X12_share) 8 dX12_share_8 f_X12_94 o_108 rfl (g_108_40 G0) ?_
  refine z_aload_n (M := M_X12_share) 11 dX12_share_11 rfl ?_
  refine z_iload_n (M := M_X12_share) 12 dX12_share_12 rfl ?_
  refine z_iload (M := M_X12_share) 13 dX12_share_13 rfl ?_
  refine z_i2l (M := M_X12_share) 15 dX12_share_15 ?_
  refine z_sV (M := M_X12_share) 16 dX12_share_16 t_X12_wide l_X12_387 (m_rr_of rfl) (rest := []) (c_X12_wide80 h0 135 f a2 a5 (Or.inl rfl) w_f G0 ⟨by omega, by omega⟩) rfl rfl (Nat.le_of_ble_eq_true rfl) ⟨rfl, rfl⟩ (fun h1 qx1 => ?_)
  obtain ⟨G1, S1⟩ := qx1
  have R1 := (FR.rf (cs := [135, 136]) (ss := []) (h := h0)).call S1 (by decide +kernel)
  exact z_mask [true, false, false, true, true, false, false, true, true, false, false, false, false] rfl (ih.1 0 a6 h1 G1 R1 (by omega) (by omega) (by omega) (by omega) (by omega) (by omega) (by omega) (by omega))
abbrev P_X12_besideTen (h0 : m_H) (t : Nat) (t2 : Nat) : Int → m_H → Prop := fun x h' => GI h' ∧ FR [] [] h0 h' ∧ (-1) ≤ x ∧ x ≤ 1
def q_X12_besideTen (h0 : m_H) (t : Nat) (t2 : Nat) (n : Nat) : Prop := (∀ (l2 : Int) (h : m_H), GI h → FR [] [] h0 h → (-1) ≤ l2 → l2 ≤ 9 → 2 * (l2 - (-1)) + (1) ≤ (n : Int) → m_Z oF M_X12_besideTen 3 [some (mR t), some (mR t2), some (mI l2)] [] h (m_QI (P_X12_besideTen h0 t t2)))
set_option maxHeartbeats 4000000 in
set_option maxRecDepth 100000 in
theorem s_X12_besideTen_3 (h0 : m_H) (t : Nat) (t2 : Nat) (w_t : t = 139 ∨ t = 140 ∨ t = 141) (w_t2 : t2 = 139 ∨ t2 = 140 ∨ t2 = 141) (G0 : GI h0) (n : Nat) (ih : q_X12_besideTen h0 t t2 n) : ∀ (l2 : Int) (h : m_H), GI h → FR [] [] h0 h → (-1) ≤ l2 → l2 ≤ 9 → 2 * (l2 - (-1)) + (1) ≤ ((n + 1 : Nat) : Int) → m_Z oF M_X12_besideTen 3 [some (mR t), some (mR t2), some (mI l2)] [] h (m_QI (P_X12_besideTen h0 t t2)) := by
  intro l2 h G R v0 v1 hr
  refine z_iload_n (M := M_X12_besideTen) 3 dX12_besideTen_3 rfl ?_
  refine z_if_lt (M := M_X12_besideTen) 4 dX12_besideTen_4 39 rfl (fun c1 => ?_) (fun c1 => ?_)
  · refine z_iconst (M := M_X12_besideTen) 39 dX12_besideTen_39 ?_
    exact z_retI (M := M_X12_besideTen) 40 dX12_besideTen_40 rfl ⟨G, R, by omega, by omega⟩
  · refine z_aload_n (M := M_X12_besideTen) 7 dX12_besideTen_7 rfl ?_
    refine z_iload_n (M := M_X12_besideTen) 8 dX12_besideTen_8 rfl ?_
    refine z_laldV (M := M_X12_besideTen) 9 dX12_besideTen_9 (oC_139_140_141 w_t) (by omega) (by omega) (fun x2 ex2 => ?_)
    refine z_aload_n (M := M_X12_besideTen) 10 dX12_besideTen_10 rfl ?_
    refine z_iload_n (M := M_X12_besideTen) 11 dX12_besideTen_11 rfl ?_
    refine z_laldV (M := M_X12_besideTen) 12 dX12_besideTen_12 (oC_139_140_141 w_t2) (by omega) (by omega) (fun x3 ex3 => ?_)
    refine z_lcmp (M := M_X12_besideTen) 13 dX12_besideTen_13 ?_
    refine z_if_eq (M := M_X12_besideTen) 14 dX12_besideTen_14 33 rfl (fun c4 => ?_) (fun c4 => ?_)
    · rw [m_cmp_eq] at c4
      refine z_iincN (M := M_X12_besideTen) 33 dX12_besideTen_33 (ls' := [some (mR t), some (mR t2), some (mI (l2 + (-1)))]) (by decide) rfl (by (unfold m_32; decide)) (by omega) (by omega) rfl ?_
      refine z_goto (M := M_X12_besideTen) 36 dX12_besideTen_36 3 rfl ?_
      exact z_mask [true, true, true] rfl (ih (l2 + (-1)) h G R (by omega) (by omega) (by omega))
    · rw [m_cmp_eq] at c4
      refine z_aload_n (M := M_X12_besideTen) 17 dX12_besideTen_17 rfl ?_
      refine z_iload_n (M := M_X12_besideTen) 18 dX12_besideTen_18 rfl ?_
      refine z_laldE (M := M_X12_besideTen) 19 dX12_besideTen_19 (oC_139_140_141 w_t) (by omega) (by omega) ex2 ?_
      refine z_aload_n (M := M_X12_besideTen) 20 dX12_besideTen_20 rfl ?_
      refine z_iload_n (M := M_X12_besideTen) 21 dX12_besideTen_21 rfl ?_
      refine z_laldE (M := M_X12_besideTen) 22 dX12_besideTen_22 (oC_139_140_141 w_t2) (by omega) (by omega) ex3 ?_
      refine z_lcmp (M := M_X12_besideTen) 23 dX12_besideTen_23 ?_
      refine z_if_ge (M := M_X12_besideTen) 24 dX12_besideTen_24 31 rfl (fun c5 => ?_) (fun c5 => ?_)
      · rw [m_cmp_ge] at c5
        refine z_iconst (M := M_X12_besideTen) 31 dX12_besideTen_31 ?_
        exact z_retI (M := M_X12_besideTen) 32 dX12_besideTen_32 rfl ⟨G, R, by omega, by omega⟩
      · rw [m_cmp_ge] at c5
        refine z_iconst (M := M_X12_besideTen) 27 dX12_besideTen_27 ?_
        refine z_goto (M := M_X12_besideTen) 28 dX12_besideTen_28 32 rfl ?_
        exact z_retI (M := M_X12_besideTen) 32 dX12_besideTen_32 rfl ⟨G, R, by omega, by omega⟩
theorem a_X12_besideTen (h0 : m_H) (t : Nat) (t2 : Nat) (w_t : t = 139 ∨ t = 140 ∨ t = 141) (w_t2 : t2 = 139 ∨ t2 = 140 ∨ t2 = 141) (G0 : GI h0) : ∀ n, q_X12_besideTen h0 t t2 n := by
  intro n
  induction n with
  | zero => unfold q_X12_besideTen; intros; omega
  | succ n ih => exact s_X12_besideTen_3 h0 t t2 w_t w_t2 G0 n ih
set_option maxHeartbeats 4000000 in
set_option maxRecDepth 100000 in
theorem c_X12_besideTen (h0 : m_H) (t : Nat) (t2 : Nat) (w_t : t = 139 ∨ t = 140 ∨ t = 141) (w_t2 : t2 = 139 ∨ t2 = 140 ∨ t2 = 141) (G0 : GI h0) : m_CI M_X12_besideTen [mR t, mR t2] h0 (P_X12_besideTen h0 t t2) := by
  refine m_CI_of ⟨by decide, rfl, by simp [m_arg, m_isL, M_X12_besideTen], ⟨rfl, rfl⟩, rfl, rfl⟩ (ls := [some (mR t), some (mR t2), none]) rfl ?_
  have ih := a_X12_besideTen h0 t t2 w_t w_t2 G0 28
  refine z_bipush (M := M_X12_besideTen) 0 dX12_besideTen_0 ?_
  refine z_istore_n (M := M_X12_besideTen) 2 dX12_besideTen_2 (ls' := [some (mR t), some (mR t2), some (mI 9)]) (by decide) rfl ?_
  exact z_mask [true, true, true] rfl (ih 9 h0 G0 (FR.rf (cs := []) (ss := []) (h := h0)) (by omega) (by omega) (by omega))
abbrev P_X12_copyTen (h0 : m_H) (t : Nat) : m_H → Prop := fun h' => GI h' ∧ FR [141] [] h0 h'
def q_X12_copyTen (h0 : m_H) (t : Nat) (n : Nat) : Prop := (∀ (l2 : Int) (h : m_H), GI h → FR [141] [] h0 h → 0 ≤ l2 → l2 ≤ 10 → 2 * (10 - l2) + (1) ≤ (n : Int) → m_Z oF M_X12_copyTen 2 [some (mR 108), some (mR t), some (mI l2)] [] h (m_QV (P_X12_copyTen h0 t)))
set_option maxHeartbeats 4000000 in
set_option maxRecDepth 100000 in
theorem s_X12_copyTen_2 (h0 : m_H) (t : Nat) (w_t : t = 139 ∨ t = 140 ∨ t = 141) (G0 : GI h0) (n : Nat) (ih : q_X12_copyTen h0 t n) : ∀ (l2 : Int) (h : m_H), GI h → FR [141] [] h0 h → 0 ≤ l2 → l2 ≤ 10 → 2 * (10 - l2) + (1) ≤ ((n + 1 : Nat) : Int) → m_Z oF M_X12_copyTen 2 [some (mR 108), some (mR t), some (mI l2)] [] h (m_QV (P_X12_copyTen h0 t)) := by
  intro l2 h G R v0 v1 hr
  refine z_iload_n (M := M_X12_copyTen) 2 dX12_copyTen_2 rfl ?_
  refine z_bipush (M := M_X12_copyTen) 3 dX12_copyTen_3 ?_
  refine z_icmp_ge (M := M_X12_copyTen) 5 dX12_copyTen_5 23 rfl (fun c1 => ?_) (fun c1 => ?_)
  · exact z_retV (M := M_X12_copyTen) 23 dX12_copyTen_23 rfl ⟨G, R⟩
  · refine z_aload_n (M := M_X12_copyTen) 8 dX12_copyTen_8 rfl ?_
    refine z_getR (M := M_X12_copyTen) 9 dX12_copyTen_9 f_X12_112 o_108 rfl (g_108_50 G) ?_
    refine z_iload_n (M := M_X12_copyTen) 12 dX12_copyTen_12 rfl ?_
    refine z_aload_n (M := M_X12_copyTen) 13 dX12_copyTen_13 rfl ?_
    refine z_iload_n (M := M_X12_copyTen) 14 dX12_copyTen_14 rfl ?_
    refine z_laldV (M := M_X12_copyTen) 15 dX12_copyTen_15 (oC_139_140_141 w_t) (by omega) (by omega) (fun x2 ex2 => ?_)
    refine z_lastH (M := M_X12_copyTen) 16 dX12_copyTen_16 o_141 (by omega) (by omega) (u_141 G) (R.up rfl) (fun h1 E1 G1 R1 => ?_)
    refine z_iincN (M := M_X12_copyTen) 17 dX12_copyTen_17 (ls' := [some (mR 108), some (mR t), some (mI (l2 + 1))]) (by decide) rfl (by (unfold m_32; decide)) (by omega) (by omega) rfl ?_
    refine z_goto (M := M_X12_copyTen) 20 dX12_copyTen_20 2 rfl ?_
    exact z_mask [true, true, true] rfl (ih (l2 + 1) h1 G1 R1 (by omega) (by omega) (by omega))
theorem a_X12_copyTen (h0 : m_H) (t : Nat) (w_t : t = 139 ∨ t = 140 ∨ t = 141) (G0 : GI h0) : ∀ n, q_X12_copyTen h0 t n := by
  intro n
  induction n with
  | zero => unfold q_X12_copyTen; intros; omega
  | succ n ih => exact s_X12_copyTen_2 h0 t w_t G0 n ih
set_option maxHeartbeats 4000000 in
set_option maxRecDepth 100000 in
theorem c_X12_copyTen (h0 : m_H) (t : Nat) (w_t : t = 139 ∨ t = 140 ∨ t = 141) (G0 : GI h0) : m_CV M_X12_copyTen [mR 108, mR t] h0 (P_X12_copyTen h0 t) := by
  refine m_CV_of ⟨by decide, rfl, by simp [m_arg, m_isL, M_X12_copyTen], ⟨rfl, rfl⟩, rfl, rfl⟩ (ls := [some (mR 108), some (mR t), none]) rfl ?_
  have ih := a_X12_copyTen h0 t w_t G0 28
  refine z_iconst (M := M_X12_copyTen) 0 dX12_copyTen_0 ?_
  refine z_istore_n (M := M_X12_copyTen) 1 dX12_copyTen_1 (ls' := [some (mR 108), some (mR t), some (mI 0)]) (by decide) rfl ?_
  exact z_mask [true, true, true] rfl (ih 0 h0 G0 (FR.rf (cs := [141]) (ss := []) (h := h0)) (by omega) (by omega) (by omega))
abbrev P_X12_multiply (h0 : m_H) (t : Nat) (a2 : Int) : m_H → Prop := fun h' => GI h' ∧ FR [142, t] [] h0 h'
def q_X12_multiply (h0 : m_H) (t : Nat) (a2 : Int) (n : Nat) : Prop := (∀ (l4 : Int) (h : m_H), GI h → FR [142, t] [] h0 h → 0 ≤ l4 → l4 ≤ 10 → 2 * (10 - l4) + (125) ≤ (n : Int) → m_Z oF M_X12_multiply 3 [some (mR 108), some (mR t), some (mJ a2), none, some (mI l4), none, none, none, none, none, none, none, none, none] [] h (m_QV (P_X12_multiply h0 t a2))) ∧ (∀ (l4 l6 : Int) (h : m_H), GI h → FR [142, t] [] h0 h → 0 ≤ l6 → l6 ≤ 3 → 25 * (3 - l6) + (47) ≤ (n : Int) → m_Z oF M_X12_multiply 30 [some (mR 108), some (mR t), none, none, some (mJ l4), none, some (mI l6), none, none, none, none, none, none, none] [] h (m_QV (P_X12_multiply h0 t a2))) ∧ (∀ (l4 l6 l7 l9 l11 : Int) (h : m_H), GI h → FR [142, t] [] h0 h → 0 ≤ l6 → l6 ≤ 2 → 0 ≤ l11 → l11 ≤ 10 → 25 * (3 - l6) + 2 * (10 - l11) + (1) + (23) ≤ (n : Int) → m_Z oF M_X12_multiply 50 [some (mR 108), some (mR t), none, none, some (mJ l4), none, some (mI l6), some (mJ l7), none, some (mJ l9), none, some (mI l11), none, none] [] h (m_QV (P_X12_multiply h0 t a2))) ∧ (∀ (l6 : Int) (h : m_H), GI h → FR [142, t] [] h0 h → 0 ≤ l6 → l6 ≤ 10 → 2 * (10 - l6) + (1) ≤ (n : Int) → m_Z oF M_X12_multiply 130 [some (mR 108), some (mR t), none, none, none, none, some (mI l6), none, none, none, none, none, none, none] [] h (m_QV (P_X12_multiply h0 t a2)))
set_option maxHeartbeats 4000000 in
set_option maxRecDepth 100000 in
theorem s_X12_multiply_3 (h0 : m_H) (t : Nat) (a2 : Int) (w_t : t = 139 ∨ t = 140 ∨ t = 141) (G0 : GI h0) (n : Nat) (ih : q_X12_multiply h0 t a2 n) : ∀ (l4 : Int) (h : m_H), GI h → FR [142, t] [] h0 h → 0 ≤ l4 → l4 ≤ 10 → 2 * (10 - l4) + (125) ≤ ((n + 1 : Nat) : Int) → m_Z oF M_X12_multiply 3 [some (mR 108), some (mR t), some (mJ a2), none, some (mI l4), none, none, none, none, none, none, none, none, none] [] h (m_QV (P_X12_multiply h0 t a2)) := by
  intro l4 h G R v0 v1 hr
  refine z_iload (M := M_X12_multiply) 3 dX12_multiply_3 rfl ?_
  refine z_bipush (M := M_X12_multiply) 5 dX12_multiply_5 ?_
  refine z_icmp_ge (M := M_X12_multiply) 7 dX12_multiply_7 24 rfl (fun c1 => ?_) (fun c1 => ?_)
  · refine z_lload_n (M := M_X12_multiply) 24 dX12_multiply_24 rfl ?_
    refine z_lstore (M := M_X12_multiply) 25 dX12_multiply_25 (ls' := [some (mR 108), some (mR t), some (mJ a2), none, some (mJ a2), none, none, none, none, none, none, none, none, none]) (by decide) rfl ?_
    refine z_iconst (M := M_X12_multiply) 27 dX12_multiply_27 ?_
    refine z_istore (M := M_X12_multiply) 28 dX12_multiply_28 (ls' := [some (mR 108), some (mR t), some (mJ a2), none, some (mJ a2), none, some (mI 0), none, none, none, none, none, none, none]) (by decide) rfl ?_
    exact z_mask [true, true, false, false, true, false, true, false, false, false, false, false, false, false] rfl (ih.2.1 a2 0 h G R (by omega) (by omega) (by omega))
  · refine z_aload_n (M := M_X12_multiply) 10 dX12_multiply_10 rfl ?_
    refine z_getR (M := M_X12_multiply) 11 dX12_multiply_11 f_X12_115 o_108 rfl (g_108_51 G) ?_
    refine z_iload (M := M_X12_multiply) 14 dX12_multiply_14 rfl ?_
    refine z_lconst (M := M_X12_multiply) 16 dX12_multiply_16 (v := 0) ?_
    refine z_lastH (M := M_X12_multiply) 17 dX12_multiply_17 o_142 (by omega) (by omega) (u_142 G) (R.up rfl) (fun h1 E1 G1 R1 => ?_)
    refine z_iincN (M := M_X12_multiply) 18 dX12_multiply_18 (ls' := [some (mR 108), some (mR t), some (mJ a2), none, some (mI (l4 + 1)), none, none, none, none, none, none, none, none, none]) (by decide) rfl (by (unfold m_32; decide)) (by omega) (by omega) rfl ?_
    refine z_goto (M := M_X12_multiply) 21 dX12_multiply_21 3 rfl ?_
    exact z_mask [true, true, true, false, true, false, false, false, false, false, false, false, false, false] rfl (ih.1 (l4 + 1) h1 G1 R1 (by omega) (by omega) (by omega))
set_option maxHeartbeats 4000000 in
set_option maxRecDepth 100000 in
theorem s_X12_multiply_30 (h0 : m_H) (t : Nat) (a2 : Int) (w_t : t = 139 ∨ t = 140 ∨ t = 141) (G0 : GI h0) (n : Nat) (ih : q_X12_multiply h0 t a2 n) : ∀ (l4 l6 : Int) (h : m_H), GI h → FR [142, t] [] h0 h → 0 ≤ l6 → l6 ≤ 3 → 25 * (3 - l6) + (47) ≤ ((n + 1 : Nat) : Int) → m_Z oF M_X12_multiply 30 [some (mR 108), some (mR t), none, none, some (mJ l4), none, some (mI l6), none, none, none, none, none, none, none] [] h (m_QV (P_X12_multiply h0 t a2)) := by
  intro l4 l6 h G R v0 v1 hr
  refine z_iload (M := M_X12_multiply) 30 dX12_multiply_30 rfl ?_
  refine z_iconst (M := M_X12_multiply) 32 dX12_multiply_32 ?_
  refine z_icmp_ge (M := M_X12_multiply) 33 dX12_multiply_33 127 rfl (fun c1 => ?_) (fun c1 => ?_)
  · refine z_iconst (M := M_X12_multiply) 127 dX12_multiply_127 ?_
    refine z_istore (M := M_X12_multiply) 128 dX12_multiply_128 (ls' := [some (mR 108), some (mR t), none, none, some (mJ l4), none, some (mI 0), none, none, none, none, none, none, none]) (by decide) rfl ?_
    exact z_mask [true, true, false, false, false, false, true, false, false, false, false, false, false, false] rfl (ih.2.2.2 0 h G R (by omega) (by omega) (by omega))
  · refine z_lload (M := M_X12_multiply) 36 dX12_multiply_36 rfl ?_
    refine z_ldc2 (M := M_X12_multiply) 38 dX12_multiply_38 k_X12_327 ?_
    refine z_lrem (M := M_X12_multiply) 41 dX12_multiply_41 (by omega) ?_
    refine z_topJ (fun x2 ex2 => ?_)
    refine z_lstore (M := M_X12_multiply) 42 dX12_multiply_42 (ls' := [some (mR 108), some (mR t), none, none, some (mJ l4), none, some (mI l6), some (mJ x2), none, none, none, none, none, none]) (by decide) rfl ?_
    refine z_lconst (M := M_X12_multiply) 44 dX12_multiply_44 (v := 0) ?_
    refine z_lstore (M := M_X12_multiply) 45 dX12_multiply_45 (ls' := [some (mR 108), some (mR t), none, none, some (mJ l4), none, some (mI l6), some (mJ x2), none, some (mJ 0), none, none, none, none]) (by decide) rfl ?_
    refine z_iconst (M := M_X12_multiply) 47 dX12_multiply_47 ?_
    refine z_istore (M := M_X12_multiply) 48 dX12_multiply_48 (ls' := [some (mR 108), some (mR t), none, none, some (mJ l4), none, some (mI l6), some (mJ x2), none, some (mJ 0), none, some (mI 0), none, none]) (by decide) rfl ?_
    exact z_mask [true, true, false, false, true, false, true, true, false, true, false, true, false, false] rfl (ih.2.2.1 l4 l6 x2 0 0 h G R (by omega) (by omega) (by omega) (by omega) (by omega))
set_option maxHeartbeats 4000000 in
set_option maxRecDepth 100000 in
theorem s_X12_multiply_50 (h0 : m_H) (t : Nat) (a2 : Int) (w_t : t = 139 ∨ t = 140 ∨ t = 141) (G0 : GI h0) (n : Nat) (ih : q_X12_multiply h0 t a2 n) : ∀ (l4 l6 l7 l9 l11 : Int) (h : m_H), GI h → FR [142, t] [] h0 h → 0 ≤ l6 → l6 ≤ 2 → 0 ≤ l11 → l11 ≤ 10 → 25 * (3 - l6) + 2 * (10 - l11) + (1) + (23) ≤ ((n + 1 : Nat) : Int) → m_Z oF M_X12_multiply 50 [some (mR 108), some (mR t), none, none, some (mJ l4), none, some (mI l6), some (mJ l7), none, some (mJ l9), none, some (mI l11), none, none] [] h (m_QV (P_X12_multiply h0 t a2)) := by
  intro l4 l6 l7 l9 l11 h G R v0 v1 v2 v3 hr
  refine z_iload (M := M_X12_multiply) 50 dX12_multiply_50 rfl ?_
  refine z_iload (M := M_X12_multiply) 52 dX12_multiply_52 rfl ?_
  refine z_iaddN (M := M_X12_multiply) 54 dX12_multiply_54 (by omega) (by omega) ?_
  refine z_bipush (M := M_X12_multiply) 55 dX12_multiply_55 ?_
  refine z_icmp_ge (M := M_X12_multiply) 57 dX12_multiply_57 113 rfl (fun c1 => ?_) (fun c1 => ?_)
  · refine z_lload (M := M_X12_multiply) 113 dX12_multiply_113 rfl ?_
    refine z_ldc2 (M := M_X12_multiply) 115 dX12_multiply_115 k_X12_327 ?_
    refine z_ldiv (M := M_X12_multiply) 118 dX12_multiply_118 (by omega) ?_
    refine z_topJ (fun x2 ex2 => ?_)
    refine z_lstore (M := M_X12_multiply) 119 dX12_multiply_119 (ls' := [some (mR 108), some (mR t), none, none, some (mJ x2), none, some (mI l6), some (mJ l7), none, some (mJ l9), none, some (mI l11), none, none]) (by decide) rfl ?_
    refine z_iincN (M := M_X12_multiply) 121 dX12_multiply_121 (ls' := [some (mR 108), some (mR t), none, none, some (mJ x2), none, some (mI (l6 + 1)), some (mJ l7), none, some (mJ l9), none, some (mI l11), none, none]) (by decide) rfl (by (unfold m_32; decide)) (by omega) (by omega) rfl ?_
    refine z_goto (M := M_X12_multiply) 124 dX12_multiply_124 30 rfl ?_
    exact z_mask [true, true, false, false, true, false, true, false, false, false, false, false, false, false] rfl (ih.2.1 x2 (l6 + 1) h G R (by omega) (by omega) (by omega))
  · refine z_aload_n (M := M_X12_multiply) 60 dX12_multiply_60 rfl ?_
    refine z_getR (M := M_X12_multiply) 61 dX12_multiply_61 f_X12_115 o_108 rfl (g_108_51 G) ?_
    refine z_iload (M := M_X12_multiply) 64 dX12_multiply_64 rfl ?_
    refine z_iload (M := M_X12_multiply) 66 dX12_multiply_66 rfl ?_
    refine z_iaddN (M := M_X12_multiply) 68 dX12_multiply_68 (by omega) (by omega) ?_
    refine z_laldV (M := M_X12_multiply) 69 dX12_multiply_69 o_142 (by omega) (by omega) (fun x3 ex3 => ?_)
    refine z_aload_n (M := M_X12_multiply) 70 dX12_multiply_70 rfl ?_
    refine z_iload (M := M_X12_multiply) 71 dX12_multiply_71 rfl ?_
    refine z_laldV (M := M_X12_multiply) 73 dX12_multiply_73 (oC_139_140_141 w_t) (by omega) (by omega) (fun x4 ex4 => ?_)
    refine z_lload (M := M_X12_multiply) 74 dX12_multiply_74 rfl ?_
    refine z_lmul (M := M_X12_multiply) 76 dX12_multiply_76 ?_
    refine z_topJ (fun x5 ex5 => ?_)
    refine z_ladd (M := M_X12_multiply) 77 dX12_multiply_77 ?_
    refine z_topJ (fun x6 ex6 => ?_)
    refine z_lload (M := M_X12_multiply) 78 dX12_multiply_78 rfl ?_
    refine z_ladd (M := M_X12_multiply) 80 dX12_multiply_80 ?_
    refine z_topJ (fun x7 ex7 => ?_)
    refine z_lstore (M := M_X12_multiply) 81 dX12_multiply_81 (ls' := [some (mR 108), some (mR t), none, none, some (mJ l4), none, some (mI l6), some (mJ l7), none, some (mJ l9), none, some (mI l11), some (mJ x7), none]) (by decide) rfl ?_
    refine z_aload_n (M := M_X12_multiply) 83 dX12_multiply_83 rfl ?_
    refine z_getR (M := M_X12_multiply) 84 dX12_multiply_84 f_X12_115 o_108 rfl (g_108_51 G) ?_
    refine z_iload (M := M_X12_multiply) 87 dX12_multiply_87 rfl ?_
    refine z_iload (M := M_X12_multiply) 89 dX12_multiply_89 rfl ?_
    refine z_iaddN (M := M_X12_multiply) 91 dX12_multiply_91 (by omega) (by omega) ?_
    refine z_lload (M := M_X12_multiply) 92 dX12_multiply_92 rfl ?_
    refine z_ldc2 (M := M_X12_multiply) 94 dX12_multiply_94 k_X12_327 ?_
    refine z_lrem (M := M_X12_multiply) 97 dX12_multiply_97 (by omega) ?_
    refine z_topJ (fun x8 ex8 => ?_)
    refine z_lastH (M := M_X12_multiply) 98 dX12_multiply_98 o_142 (by omega) (by omega) (u_142 G) (R.up rfl) (fun h1 E1 G1 R1 => ?_)
    refine z_lload (M := M_X12_multiply) 99 dX12_multiply_99 rfl ?_
    refine z_ldc2 (M := M_X12_multiply) 101 dX12_multiply_101 k_X12_327 ?_
    refine z_ldiv (M := M_X12_multiply) 104 dX12_multiply_104 (by omega) ?_
    refine z_topJ (fun x9 ex9 => ?_)
    refine z_lstore (M := M_X12_multiply) 105 dX12_multiply_105 (ls' := [some (mR 108), some (mR t), none, none, some (mJ l4), none, some (mI l6), some (mJ l7), none, some (mJ x9), none, some (mI l11), some (mJ x7), none]) (by decide) rfl ?_
    refine z_iincN (M := M_X12_multiply) 107 dX12_multiply_107 (ls' := [some (mR 108), some (mR t), none, none, some (mJ l4), none, some (mI l6), some (mJ l7), none, some (mJ x9), none, some (mI (l11 + 1)), some (mJ x7), none]) (by decide) rfl (by (unfold m_32; decide)) (by omega) (by omega) rfl ?_
    refine z_goto (M := M_X12_multiply) 110 dX12_multiply_110 50 rfl ?_
    exact z_mask [true, true, false, false, true, false, true, true, false, true, false, true, false, false] rfl (ih.2.2.1 l4 l6 l7 x9 (l11 + 1) h1 G1 R1 (by omega) (by omega) (by omega) (by omega) (by omega))
set_option maxHeartbeats 4000000 in
set_option maxRecDepth 100000 in
theorem s_X12_multiply_130 (h0 : m_H) (t : Nat) (a2 : Int) (w_t : t = 139 ∨ t = 140 ∨ t = 141) (G0 : GI h0) (n : Nat) (ih : q_X12_multiply h0 t a2 n) : ∀ (l6 : Int) (h : m_H), GI h → FR [142, t] [] h0 h → 0 ≤ l6 → l6 ≤ 10 → 2 * (10 - l6) + (1) ≤ ((n + 1 : Nat) : Int) → m_Z oF M_X12_multiply 130 [some (mR 108), some (mR t), none, none, none, none, some (mI l6), none, none, none, none, none, none, none] [] h (m_QV (P_X12_multiply h0 t a2)) := by
  intro l6 h G R v0 v1 hr
  refine z_iload (M := M_X12_multiply) 130 dX12_multiply_130 rfl ?_
  refine z_bipush (M := M_X12_multiply) 132 dX12_multiply_132 ?_
  refine z_icmp_ge (M := M_X12_multiply) 134 dX12_multiply_134 154 rfl (fun c1 => ?_) (fun c1 => ?_)
  · exact z_retV (M := M_X12_multiply) 154 dX12_multiply_154 rfl ⟨G, R⟩
  · refine z_aload_n (M := M_X12_multiply) 137 dX12_multiply_137 rfl ?_
    refine z_iload (M := M_X12_multiply) 138 dX12_multiply_138 rfl ?_
    refine z_aload_n (M := M_X12_multiply) 140 dX12_multiply_140 rfl ?_
    refine z_getR (M := M_X12_multiply) 141 dX12_multiply_141 f_X12_115 o_108 rfl (g_108_51 G) ?_
    refine z_iload (M := M_X12_multiply) 144 dX12_multiply_144 rfl ?_
    refine z_laldV (M := M_X12_multiply) 146 dX12_multiply_146 o_142 (by omega) (by omega) (fun x2 ex2 => ?_)
    refine z_lastH (M := M_X12_multiply) 147 dX12_multiply_147 (oC_139_140_141 w_t) (by omega) (by omega) (uC_139_140_141 w_t G) (R.up (by simp [fr])) (fun h1 E1 G1 R1 => ?_)
    refine z_iincN (M := M_X12_multiply) 148 dX12_multiply_148 (ls' := [some (mR 108), some (mR t), none, none, none, none, some (mI (l6 + 1)), none, none, none, none, none, none, none]) (by decide) rfl (by (unfold m_32; decide)) (by omega) (by omega) rfl ?_
    refine z_goto (M := M_X12_multiply) 151 dX12_multiply_151 130 rfl ?_
    exact z_mask [true, true, false, false, false, false, true, false, false, false, false, false, false, false] rfl (ih.2.2.2 (l6 + 1) h1 G1 R1 (by omega) (by omega) (by omega))
theorem a_X12_multiply (h0 : m_H) (t : Nat) (a2 : Int) (w_t : t = 139 ∨ t = 140 ∨ t = 141) (G0 : GI h0) : ∀ n, q_X12_multiply h0 t a2 n := by
  intro n
  induction n with
  | zero => unfold q_X12_multiply; refine ⟨?_, ?_, ?_, ?_⟩ <;> (intros; omega)
  | succ n ih => exact ⟨s_X12_multiply_3 h0 t a2 w_t G0 n ih, s_X12_multiply_30 h0 t a2 w_t G0 n ih, s_X12_multiply_50 h0 t a2 w_t G0 n ih, s_X12_multiply_130 h0 t a2 w_t G0 n ih⟩
set_option maxHeartbeats 4000000 in
set_option maxRecDepth 100000 in
theorem c_X12_multiply (h0 : m_H) (t : Nat) (a2 : Int) (w_t : t = 139 ∨ t = 140 ∨ t = 141) (G0 : GI h0) : m_CV M_X12_multiply [mR 108, mR t, mJ a2] h0 (P_X12_multiply h0 t a2) := by
  refine m_CV_of ⟨by decide, rfl, by simp [m_arg, m_isL, M_X12_multiply], ⟨rfl, rfl⟩, rfl, rfl⟩ (ls := [some (mR 108), some (mR t), some (mJ a2), none, none, none, none, none, none, none, none, none, none, none]) rfl ?_
  have ih := a_X12_multiply h0 t a2 w_t G0 152
  refine z_iconst (M := M_X12_multiply) 0 dX12_multiply_0 ?_
  refine z_istore (M := M_X12_multiply) 1 dX12_multiply_1 (ls' := [some (mR 108), some (mR t), some (mJ a2), none, some (mI 0), none, none, none, none, none, none, none, none, none]) (by decide) rfl ?_
  exact z_mask [true, true, true, false, true, false, false, false, false, false, false, false, false, false] rfl (ih.1 0 h0 G0 (FR.rf (cs := [142, t]) (ss := []) (h := h0)) (by omega) (by omega) (by omega))
abbrev P_X12_triple (h0 : m_H) (t : Nat) (a2 a3 a4 : Int) : m_H → Prop := fun h' => GI h' ∧ FR [142, t] [] h0 h'
def q_X12_triple (h0 : m_H) (t : Nat) (a2 a3 a4 : Int) (n : Nat) : Prop := (∀ (l8 : Int) (h : m_H), GI h → FR [142, t] [] h0 h → 0 ≤ l8 → l8 ≤ 10 → 2 * (10 - l8) + (1) ≤ (n : Int) → m_Z oF M_X12_triple 3 [some (mR 108), some (mR t), some (mJ a2), none, some (mJ a3), none, some (mJ a4), none, some (mI l8)] [] h (m_QV (P_X12_triple h0 t a2 a3 a4)))
set_option maxHeartbeats 4000000 in
set_option maxRecDepth 100000 in
theorem s_X12_triple_3 (h0 : m_H) (t : Nat) (a2 a3 a4 : Int) (w_t : t = 139 ∨ t = 140 ∨ t = 141) (G0 : GI h0) (n : Nat) (ih : q_X12_triple h0 t a2 a3 a4 n) : ∀ (l8 : Int) (h : m_H), GI h → FR [142, t] [] h0 h → 0 ≤ l8 → l8 ≤ 10 → 2 * (10 - l8) + (1) ≤ ((n + 1 : Nat) : Int) → m_Z oF M_X12_triple 3 [some (mR 108), some (mR t), some (mJ a2), none, some (mJ a3), none, some (mJ a4), none, some (mI l8)] [] h (m_QV (P_X12_triple h0 t a2 a3 a4)) := by
  intro l8 h G R v0 v1 hr
  refine z_iload (M := M_X12_triple) 3 dX12_triple_3 rfl ?_
  refine z_bipush (M := M_X12_triple) 5 dX12_triple_5 ?_
  refine z_icmp_ge (M := M_X12_triple) 7 dX12_triple_7 30 rfl (fun c1 => ?_) (fun c1 => ?_)
  · refine z_aload_n (M := M_X12_triple) 30 dX12_triple_30 rfl ?_
    refine z_aload_n (M := M_X12_triple) 31 dX12_triple_31 rfl ?_
    refine z_lload_n (M := M_X12_triple) 32 dX12_triple_32 rfl ?_
    refine z_vV (M := M_X12_triple) 33 dX12_triple_33 t_X12_multiply l_X12_447 (m_rr_of rfl) (rest := []) (c_X12_multiply h t a2 w_t G) o_108 rfl rfl rfl (Nat.le_of_ble_eq_true rfl) ⟨rfl, rfl⟩ (fun h1 qx2 => ?_)
    obtain ⟨G1, S1⟩ := qx2
    have R1 := R.call S1 (by simp [fsub, fr, csB])
    refine z_aload_n (M := M_X12_triple) 36 dX12_triple_36 rfl ?_
    refine z_aload_n (M := M_X12_triple) 37 dX12_triple_37 rfl ?_
    refine z_lload (M := M_X12_triple) 38 dX12_triple_38 rfl ?_
    refine z_vV (M := M_X12_triple) 40 dX12_triple_40 t_X12_multiply l_X12_447 (m_rr_of rfl) (rest := []) (c_X12_multiply h1 t a3 w_t G1) o_108 rfl rfl rfl (Nat.le_of_ble_eq_true rfl) ⟨rfl, rfl⟩ (fun h2 qx3 => ?_)
    obtain ⟨G2, S2⟩ := qx3
    have R2 := R1.call S2 (by simp [fsub, fr, csB])
    refine z_aload_n (M := M_X12_triple) 43 dX12_triple_43 rfl ?_
    refine z_aload_n (M := M_X12_triple) 44 dX12_triple_44 rfl ?_
    refine z_lload (M := M_X12_triple) 45 dX12_triple_45 rfl ?_
    refine z_vV (M := M_X12_triple) 47 dX12_triple_47 t_X12_multiply l_X12_447 (m_rr_of rfl) (rest := []) (c_X12_multiply h2 t a4 w_t G2) o_108 rfl rfl rfl (Nat.le_of_ble_eq_true rfl) ⟨rfl, rfl⟩ (fun h3 qx4 => ?_)
    obtain ⟨G3, S3⟩ := qx4
    have R3 := R2.call S3 (by simp [fsub, fr, csB])
    exact z_retV (M := M_X12_triple) 50 dX12_triple_50 rfl ⟨G3, R3⟩
  · refine z_aload_n (M := M_X12_triple) 10 dX12_triple_10 rfl ?_
    refine z_iload (M := M_X12_triple) 11 dX12_triple_11 rfl ?_
    refine z_iload (M := M_X12_triple) 13 dX12_triple_13 rfl ?_
    refine z_if_ne (M := M_X12_triple) 15 dX12_triple_15 22 rfl (fun c5 => ?_) (fun c5 => ?_)
    · refine z_lconst (M := M_X12_triple) 22 dX12_triple_22 (v := 0) ?_
      refine z_lastH (M := M_X12_triple) 23 dX12_triple_23 (oC_139_140_141 w_t) (by omega) (by omega) (uC_139_140_141 w_t G) (R.up (by simp [fr])) (fun h4 E4 G4 R4 => ?_)
      refine z_iincN (M := M_X12_triple) 24 dX12_triple_24 (ls' := [some (mR 108), some (mR t), some (mJ a2), none, some (mJ a3), none, some (mJ a4), none, some (mI (l8 + 1))]) (by decide) rfl (by (unfold m_32; decide)) (by omega) (by omega) rfl ?_
      refine z_goto (M := M_X12_triple) 27 dX12_triple_27 3 rfl ?_
      exact z_mask [true, true, true, false, true, false, true, false, true] rfl (ih (l8 + 1) h4 G4 R4 (by omega) (by omega) (by omega))
    · refine z_lconst (M := M_X12_triple) 18 dX12_triple_18 (v := 1) ?_
      refine z_goto (M := M_X12_triple) 19 dX12_triple_19 23 rfl ?_
      refine z_lastH (M := M_X12_triple) 23 dX12_triple_23 (oC_139_140_141 w_t) (by omega) (by omega) (uC_139_140_141 w_t G) (R.up (by simp [fr])) (fun h5 E5 G5 R5 => ?_)
      refine z_iincN (M := M_X12_triple) 24 dX12_triple_24 (ls' := [some (mR 108), some (mR t), some (mJ a2), none, some (mJ a3), none, some (mJ a4), none, some (mI (l8 + 1))]) (by decide) rfl (by (unfold m_32; decide)) (by omega) (by omega) rfl ?_
      refine z_goto (M := M_X12_triple) 27 dX12_triple_27 3 rfl ?_
      exact z_mask [true, true, true, false, true, false, true, false, true] rfl (ih (l8 + 1) h5 G5 R5 (by omega) (by omega) (by omega))
theorem a_X12_triple (h0 : m_H) (t : Nat) (a2 a3 a4 : Int) (w_t : t = 139 ∨ t = 140 ∨ t = 141) (G0 : GI h0) : ∀ n, q_X12_triple h0 t a2 a3 a4 n := by
  intro n
  induction n with
  | zero => unfold q_X12_triple; intros; omega
  | succ n ih => exact s_X12_triple_3 h0 t a2 a3 a4 w_t G0 n ih
set_option maxHeartbeats 4000000 in
set_option maxRecDepth 100000 in
theorem c_X12_triple (h0 : m_H) (t : Nat) (a2 a3 a4 : Int) (w_t : t = 139 ∨ t = 140 ∨ t = 141) (G0 : GI h0) : m_CV M_X12_triple [mR 108, mR t, mJ a2, mJ a3, mJ a4] h0 (P_X12_triple h0 t a2 a3 a4) := by
  refine m_CV_of ⟨by decide, rfl, by simp [m_arg, m_isL, M_X12_triple], ⟨rfl, rfl⟩, rfl, rfl⟩ (ls := [some (mR 108), some (mR t), some (mJ a2), none, some (mJ a3), none, some (mJ a4), none, none]) rfl ?_
  have ih := a_X12_triple h0 t a2 a3 a4 w_t G0 28
  refine z_iconst (M := M_X12_triple) 0 dX12_triple_0 ?_
  refine z_istore (M := M_X12_triple) 1 dX12_triple_1 (ls' := [some (mR 108), some (mR t), some (mJ a2), none, some (mJ a3), none, some (mJ a4), none, some (mI 0)]) (by decide) rfl ?_
  exact z_mask [true, true, true, false, true, false, true, false, true] rfl (ih 0 h0 G0 (FR.rf (cs := [142, t]) (ss := []) (h := h0)) (by omega) (by omega) (by omega))
abbrev P_X12_addFactor (h0 : m_H) : m_H → Prop := fun h' => GI h' ∧ FR [139] [] h0 h'
def q_X12_addFactor (h0 : m_H) (n : Nat) : Prop := (∀ (l1 l3 : Int) (h : m_H), GI h → FR [139] [] h0 h → 0 ≤ l3 → l3 ≤ 10 → 2 * (10 - l3) + (1) ≤ (n : Int) → m_Z oF M_X12_addFactor 4 [some (mR 108), some (mJ l1), none, some (mI l3), none, none] [] h (m_QV (P_X12_addFactor h0)))
set_option maxHeartbeats 4000000 in
set_option maxRecDepth 100000 in
theorem s_X12_addFactor_4 (h0 : m_H) (G0 : GI h0) (n : Nat) (ih : q_X12_addFactor h0 n) : ∀ (l1 l3 : Int) (h : m_H), GI h → FR [139] [] h0 h → 0 ≤ l3 → l3 ≤ 10 → 2 * (10 - l3) + (1) ≤ ((n + 1 : Nat) : Int) → m_Z oF M_X12_addFactor 4 [some (mR 108), some (mJ l1), none, some (mI l3), none, none] [] h (m_QV (P_X12_addFactor h0)) := by
  intro l1 l3 h G R v0 v1 hr
  refine z_iload_n (M := M_X12_addFactor) 4 dX12_addFactor_4 rfl ?_
  refine z_bipush (M := M_X12_addFactor) 5 dX12_addFactor_5 ?_
  refine z_icmp_ge (M := M_X12_addFactor) 7 dX12_addFactor_7 52 rfl (fun c1 => ?_) (fun c1 => ?_)
  · exact z_retV (M := M_X12_addFactor) 52 dX12_addFactor_52 rfl ⟨G, R⟩
  · refine z_aload_n (M := M_X12_addFactor) 10 dX12_addFactor_10 rfl ?_
    refine z_getR (M := M_X12_addFactor) 11 dX12_addFactor_11 f_X12_106 o_108 rfl (g_108_48 G) ?_
    refine z_iload_n (M := M_X12_addFactor) 14 dX12_addFactor_14 rfl ?_
    refine z_laldV (M := M_X12_addFactor) 15 dX12_addFactor_15 o_139 (by omega) (by omega) (fun x2 ex2 => ?_)
    refine z_aload_n (M := M_X12_addFactor) 16 dX12_addFactor_16 rfl ?_
    refine z_getR (M := M_X12_addFactor) 17 dX12_addFactor_17 f_X12_112 o_108 rfl (g_108_50 G) ?_
    refine z_iload_n (M := M_X12_addFactor) 20 dX12_addFactor_20 rfl ?_
    refine z_laldV (M := M_X12_addFactor) 21 dX12_addFactor_21 o_141 (by omega) (by omega) (fun x3 ex3 => ?_)
    refine z_ladd (M := M_X12_addFactor) 22 dX12_addFactor_22 ?_
    refine z_topJ (fun x4 ex4 => ?_)
    refine z_lload_n (M := M_X12_addFactor) 23 dX12_addFactor_23 rfl ?_
    refine z_ladd (M := M_X12_addFactor) 24 dX12_addFactor_24 ?_
    refine z_topJ (fun x5 ex5 => ?_)
    refine z_lstore (M := M_X12_addFactor) 25 dX12_addFactor_25 (ls' := [some (mR 108), some (mJ l1), none, some (mI l3), some (mJ x5), none]) (by decide) rfl ?_
    refine z_aload_n (M := M_X12_addFactor) 27 dX12_addFactor_27 rfl ?_
    refine z_getR (M := M_X12_addFactor) 28 dX12_addFactor_28 f_X12_106 o_108 rfl (g_108_48 G) ?_
    refine z_iload_n (M := M_X12_addFactor) 31 dX12_addFactor_31 rfl ?_
    refine z_lload (M := M_X12_addFactor) 32 dX12_addFactor_32 rfl ?_
    refine z_ldc2 (M := M_X12_addFactor) 34 dX12_addFactor_34 k_X12_327 ?_
    refine z_lrem (M := M_X12_addFactor) 37 dX12_addFactor_37 (by omega) ?_
    refine z_topJ (fun x6 ex6 => ?_)
    refine z_lastH (M := M_X12_addFactor) 38 dX12_addFactor_38 o_139 (by omega) (by omega) (u_139 G) (R.up rfl) (fun h1 E1 G1 R1 => ?_)
    refine z_lload (M := M_X12_addFactor) 39 dX12_addFactor_39 rfl ?_
    refine z_ldc2 (M := M_X12_addFactor) 41 dX12_addFactor_41 k_X12_327 ?_
    refine z_ldiv (M := M_X12_addFactor) 44 dX12_addFactor_44 (by omega) ?_
    refine z_topJ (fun x7 ex7 => ?_)
    refine z_lstore_n (M := M_X12_addFactor) 45 dX12_addFactor_45 (ls' := [some (mR 108), some (mJ x7), none, some (mI l3), some (mJ x5), none]) (by decide) rfl ?_
    refine z_iincN (M := M_X12_addFactor) 46 dX12_addFactor_46 (ls' := [some (mR 108), some (mJ x7), none, some (mI (l3 + 1)), some (mJ x5), none]) (by decide) rfl (by (unfold m_32; decide)) (by omega) (by omega) rfl ?_
    refine z_goto (M := M_X12_addFactor) 49 dX12_addFactor_49 4 rfl ?_
    exact z_mask [true, true, false, true, false, false] rfl (ih x7 (l3 + 1) h1 G1 R1 (by omega) (by omega) (by omega))
theorem a_X12_addFactor (h0 : m_H) (G0 : GI h0) : ∀ n, q_X12_addFactor h0 n := by
  intro n
  induction n with
  | zero => unfold q_X12_addFactor; intros; omega
  | succ n ih => exact s_X12_addFactor_4 h0 G0 n ih
set_option maxHeartbeats 4000000 in
set_option maxRecDepth 100000 in
theorem c_X12_addFactor (h0 : m_H) (G0 : GI h0) : m_CV M_X12_addFactor [mR 108] h0 (P_X12_addFactor h0) := by
  refine m_CV_of ⟨by decide, rfl, by simp [m_arg, m_isL, M_X12_addFactor], ⟨rfl, rfl⟩, rfl, rfl⟩ (ls := [some (mR 108), none, none, none, none, none]) rfl ?_
  have ih := a_X12_addFactor h0 G0 28
  refine z_lconst (M := M_X12_addFactor) 0 dX12_addFactor_0 (v := 0) ?_
  refine z_lstore_n (M := M_X12_addFactor) 1 dX12_addFactor_1 (ls' := [some (mR 108), some (mJ 0), none, none, none, none]) (by decide) rfl ?_
  refine z_iconst (M := M_X12_addFactor) 2 dX12_addFactor_2 ?_
  refine z_istore_n (M := M_X12_addFactor) 3 dX12_addFactor_3 (ls' := [some (mR 108), some (mJ 0), none, some (mI 0), none, none]) (by decide) rfl ?_
  exact z_mask [true, true, false, true, false, false] rfl (ih 0 0 h0 G0 (FR.rf (cs := [139]) (ss := []) (h := h0)) (by omega) (by omega) (by omega))
abbrev P_X12_often (h0 : m_H) (a1 a2 : Int) : Int → m_H → Prop := fun x h' => GI h' ∧ FR [141, 142] [] h0 h' ∧ (-1) ≤ x ∧ x ≤ 4000000
def q_X12_often (h0 : m_H) (a1 a2 : Int) (n : Nat) : Prop := (∀ (l3 l4 : Int) (h : m_H), GI h → FR [141, 142] [] h0 h → 0 ≤ l3 → l3 ≤ 4000001 → 0 ≤ l4 → l4 ≤ 4000001 → (l3 ≤ l4) → 2 * (l4 - l3) + (1) ≤ (n : Int) → m_Z oF M_X12_often 7 [some (mR 108), some (mI a1), some (mI a2), some (mI l3), some (mI l4), none] [] h (m_QI (P_X12_often h0 a1 a2)))
set_option maxHeartbeats 4000000 in
set_option maxRecDepth 100000 in
theorem s_X12_often_7 (h0 : m_H) (a1 a2 : Int) (G0 : GI h0) (pa1 : 0 ≤ a1 ∧ a1 ≤ 4000000) (pa2 : 0 ≤ a2 ∧ a2 ≤ 1) (n : Nat) (ih : q_X12_often h0 a1 a2 n) : ∀ (l3 l4 : Int) (h : m_H), GI h → FR [141, 142] [] h0 h → 0 ≤ l3 → l3 ≤ 4000001 → 0 ≤ l4 → l4 ≤ 4000001 → (l3 ≤ l4) → 2 * (l4 - l3) + (1) ≤ ((n + 1 : Nat) : Int) → m_Z oF M_X12_often 7 [some (mR 108), some (mI a1), some (mI a2), some (mI l3), some (mI l4), none] [] h (m_QI (P_X12_often h0 a1 a2)) := by
  intro l3 l4 h G R v0 v1 v2 v3 i0 hr
  refine z_iload_n (M := M_X12_often) 7 dX12_often_7 rfl ?_
  refine z_iload (M := M_X12_often) 8 dX12_often_8 rfl ?_
  refine z_icmp_ge (M := M_X12_often) 10 dX12_often_10 71 rfl (fun c1 => ?_) (fun c1 => ?_)
  · refine z_aload_n (M := M_X12_often) 71 dX12_often_71 rfl ?_
    refine z_aload_n (M := M_X12_often) 72 dX12_often_72 rfl ?_
    refine z_getR (M := M_X12_often) 73 dX12_often_73 f_X12_109 o_108 rfl (g_108_49 G) ?_
    refine z_vV (M := M_X12_often) 76 dX12_often_76 t_X12_copyTen l_X12_451 (m_rr_of rfl) (rest := []) (c_X12_copyTen h 140 (Or.inr (Or.inl rfl)) G) o_108 rfl rfl rfl (Nat.le_of_ble_eq_true rfl) ⟨rfl, rfl⟩ (fun h1 qx2 => ?_)
    obtain ⟨G1, S1⟩ := qx2
    have R1 := R.call S1 (by decide +kernel)
    refine z_aload_n (M := M_X12_often) 79 dX12_often_79 rfl ?_
    refine z_aload_n (M := M_X12_often) 80 dX12_often_80 rfl ?_
    refine z_getR (M := M_X12_often) 81 dX12_often_81 f_X12_112 o_108 rfl (g_108_50 G1) ?_
    refine z_iload_n (M := M_X12_often) 84 dX12_often_84 rfl ?_
    refine z_i2l (M := M_X12_often) 85 dX12_often_85 ?_
    refine z_vV (M := M_X12_often) 86 dX12_often_86 t_X12_multiply l_X12_447 (m_rr_of rfl) (rest := []) (c_X12_multiply h1 141 l3 (Or.inr (Or.inr rfl)) G1) o_108 rfl rfl rfl (Nat.le_of_ble_eq_true rfl) ⟨rfl, rfl⟩ (fun h2 qx3 => ?_)
    obtain ⟨G2, S2⟩ := qx3
    have R2 := R1.call S2 (by decide +kernel)
    refine z_iload_n (M := M_X12_often) 89 dX12_often_89 rfl ?_
    refine z_iload_n (M := M_X12_often) 90 dX12_often_90 rfl ?_
    refine z_if_ne (M := M_X12_often) 91 dX12_often_91 112 rfl (fun c4 => ?_) (fun c4 => ?_)
    · refine z_iconst (M := M_X12_often) 112 dX12_often_112 ?_
      refine z_isubN (M := M_X12_often) 113 dX12_often_113 (by omega) (by omega) ?_
      refine z_istore_n (M := M_X12_often) 114 dX12_often_114 (ls' := [some (mR 108), some (mI a1), some (mI a2), some (mI (l3 - 0)), some (mI l4), none]) (by decide) rfl ?_
      refine z_iload_n (M := M_X12_often) 115 dX12_often_115 rfl ?_
      refine z_iload_n (M := M_X12_often) 116 dX12_often_116 rfl ?_
      refine z_icmp_le (M := M_X12_often) 117 dX12_often_117 124 rfl (fun c5 => ?_) (fun c5 => ?_)
      · refine z_iload_n (M := M_X12_often) 124 dX12_often_124 rfl ?_
        exact z_retI (M := M_X12_often) 125 dX12_often_125 rfl ⟨G2, R2, by omega, by omega⟩
      · refine z_iload_n (M := M_X12_often) 120 dX12_often_120 rfl ?_
        refine z_goto (M := M_X12_often) 121 dX12_often_121 125 rfl ?_
        exact z_retI (M := M_X12_often) 125 dX12_often_125 rfl ⟨G2, R2, by omega, by omega⟩
    · refine z_aload_n (M := M_X12_often) 94 dX12_often_94 rfl ?_
      refine z_getR (M := M_X12_often) 95 dX12_often_95 f_X12_112 o_108 rfl (g_108_50 G2) ?_
      refine z_aload_n (M := M_X12_often) 98 dX12_often_98 rfl ?_
      refine z_getR (M := M_X12_often) 99 dX12_often_99 f_X12_106 o_108 rfl (g_108_48 G2) ?_
      refine z_sI (M := M_X12_often) 102 dX12_often_102 t_X12_besideTen l_X12_455 (m_rr_of rfl) (rest := [mI l3]) (c_X12_besideTen h2 141 139 (Or.inr (Or.inr rfl)) (Or.inl rfl) G2) rfl rfl (Nat.le_of_ble_eq_true rfl) ⟨rfl, rfl⟩ (fun x6 h3 qx6 => ?_)
      obtain ⟨G3, S3, ax6, bx6⟩ := qx6
      have R3 := R2.call S3 (by decide +kernel)
      refine z_if_ne (M := M_X12_often) 105 dX12_often_105 112 rfl (fun c7 => ?_) (fun c7 => ?_)
      · refine z_iconst (M := M_X12_often) 112 dX12_often_112 ?_
        refine z_isubN (M := M_X12_often) 113 dX12_often_113 (by omega) (by omega) ?_
        refine z_istore_n (M := M_X12_often) 114 dX12_often_114 (ls' := [some (mR 108), some (mI a1), some (mI a2), some (mI (l3 - 0)), some (mI l4), none]) (by decide) rfl ?_
        refine z_iload_n (M := M_X12_often) 115 dX12_often_115 rfl ?_
        refine z_iload_n (M := M_X12_often) 116 dX12_often_116 rfl ?_
        refine z_icmp_le (M := M_X12_often) 117 dX12_often_117 124 rfl (fun c8 => ?_) (fun c8 => ?_)
        · refine z_iload_n (M := M_X12_often) 124 dX12_often_124 rfl ?_
          exact z_retI (M := M_X12_often) 125 dX12_often_125 rfl ⟨G3, R3, by omega, by omega⟩
        · refine z_iload_n (M := M_X12_often) 120 dX12_often_120 rfl ?_
          refine z_goto (M := M_X12_often) 121 dX12_often_121 125 rfl ?_
          exact z_retI (M := M_X12_often) 125 dX12_often_125 rfl ⟨G3, R3, by omega, by omega⟩
      · refine z_iconst (M := M_X12_often) 108 dX12_often_108 ?_
        refine z_goto (M := M_X12_often) 109 dX12_often_109 113 rfl ?_
        refine z_isubN (M := M_X12_often) 113 dX12_often_113 (by omega) (by omega) ?_
        refine z_istore_n (M := M_X12_often) 114 dX12_often_114 (ls' := [some (mR 108), some (mI a1), some (mI a2), some (mI (l3 - 1)), some (mI l4), none]) (by decide) rfl ?_
        refine z_iload_n (M := M_X12_often) 115 dX12_often_115 rfl ?_
        refine z_iload_n (M := M_X12_often) 116 dX12_often_116 rfl ?_
        refine z_icmp_le (M := M_X12_often) 117 dX12_often_117 124 rfl (fun c9 => ?_) (fun c9 => ?_)
        · refine z_iload_n (M := M_X12_often) 124 dX12_often_124 rfl ?_
          exact z_retI (M := M_X12_often) 125 dX12_often_125 rfl ⟨G3, R3, by omega, by omega⟩
        · refine z_iload_n (M := M_X12_often) 120 dX12_often_120 rfl ?_
          refine z_goto (M := M_X12_often) 121 dX12_often_121 125 rfl ?_
          exact z_retI (M := M_X12_often) 125 dX12_often_125 rfl ⟨G3, R3, by omega, by omega⟩
  · refine z_iload_n (M := M_X12_often) 13 dX12_often_13 rfl ?_
    refine z_iload (M := M_X12_often) 14 dX12_often_14 rfl ?_
    refine z_iaddN (M := M_X12_often) 16 dX12_often_16 (by omega) (by omega) ?_
    refine z_iconst (M := M_X12_often) 17 dX12_often_17 ?_
    refine z_iaddN (M := M_X12_often) 18 dX12_often_18 (by omega) (by omega) ?_
    refine z_iconst (M := M_X12_often) 19 dX12_often_19 ?_
    refine z_idivN (M := M_X12_often) 20 dX12_often_20 (by omega) (by omega) ?_
    refine z_topBI (lo := 1) (hi := 4000001) ⟨by omega, by omega⟩ (fun x10 ex10 ax10 bx10 => ?_)
    refine z_istore (M := M_X12_often) 21 dX12_often_21 (ls' := [some (mR 108), some (mI a1), some (mI a2), some (mI l3), some (mI l4), some (mI x10)]) (by decide) rfl ?_
    refine z_aload_n (M := M_X12_often) 23 dX12_often_23 rfl ?_
    refine z_aload_n (M := M_X12_often) 24 dX12_often_24 rfl ?_
    refine z_getR (M := M_X12_often) 25 dX12_often_25 f_X12_109 o_108 rfl (g_108_49 G) ?_
    refine z_vV (M := M_X12_often) 28 dX12_often_28 t_X12_copyTen l_X12_451 (m_rr_of rfl) (rest := []) (c_X12_copyTen h 140 (Or.inr (Or.inl rfl)) G) o_108 rfl rfl rfl (Nat.le_of_ble_eq_true rfl) ⟨rfl, rfl⟩ (fun h4 qx11 => ?_)
    obtain ⟨G4, S4⟩ := qx11
    have R4 := R.call S4 (by decide +kernel)
    refine z_aload_n (M := M_X12_often) 31 dX12_often_31 rfl ?_
    refine z_aload_n (M := M_X12_often) 32 dX12_often_32 rfl ?_
    refine z_getR (M := M_X12_often) 33 dX12_often_33 f_X12_112 o_108 rfl (g_108_50 G4) ?_
    refine z_iload (M := M_X12_often) 36 dX12_often_36 rfl ?_
    refine z_i2l (M := M_X12_often) 38 dX12_often_38 ?_
    refine z_vV (M := M_X12_often) 39 dX12_often_39 t_X12_multiply l_X12_447 (m_rr_of rfl) (rest := []) (c_X12_multiply h4 141 x10 (Or.inr (Or.inr rfl)) G4) o_108 rfl rfl rfl (Nat.le_of_ble_eq_true rfl) ⟨rfl, rfl⟩ (fun h5 qx12 => ?_)
    obtain ⟨G5, S5⟩ := qx12
    have R5 := R4.call S5 (by decide +kernel)
    refine z_aload_n (M := M_X12_often) 42 dX12_often_42 rfl ?_
    refine z_getR (M := M_X12_often) 43 dX12_often_43 f_X12_112 o_108 rfl (g_108_50 G5) ?_
    refine z_aload_n (M := M_X12_often) 46 dX12_often_46 rfl ?_
    refine z_getR (M := M_X12_often) 47 dX12_often_47 f_X12_106 o_108 rfl (g_108_48 G5) ?_
    refine z_sI (M := M_X12_often) 50 dX12_often_50 t_X12_besideTen l_X12_455 (m_rr_of rfl) (rest := []) (c_X12_besideTen h5 141 139 (Or.inr (Or.inr rfl)) (Or.inl rfl) G5) rfl rfl (Nat.le_of_ble_eq_true rfl) ⟨rfl, rfl⟩ (fun x13 h6 qx13 => ?_)
    obtain ⟨G6, S6, ax13, bx13⟩ := qx13
    have R6 := R5.call S6 (by decide +kernel)
    refine z_if_gt (M := M_X12_often) 53 dX12_often_53 62 rfl (fun c14 => ?_) (fun c14 => ?_)
    · refine z_iload (M := M_X12_often) 62 dX12_often_62 rfl ?_
      refine z_iconst (M := M_X12_often) 64 dX12_often_64 ?_
      refine z_isubN (M := M_X12_often) 65 dX12_often_65 (by omega) (by omega) ?_
      refine z_istore (M := M_X12_often) 66 dX12_often_66 (ls' := [some (mR 108), some (mI a1), some (mI a2), some (mI l3), some (mI (x10 - 1)), some (mI x10)]) (by decide) rfl ?_
      refine z_goto (M := M_X12_often) 68 dX12_often_68 7 rfl ?_
      exact z_mask [true, true, true, true, true, false] rfl (ih l3 (x10 - 1) h6 G6 R6 (by omega) (by omega) (by omega) (by omega) (by omega) (by omega))
    · refine z_iload (M := M_X12_often) 56 dX12_often_56 rfl ?_
      refine z_istore_n (M := M_X12_often) 58 dX12_often_58 (ls' := [some (mR 108), some (mI a1), some (mI a2), some (mI x10), some (mI l4), some (mI x10)]) (by decide) rfl ?_
      refine z_goto (M := M_X12_often) 59 dX12_often_59 68 rfl ?_
      refine z_goto (M := M_X12_often) 68 dX12_often_68 7 rfl ?_
      exact z_mask [true, true, true, true, true, false] rfl (ih x10 l4 h6 G6 R6 (by omega) (by omega) (by omega) (by omega) (by omega) (by omega))
theorem a_X12_often (h0 : m_H) (a1 a2 : Int) (G0 : GI h0) (pa1 : 0 ≤ a1 ∧ a1 ≤ 4000000) (pa2 : 0 ≤ a2 ∧ a2 ≤ 1) : ∀ n, q_X12_often h0 a1 a2 n := by
  intro n
  induction n with
  | zero => unfold q_X12_often; intros; omega
  | succ n ih => exact s_X12_often_7 h0 a1 a2 G0 pa1 pa2 n ih
set_option maxHeartbeats 4000000 in
set_option maxRecDepth 100000 in
theorem c_X12_often (h0 : m_H) (a1 a2 : Int) (G0 : GI h0) (pa1 : 0 ≤ a1 ∧ a1 ≤ 4000000) (pa2 : 0 ≤ a2 ∧ a2 ≤ 1) : m_CI M_X12_often [mR 108, mI a1, mI a2] h0 (P_X12_often h0 a1 a2) := by
  refine m_CI_of ⟨by decide, rfl, by simp [m_arg, m_isL, M_X12_often], ⟨rfl, rfl⟩, rfl, rfl⟩ (ls := [some (mR 108), some (mI a1), some (mI a2), none, none, none]) rfl ?_
  have ih := a_X12_often h0 a1 a2 G0 pa1 pa2 8000010
  refine z_iconst (M := M_X12_often) 0 dX12_often_0 ?_
  refine z_istore_n (M := M_X12_often) 1 dX12_often_1 (ls' := [some (mR 108), some (mI a1), some (mI a2), some (mI 0), none, none]) (by decide) rfl ?_
  refine z_iload_n (M := M_X12_often) 2 dX12_often_2 rfl ?_
  refine z_iconst (M := M_X12_often) 3 dX12_often_3 ?_
  refine z_iaddN (M := M_X12_often) 4 dX12_often_4 (by omega) (by omega) ?_
  refine z_istore (M := M_X12_often) 5 dX12_often_5 (ls' := [some (mR 108), some (mI a1), some (mI a2), some (mI 0), some (mI (a1 + 1)), none]) (by decide) rfl ?_
  exact z_mask [true, true, true, true, true, false] rfl (ih 0 (a1 + 1) h0 G0 (FR.rf (cs := [141, 142]) (ss := []) (h := h0)) (by omega) (by omega) (by omega) (by omega) (by omega) (by omega))
abbrev P_X12_beside (h0 : m_H) (a1 a2 a3 : Int) : Int → m_H → Prop := fun x h' => GI h' ∧ FR [135, 136] [] h0 h' ∧ (-1) ≤ x ∧ x ≤ 1
def q_X12_beside (h0 : m_H) (a1 a2 a3 : Int) (n : Nat) : Prop := (∀ (l4 : Int) (h : m_H), GI h → FR [135, 136] [] h0 h → (-1) ≤ l4 → l4 ≤ 9 → (-2147483648) ≤ a2 → a2 ≤ 2147483647 → (-2147483648) ≤ a3 → a3 ≤ 2147483647 → 2 * (l4 - (-1)) + (1) ≤ (n : Int) → m_Z oF M_X12_beside 34 [some (mR 108), none, none, none, some (mI l4)] [] h (m_QI (P_X12_beside h0 a1 a2 a3)))
set_option maxHeartbeats 4000000 in
set_option maxRecDepth 100000 in
theorem s_X12_beside_34 (h0 : m_H) (a1 a2 a3 : Int) (G0 : GI h0) (pa1 : 0 ≤ a1 ∧ a1 ≤ 10) (n : Nat) (ih : q_X12_beside h0 a1 a2 a3 n) : ∀ (l4 : Int) (h : m_H), GI h → FR [135, 136] [] h0 h → (-1) ≤ l4 → l4 ≤ 9 → (-2147483648) ≤ a2 → a2 ≤ 2147483647 → (-2147483648) ≤ a3 → a3 ≤ 2147483647 → 2 * (l4 - (-1)) + (1) ≤ ((n + 1 : Nat) : Int) → m_Z oF M_X12_beside 34 [some (mR 108), none, none, none, some (mI l4)] [] h (m_QI (P_X12_beside h0 a1 a2 a3)) := by
  intro l4 h G R v0 v1 v2 v3 v4 v5 hr
  refine z_iload (M := M_X12_beside) 34 dX12_beside_34 rfl ?_
  refine z_if_lt (M := M_X12_beside) 36 dX12_beside_36 87 rfl (fun c1 => ?_) (fun c1 => ?_)
  · refine z_iconst (M := M_X12_beside) 87 dX12_beside_87 ?_
    exact z_retI (M := M_X12_beside) 88 dX12_beside_88 rfl ⟨G, R, by omega, by omega⟩
  · refine z_aload_n (M := M_X12_beside) 39 dX12_beside_39 rfl ?_
    refine z_getR (M := M_X12_beside) 40 dX12_beside_40 f_X12_94 o_108 rfl (g_108_40 G) ?_
    refine z_iload (M := M_X12_beside) 43 dX12_beside_43 rfl ?_
    refine z_laldV (M := M_X12_beside) 45 dX12_beside_45 o_135 (by omega) (by omega) (fun x2 ex2 => ?_)
    refine z_aload_n (M := M_X12_beside) 46 dX12_beside_46 rfl ?_
    refine z_getR (M := M_X12_beside) 47 dX12_beside_47 f_X12_97 o_108 rfl (g_108_41 G) ?_
    refine z_iload (M := M_X12_beside) 50 dX12_beside_50 rfl ?_
    refine z_laldV (M := M_X12_beside) 52 dX12_beside_52 o_136 (by omega) (by omega) (fun x3 ex3 => ?_)
    refine z_lcmp (M := M_X12_beside) 53 dX12_beside_53 ?_
    refine z_if_eq (M := M_X12_beside) 54 dX12_beside_54 81 rfl (fun c4 => ?_) (fun c4 => ?_)
    · rw [m_cmp_eq] at c4
      refine z_iincN (M := M_X12_beside) 81 dX12_beside_81 (ls' := [some (mR 108), none, none, none, some (mI (l4 + (-1)))]) (by decide) rfl (by (unfold m_32; decide)) (by omega) (by omega) rfl ?_
      refine z_goto (M := M_X12_beside) 84 dX12_beside_84 34 rfl ?_
      exact z_mask [true, false, false, false, true] rfl (ih (l4 + (-1)) h G R (by omega) (by omega) (by omega) (by omega) (by omega) (by omega) (by omega))
    · rw [m_cmp_eq] at c4
      refine z_aload_n (M := M_X12_beside) 57 dX12_beside_57 rfl ?_
      refine z_getR (M := M_X12_beside) 58 dX12_beside_58 f_X12_94 o_108 rfl (g_108_40 G) ?_
      refine z_iload (M := M_X12_beside) 61 dX12_beside_61 rfl ?_
      refine z_laldE (M := M_X12_beside) 63 dX12_beside_63 o_135 (by omega) (by omega) ex2 ?_
      refine z_aload_n (M := M_X12_beside) 64 dX12_beside_64 rfl ?_
      refine z_getR (M := M_X12_beside) 65 dX12_beside_65 f_X12_97 o_108 rfl (g_108_41 G) ?_
      refine z_iload (M := M_X12_beside) 68 dX12_beside_68 rfl ?_
      refine z_laldE (M := M_X12_beside) 70 dX12_beside_70 o_136 (by omega) (by omega) ex3 ?_
      refine z_lcmp (M := M_X12_beside) 71 dX12_beside_71 ?_
      refine z_if_ge (M := M_X12_beside) 72 dX12_beside_72 79 rfl (fun c5 => ?_) (fun c5 => ?_)
      · rw [m_cmp_ge] at c5
        refine z_iconst (M := M_X12_beside) 79 dX12_beside_79 ?_
        exact z_retI (M := M_X12_beside) 80 dX12_beside_80 rfl ⟨G, R, by omega, by omega⟩
      · rw [m_cmp_ge] at c5
        refine z_iconst (M := M_X12_beside) 75 dX12_beside_75 ?_
        refine z_goto (M := M_X12_beside) 76 dX12_beside_76 80 rfl ?_
        exact z_retI (M := M_X12_beside) 80 dX12_beside_80 rfl ⟨G, R, by omega, by omega⟩
theorem a_X12_beside (h0 : m_H) (a1 a2 a3 : Int) (G0 : GI h0) (pa1 : 0 ≤ a1 ∧ a1 ≤ 10) : ∀ n, q_X12_beside h0 a1 a2 a3 n := by
  intro n
  induction n with
  | zero => unfold q_X12_beside; intros; omega
  | succ n ih => exact s_X12_beside_34 h0 a1 a2 a3 G0 pa1 n ih
set_option maxHeartbeats 4000000 in
set_option maxRecDepth 100000 in
theorem c_X12_beside (h0 : m_H) (a1 a2 a3 : Int) (G0 : GI h0) (pa1 : 0 ≤ a1 ∧ a1 ≤ 10) : m_CI M_X12_beside [mR 108, mI a1, mI a2, mI a3] h0 (P_X12_beside h0 a1 a2 a3) := by
  refine m_CI_of ⟨by decide, rfl, by simp [m_arg, m_isL, M_X12_beside], ⟨rfl, rfl⟩, rfl, rfl⟩ (ls := [some (mR 108), some (mI a1), some (mI a2), some (mI a3), none]) rfl ?_
  have ih := a_X12_beside h0 a1 a2 a3 G0 pa1 28
  refine z_ok (fun _ _ ok => ?_)
  have oa2 : m_32 a2 := ok 2 _ rfl
  unfold m_32 at oa2
  have oa3 : m_32 a3 := ok 3 _ rfl
  unfold m_32 at oa3
  refine z_aload_n (M := M_X12_beside) 0 dX12_beside_0 rfl ?_
  refine z_getR (M := M_X12_beside) 1 dX12_beside_1 f_X12_94 o_108 rfl (g_108_40 G0) ?_
  refine z_aload_n (M := M_X12_beside) 4 dX12_beside_4 rfl ?_
  refine z_getR (M := M_X12_beside) 5 dX12_beside_5 f_X12_103 o_108 rfl (g_108_43 G0) ?_
  refine z_iload_n (M := M_X12_beside) 8 dX12_beside_8 rfl ?_
  refine z_iload_n (M := M_X12_beside) 9 dX12_beside_9 rfl ?_
  refine z_i2l (M := M_X12_beside) 10 dX12_beside_10 ?_
  refine z_sV (M := M_X12_beside) 11 dX12_beside_11 t_X12_wide l_X12_387 (m_rr_of rfl) (rest := []) (c_X12_wide20 h0 135 138 a1 a3 (Or.inl rfl) rfl G0 ⟨by omega, by omega⟩) rfl rfl (Nat.le_of_ble_eq_true rfl) ⟨rfl, rfl⟩ (fun h1 qx1 => ?_)
  obtain ⟨G1, S1⟩ := qx1
  have R1 := (FR.rf (cs := [135, 136]) (ss := []) (h := h0)).call S1 (by decide +kernel)
  refine z_aload_n (M := M_X12_beside) 14 dX12_beside_14 rfl ?_
  refine z_getR (M := M_X12_beside) 15 dX12_beside_15 f_X12_97 o_108 rfl (g_108_41 G1) ?_
  refine z_aload_n (M := M_X12_beside) 18 dX12_beside_18 rfl ?_
  refine z_getR (M := M_X12_beside) 19 dX12_beside_19 f_X12_103 o_108 rfl (g_108_43 G1) ?_
  refine z_iload_n (M := M_X12_beside) 22 dX12_beside_22 rfl ?_
  refine z_iconst (M := M_X12_beside) 23 dX12_beside_23 ?_
  refine z_iaddN (M := M_X12_beside) 24 dX12_beside_24 (by omega) (by omega) ?_
  refine z_iload_n (M := M_X12_beside) 25 dX12_beside_25 rfl ?_
  refine z_i2l (M := M_X12_beside) 26 dX12_beside_26 ?_
  refine z_sV (M := M_X12_beside) 27 dX12_beside_27 t_X12_wide l_X12_387 (m_rr_of rfl) (rest := []) (c_X12_wide20 h1 136 138 (a1 + 5) a2 (Or.inr rfl) rfl G1 ⟨by omega, by omega⟩) rfl rfl (Nat.le_of_ble_eq_true rfl) ⟨rfl, rfl⟩ (fun h2 qx2 => ?_)
  obtain ⟨G2, S2⟩ := qx2
  have R2 := R1.call S2 (by decide +kernel)
  refine z_bipush (M := M_X12_beside) 30 dX12_beside_30 ?_
  refine z_istore (M := M_X12_beside) 32 dX12_beside_32 (ls' := [some (mR 108), some (mI a1), some (mI a2), some (mI a3), some (mI 9)]) (by decide) rfl ?_
  exact z_mask [true, false, false, false, true] rfl (ih 9 h2 G2 R2 (by omega) (by omega) (by omega) (by omega) (by omega) (by omega) (by omega))
abbrev P_X12_tells (h0 : m_H) (a1 a2 : Int) : Int → m_H → Prop := fun x h' => GI h' ∧ FR [135, 136] [] h0 h' ∧ 0 ≤ x ∧ x ≤ 2
def q_X12_tells (h0 : m_H) (a1 a2 : Int) (n : Nat) : Prop := (∀ (l3 l4 k0 : Int) (h : m_H), GI h → FR [135, 136] [] h0 h → 1 ≤ l3 → l3 ≤ 2 → 1 ≤ l4 → l4 ≤ 197 → 1 ≤ k0 → k0 ≤ 199 → (5) ≤ (n : Int) → m_Z oF M_X12_tells 51 [some (mR 108), none, some (mI a2), some (mI l3), some (mI l4), none, none, none, none, none, none, none, none] [mI k0] h (m_QI (P_X12_tells h0 a1 a2))) ∧ (∀ (l6 l7 l8 k0 : Int) (h : m_H), GI h → FR [135, 136] [] h0 h → (-1) ≤ l6 → l6 ≤ 1 → (-1) ≤ l7 → l7 ≤ 1 → (-1) ≤ l8 → l8 ≤ 1 → (-1) ≤ k0 → k0 ≤ 1 → (4) ≤ (n : Int) → m_Z oF M_X12_tells 137 [some (mR 108), none, some (mI a2), none, none, none, some (mI l6), some (mI l7), some (mI l8), none, none, none, none] [mI k0] h (m_QI (P_X12_tells h0 a1 a2))) ∧ (∀ (l6 l9 l10 : Int) (h : m_H), GI h → FR [135, 136] [] h0 h → (-1) ≤ l6 → l6 ≤ 1 → (-1) ≤ l9 → l9 ≤ 1 → 0 ≤ l10 → l10 ≤ 1 → (3) ≤ (n : Int) → m_Z oF M_X12_tells 184 [some (mR 108), none, some (mI a2), none, none, none, some (mI l6), none, none, some (mI l9), some (mI l10), none, none] [] h (m_QI (P_X12_tells h0 a1 a2))) ∧ (∀ (l6 l9 l10 : Int) (h : m_H), GI h → FR [135, 136] [] h0 h → (-1) ≤ l6 → l6 ≤ 1 → (-1) ≤ l9 → l9 ≤ 1 → 0 ≤ l10 → l10 ≤ 1 → (2) ≤ (n : Int) → m_Z oF M_X12_tells 188 [some (mR 108), none, some (mI a2), none, none, none, some (mI l6), none, none, some (mI l9), some (mI l10), none, none] [] h (m_QI (P_X12_tells h0 a1 a2))) ∧ (∀ (k0 : Int) (h : m_H), GI h → FR [135, 136] [] h0 h → 1 ≤ k0 → k0 ≤ 2 → (1) ≤ (n : Int) → m_Z oF M_X12_tells 246 [none, none, none, none, none, none, none, none, none, none, none, none, none] [mI k0] h (m_QI (P_X12_tells h0 a1 a2)))
set_option maxHeartbeats 4000000 in
set_option maxRecDepth 100000 in
theorem s_X12_tells_51 (h0 : m_H) (a1 a2 : Int) (G0 : GI h0) (pa1 : 1 ≤ a1 ∧ a1 ≤ 99) (pa2 : 0 ≤ a2 ∧ a2 ≤ 2) (n : Nat) (ih : q_X12_tells h0 a1 a2 n) : ∀ (l3 l4 k0 : Int) (h : m_H), GI h → FR [135, 136] [] h0 h → 1 ≤ l3 → l3 ≤ 2 → 1 ≤ l4 → l4 ≤ 197 → 1 ≤ k0 → k0 ≤ 199 → (5) ≤ ((n + 1 : Nat) : Int) → m_Z oF M_X12_tells 51 [some (mR 108), none, some (mI a2), some (mI l3), some (mI l4), none, none, none, none, none, none, none, none] [mI k0] h (m_QI (P_X12_tells h0 a1 a2)) := by
  intro l3 l4 k0 h G R v0 v1 v2 v3 v4 v5 hr
  refine z_istore (M := M_X12_tells) 51 dX12_tells_51 (ls' := [some (mR 108), none, some (mI a2), some (mI l3), some (mI l4), some (mI k0), none, none, none, none, none, none, none]) (by decide) rfl ?_
  refine z_aload_n (M := M_X12_tells) 53 dX12_tells_53 rfl ?_
  refine z_getIG (M := M_X12_tells) 54 dX12_tells_54 f_X12_409 o_108 (by decide) (g_108_44 G) (fun x1 ex1 ax1 bx1 => ?_)
  refine z_if_eq (M := M_X12_tells) 57 dX12_tells_57 71 rfl (fun c2 => ?_) (fun c2 => ?_)
  · refine z_iconst (M := M_X12_tells) 71 dX12_tells_71 ?_
    refine z_istore (M := M_X12_tells) 72 dX12_tells_72 (ls' := [some (mR 108), none, some (mI a2), some (mI l3), some (mI l4), some (mI k0), some (mI (-1)), none, none, none, none, none, none]) (by decide) rfl ?_
    refine z_aload_n (M := M_X12_tells) 74 dX12_tells_74 rfl ?_
    refine z_getIE (M := M_X12_tells) 75 dX12_tells_75 f_X12_409 o_108 (by decide) ex1 ?_
    refine z_if_eq_T (M := M_X12_tells) 78 dX12_tells_78 92 rfl (by omega) ?_
    refine z_iconst (M := M_X12_tells) 92 dX12_tells_92 ?_
    refine z_istore (M := M_X12_tells) 93 dX12_tells_93 (ls' := [some (mR 108), none, some (mI a2), some (mI l3), some (mI l4), some (mI k0), some (mI (-1)), some (mI (-1)), none, none, none, none, none]) (by decide) rfl ?_
    refine z_aload_n (M := M_X12_tells) 95 dX12_tells_95 rfl ?_
    refine z_getIG (M := M_X12_tells) 96 dX12_tells_96 f_X12_415 o_108 (by decide) (g_108_45 G) (fun x3 ex3 ax3 bx3 => ?_)
    refine z_if_eq (M := M_X12_tells) 99 dX12_tells_99 114 rfl (fun c4 => ?_) (fun c4 => ?_)
    · refine z_iconst (M := M_X12_tells) 114 dX12_tells_114 ?_
      refine z_istore (M := M_X12_tells) 115 dX12_tells_115 (ls' := [some (mR 108), none, some (mI a2), some (mI l3), some (mI l4), some (mI k0), some (mI (-1)), some (mI (-1)), some (mI 1), none, none, none, none]) (by decide) rfl ?_
      refine z_aload_n (M := M_X12_tells) 117 dX12_tells_117 rfl ?_
      refine z_getIE (M := M_X12_tells) 118 dX12_tells_118 f_X12_415 o_108 (by decide) ex3 ?_
      refine z_if_eq_T (M := M_X12_tells) 121 dX12_tells_121 136 rfl (by omega) ?_
      refine z_iconst (M := M_X12_tells) 136 dX12_tells_136 ?_
      exact z_mask [true, false, true, false, false, false, true, true, true, false, false, false, false] rfl (ih.2.1 (-1) (-1) 1 1 h G R (by omega) (by omega) (by omega) (by omega) (by omega) (by omega) (by omega) (by omega) (by omega))
    · refine z_aload_n (M := M_X12_tells) 102 dX12_tells_102 rfl ?_
      refine z_bipush (M := M_X12_tells) 103 dX12_tells_103 ?_
      refine z_iload (M := M_X12_tells) 105 dX12_tells_105 rfl ?_
      refine z_iload_n (M := M_X12_tells) 107 dX12_tells_107 rfl ?_
      refine z_vI (M := M_X12_tells) 108 dX12_tells_108 t_X12_beside l_X12_421 (m_rr_of rfl) (rest := []) (c_X12_beside h 10 l4 l3 G ⟨by omega, by omega⟩) o_108 rfl rfl rfl (Nat.le_of_ble_eq_true rfl) ⟨rfl, rfl⟩ (fun x5 h1 qx5 => ?_)
      obtain ⟨G1, S1, ax5, bx5⟩ := qx5
      have R1 := R.call S1 (by decide +kernel)
      refine z_goto (M := M_X12_tells) 111 dX12_tells_111 115 rfl ?_
      refine z_istore (M := M_X12_tells) 115 dX12_tells_115 (ls' := [some (mR 108), none, some (mI a2), some (mI l3), some (mI l4), some (mI k0), some (mI (-1)), some (mI (-1)), some (mI x5), none, none, none, none]) (by decide) rfl ?_
      refine z_aload_n (M := M_X12_tells) 117 dX12_tells_117 rfl ?_
      refine z_getIE (M := M_X12_tells) 118 dX12_tells_118 f_X12_415 o_108 (by decide) ((S1 108 45 rfl).trans ex3) ?_
      refine z_if_eq_F (M := M_X12_tells) 121 dX12_tells_121 136 rfl (by omega) ?_
      refine z_aload_n (M := M_X12_tells) 124 dX12_tells_124 rfl ?_
      refine z_bipush (M := M_X12_tells) 125 dX12_tells_125 ?_
      refine z_iload (M := M_X12_tells) 127 dX12_tells_127 rfl ?_
      refine z_iload_n (M := M_X12_tells) 129 dX12_tells_129 rfl ?_
      refine z_vI (M := M_X12_tells) 130 dX12_tells_130 t_X12_beside l_X12_421 (m_rr_of rfl) (rest := []) (c_X12_beside h1 10 k0 l3 G1 ⟨by omega, by omega⟩) o_108 rfl rfl rfl (Nat.le_of_ble_eq_true rfl) ⟨rfl, rfl⟩ (fun x6 h2 qx6 => ?_)
      obtain ⟨G2, S2, ax6, bx6⟩ := qx6
      have R2 := R1.call S2 (by decide +kernel)
      refine z_goto (M := M_X12_tells) 133 dX12_tells_133 137 rfl ?_
      exact z_mask [true, false, true, false, false, false, true, true, true, false, false, false, false] rfl (ih.2.1 (-1) (-1) x5 x6 h2 G2 R2 (by omega) (by omega) (by omega) (by omega) (by omega) (by omega) (by omega) (by omega) (by omega))
  · refine z_aload_n (M := M_X12_tells) 60 dX12_tells_60 rfl ?_
    refine z_iconst (M := M_X12_tells) 61 dX12_tells_61 ?_
    refine z_iload (M := M_X12_tells) 62 dX12_tells_62 rfl ?_
    refine z_iload_n (M := M_X12_tells) 64 dX12_tells_64 rfl ?_
    refine z_vI (M := M_X12_tells) 65 dX12_tells_65 t_X12_beside l_X12_421 (m_rr_of rfl) (rest := []) (c_X12_beside h 0 l4 l3 G ⟨by omega, by omega⟩) o_108 rfl rfl rfl (Nat.le_of_ble_eq_true rfl) ⟨rfl, rfl⟩ (fun x7 h3 qx7 => ?_)
    obtain ⟨G3, S3, ax7, bx7⟩ := qx7
    have R3 := R.call S3 (by decide +kernel)
    refine z_goto (M := M_X12_tells) 68 dX12_tells_68 72 rfl ?_
    refine z_istore (M := M_X12_tells) 72 dX12_tells_72 (ls' := [some (mR 108), none, some (mI a2), some (mI l3), some (mI l4), some (mI k0), some (mI x7), none, none, none, none, none, none]) (by decide) rfl ?_
    refine z_aload_n (M := M_X12_tells) 74 dX12_tells_74 rfl ?_
    refine z_getIE (M := M_X12_tells) 75 dX12_tells_75 f_X12_409 o_108 (by decide) ((S3 108 44 rfl).trans ex1) ?_
    refine z_if_eq_F (M := M_X12_tells) 78 dX12_tells_78 92 rfl (by omega) ?_
    refine z_aload_n (M := M_X12_tells) 81 dX12_tells_81 rfl ?_
    refine z_iconst (M := M_X12_tells) 82 dX12_tells_82 ?_
    refine z_iload (M := M_X12_tells) 83 dX12_tells_83 rfl ?_
    refine z_iload_n (M := M_X12_tells) 85 dX12_tells_85 rfl ?_
    refine z_vI (M := M_X12_tells) 86 dX12_tells_86 t_X12_beside l_X12_421 (m_rr_of rfl) (rest := []) (c_X12_beside h3 0 k0 l3 G3 ⟨by omega, by omega⟩) o_108 rfl rfl rfl (Nat.le_of_ble_eq_true rfl) ⟨rfl, rfl⟩ (fun x8 h4 qx8 => ?_)
    obtain ⟨G4, S4, ax8, bx8⟩ := qx8
    have R4 := R3.call S4 (by decide +kernel)
    refine z_goto (M := M_X12_tells) 89 dX12_tells_89 93 rfl ?_
    refine z_istore (M := M_X12_tells) 93 dX12_tells_93 (ls' := [some (mR 108), none, some (mI a2), some (mI l3), some (mI l4), some (mI k0), some (mI x7), some (mI x8), none, none, none, none, none]) (by decide) rfl ?_
    refine z_aload_n (M := M_X12_tells) 95 dX12_tells_95 rfl ?_
    refine z_getIG (M := M_X12_tells) 96 dX12_tells_96 f_X12_415 o_108 (by decide) (g_108_45 G4) (fun x9 ex9 ax9 bx9 => ?_)
    refine z_if_eq (M := M_X12_tells) 99 dX12_tells_99 114 rfl (fun c10 => ?_) (fun c10 => ?_)
    · refine z_iconst (M := M_X12_tells) 114 dX12_tells_114 ?_
      refine z_istore (M := M_X12_tells) 115 dX12_tells_115 (ls' := [some (mR 108), none, some (mI a2), some (mI l3), some (mI l4), some (mI k0), some (mI x7), some (mI x8), some (mI 1), none, none, none, none]) (by decide) rfl ?_
      refine z_aload_n (M := M_X12_tells) 117 dX12_tells_117 rfl ?_
      refine z_getIE (M := M_X12_tells) 118 dX12_tells_118 f_X12_415 o_108 (by decide) ex9 ?_
      refine z_if_eq_T (M := M_X12_tells) 121 dX12_tells_121 136 rfl (by omega) ?_
      refine z_iconst (M := M_X12_tells) 136 dX12_tells_136 ?_
      exact z_mask [true, false, true, false, false, false, true, true, true, false, false, false, false] rfl (ih.2.1 x7 x8 1 1 h4 G4 R4 (by omega) (by omega) (by omega) (by omega) (by omega) (by omega) (by omega) (by omega) (by omega))
    · refine z_aload_n (M := M_X12_tells) 102 dX12_tells_102 rfl ?_
      refine z_bipush (M := M_X12_tells) 103 dX12_tells_103 ?_
      refine z_iload (M := M_X12_tells) 105 dX12_tells_105 rfl ?_
      refine z_iload_n (M := M_X12_tells) 107 dX12_tells_107 rfl ?_
      refine z_vI (M := M_X12_tells) 108 dX12_tells_108 t_X12_beside l_X12_421 (m_rr_of rfl) (rest := []) (c_X12_beside h4 10 l4 l3 G4 ⟨by omega, by omega⟩) o_108 rfl rfl rfl (Nat.le_of_ble_eq_true rfl) ⟨rfl, rfl⟩ (fun x11 h5 qx11 => ?_)
      obtain ⟨G5, S5, ax11, bx11⟩ := qx11
      have R5 := R4.call S5 (by decide +kernel)
      refine z_goto (M := M_X12_tells) 111 dX12_tells_111 115 rfl ?_
      refine z_istore (M := M_X12_tells) 115 dX12_tells_115 (ls' := [some (mR 108), none, some (mI a2), some (mI l3), some (mI l4), some (mI k0), some (mI x7), some (mI x8), some (mI x11), none, none, none, none]) (by decide) rfl ?_
      refine z_aload_n (M := M_X12_tells) 117 dX12_tells_117 rfl ?_
      refine z_getIE (M := M_X12_tells) 118 dX12_tells_118 f_X12_415 o_108 (by decide) ((S5 108 45 rfl).trans ex9) ?_
      refine z_if_eq_F (M := M_X12_tells) 121 dX12_tells_121 136 rfl (by omega) ?_
      refine z_aload_n (M := M_X12_tells) 124 dX12_tells_124 rfl ?_
      refine z_bipush (M := M_X12_tells) 125 dX12_tells_125 ?_
      refine z_iload (M := M_X12_tells) 127 dX12_tells_127 rfl ?_
      refine z_iload_n (M := M_X12_tells) 129 dX12_tells_129 rfl ?_
      refine z_vI (M := M_X12_tells) 130 dX12_tells_130 t_X12_beside l_X12_421 (m_rr_of rfl) (rest := []) (c_X12_beside h5 10 k0 l3 G5 ⟨by omega, by omega⟩) o_108 rfl rfl rfl (Nat.le_of_ble_eq_true rfl) ⟨rfl, rfl⟩ (fun x12 h6 qx12 => ?_)
      obtain ⟨G6, S6, ax12, bx12⟩ := qx12
      have R6 := R5.call S6 (by decide +kernel)
      refine z_goto (M := M_X12_tells) 133 dX12_tells_133 137 rfl ?_
      exact z_mask [true, false, true, false, false, false, true, true, true, false, false, false, false] rfl (ih.2.1 x7 x8 x11 x12 h6 G6 R6 (by omega) (by omega) (by omega) (by omega) (by omega) (by omega) (by omega) (by omega) (by omega))
set_option maxHeartbeats 4000000 in
set_option maxRecDepth 100000 in
theorem s_X12_tells_137 (h0 : m_H) (a1 a2 : Int) (G0 : GI h0) (pa1 : 1 ≤ a1 ∧ a1 ≤ 99) (pa2 : 0 ≤ a2 ∧ a2 ≤ 2) (n : Nat) (ih : q_X12_tells h0 a1 a2 n) : ∀ (l6 l7 l8 k0 : Int) (h : m_H), GI h → FR [135, 136] [] h0 h → (-1) ≤ l6 → l6 ≤ 1 → (-1) ≤ l7 → l7 ≤ 1 → (-1) ≤ l8 → l8 ≤ 1 → (-1) ≤ k0 → k0 ≤ 1 → (4) ≤ ((n + 1 : Nat) : Int) → m_Z oF M_X12_tells 137 [some (mR 108), none, some (mI a2), none, none, none, some (mI l6), some (mI l7), some (mI l8), none, none, none, none] [mI k0] h (m_QI (P_X12_tells h0 a1 a2)) := by
  intro l6 l7 l8 k0 h G R v0 v1 v2 v3 v4 v5 v6 v7 hr
  refine z_istore (M := M_X12_tells) 137 dX12_tells_137 (ls' := [some (mR 108), none, some (mI a2), none, none, none, some (mI l6), some (mI l7), some (mI l8), some (mI k0), none, none, none]) (by decide) rfl ?_
  refine z_iload (M := M_X12_tells) 139 dX12_tells_139 rfl ?_
  refine z_if_lt (M := M_X12_tells) 141 dX12_tells_141 160 rfl (fun c1 => ?_) (fun c1 => ?_)
  · refine z_iconst (M := M_X12_tells) 160 dX12_tells_160 ?_
    refine z_goto (M := M_X12_tells) 161 dX12_tells_161 165 rfl ?_
    refine z_istore (M := M_X12_tells) 165 dX12_tells_165 (ls' := [some (mR 108), none, some (mI a2), none, none, none, some (mI l6), some (mI l7), some (mI l8), some (mI k0), some (mI 1), none, none]) (by decide) rfl ?_
    refine z_iload (M := M_X12_tells) 167 dX12_tells_167 rfl ?_
    refine z_if_gt (M := M_X12_tells) 169 dX12_tells_169 184 rfl (fun c2 => ?_) (fun c2 => ?_)
    · exact z_mask [true, false, true, false, false, false, true, false, false, true, true, false, false] rfl (ih.2.2.1 l6 k0 1 h G R (by omega) (by omega) (by omega) (by omega) (by omega) (by omega) (by omega))
    · refine z_iload (M := M_X12_tells) 172 dX12_tells_172 rfl ?_
      refine z_if_ne (M := M_X12_tells) 174 dX12_tells_174 188 rfl (fun c3 => ?_) (fun c3 => ?_)
      · exact z_mask [true, false, true, false, false, false, true, false, false, true, true, false, false] rfl (ih.2.2.2.1 l6 k0 1 h G R (by omega) (by omega) (by omega) (by omega) (by omega) (by omega) (by omega))
      · refine z_aload_n (M := M_X12_tells) 177 dX12_tells_177 rfl ?_
        refine z_getIG (M := M_X12_tells) 178 dX12_tells_178 f_X12_418 o_108 (by decide) (g_108_47 G) (fun x4 ex4 ax4 bx4 => ?_)
        refine z_if_eq (M := M_X12_tells) 181 dX12_tells_181 188 rfl (fun c5 => ?_) (fun c5 => ?_)
        · exact z_mask [true, false, true, false, false, false, true, false, false, true, true, false, false] rfl (ih.2.2.2.1 l6 k0 1 h G R (by omega) (by omega) (by omega) (by omega) (by omega) (by omega) (by omega))
        · exact z_mask [true, false, true, false, false, false, true, false, false, true, true, false, false] rfl (ih.2.2.1 l6 k0 1 h G R (by omega) (by omega) (by omega) (by omega) (by omega) (by omega) (by omega))
  · refine z_iload (M := M_X12_tells) 144 dX12_tells_144 rfl ?_
    refine z_if_ne (M := M_X12_tells) 146 dX12_tells_146 164 rfl (fun c6 => ?_) (fun c6 => ?_)
    · refine z_iconst (M := M_X12_tells) 164 dX12_tells_164 ?_
      refine z_istore (M := M_X12_tells) 165 dX12_tells_165 (ls' := [some (mR 108), none, some (mI a2), none, none, none, some (mI l6), some (mI l7), some (mI l8), some (mI k0), some (mI 0), none, none]) (by decide) rfl ?_
      refine z_iload (M := M_X12_tells) 167 dX12_tells_167 rfl ?_
      refine z_if_gt (M := M_X12_tells) 169 dX12_tells_169 184 rfl (fun c7 => ?_) (fun c7 => ?_)
      · exact z_mask [true, false, true, false, false, false, true, false, false, true, true, false, false] rfl (ih.2.2.1 l6 k0 0 h G R (by omega) (by omega) (by omega) (by omega) (by omega) (by omega) (by omega))
      · refine z_iload (M := M_X12_tells) 172 dX12_tells_172 rfl ?_
        refine z_if_ne (M := M_X12_tells) 174 dX12_tells_174 188 rfl (fun c8 => ?_) (fun c8 => ?_)
        · exact z_mask [true, false, true, false, false, false, true, false, false, true, true, false, false] rfl (ih.2.2.2.1 l6 k0 0 h G R (by omega) (by omega) (by omega) (by omega) (by omega) (by omega) (by omega))
        · refine z_aload_n (M := M_X12_tells) 177 dX12_tells_177 rfl ?_
          refine z_getIG (M := M_X12_tells) 178 dX12_tells_178 f_X12_418 o_108 (by decide) (g_108_47 G) (fun x9 ex9 ax9 bx9 => ?_)
          refine z_if_eq (M := M_X12_tells) 181 dX12_tells_181 188 rfl (fun c10 => ?_) (fun c10 => ?_)
          · exact z_mask [true, false, true, false, false, false, true, false, false, true, true, false, false] rfl (ih.2.2.2.1 l6 k0 0 h G R (by omega) (by omega) (by omega) (by omega) (by omega) (by omega) (by omega))
          · exact z_mask [true, false, true, false, false, false, true, false, false, true, true, false, false] rfl (ih.2.2.1 l6 k0 0 h G R (by omega) (by omega) (by omega) (by omega) (by omega) (by omega) (by omega))
    · refine z_iload_n (M := M_X12_tells) 149 dX12_tells_149 rfl ?_
      refine z_if_ne (M := M_X12_tells) 150 dX12_tells_150 164 rfl (fun c11 => ?_) (fun c11 => ?_)
      · refine z_iconst (M := M_X12_tells) 164 dX12_tells_164 ?_
        refine z_istore (M := M_X12_tells) 165 dX12_tells_165 (ls' := [some (mR 108), none, some (mI a2), none, none, none, some (mI l6), some (mI l7), some (mI l8), some (mI k0), some (mI 0), none, none]) (by decide) rfl ?_
        refine z_iload (M := M_X12_tells) 167 dX12_tells_167 rfl ?_
        refine z_if_gt (M := M_X12_tells) 169 dX12_tells_169 184 rfl (fun c12 => ?_) (fun c12 => ?_)
        · exact z_mask [true, false, true, false, false, false, true, false, false, true, true, false, false] rfl (ih.2.2.1 l6 k0 0 h G R (by omega) (by omega) (by omega) (by omega) (by omega) (by omega) (by omega))
        · refine z_iload (M := M_X12_tells) 172 dX12_tells_172 rfl ?_
          refine z_if_ne (M := M_X12_tells) 174 dX12_tells_174 188 rfl (fun c13 => ?_) (fun c13 => ?_)
          · exact z_mask [true, false, true, false, false, false, true, false, false, true, true, false, false] rfl (ih.2.2.2.1 l6 k0 0 h G R (by omega) (by omega) (by omega) (by omega) (by omega) (by omega) (by omega))
          · refine z_aload_n (M := M_X12_tells) 177 dX12_tells_177 rfl ?_
            refine z_getIG (M := M_X12_tells) 178 dX12_tells_178 f_X12_418 o_108 (by decide) (g_108_47 G) (fun x14 ex14 ax14 bx14 => ?_)
            refine z_if_eq (M := M_X12_tells) 181 dX12_tells_181 188 rfl (fun c15 => ?_) (fun c15 => ?_)
            · exact z_mask [true, false, true, false, false, false, true, false, false, true, true, false, false] rfl (ih.2.2.2.1 l6 k0 0 h G R (by omega) (by omega) (by omega) (by omega) (by omega) (by omega) (by omega))
            · exact z_mask [true, false, true, false, false, false, true, false, false, true, true, false, false] rfl (ih.2.2.1 l6 k0 0 h G R (by omega) (by omega) (by omega) (by omega) (by omega) (by omega) (by omega))
      · refine z_aload_n (M := M_X12_tells) 153 dX12_tells_153 rfl ?_
        refine z_getIG (M := M_X12_tells) 154 dX12_tells_154 f_X12_412 o_108 (by decide) (g_108_46 G) (fun x16 ex16 ax16 bx16 => ?_)
        refine z_if_eq (M := M_X12_tells) 157 dX12_tells_157 164 rfl (fun c17 => ?_) (fun c17 => ?_)
        · refine z_iconst (M := M_X12_tells) 164 dX12_tells_164 ?_
          refine z_istore (M := M_X12_tells) 165 dX12_tells_165 (ls' := [some (mR 108), none, some (mI a2), none, none, none, some (mI l6), some (mI l7), some (mI l8), some (mI k0), some (mI 0), none, none]) (by decide) rfl ?_
          refine z_iload (M := M_X12_tells) 167 dX12_tells_167 rfl ?_
          refine z_if_gt (M := M_X12_tells) 169 dX12_tells_169 184 rfl (fun c18 => ?_) (fun c18 => ?_)
          · exact z_mask [true, false, true, false, false, false, true, false, false, true, true, false, false] rfl (ih.2.2.1 l6 k0 0 h G R (by omega) (by omega) (by omega) (by omega) (by omega) (by omega) (by omega))
          · refine z_iload (M := M_X12_tells) 172 dX12_tells_172 rfl ?_
            refine z_if_ne (M := M_X12_tells) 174 dX12_tells_174 188 rfl (fun c19 => ?_) (fun c19 => ?_)
            · exact z_mask [true, false, true, false, false, false, true, false, false, true, true, false, false] rfl (ih.2.2.2.1 l6 k0 0 h G R (by omega) (by omega) (by omega) (by omega) (by omega) (by omega) (by omega))
            · refine z_aload_n (M := M_X12_tells) 177 dX12_tells_177 rfl ?_
              refine z_getIG (M := M_X12_tells) 178 dX12_tells_178 f_X12_418 o_108 (by decide) (g_108_47 G) (fun x20 ex20 ax20 bx20 => ?_)
              refine z_if_eq (M := M_X12_tells) 181 dX12_tells_181 188 rfl (fun c21 => ?_) (fun c21 => ?_)
              · exact z_mask [true, false, true, false, false, false, true, false, false, true, true, false, false] rfl (ih.2.2.2.1 l6 k0 0 h G R (by omega) (by omega) (by omega) (by omega) (by omega) (by omega) (by omega))
              · exact z_mask [true, false, true, false, false, false, true, false, false, true, true, false, false] rfl (ih.2.2.1 l6 k0 0 h G R (by omega) (by omega) (by omega) (by omega) (by omega) (by omega) (by omega))
        · refine z_iconst (M := M_X12_tells) 160 dX12_tells_160 ?_
          refine z_goto (M := M_X12_tells) 161 dX12_tells_161 165 rfl ?_
          refine z_istore (M := M_X12_tells) 165 dX12_tells_165 (ls' := [some (mR 108), none, some (mI a2), none, none, none, some (mI l6), some (mI l7), some (mI l8), some (mI k0), some (mI 1), none, none]) (by decide) rfl ?_
          refine z_iload (M := M_X12_tells) 167 dX12_tells_167 rfl ?_
          refine z_if_gt (M := M_X12_tells) 169 dX12_tells_169 184 rfl (fun c22 => ?_) (fun c22 => ?_)
          · exact z_mask [true, false, true, false, false, false, true, false, false, true, true, false, false] rfl (ih.2.2.1 l6 k0 1 h G R (by omega) (by omega) (by omega) (by omega) (by omega) (by omega) (by omega))
          · refine z_iload (M := M_X12_tells) 172 dX12_tells_172 rfl ?_
            refine z_if_ne (M := M_X12_tells) 174 dX12_tells_174 188 rfl (fun c23 => ?_) (fun c23 => ?_)
            · exact z_mask [true, false, true, false, false, false, true, false, false, true, true, false, false] rfl (ih.2.2.2.1 l6 k0 1 h G R (by omega) (by omega) (by omega) (by omega) (by omega) (by omega) (by omega))
            · refine z_aload_n (M := M_X12_tells) 177 dX12_tells_177 rfl ?_
              refine z_getIG (M := M_X12_tells) 178 dX12_tells_178 f_X12_418 o_108 (by decide) (g_108_47 G) (fun x24 ex24 ax24 bx24 => ?_)
              refine z_if_eq (M := M_X12_tells) 181 dX12_tells_181 188 rfl (fun c25 => ?_) (fun c25 => ?_)
              · exact z_mask [true, false, true, false, false, false, true, false, false, true, true, false, false] rfl (ih.2.2.2.1 l6 k0 1 h G R (by omega) (by omega) (by omega) (by omega) (by omega) (by omega) (by omega))
              · exact z_mask [true, false, true, false, false, false, true, false, false, true, true, false, false] rfl (ih.2.2.1 l6 k0 1 h G R (by omega) (by omega) (by omega) (by omega) (by omega) (by omega) (by omega))
set_option maxHeartbeats 4000000 in
set_option maxRecDepth 100000 in
theorem s_X12_tells_184 (h0 : m_H) (a1 a2 : Int) (G0 : GI h0) (pa1 : 1 ≤ a1 ∧ a1 ≤ 99) (pa2 : 0 ≤ a2 ∧ a2 ≤ 2) (n : Nat) (ih : q_X12_tells h0 a1 a2 n) : ∀ (l6 l9 l10 : Int) (h : m_H), GI h → FR [135, 136] [] h0 h → (-1) ≤ l6 → l6 ≤ 1 → (-1) ≤ l9 → l9 ≤ 1 → 0 ≤ l10 → l10 ≤ 1 → (3) ≤ ((n + 1 : Nat) : Int) → m_Z oF M_X12_tells 184 [some (mR 108), none, some (mI a2), none, none, none, some (mI l6), none, none, some (mI l9), some (mI l10), none, none] [] h (m_QI (P_X12_tells h0 a1 a2)) := by
  intro l6 l9 l10 h G R v0 v1 v2 v3 v4 v5 hr
  refine z_iconst (M := M_X12_tells) 184 dX12_tells_184 ?_
  refine z_goto (M := M_X12_tells) 185 dX12_tells_185 189 rfl ?_
  refine z_istore (M := M_X12_tells) 189 dX12_tells_189 (ls' := [some (mR 108), none, some (mI a2), none, none, none, some (mI l6), none, none, some (mI l9), some (mI l10), some (mI 1), none]) (by decide) rfl ?_
  refine z_iload (M := M_X12_tells) 191 dX12_tells_191 rfl ?_
  refine z_if_eq (M := M_X12_tells) 193 dX12_tells_193 201 rfl (fun c1 => ?_) (fun c1 => ?_)
  · refine z_iconst (M := M_X12_tells) 201 dX12_tells_201 ?_
    exact z_retI (M := M_X12_tells) 202 dX12_tells_202 rfl ⟨G, R, by omega, by omega⟩
  · refine z_iload (M := M_X12_tells) 196 dX12_tells_196 rfl ?_
    refine z_if_ne_T (M := M_X12_tells) 198 dX12_tells_198 203 rfl (by omega) ?_
    refine z_iload (M := M_X12_tells) 203 dX12_tells_203 rfl ?_
    refine z_if_lt (M := M_X12_tells) 205 dX12_tells_205 233 rfl (fun c2 => ?_) (fun c2 => ?_)
    · refine z_iconst (M := M_X12_tells) 233 dX12_tells_233 ?_
      refine z_istore (M := M_X12_tells) 234 dX12_tells_234 (ls' := [some (mR 108), none, some (mI a2), none, none, none, some (mI l6), none, none, some (mI l9), some (mI l10), some (mI 1), some (mI 0)]) (by decide) rfl ?_
      refine z_iload (M := M_X12_tells) 236 dX12_tells_236 rfl ?_
      refine z_if_eq_T (M := M_X12_tells) 238 dX12_tells_238 245 rfl (by omega) ?_
      refine z_iconst (M := M_X12_tells) 245 dX12_tells_245 ?_
      exact z_mask [false, false, false, false, false, false, false, false, false, false, false, false, false] rfl (ih.2.2.2.2 2 h G R (by omega) (by omega) (by omega))
    · refine z_iload (M := M_X12_tells) 208 dX12_tells_208 rfl ?_
      refine z_if_lt (M := M_X12_tells) 210 dX12_tells_210 229 rfl (fun c3 => ?_) (fun c3 => ?_)
      · refine z_iconst (M := M_X12_tells) 229 dX12_tells_229 ?_
        refine z_goto (M := M_X12_tells) 230 dX12_tells_230 234 rfl ?_
        refine z_istore (M := M_X12_tells) 234 dX12_tells_234 (ls' := [some (mR 108), none, some (mI a2), none, none, none, some (mI l6), none, none, some (mI l9), some (mI l10), some (mI 1), some (mI 1)]) (by decide) rfl ?_
        refine z_iload (M := M_X12_tells) 236 dX12_tells_236 rfl ?_
        refine z_if_eq_F (M := M_X12_tells) 238 dX12_tells_238 245 rfl (by omega) ?_
        refine z_iconst (M := M_X12_tells) 241 dX12_tells_241 ?_
        refine z_goto (M := M_X12_tells) 242 dX12_tells_242 246 rfl ?_
        exact z_mask [false, false, false, false, false, false, false, false, false, false, false, false, false] rfl (ih.2.2.2.2 1 h G R (by omega) (by omega) (by omega))
      · refine z_iload (M := M_X12_tells) 213 dX12_tells_213 rfl ?_
        refine z_if_ne (M := M_X12_tells) 215 dX12_tells_215 233 rfl (fun c4 => ?_) (fun c4 => ?_)
        · refine z_iconst (M := M_X12_tells) 233 dX12_tells_233 ?_
          refine z_istore (M := M_X12_tells) 234 dX12_tells_234 (ls' := [some (mR 108), none, some (mI a2), none, none, none, some (mI l6), none, none, some (mI l9), some (mI l10), some (mI 1), some (mI 0)]) (by decide) rfl ?_
          refine z_iload (M := M_X12_tells) 236 dX12_tells_236 rfl ?_
          refine z_if_eq_T (M := M_X12_tells) 238 dX12_tells_238 245 rfl (by omega) ?_
          refine z_iconst (M := M_X12_tells) 245 dX12_tells_245 ?_
          exact z_mask [false, false, false, false, false, false, false, false, false, false, false, false, false] rfl (ih.2.2.2.2 2 h G R (by omega) (by omega) (by omega))
        · refine z_iload_n (M := M_X12_tells) 218 dX12_tells_218 rfl ?_
          refine z_if_eq (M := M_X12_tells) 219 dX12_tells_219 229 rfl (fun c5 => ?_) (fun c5 => ?_)
          · refine z_iconst (M := M_X12_tells) 229 dX12_tells_229 ?_
            refine z_goto (M := M_X12_tells) 230 dX12_tells_230 234 rfl ?_
            refine z_istore (M := M_X12_tells) 234 dX12_tells_234 (ls' := [some (mR 108), none, some (mI a2), none, none, none, some (mI l6), none, none, some (mI l9), some (mI l10), some (mI 1), some (mI 1)]) (by decide) rfl ?_
            refine z_iload (M := M_X12_tells) 236 dX12_tells_236 rfl ?_
            refine z_if_eq_F (M := M_X12_tells) 238 dX12_tells_238 245 rfl (by omega) ?_
            refine z_iconst (M := M_X12_tells) 241 dX12_tells_241 ?_
            refine z_goto (M := M_X12_tells) 242 dX12_tells_242 246 rfl ?_
            exact z_mask [false, false, false, false, false, false, false, false, false, false, false, false, false] rfl (ih.2.2.2.2 1 h G R (by omega) (by omega) (by omega))
          · refine z_aload_n (M := M_X12_tells) 222 dX12_tells_222 rfl ?_
            refine z_getIG (M := M_X12_tells) 223 dX12_tells_223 f_X12_418 o_108 (by decide) (g_108_47 G) (fun x6 ex6 ax6 bx6 => ?_)
            refine z_if_ne (M := M_X12_tells) 226 dX12_tells_226 233 rfl (fun c7 => ?_) (fun c7 => ?_)
            · refine z_iconst (M := M_X12_tells) 233 dX12_tells_233 ?_
              refine z_istore (M := M_X12_tells) 234 dX12_tells_234 (ls' := [some (mR 108), none, some (mI a2), none, none, none, some (mI l6), none, none, some (mI l9), some (mI l10), some (mI 1), some (mI 0)]) (by decide) rfl ?_
              refine z_iload (M := M_X12_tells) 236 dX12_tells_236 rfl ?_
              refine z_if_eq_T (M := M_X12_tells) 238 dX12_tells_238 245 rfl (by omega) ?_
              refine z_iconst (M := M_X12_tells) 245 dX12_tells_245 ?_
              exact z_mask [false, false, false, false, false, false, false, false, false, false, false, false, false] rfl (ih.2.2.2.2 2 h G R (by omega) (by omega) (by omega))
            · refine z_iconst (M := M_X12_tells) 229 dX12_tells_229 ?_
              refine z_goto (M := M_X12_tells) 230 dX12_tells_230 234 rfl ?_
              refine z_istore (M := M_X12_tells) 234 dX12_tells_234 (ls' := [some (mR 108), none, some (mI a2), none, none, none, some (mI l6), none, none, some (mI l9), some (mI l10), some (mI 1), some (mI 1)]) (by decide) rfl ?_
              refine z_iload (M := M_X12_tells) 236 dX12_tells_236 rfl ?_
              refine z_if_eq_F (M := M_X12_tells) 238 dX12_tells_238 245 rfl (by omega) ?_
              refine z_iconst (M := M_X12_tells) 241 dX12_tells_241 ?_
              refine z_goto (M := M_X12_tells) 242 dX12_tells_242 246 rfl ?_
              exact z_mask [false, false, false, false, false, false, false, false, false, false, false, false, false] rfl (ih.2.2.2.2 1 h G R (by omega) (by omega) (by omega))
set_option maxHeartbeats 4000000 in
set_option maxRecDepth 100000 in
theorem s_X12_tells_188 (h0 : m_H) (a1 a2 : Int) (G0 : GI h0) (pa1 : 1 ≤ a1 ∧ a1 ≤ 99) (pa2 : 0 ≤ a2 ∧ a2 ≤ 2) (n : Nat) (ih : q_X12_tells h0 a1 a2 n) : ∀ (l6 l9 l10 : Int) (h : m_H), GI h → FR [135, 136] [] h0 h → (-1) ≤ l6 → l6 ≤ 1 → (-1) ≤ l9 → l9 ≤ 1 → 0 ≤ l10 → l10 ≤ 1 → (2) ≤ ((n + 1 : Nat) : Int) → m_Z oF M_X12_tells 188 [some (mR 108), none, some (mI a2), none, none, none, some (mI l6), none, none, some (mI l9), some (mI l10), none, none] [] h (m_QI (P_X12_tells h0 a1 a2)) := by
  intro l6 l9 l10 h G R v0 v1 v2 v3 v4 v5 hr
  refine z_iconst (M := M_X12_tells) 188 dX12_tells_188 ?_
  refine z_istore (M := M_X12_tells) 189 dX12_tells_189 (ls' := [some (mR 108), none, some (mI a2), none, none, none, some (mI l6), none, none, some (mI l9), some (mI l10), some (mI 0), none]) (by decide) rfl ?_
  refine z_iload (M := M_X12_tells) 191 dX12_tells_191 rfl ?_
  refine z_if_eq (M := M_X12_tells) 193 dX12_tells_193 201 rfl (fun c1 => ?_) (fun c1 => ?_)
  · refine z_iconst (M := M_X12_tells) 201 dX12_tells_201 ?_
    exact z_retI (M := M_X12_tells) 202 dX12_tells_202 rfl ⟨G, R, by omega, by omega⟩
  · refine z_iload (M := M_X12_tells) 196 dX12_tells_196 rfl ?_
    refine z_if_ne_F (M := M_X12_tells) 198 dX12_tells_198 203 rfl (by omega) ?_
    refine z_iconst (M := M_X12_tells) 201 dX12_tells_201 ?_
    exact z_retI (M := M_X12_tells) 202 dX12_tells_202 rfl ⟨G, R, by omega, by omega⟩
set_option maxHeartbeats 4000000 in
set_option maxRecDepth 100000 in
theorem s_X12_tells_246 (h0 : m_H) (a1 a2 : Int) (G0 : GI h0) (pa1 : 1 ≤ a1 ∧ a1 ≤ 99) (pa2 : 0 ≤ a2 ∧ a2 ≤ 2) (n : Nat) (ih : q_X12_tells h0 a1 a2 n) : ∀ (k0 : Int) (h : m_H), GI h → FR [135, 136] [] h0 h → 1 ≤ k0 → k0 ≤ 2 → (1) ≤ ((n + 1 : Nat) : Int) → m_Z oF M_X12_tells 246 [none, none, none, none, none, none, none, none, none, none, none, none, none] [mI k0] h (m_QI (P_X12_tells h0 a1 a2)) := by
  intro k0 h G R v0 v1 hr
  exact z_retI (M := M_X12_tells) 246 dX12_tells_246 rfl ⟨G, R, by omega, by omega⟩
theorem a_X12_tells (h0 : m_H) (a1 a2 : Int) (G0 : GI h0) (pa1 : 1 ≤ a1 ∧ a1 ≤ 99) (pa2 : 0 ≤ a2 ∧ a2 ≤ 2) : ∀ n, q_X12_tells h0 a1 a2 n := by
  intro n
  induction n with
  | zero => unfold q_X12_tells; refine ⟨?_, ?_, ?_, ?_, ?_⟩ <;> (intros; omega)
  | succ n ih => exact ⟨s_X12_tells_51 h0 a1 a2 G0 pa1 pa2 n ih, s_X12_tells_137 h0 a1 a2 G0 pa1 pa2 n ih, s_X12_tells_184 h0 a1 a2 G0 pa1 pa2 n ih, s_X12_tells_188 h0 a1 a2 G0 pa1 pa2 n ih, s_X12_tells_246 h0 a1 a2 G0 pa1 pa2 n ih⟩
set_option maxHeartbeats 4000000 in
set_option maxRecDepth 100000 in
theorem c_X12_tells (h0 : m_H) (a1 a2 : Int) (G0 : GI h0) (pa1 : 1 ≤ a1 ∧ a1 ≤ 99) (pa2 : 0 ≤ a2 ∧ a2 ≤ 2) : m_CI M_X12_tells [mR 108, mI a1, mI a2] h0 (P_X12_tells h0 a1 a2) := by
  refine m_CI_of ⟨by decide, rfl, by simp [m_arg, m_isL, M_X12_tells], ⟨rfl, rfl⟩, rfl, rfl⟩ (ls := [some (mR 108), some (mI a1), some (mI a2), none, none, none, none, none, none, none, none, none, none]) rfl ?_
  have ih := a_X12_tells h0 a1 a2 G0 pa1 pa2 10
  refine z_iload_n (M := M_X12_tells) 0 dX12_tells_0 rfl ?_
  refine z_iconst (M := M_X12_tells) 1 dX12_tells_1 ?_
  refine z_icmp_ne (M := M_X12_tells) 2 dX12_tells_2 9 rfl (fun c1 => ?_) (fun c1 => ?_)
  · refine z_iconst (M := M_X12_tells) 9 dX12_tells_9 ?_
    refine z_istore_n (M := M_X12_tells) 10 dX12_tells_10 (ls' := [some (mR 108), some (mI a1), some (mI a2), some (mI 1), none, none, none, none, none, none, none, none, none]) (by decide) rfl ?_
    refine z_iload_n (M := M_X12_tells) 11 dX12_tells_11 rfl ?_
    refine z_iconst (M := M_X12_tells) 12 dX12_tells_12 ?_
    refine z_icmp_ne_T (M := M_X12_tells) 13 dX12_tells_13 24 rfl (by omega) ?_
    refine z_iload_n (M := M_X12_tells) 24 dX12_tells_24 rfl ?_
    refine z_istore (M := M_X12_tells) 25 dX12_tells_25 (ls' := [some (mR 108), some (mI a1), some (mI a2), some (mI 1), some (mI a1), none, none, none, none, none, none, none, none]) (by decide) rfl ?_
    refine z_iload_n (M := M_X12_tells) 27 dX12_tells_27 rfl ?_
    refine z_if_ne (M := M_X12_tells) 28 dX12_tells_28 35 rfl (fun c2 => ?_) (fun c2 => ?_)
    · refine z_iload_n (M := M_X12_tells) 35 dX12_tells_35 rfl ?_
      refine z_iconst (M := M_X12_tells) 36 dX12_tells_36 ?_
      refine z_icmp_ne_F (M := M_X12_tells) 37 dX12_tells_37 46 rfl (by omega) ?_
      refine z_iload_n (M := M_X12_tells) 40 dX12_tells_40 rfl ?_
      refine z_iconst (M := M_X12_tells) 41 dX12_tells_41 ?_
      refine z_iaddN (M := M_X12_tells) 42 dX12_tells_42 (by omega) (by omega) ?_
      refine z_goto (M := M_X12_tells) 43 dX12_tells_43 51 rfl ?_
      exact z_mask [true, false, true, true, true, false, false, false, false, false, false, false, false] rfl (ih.1 1 a1 (a1 + 1) h0 G0 (FR.rf (cs := [135, 136]) (ss := []) (h := h0)) (by omega) (by omega) (by omega) (by omega) (by omega) (by omega) (by omega))
    · refine z_iload_n (M := M_X12_tells) 31 dX12_tells_31 rfl ?_
      refine z_goto (M := M_X12_tells) 32 dX12_tells_32 51 rfl ?_
      exact z_mask [true, false, true, true, true, false, false, false, false, false, false, false, false] rfl (ih.1 1 a1 a1 h0 G0 (FR.rf (cs := [135, 136]) (ss := []) (h := h0)) (by omega) (by omega) (by omega) (by omega) (by omega) (by omega) (by omega))
  · refine z_iconst (M := M_X12_tells) 5 dX12_tells_5 ?_
    refine z_goto (M := M_X12_tells) 6 dX12_tells_6 10 rfl ?_
    refine z_istore_n (M := M_X12_tells) 10 dX12_tells_10 (ls' := [some (mR 108), some (mI a1), some (mI a2), some (mI 2), none, none, none, none, none, none, none, none, none]) (by decide) rfl ?_
    refine z_iload_n (M := M_X12_tells) 11 dX12_tells_11 rfl ?_
    refine z_iconst (M := M_X12_tells) 12 dX12_tells_12 ?_
    refine z_icmp_ne_F (M := M_X12_tells) 13 dX12_tells_13 24 rfl (by omega) ?_
    refine z_iconst (M := M_X12_tells) 16 dX12_tells_16 ?_
    refine z_iload_n (M := M_X12_tells) 17 dX12_tells_17 rfl ?_
    refine z_imulN (M := M_X12_tells) 18 dX12_tells_18 (by omega) (by omega) ?_
    refine z_iconst (M := M_X12_tells) 19 dX12_tells_19 ?_
    refine z_isubN (M := M_X12_tells) 20 dX12_tells_20 (by omega) (by omega) ?_
    refine z_goto (M := M_X12_tells) 21 dX12_tells_21 25 rfl ?_
    refine z_istore (M := M_X12_tells) 25 dX12_tells_25 (ls' := [some (mR 108), some (mI a1), some (mI a2), some (mI 2), some (mI ((2 * a1) - 1)), none, none, none, none, none, none, none, none]) (by decide) rfl ?_
    refine z_iload_n (M := M_X12_tells) 27 dX12_tells_27 rfl ?_
    refine z_if_ne_T (M := M_X12_tells) 28 dX12_tells_28 35 rfl (by omega) ?_
    refine z_iload_n (M := M_X12_tells) 35 dX12_tells_35 rfl ?_
    refine z_iconst (M := M_X12_tells) 36 dX12_tells_36 ?_
    refine z_icmp_ne_T (M := M_X12_tells) 37 dX12_tells_37 46 rfl (by omega) ?_
    refine z_iconst (M := M_X12_tells) 46 dX12_tells_46 ?_
    refine z_iload_n (M := M_X12_tells) 47 dX12_tells_47 rfl ?_
    refine z_imulN (M := M_X12_tells) 48 dX12_tells_48 (by omega) (by omega) ?_
    refine z_iconst (M := M_X12_tells) 49 dX12_tells_49 ?_
    refine z_iaddN (M := M_X12_tells) 50 dX12_tells_50 (by omega) (by omega) ?_
    exact z_mask [true, false, true, true, true, false, false, false, false, false, false, false, false] rfl (ih.1 2 ((2 * a1) - 1) ((2 * a1) + 1) h0 G0 (FR.rf (cs := [135, 136]) (ss := []) (h := h0)) (by omega) (by omega) (by omega) (by omega) (by omega) (by omega) (by omega))
abbrev P_X12_numbersOf (h0 : m_H) (a1 : Int) : Int → m_H → Prop := fun x h' => GI h' ∧ FR [135, 136] [] h0 h'
def q_X12_numbersOf (h0 : m_H) (a1 : Int) (n : Nat) : Prop := (∀ (l2 l3 : Int) (h : m_H), GI h → FR [135, 136] [] h0 h → 1 ≤ l3 → l3 ≤ 100 → 2 * (100 - l3) + (1) ≤ (n : Int) → m_Z oF M_X12_numbersOf 4 [some (mR 108), some (mI a1), some (mI l2), some (mI l3)] [] h (m_QI (P_X12_numbersOf h0 a1)))
set_option maxHeartbeats 4000000 in
set_option maxRecDepth 100000 in
theorem s_X12_numbersOf_4 (h0 : m_H) (a1 : Int) (G0 : GI h0) (pa1 : 0 ≤ a1 ∧ a1 ≤ 2) (n : Nat) (ih : q_X12_numbersOf h0 a1 n) : ∀ (l2 l3 : Int) (h : m_H), GI h → FR [135, 136] [] h0 h → 1 ≤ l3 → l3 ≤ 100 → 2 * (100 - l3) + (1) ≤ ((n + 1 : Nat) : Int) → m_Z oF M_X12_numbersOf 4 [some (mR 108), some (mI a1), some (mI l2), some (mI l3)] [] h (m_QI (P_X12_numbersOf h0 a1)) := by
  intro l2 l3 h G R v0 v1 hr
  refine z_ok (fun ostk _ olocs => ?_)
  have ol2 : m_32 l2 := olocs 2 _ rfl
  unfold m_32 at ol2
  refine z_iload_n (M := M_X12_numbersOf) 4 dX12_numbersOf_4 rfl ?_
  refine z_bipush (M := M_X12_numbersOf) 5 dX12_numbersOf_5 ?_
  refine z_icmp_ge (M := M_X12_numbersOf) 7 dX12_numbersOf_7 33 rfl (fun c1 => ?_) (fun c1 => ?_)
  · refine z_iload_n (M := M_X12_numbersOf) 33 dX12_numbersOf_33 rfl ?_
    exact z_retI (M := M_X12_numbersOf) 34 dX12_numbersOf_34 rfl ⟨G, R⟩
  · refine z_iload_n (M := M_X12_numbersOf) 10 dX12_numbersOf_10 rfl ?_
    refine z_aload_n (M := M_X12_numbersOf) 11 dX12_numbersOf_11 rfl ?_
    refine z_iload_n (M := M_X12_numbersOf) 12 dX12_numbersOf_12 rfl ?_
    refine z_iload_n (M := M_X12_numbersOf) 13 dX12_numbersOf_13 rfl ?_
    refine z_vI (M := M_X12_numbersOf) 14 dX12_numbersOf_14 t_X12_tells l_X12_431 (m_rr_of rfl) (rest := [mI l2]) (c_X12_tells h l3 a1 G ⟨by omega, by omega⟩ ⟨by omega, by omega⟩) o_108 rfl rfl rfl (Nat.le_of_ble_eq_true rfl) ⟨rfl, rfl⟩ (fun x2 h1 qx2 => ?_)
    obtain ⟨G1, S1, ax2, bx2⟩ := qx2
    have R1 := R.call S1 (by decide +kernel)
    refine z_if_le (M := M_X12_numbersOf) 17 dX12_numbersOf_17 24 rfl (fun c3 => ?_) (fun c3 => ?_)
    · refine z_iconst (M := M_X12_numbersOf) 24 dX12_numbersOf_24 ?_
      refine z_iaddN (M := M_X12_numbersOf) 25 dX12_numbersOf_25 (by omega) (by omega) ?_
      refine z_istore_n (M := M_X12_numbersOf) 26 dX12_numbersOf_26 (ls' := [some (mR 108), some (mI a1), some (mI (l2 + 0)), some (mI l3)]) (by decide) rfl ?_
      refine z_iincN (M := M_X12_numbersOf) 27 dX12_numbersOf_27 (ls' := [some (mR 108), some (mI a1), some (mI (l2 + 0)), some (mI (l3 + 1))]) (by decide) rfl (by (unfold m_32; decide)) (by omega) (by omega) rfl ?_
      refine z_goto (M := M_X12_numbersOf) 30 dX12_numbersOf_30 4 rfl ?_
      exact z_mask [true, true, true, true] rfl (ih (l2 + 0) (l3 + 1) h1 G1 R1 (by omega) (by omega) (by omega))
    · refine z_iconst (M := M_X12_numbersOf) 20 dX12_numbersOf_20 ?_
      refine z_goto (M := M_X12_numbersOf) 21 dX12_numbersOf_21 25 rfl ?_
      refine z_iadd (M := M_X12_numbersOf) 25 dX12_numbersOf_25 ?_
      refine z_topm (fun x4 ex4 ox4 => ?_)
      unfold m_32 at ox4
      refine z_istore_n (M := M_X12_numbersOf) 26 dX12_numbersOf_26 (ls' := [some (mR 108), some (mI a1), some (mI x4), some (mI l3)]) (by decide) rfl ?_
      refine z_iincN (M := M_X12_numbersOf) 27 dX12_numbersOf_27 (ls' := [some (mR 108), some (mI a1), some (mI x4), some (mI (l3 + 1))]) (by decide) rfl (by (unfold m_32; decide)) (by omega) (by omega) rfl ?_
      refine z_goto (M := M_X12_numbersOf) 30 dX12_numbersOf_30 4 rfl ?_
      exact z_mask [true, true, true, true] rfl (ih x4 (l3 + 1) h1 G1 R1 (by omega) (by omega) (by omega))
theorem a_X12_numbersOf (h0 : m_H) (a1 : Int) (G0 : GI h0) (pa1 : 0 ≤ a1 ∧ a1 ≤ 2) : ∀ n, q_X12_numbersOf h0 a1 n := by
  intro n
  induction n with
  | zero => unfold q_X12_numbersOf; intros; omega
  | succ n ih => exact s_X12_numbersOf_4 h0 a1 G0 pa1 n ih
set_option maxHeartbeats 4000000 in
set_option maxRecDepth 100000 in
theorem c_X12_numbersOf (h0 : m_H) (a1 : Int) (G0 : GI h0) (pa1 : 0 ≤ a1 ∧ a1 ≤ 2) : m_CI M_X12_numbersOf [mR 108, mI a1] h0 (P_X12_numbersOf h0 a1) := by
  refine m_CI_of ⟨by decide, rfl, by simp [m_arg, m_isL, M_X12_numbersOf], ⟨rfl, rfl⟩, rfl, rfl⟩ (ls := [some (mR 108), some (mI a1), none, none]) rfl ?_
  have ih := a_X12_numbersOf h0 a1 G0 pa1 206
  refine z_iconst (M := M_X12_numbersOf) 0 dX12_numbersOf_0 ?_
  refine z_istore_n (M := M_X12_numbersOf) 1 dX12_numbersOf_1 (ls' := [some (mR 108), some (mI a1), some (mI 0), none]) (by decide) rfl ?_
  refine z_iconst (M := M_X12_numbersOf) 2 dX12_numbersOf_2 ?_
  refine z_istore_n (M := M_X12_numbersOf) 3 dX12_numbersOf_3 (ls' := [some (mR 108), some (mI a1), some (mI 0), some (mI 1)]) (by decide) rfl ?_
  exact z_mask [true, true, true, true] rfl (ih 0 1 h0 G0 (FR.rf (cs := [135, 136]) (ss := []) (h := h0)) (by omega) (by omega) (by omega))
def PIp (h : m_H) : Prop := h 108 9 ≤ h 108 10 ∧ h 108 10 ≤ h 108 8 ∧ (h 108 11 = 0 ∨ h 108 9 < h 108 10)
theorem PIp.mk {h : m_H} (a : h 108 9 ≤ h 108 10) (b : h 108 10 ≤ h 108 8) (c : h 108 11 = 0 ∨ h 108 9 < h 108 10) : PIp h := ⟨a, b, c⟩
theorem PIp.le {h : m_H} (p : PIp h) : h 108 9 ≤ h 108 10 ∧ h 108 10 ≤ h 108 8 := ⟨p.1, p.2.1⟩
theorem PIp.lt {h : m_H} (p : PIp h) (q : h 108 11 ≠ 0) : h 108 9 < h 108 10 := p.2.2.resolve_left q
theorem PIp.same {h h' : m_H} (p : PIp h) (e1 : h' 108 9 = h 108 9) (e2 : h' 108 10 = h 108 10) (e3 : h' 108 11 = h 108 11) (e4 : h' 108 8 = h 108 8) : PIp h' := by unfold PIp at p ⊢; rw [e1, e2, e3, e4]; exact p
theorem PIp.fr {h h' : m_H} {cs : List Nat} {ss : List (Nat × Nat)} (p : PIp h) (S : FR cs ss h h') (e1 : fr cs ss 108 9 = false) (e2 : fr cs ss 108 10 = false) (e3 : fr cs ss 108 11 = false) (e4 : fr cs ss 108 8 = false) : PIp h' := p.same (S _ _ e1) (S _ _ e2) (S _ _ e3) (S _ _ e4)
def Im (p q : Prop) : Prop := p → q
abbrev P_X12_next (h0 : m_H) : m_H → Prop := fun h' => GI h' ∧ FR [] [(108, 9), (108, 10), (108, 11), (108, 12)] h0 h' ∧ h0 108 10 ≤ h' 108 9 ∧ PIp h'
def q_X12_next (h0 : m_H) (n : Nat) : Prop := (∀ (y_108_8 y_108_9 : Int) (h : m_H), GI h → FR [] [(108, 9), (108, 10), (108, 11), (108, 12)] h0 h → 0 ≤ y_108_8 → y_108_8 ≤ 400 → 0 ≤ y_108_9 → y_108_9 ≤ 400 → (h 108 8 = y_108_8) → (h 108 9 = y_108_9) → (h0 108 10 ≤ y_108_9 ∧ y_108_9 ≤ y_108_8) → 2 * (400 - y_108_9) + (1609) ≤ (n : Int) → m_Z oF M_X12_next 8 [some (mR 108)] [] h (m_QV (P_X12_next h0))) ∧ (∀ (y_108_8 y_108_9 : Int) (h : m_H), GI h → FR [] [(108, 9), (108, 10), (108, 11), (108, 12)] h0 h → 0 ≤ y_108_8 → y_108_8 ≤ 400 → 0 ≤ y_108_9 → y_108_9 ≤ 400 → (h 108 8 = y_108_8) → (h 108 9 = y_108_9) → (h0 108 10 ≤ y_108_9 ∧ y_108_9 ≤ y_108_8) → (1608) ≤ (n : Int) → m_Z oF M_X12_next 46 [some (mR 108)] [] h (m_QV (P_X12_next h0))) ∧ (∀ (y_108_8 y_108_9 y_108_10 y_108_11 : Int) (h : m_H), GI h → FR [] [(108, 9), (108, 10), (108, 11), (108, 12)] h0 h → 0 ≤ y_108_8 → y_108_8 ≤ 400 → 0 ≤ y_108_9 → y_108_9 ≤ 400 → 0 ≤ y_108_10 → y_108_10 ≤ 400 → 0 ≤ y_108_11 → y_108_11 ≤ 3 → (h 108 8 = y_108_8) → (h 108 9 = y_108_9) → (h 108 10 = y_108_10) → (h 108 11 = y_108_11) → (h0 108 10 ≤ y_108_9 ∧ y_108_9 = y_108_10 ∧ y_108_10 ≤ y_108_8 ∧ (y_108_11 = 0 ∨ y_108_10 < y_108_8) ∧ (y_108_11 ≠ 1 ∨ (97 ≤ h0 113 y_108_10.toNat ∧ h0 113 y_108_10.toNat ≤ 122)) ∧ (y_108_11 ≠ 2 ∨ (48 ≤ h0 113 y_108_10.toNat ∧ h0 113 y_108_10.toNat ≤ 57))) → (1607) ≤ (n : Int) → m_Z oF M_X12_next 117 [some (mR 108)] [] h (m_QV (P_X12_next h0))) ∧ (∀ (y_108_8 y_108_9 y_108_10 y_108_11 : Int) (h : m_H), GI h → FR [] [(108, 9), (108, 10), (108, 11), (108, 12)] h0 h → 0 ≤ y_108_8 → y_108_8 ≤ 400 → 0 ≤ y_108_9 → y_108_9 ≤ 400 → 0 ≤ y_108_10 → y_108_10 ≤ 400 → 0 ≤ y_108_11 → y_108_11 ≤ 3 → (h 108 8 = y_108_8) → (h 108 9 = y_108_9) → (h 108 10 = y_108_10) → (h 108 11 = y_108_11) → (h0 108 10 ≤ y_108_9 ∧ y_108_9 ≤ y_108_10 ∧ y_108_10 ≤ y_108_8 ∧ (y_108_11 ≠ 3 ∨ y_108_9 < y_108_10) ∧ (y_108_11 ≠ 1 ∨ y_108_9 < y_108_10 ∨ (y_108_10 < y_108_8 ∧ 97 ≤ h0 113 y_108_10.toNat ∧ h0 113 y_108_10.toNat ≤ 122)) ∧ (y_108_11 ≠ 2 ∨ (y_108_10 < y_108_8 ∧ 48 ≤ h0 113 y_108_10.toNat ∧ h0 113 y_108_10.toNat ≤ 57))) → 2 * (400 - y_108_10) + (804) ≤ (n : Int) → m_Z oF M_X12_next 149 [some (mR 108)] [] h (m_QV (P_X12_next h0))) ∧ (∀ (y_108_8 y_108_9 y_108_10 y_108_11 : Int) (h : m_H), GI h → FR [] [(108, 9), (108, 10), (108, 11), (108, 12)] h0 h → 0 ≤ y_108_8 → y_108_8 ≤ 400 → 0 ≤ y_108_9 → y_108_9 ≤ 400 → 0 ≤ y_108_10 → y_108_10 ≤ 400 → 0 ≤ y_108_11 → y_108_11 ≤ 3 → (h 108 8 = y_108_8) → (h 108 9 = y_108_9) → (h 108 10 = y_108_10) → (h 108 11 = y_108_11) → (h0 108 10 ≤ y_108_9 ∧ y_108_9 ≤ y_108_10 ∧ y_108_10 ≤ y_108_8 ∧ (y_108_11 ≠ 3 ∨ y_108_9 < y_108_10) ∧ (y_108_11 ≠ 1 ∨ y_108_9 < y_108_10) ∧ (y_108_11 ≠ 2 ∨ y_108_9 < y_108_10 ∨ (y_108_10 < y_108_8 ∧ 48 ≤ h0 113 y_108_10.toNat ∧ h0 113 y_108_10.toNat ≤ 57))) → 2 * (400 - y_108_10) + (1) ≤ (n : Int) → m_Z oF M_X12_next 243 [some (mR 108)] [] h (m_QV (P_X12_next h0)))
set_option maxHeartbeats 4000000 in
set_option maxRecDepth 100000 in
theorem s_X12_next_8 (h0 : m_H) (G0 : GI h0) (ht : h0 108 10 ≤ h0 108 8) (n : Nat) (ih : q_X12_next h0 n) : ∀ (y_108_8 y_108_9 : Int) (h : m_H), GI h → FR [] [(108, 9), (108, 10), (108, 11), (108, 12)] h0 h → 0 ≤ y_108_8 → y_108_8 ≤ 400 → 0 ≤ y_108_9 → y_108_9 ≤ 400 → (h 108 8 = y_108_8) → (h 108 9 = y_108_9) → (h0 108 10 ≤ y_108_9 ∧ y_108_9 ≤ y_108_8) → 2 * (400 - y_108_9) + (1609) ≤ ((n + 1 : Nat) : Int) → m_Z oF M_X12_next 8 [some (mR 108)] [] h (m_QV (P_X12_next h0)) := by
  intro y_108_8 y_108_9 h G R v0 v1 v2 v3 t_108_8 t_108_9 i0 hr
  refine z_aload_n (M := M_X12_next) 8 dX12_next_8 rfl ?_
  refine z_getIE (M := M_X12_next) 9 dX12_next_9 f_X12_221 o_108 (by decide) t_108_9 ?_
  refine z_aload_n (M := M_X12_next) 12 dX12_next_12 rfl ?_
  refine z_getIE (M := M_X12_next) 13 dX12_next_13 f_X12_201 o_108 (by decide) t_108_8 ?_
  refine z_icmp_ge (M := M_X12_next) 16 dX12_next_16 46 rfl (fun c1 => ?_) (fun c1 => ?_)
  · exact z_mask [true] rfl (ih.2.1 y_108_8 y_108_9 h G R (by omega) (by omega) (by omega) (by omega) t_108_8 t_108_9 (by omega) (by omega))
  · refine z_aload_n (M := M_X12_next) 19 dX12_next_19 rfl ?_
    refine z_getR (M := M_X12_next) 20 dX12_next_20 f_X12_23 o_108 rfl (g_108_7 G) ?_
    refine z_aload_n (M := M_X12_next) 23 dX12_next_23 rfl ?_
    refine z_getIE (M := M_X12_next) 24 dX12_next_24 f_X12_221 o_108 (by decide) t_108_9 ?_
    refine z_ialdG (M := M_X12_next) 27 dX12_next_27 o_113 (by omega) (by omega) (g_113 G (by omega)) (fun x2 ex2 ax2 bx2 => ?_)
    have rx2 := R 113 (y_108_9).toNat rfl
    refine z_bipush (M := M_X12_next) 28 dX12_next_28 ?_
    refine z_icmp_ne (M := M_X12_next) 30 dX12_next_30 46 rfl (fun c3 => ?_) (fun c3 => ?_)
    · exact z_mask [true] rfl (ih.2.1 y_108_8 y_108_9 h G R (by omega) (by omega) (by omega) (by omega) t_108_8 t_108_9 (by omega) (by omega))
    · refine z_aload_n (M := M_X12_next) 33 dX12_next_33 rfl ?_
      refine z_dup (M := M_X12_next) 34 dX12_next_34 rfl ?_
      refine z_getIE (M := M_X12_next) 35 dX12_next_35 f_X12_221 o_108 (by decide) t_108_9 ?_
      refine z_iconst (M := M_X12_next) 38 dX12_next_38 ?_
      refine z_iaddN (M := M_X12_next) 39 dX12_next_39 (by omega) (by omega) ?_
      refine z_putIH (M := M_X12_next) 40 dX12_next_40 p_X12_221 o_108 rfl (u_108_9 G (by omega) (by omega)) (R.up rfl) (fun h1 E1 G1 R1 => ?_)
      refine z_goto (M := M_X12_next) 43 dX12_next_43 8 rfl ?_
      exact z_mask [true] rfl (ih.1 y_108_8 (y_108_9 + 1) h1 G1 R1 (by omega) (by omega) (by omega) (by omega) ((upN E1 (fun q => absurd q.2 (by decide))).trans t_108_8) (upE E1) (by omega) (by omega))
set_option maxHeartbeats 4000000 in
set_option maxRecDepth 100000 in
theorem s_X12_next_46 (h0 : m_H) (G0 : GI h0) (ht : h0 108 10 ≤ h0 108 8) (n : Nat) (ih : q_X12_next h0 n) : ∀ (y_108_8 y_108_9 : Int) (h : m_H), GI h → FR [] [(108, 9), (108, 10), (108, 11), (108, 12)] h0 h → 0 ≤ y_108_8 → y_108_8 ≤ 400 → 0 ≤ y_108_9 → y_108_9 ≤ 400 → (h 108 8 = y_108_8) → (h 108 9 = y_108_9) → (h0 108 10 ≤ y_108_9 ∧ y_108_9 ≤ y_108_8) → (1608) ≤ ((n + 1 : Nat) : Int) → m_Z oF M_X12_next 46 [some (mR 108)] [] h (m_QV (P_X12_next h0)) := by
  intro y_108_8 y_108_9 h G R v0 v1 v2 v3 t_108_8 t_108_9 i0 hr
  refine z_aload_n (M := M_X12_next) 46 dX12_next_46 rfl ?_
  refine z_aload_n (M := M_X12_next) 47 dX12_next_47 rfl ?_
  refine z_getIE (M := M_X12_next) 48 dX12_next_48 f_X12_221 o_108 (by decide) t_108_9 ?_
  refine z_putIH (M := M_X12_next) 51 dX12_next_51 p_X12_211 o_108 rfl (u_108_10 G (by omega) (by omega)) (R.up rfl) (fun h1 E1 G1 R1 => ?_)
  refine z_aload_n (M := M_X12_next) 54 dX12_next_54 rfl ?_
  refine z_lconst (M := M_X12_next) 55 dX12_next_55 (v := 0) ?_
  refine z_putJH (M := M_X12_next) 56 dX12_next_56 p_X12_224 o_108 rfl (u_108_12 G1) (R1.up rfl) (fun h2 E2 G2 R2 => ?_)
  refine z_aload_n (M := M_X12_next) 59 dX12_next_59 rfl ?_
  refine z_aload_n (M := M_X12_next) 60 dX12_next_60 rfl ?_
  refine z_getIE (M := M_X12_next) 61 dX12_next_61 f_X12_221 o_108 (by decide) ((upN E2 (fun q => absurd q.2 (by decide))).trans ((upN E1 (fun q => absurd q.2 (by decide))).trans t_108_9)) ?_
  refine z_aload_n (M := M_X12_next) 64 dX12_next_64 rfl ?_
  refine z_getIE (M := M_X12_next) 65 dX12_next_65 f_X12_201 o_108 (by decide) ((upN E2 (fun q => absurd q.2 (by decide))).trans ((upN E1 (fun q => absurd q.2 (by decide))).trans t_108_8)) ?_
  refine z_icmp_ne (M := M_X12_next) 68 dX12_next_68 75 rfl (fun c1 => ?_) (fun c1 => ?_)
  · refine z_aload_n (M := M_X12_next) 75 dX12_next_75 rfl ?_
    refine z_getR (M := M_X12_next) 76 dX12_next_76 f_X12_23 o_108 rfl (g_108_7 G2) ?_
    refine z_aload_n (M := M_X12_next) 79 dX12_next_79 rfl ?_
    refine z_getIE (M := M_X12_next) 80 dX12_next_80 f_X12_221 o_108 (by decide) ((upN E2 (fun q => absurd q.2 (by decide))).trans ((upN E1 (fun q => absurd q.2 (by decide))).trans t_108_9)) ?_
    refine z_ialdG (M := M_X12_next) 83 dX12_next_83 o_113 (by omega) (by omega) (g_113 G2 (by omega)) (fun x2 ex2 ax2 bx2 => ?_)
    have rx2 := R2 113 (y_108_9).toNat rfl
    refine z_sI (M := M_X12_next) 84 dX12_next_84 t_X12_isSmall l_X12_228 (m_rr_of rfl) (rest := [mR 108]) (c_X12_isSmall h2 x2 G2) rfl rfl (Nat.le_of_ble_eq_true rfl) ⟨rfl, rfl⟩ (fun x3 h3 qx3 => ?_)
    obtain ⟨rfl, ⟨rfl, cx3⟩ | ⟨rfl, cx3⟩⟩ := qx3
    · refine z_if_eq_F (M := M_X12_next) 87 dX12_next_87 94 rfl (by omega) ?_
      refine z_iconst (M := M_X12_next) 90 dX12_next_90 ?_
      refine z_goto (M := M_X12_next) 91 dX12_next_91 114 rfl ?_
      refine z_putIH (M := M_X12_next) 114 dX12_next_114 p_X12_234 o_108 rfl (u_108_11 G2 (by omega) (by omega)) (R2.up rfl) (fun h4 E4 G4 R4 => ?_)
      exact z_mask [true] rfl (ih.2.2.1 y_108_8 y_108_9 y_108_9 1 h4 G4 R4 (by omega) (by omega) (by omega) (by omega) (by omega) (by omega) (by omega) (by omega) ((upN E4 (fun q => absurd q.2 (by decide))).trans ((upN E2 (fun q => absurd q.2 (by decide))).trans ((upN E1 (fun q => absurd q.2 (by decide))).trans t_108_8))) ((upN E4 (fun q => absurd q.2 (by decide))).trans ((upN E2 (fun q => absurd q.2 (by decide))).trans ((upN E1 (fun q => absurd q.2 (by decide))).trans t_108_9))) ((upN E4 (fun q => absurd q.2 (by decide))).trans ((upN E2 (fun q => absurd q.2 (by decide))).trans (upE E1))) (upE E4) (by omega) (by omega))
    · refine z_if_eq_T (M := M_X12_next) 87 dX12_next_87 94 rfl (by omega) ?_
      refine z_aload_n (M := M_X12_next) 94 dX12_next_94 rfl ?_
      refine z_getR (M := M_X12_next) 95 dX12_next_95 f_X12_23 o_108 rfl (g_108_7 G2) ?_
      refine z_aload_n (M := M_X12_next) 98 dX12_next_98 rfl ?_
      refine z_getIE (M := M_X12_next) 99 dX12_next_99 f_X12_221 o_108 (by decide) ((upN E2 (fun q => absurd q.2 (by decide))).trans ((upN E1 (fun q => absurd q.2 (by decide))).trans t_108_9)) ?_
      refine z_ialdE (M := M_X12_next) 102 dX12_next_102 o_113 (by omega) (by omega) ex2 ?_
      refine z_sI (M := M_X12_next) 103 dX12_next_103 t_X12_isDigit l_X12_231 (m_rr_of rfl) (rest := [mR 108]) (c_X12_isDigit h2 x2 G2) rfl rfl (Nat.le_of_ble_eq_true rfl) ⟨rfl, rfl⟩ (fun x4 h5 qx4 => ?_)
      obtain ⟨rfl, ⟨rfl, cx4⟩ | ⟨rfl, cx4⟩⟩ := qx4
      · refine z_if_eq_F (M := M_X12_next) 106 dX12_next_106 113 rfl (by omega) ?_
        refine z_iconst (M := M_X12_next) 109 dX12_next_109 ?_
        refine z_goto (M := M_X12_next) 110 dX12_next_110 114 rfl ?_
        refine z_putIH (M := M_X12_next) 114 dX12_next_114 p_X12_234 o_108 rfl (u_108_11 G2 (by omega) (by omega)) (R2.up rfl) (fun h6 E6 G6 R6 => ?_)
        exact z_mask [true] rfl (ih.2.2.1 y_108_8 y_108_9 y_108_9 2 h6 G6 R6 (by omega) (by omega) (by omega) (by omega) (by omega) (by omega) (by omega) (by omega) ((upN E6 (fun q => absurd q.2 (by decide))).trans ((upN E2 (fun q => absurd q.2 (by decide))).trans ((upN E1 (fun q => absurd q.2 (by decide))).trans t_108_8))) ((upN E6 (fun q => absurd q.2 (by decide))).trans ((upN E2 (fun q => absurd q.2 (by decide))).trans ((upN E1 (fun q => absurd q.2 (by decide))).trans t_108_9))) ((upN E6 (fun q => absurd q.2 (by decide))).trans ((upN E2 (fun q => absurd q.2 (by decide))).trans (upE E1))) (upE E6) (by omega) (by omega))
      · refine z_if_eq_T (M := M_X12_next) 106 dX12_next_106 113 rfl (by omega) ?_
        refine z_iconst (M := M_X12_next) 113 dX12_next_113 ?_
        refine z_putIH (M := M_X12_next) 114 dX12_next_114 p_X12_234 o_108 rfl (u_108_11 G2 (by omega) (by omega)) (R2.up rfl) (fun h7 E7 G7 R7 => ?_)
        exact z_mask [true] rfl (ih.2.2.1 y_108_8 y_108_9 y_108_9 3 h7 G7 R7 (by omega) (by omega) (by omega) (by omega) (by omega) (by omega) (by omega) (by omega) ((upN E7 (fun q => absurd q.2 (by decide))).trans ((upN E2 (fun q => absurd q.2 (by decide))).trans ((upN E1 (fun q => absurd q.2 (by decide))).trans t_108_8))) ((upN E7 (fun q => absurd q.2 (by decide))).trans ((upN E2 (fun q => absurd q.2 (by decide))).trans ((upN E1 (fun q => absurd q.2 (by decide))).trans t_108_9))) ((upN E7 (fun q => absurd q.2 (by decide))).trans ((upN E2 (fun q => absurd q.2 (by decide))).trans (upE E1))) (upE E7) (by omega) (by omega))
  · refine z_iconst (M := M_X12_next) 71 dX12_next_71 ?_
    refine z_goto (M := M_X12_next) 72 dX12_next_72 114 rfl ?_
    refine z_putIH (M := M_X12_next) 114 dX12_next_114 p_X12_234 o_108 rfl (u_108_11 G2 (by omega) (by omega)) (R2.up rfl) (fun h8 E8 G8 R8 => ?_)
    exact z_mask [true] rfl (ih.2.2.1 y_108_8 y_108_9 y_108_9 0 h8 G8 R8 (by omega) (by omega) (by omega) (by omega) (by omega) (by omega) (by omega) (by omega) ((upN E8 (fun q => absurd q.2 (by decide))).trans ((upN E2 (fun q => absurd q.2 (by decide))).trans ((upN E1 (fun q => absurd q.2 (by decide))).trans t_108_8))) ((upN E8 (fun q => absurd q.2 (by decide))).trans ((upN E2 (fun q => absurd q.2 (by decide))).trans ((upN E1 (fun q => absurd q.2 (by decide))).trans t_108_9))) ((upN E8 (fun q => absurd q.2 (by decide))).trans ((upN E2 (fun q => absurd q.2 (by decide))).trans (upE E1))) (upE E8) (by omega) (by omega))
set_option maxHeartbeats 4000000 in
set_option maxRecDepth 100000 in
theorem s_X12_next_117 (h0 : m_H) (G0 : GI h0) (ht : h0 108 10 ≤ h0 108 8) (n : Nat) (ih : q_X12_next h0 n) : ∀ (y_108_8 y_108_9 y_108_10 y_108_11 : Int) (h : m_H), GI h → FR [] [(108, 9), (108, 10), (108, 11), (108, 12)] h0 h → 0 ≤ y_108_8 → y_108_8 ≤ 400 → 0 ≤ y_108_9 → y_108_9 ≤ 400 → 0 ≤ y_108_10 → y_108_10 ≤ 400 → 0 ≤ y_108_11 → y_108_11 ≤ 3 → (h 108 8 = y_108_8) → (h 108 9 = y_108_9) → (h 108 10 = y_108_10) → (h 108 11 = y_108_11) → (h0 108 10 ≤ y_108_9 ∧ y_108_9 = y_108_10 ∧ y_108_10 ≤ y_108_8 ∧ (y_108_11 = 0 ∨ y_108_10 < y_108_8) ∧ (y_108_11 ≠ 1 ∨ (97 ≤ h0 113 y_108_10.toNat ∧ h0 113 y_108_10.toNat ≤ 122)) ∧ (y_108_11 ≠ 2 ∨ (48 ≤ h0 113 y_108_10.toNat ∧ h0 113 y_108_10.toNat ≤ 57))) → (1607) ≤ ((n + 1 : Nat) : Int) → m_Z oF M_X12_next 117 [some (mR 108)] [] h (m_QV (P_X12_next h0)) := by
  intro y_108_8 y_108_9 y_108_10 y_108_11 h G R v0 v1 v2 v3 v4 v5 v6 v7 t_108_8 t_108_9 t_108_10 t_108_11 i0 hr
  refine z_aload_n (M := M_X12_next) 117 dX12_next_117 rfl ?_
  refine z_getIE (M := M_X12_next) 118 dX12_next_118 f_X12_234 o_108 (by decide) t_108_11 ?_
  refine z_iconst (M := M_X12_next) 121 dX12_next_121 ?_
  refine z_icmp_ne (M := M_X12_next) 122 dX12_next_122 149 rfl (fun c1 => ?_) (fun c1 => ?_)
  · exact z_mask [true] rfl (ih.2.2.2.1 y_108_8 y_108_9 y_108_10 y_108_11 h G R (by omega) (by omega) (by omega) (by omega) (by omega) (by omega) (by omega) (by omega) t_108_8 t_108_9 t_108_10 t_108_11 (by omega) (by omega))
  · refine z_aload_n (M := M_X12_next) 125 dX12_next_125 rfl ?_
    refine z_aload_n (M := M_X12_next) 126 dX12_next_126 rfl ?_
    refine z_getR (M := M_X12_next) 127 dX12_next_127 f_X12_23 o_108 rfl (g_108_7 G) ?_
    refine z_aload_n (M := M_X12_next) 130 dX12_next_130 rfl ?_
    refine z_getIE (M := M_X12_next) 131 dX12_next_131 f_X12_221 o_108 (by decide) t_108_9 ?_
    refine z_ialdG (M := M_X12_next) 134 dX12_next_134 o_113 (by omega) (by omega) (g_113 G (by omega)) (fun x2 ex2 ax2 bx2 => ?_)
    have rx2 := R 113 (y_108_9).toNat rfl
    refine z_i2l (M := M_X12_next) 135 dX12_next_135 ?_
    refine z_putJH (M := M_X12_next) 136 dX12_next_136 p_X12_224 o_108 rfl (u_108_12 G) (R.up rfl) (fun h1 E1 G1 R1 => ?_)
    refine z_aload_n (M := M_X12_next) 139 dX12_next_139 rfl ?_
    refine z_dup (M := M_X12_next) 140 dX12_next_140 rfl ?_
    refine z_getIE (M := M_X12_next) 141 dX12_next_141 f_X12_211 o_108 (by decide) ((upN E1 (fun q => absurd q.2 (by decide))).trans t_108_10) ?_
    refine z_iconst (M := M_X12_next) 144 dX12_next_144 ?_
    refine z_iaddN (M := M_X12_next) 145 dX12_next_145 (by omega) (by omega) ?_
    refine z_putIH (M := M_X12_next) 146 dX12_next_146 p_X12_211 o_108 rfl (u_108_10 G1 (by omega) (by omega)) (R1.up rfl) (fun h2 E2 G2 R2 => ?_)
    exact z_mask [true] rfl (ih.2.2.2.1 y_108_8 y_108_9 (y_108_10 + 1) y_108_11 h2 G2 R2 (by omega) (by omega) (by omega) (by omega) (by omega) (by omega) (by omega) (by omega) ((upN E2 (fun q => absurd q.2 (by decide))).trans ((upN E1 (fun q => absurd q.2 (by decide))).trans t_108_8)) ((upN E2 (fun q => absurd q.2 (by decide))).trans ((upN E1 (fun q => absurd q.2 (by decide))).trans t_108_9)) (upE E2) ((upN E2 (fun q => absurd q.2 (by decide))).trans ((upN E1 (fun q => absurd q.2 (by decide))).trans t_108_11)) (by omega) (by omega))
set_option maxHeartbeats 4000000 in
set_option maxRecDepth 100000 in
theorem s_X12_next_149 (h0 : m_H) (G0 : GI h0) (ht : h0 108 10 ≤ h0 108 8) (n : Nat) (ih : q_X12_next h0 n) : ∀ (y_108_8 y_108_9 y_108_10 y_108_11 : Int) (h : m_H), GI h → FR [] [(108, 9), (108, 10), (108, 11), (108, 12)] h0 h → 0 ≤ y_108_8 → y_108_8 ≤ 400 → 0 ≤ y_108_9 → y_108_9 ≤ 400 → 0 ≤ y_108_10 → y_108_10 ≤ 400 → 0 ≤ y_108_11 → y_108_11 ≤ 3 → (h 108 8 = y_108_8) → (h 108 9 = y_108_9) → (h 108 10 = y_108_10) → (h 108 11 = y_108_11) → (h0 108 10 ≤ y_108_9 ∧ y_108_9 ≤ y_108_10 ∧ y_108_10 ≤ y_108_8 ∧ (y_108_11 ≠ 3 ∨ y_108_9 < y_108_10) ∧ (y_108_11 ≠ 1 ∨ y_108_9 < y_108_10 ∨ (y_108_10 < y_108_8 ∧ 97 ≤ h0 113 y_108_10.toNat ∧ h0 113 y_108_10.toNat ≤ 122)) ∧ (y_108_11 ≠ 2 ∨ (y_108_10 < y_108_8 ∧ 48 ≤ h0 113 y_108_10.toNat ∧ h0 113 y_108_10.toNat ≤ 57))) → 2 * (400 - y_108_10) + (804) ≤ ((n + 1 : Nat) : Int) → m_Z oF M_X12_next 149 [some (mR 108)] [] h (m_QV (P_X12_next h0)) := by
  intro y_108_8 y_108_9 y_108_10 y_108_11 h G R v0 v1 v2 v3 v4 v5 v6 v7 t_108_8 t_108_9 t_108_10 t_108_11 i0 hr
  refine z_aload_n (M := M_X12_next) 149 dX12_next_149 rfl ?_
  refine z_getIE (M := M_X12_next) 150 dX12_next_150 f_X12_234 o_108 (by decide) t_108_11 ?_
  refine z_iconst (M := M_X12_next) 153 dX12_next_153 ?_
  refine z_icmp_ne (M := M_X12_next) 154 dX12_next_154 243 rfl (fun c1 => ?_) (fun c1 => ?_)
  · exact z_mask [true] rfl (ih.2.2.2.2 y_108_8 y_108_9 y_108_10 y_108_11 h G R (by omega) (by omega) (by omega) (by omega) (by omega) (by omega) (by omega) (by omega) t_108_8 t_108_9 t_108_10 t_108_11 (by omega) (by omega))
  · refine z_aload_n (M := M_X12_next) 157 dX12_next_157 rfl ?_
    refine z_getIE (M := M_X12_next) 158 dX12_next_158 f_X12_211 o_108 (by decide) t_108_10 ?_
    refine z_aload_n (M := M_X12_next) 161 dX12_next_161 rfl ?_
    refine z_getIE (M := M_X12_next) 162 dX12_next_162 f_X12_201 o_108 (by decide) t_108_8 ?_
    refine z_icmp_ge (M := M_X12_next) 165 dX12_next_165 243 rfl (fun c2 => ?_) (fun c2 => ?_)
    · exact z_mask [true] rfl (ih.2.2.2.2 y_108_8 y_108_9 y_108_10 y_108_11 h G R (by omega) (by omega) (by omega) (by omega) (by omega) (by omega) (by omega) (by omega) t_108_8 t_108_9 t_108_10 t_108_11 (by omega) (by omega))
    · refine z_aload_n (M := M_X12_next) 168 dX12_next_168 rfl ?_
      refine z_getR (M := M_X12_next) 169 dX12_next_169 f_X12_23 o_108 rfl (g_108_7 G) ?_
      refine z_aload_n (M := M_X12_next) 172 dX12_next_172 rfl ?_
      refine z_getIE (M := M_X12_next) 173 dX12_next_173 f_X12_211 o_108 (by decide) t_108_10 ?_
      refine z_ialdG (M := M_X12_next) 176 dX12_next_176 o_113 (by omega) (by omega) (g_113 G (by omega)) (fun x3 ex3 ax3 bx3 => ?_)
      have rx3 := R 113 (y_108_10).toNat rfl
      refine z_sI (M := M_X12_next) 177 dX12_next_177 t_X12_isSmall l_X12_228 (m_rr_of rfl) (rest := []) (c_X12_isSmall h x3 G) rfl rfl (Nat.le_of_ble_eq_true rfl) ⟨rfl, rfl⟩ (fun x4 h1 qx4 => ?_)
      obtain ⟨rfl, ⟨rfl, cx4⟩ | ⟨rfl, cx4⟩⟩ := qx4
      · refine z_if_eq_F (M := M_X12_next) 180 dX12_next_180 243 rfl (by omega) ?_
        refine z_aload_n (M := M_X12_next) 183 dX12_next_183 rfl ?_
        refine z_aload_n (M := M_X12_next) 184 dX12_next_184 rfl ?_
        refine z_getIE (M := M_X12_next) 185 dX12_next_185 f_X12_211 o_108 (by decide) t_108_10 ?_
        refine z_aload_n (M := M_X12_next) 188 dX12_next_188 rfl ?_
        refine z_getIE (M := M_X12_next) 189 dX12_next_189 f_X12_221 o_108 (by decide) t_108_9 ?_
        refine z_isubN (M := M_X12_next) 192 dX12_next_192 (by omega) (by omega) ?_
        refine z_bipush (M := M_X12_next) 193 dX12_next_193 ?_
        refine z_icmp_ge (M := M_X12_next) 195 dX12_next_195 224 rfl (fun c5 => ?_) (fun c5 => ?_)
        · refine z_ldc2 (M := M_X12_next) 224 dX12_next_224 k_X12_160 ?_
          refine z_putJH (M := M_X12_next) 227 dX12_next_227 p_X12_224 o_108 rfl (u_108_12 G) (R.up rfl) (fun h2 E2 G2 R2 => ?_)
          refine z_aload_n (M := M_X12_next) 230 dX12_next_230 rfl ?_
          refine z_dup (M := M_X12_next) 231 dX12_next_231 rfl ?_
          refine z_getIE (M := M_X12_next) 232 dX12_next_232 f_X12_211 o_108 (by decide) ((upN E2 (fun q => absurd q.2 (by decide))).trans t_108_10) ?_
          refine z_iconst (M := M_X12_next) 235 dX12_next_235 ?_
          refine z_iaddN (M := M_X12_next) 236 dX12_next_236 (by omega) (by omega) ?_
          refine z_putIH (M := M_X12_next) 237 dX12_next_237 p_X12_211 o_108 rfl (u_108_10 G2 (by omega) (by omega)) (R2.up rfl) (fun h3 E3 G3 R3 => ?_)
          refine z_goto (M := M_X12_next) 240 dX12_next_240 149 rfl ?_
          exact z_mask [true] rfl (ih.2.2.2.1 y_108_8 y_108_9 (y_108_10 + 1) y_108_11 h3 G3 R3 (by omega) (by omega) (by omega) (by omega) (by omega) (by omega) (by omega) (by omega) ((upN E3 (fun q => absurd q.2 (by decide))).trans ((upN E2 (fun q => absurd q.2 (by decide))).trans t_108_8)) ((upN E3 (fun q => absurd q.2 (by decide))).trans ((upN E2 (fun q => absurd q.2 (by decide))).trans t_108_9)) (upE E3) ((upN E3 (fun q => absurd q.2 (by decide))).trans ((upN E2 (fun q => absurd q.2 (by decide))).trans t_108_11)) (by omega) (by omega))
        · refine z_aload_n (M := M_X12_next) 198 dX12_next_198 rfl ?_
          refine z_getJV (M := M_X12_next) 199 dX12_next_199 f_X12_224 o_108 rfl (fun x6 ex6 => ?_)
          refine z_ldc2 (M := M_X12_next) 202 dX12_next_202 k_X12_237 ?_
          refine z_lmul (M := M_X12_next) 205 dX12_next_205 ?_
          refine z_topJ (fun x7 ex7 => ?_)
          refine z_aload_n (M := M_X12_next) 206 dX12_next_206 rfl ?_
          refine z_getR (M := M_X12_next) 207 dX12_next_207 f_X12_23 o_108 rfl (g_108_7 G) ?_
          refine z_aload_n (M := M_X12_next) 210 dX12_next_210 rfl ?_
          refine z_getIE (M := M_X12_next) 211 dX12_next_211 f_X12_211 o_108 (by decide) t_108_10 ?_
          refine z_ialdE (M := M_X12_next) 214 dX12_next_214 o_113 (by omega) (by omega) ex3 ?_
          refine z_i2l (M := M_X12_next) 215 dX12_next_215 ?_
          refine z_ladd (M := M_X12_next) 216 dX12_next_216 ?_
          refine z_topJ (fun x8 ex8 => ?_)
          refine z_ldc2 (M := M_X12_next) 217 dX12_next_217 k_X12_239 ?_
          refine z_lsub (M := M_X12_next) 220 dX12_next_220 ?_
          refine z_topJ (fun x9 ex9 => ?_)
          refine z_goto (M := M_X12_next) 221 dX12_next_221 227 rfl ?_
          refine z_putJH (M := M_X12_next) 227 dX12_next_227 p_X12_224 o_108 rfl (u_108_12 G) (R.up rfl) (fun h4 E4 G4 R4 => ?_)
          refine z_aload_n (M := M_X12_next) 230 dX12_next_230 rfl ?_
          refine z_dup (M := M_X12_next) 231 dX12_next_231 rfl ?_
          refine z_getIE (M := M_X12_next) 232 dX12_next_232 f_X12_211 o_108 (by decide) ((upN E4 (fun q => absurd q.2 (by decide))).trans t_108_10) ?_
          refine z_iconst (M := M_X12_next) 235 dX12_next_235 ?_
          refine z_iaddN (M := M_X12_next) 236 dX12_next_236 (by omega) (by omega) ?_
          refine z_putIH (M := M_X12_next) 237 dX12_next_237 p_X12_211 o_108 rfl (u_108_10 G4 (by omega) (by omega)) (R4.up rfl) (fun h5 E5 G5 R5 => ?_)
          refine z_goto (M := M_X12_next) 240 dX12_next_240 149 rfl ?_
          exact z_mask [true] rfl (ih.2.2.2.1 y_108_8 y_108_9 (y_108_10 + 1) y_108_11 h5 G5 R5 (by omega) (by omega) (by omega) (by omega) (by omega) (by omega) (by omega) (by omega) ((upN E5 (fun q => absurd q.2 (by decide))).trans ((upN E4 (fun q => absurd q.2 (by decide))).trans t_108_8)) ((upN E5 (fun q => absurd q.2 (by decide))).trans ((upN E4 (fun q => absurd q.2 (by decide))).trans t_108_9)) (upE E5) ((upN E5 (fun q => absurd q.2 (by decide))).trans ((upN E4 (fun q => absurd q.2 (by decide))).trans t_108_11)) (by omega) (by omega))
      · refine z_if_eq_T (M := M_X12_next) 180 dX12_next_180 243 rfl (by omega) ?_
        exact z_mask [true] rfl (ih.2.2.2.2 y_108_8 y_108_9 y_108_10 y_108_11 h G R (by omega) (by omega) (by omega) (by omega) (by omega) (by omega) (by omega) (by omega) t_108_8 t_108_9 t_108_10 t_108_11 (by omega) (by omega))
set_option maxHeartbeats 4000000 in
set_option maxRecDepth 100000 in
theorem s_X12_next_243 (h0 : m_H) (G0 : GI h0) (ht : h0 108 10 ≤ h0 108 8) (n : Nat) (ih : q_X12_next h0 n) : ∀ (y_108_8 y_108_9 y_108_10 y_108_11 : Int) (h : m_H), GI h → FR [] [(108, 9), (108, 10), (108, 11), (108, 12)] h0 h → 0 ≤ y_108_8 → y_108_8 ≤ 400 → 0 ≤ y_108_9 → y_108_9 ≤ 400 → 0 ≤ y_108_10 → y_108_10 ≤ 400 → 0 ≤ y_108_11 → y_108_11 ≤ 3 → (h 108 8 = y_108_8) → (h 108 9 = y_108_9) → (h 108 10 = y_108_10) → (h 108 11 = y_108_11) → (h0 108 10 ≤ y_108_9 ∧ y_108_9 ≤ y_108_10 ∧ y_108_10 ≤ y_108_8 ∧ (y_108_11 ≠ 3 ∨ y_108_9 < y_108_10) ∧ (y_108_11 ≠ 1 ∨ y_108_9 < y_108_10) ∧ (y_108_11 ≠ 2 ∨ y_108_9 < y_108_10 ∨ (y_108_10 < y_108_8 ∧ 48 ≤ h0 113 y_108_10.toNat ∧ h0 113 y_108_10.toNat ≤ 57))) → 2 * (400 - y_108_10) + (1) ≤ ((n + 1 : Nat) : Int) → m_Z oF M_X12_next 243 [some (mR 108)] [] h (m_QV (P_X12_next h0)) := by
  intro y_108_8 y_108_9 y_108_10 y_108_11 h G R v0 v1 v2 v3 v4 v5 v6 v7 t_108_8 t_108_9 t_108_10 t_108_11 i0 hr
  refine z_aload_n (M := M_X12_next) 243 dX12_next_243 rfl ?_
  refine z_getIE (M := M_X12_next) 244 dX12_next_244 f_X12_234 o_108 (by decide) t_108_11 ?_
  refine z_iconst (M := M_X12_next) 247 dX12_next_247 ?_
  refine z_icmp_ne (M := M_X12_next) 248 dX12_next_248 335 rfl (fun c1 => ?_) (fun c1 => ?_)
  · have w2 : h 108 9 = y_108_9 := t_108_9
    have w3 : h 108 10 = y_108_10 := t_108_10
    have w4 : h 108 11 = y_108_11 := t_108_11
    have w5 : h 108 8 = y_108_8 := t_108_8
    exact z_retV (M := M_X12_next) 335 dX12_next_335 rfl ⟨G, R, by omega, PIp.mk (by omega) (by omega) (by omega)⟩
  · refine z_aload_n (M := M_X12_next) 251 dX12_next_251 rfl ?_
    refine z_getIE (M := M_X12_next) 252 dX12_next_252 f_X12_211 o_108 (by decide) t_108_10 ?_
    refine z_aload_n (M := M_X12_next) 255 dX12_next_255 rfl ?_
    refine z_getIE (M := M_X12_next) 256 dX12_next_256 f_X12_201 o_108 (by decide) t_108_8 ?_
    refine z_icmp_ge (M := M_X12_next) 259 dX12_next_259 335 rfl (fun c6 => ?_) (fun c6 => ?_)
    · have w7 : h 108 9 = y_108_9 := t_108_9
      have w8 : h 108 10 = y_108_10 := t_108_10
      have w9 : h 108 11 = y_108_11 := t_108_11
      have w10 : h 108 8 = y_108_8 := t_108_8
      exact z_retV (M := M_X12_next) 335 dX12_next_335 rfl ⟨G, R, by omega, PIp.mk (by omega) (by omega) (by omega)⟩
    · refine z_aload_n (M := M_X12_next) 262 dX12_next_262 rfl ?_
      refine z_getR (M := M_X12_next) 263 dX12_next_263 f_X12_23 o_108 rfl (g_108_7 G) ?_
      refine z_aload_n (M := M_X12_next) 266 dX12_next_266 rfl ?_
      refine z_getIE (M := M_X12_next) 267 dX12_next_267 f_X12_211 o_108 (by decide) t_108_10 ?_
      refine z_ialdG (M := M_X12_next) 270 dX12_next_270 o_113 (by omega) (by omega) (g_113 G (by omega)) (fun x11 ex11 ax11 bx11 => ?_)
      have rx11 := R 113 (y_108_10).toNat rfl
      refine z_sI (M := M_X12_next) 271 dX12_next_271 t_X12_isDigit l_X12_231 (m_rr_of rfl) (rest := []) (c_X12_isDigit h x11 G) rfl rfl (Nat.le_of_ble_eq_true rfl) ⟨rfl, rfl⟩ (fun x12 h1 qx12 => ?_)
      obtain ⟨rfl, ⟨rfl, cx12⟩ | ⟨rfl, cx12⟩⟩ := qx12
      · refine z_if_eq_F (M := M_X12_next) 274 dX12_next_274 335 rfl (by omega) ?_
        refine z_aload_n (M := M_X12_next) 277 dX12_next_277 rfl ?_
        refine z_aload_n (M := M_X12_next) 278 dX12_next_278 rfl ?_
        refine z_getJV (M := M_X12_next) 279 dX12_next_279 f_X12_224 o_108 rfl (fun x13 ex13 => ?_)
        refine z_ldc2 (M := M_X12_next) 282 dX12_next_282 k_X12_241 ?_
        refine z_lcmp (M := M_X12_next) 285 dX12_next_285 ?_
        refine z_if_le (M := M_X12_next) 286 dX12_next_286 296 rfl (fun c14 => ?_) (fun c14 => ?_)
        · rw [m_cmp_le] at c14
          refine z_aload_n (M := M_X12_next) 296 dX12_next_296 rfl ?_
          refine z_getJE (M := M_X12_next) 297 dX12_next_297 f_X12_224 o_108 rfl ex13 ?_
          refine z_ldc2 (M := M_X12_next) 300 dX12_next_300 k_X12_243 ?_
          refine z_lmul (M := M_X12_next) 303 dX12_next_303 ?_
          refine z_topJ (fun x15 ex15 => ?_)
          refine z_aload_n (M := M_X12_next) 304 dX12_next_304 rfl ?_
          refine z_getR (M := M_X12_next) 305 dX12_next_305 f_X12_23 o_108 rfl (g_108_7 G) ?_
          refine z_aload_n (M := M_X12_next) 308 dX12_next_308 rfl ?_
          refine z_getIE (M := M_X12_next) 309 dX12_next_309 f_X12_211 o_108 (by decide) t_108_10 ?_
          refine z_ialdE (M := M_X12_next) 312 dX12_next_312 o_113 (by omega) (by omega) ex11 ?_
          refine z_i2l (M := M_X12_next) 313 dX12_next_313 ?_
          refine z_ladd (M := M_X12_next) 314 dX12_next_314 ?_
          refine z_topJ (fun x16 ex16 => ?_)
          refine z_ldc2 (M := M_X12_next) 315 dX12_next_315 k_X12_245 ?_
          refine z_lsub (M := M_X12_next) 318 dX12_next_318 ?_
          refine z_topJ (fun x17 ex17 => ?_)
          refine z_putJH (M := M_X12_next) 319 dX12_next_319 p_X12_224 o_108 rfl (u_108_12 G) (R.up rfl) (fun h2 E2 G2 R2 => ?_)
          refine z_aload_n (M := M_X12_next) 322 dX12_next_322 rfl ?_
          refine z_dup (M := M_X12_next) 323 dX12_next_323 rfl ?_
          refine z_getIE (M := M_X12_next) 324 dX12_next_324 f_X12_211 o_108 (by decide) ((upN E2 (fun q => absurd q.2 (by decide))).trans t_108_10) ?_
          refine z_iconst (M := M_X12_next) 327 dX12_next_327 ?_
          refine z_iaddN (M := M_X12_next) 328 dX12_next_328 (by omega) (by omega) ?_
          refine z_putIH (M := M_X12_next) 329 dX12_next_329 p_X12_211 o_108 rfl (u_108_10 G2 (by omega) (by omega)) (R2.up rfl) (fun h3 E3 G3 R3 => ?_)
          refine z_goto (M := M_X12_next) 332 dX12_next_332 243 rfl ?_
          exact z_mask [true] rfl (ih.2.2.2.2 y_108_8 y_108_9 (y_108_10 + 1) y_108_11 h3 G3 R3 (by omega) (by omega) (by omega) (by omega) (by omega) (by omega) (by omega) (by omega) ((upN E3 (fun q => absurd q.2 (by decide))).trans ((upN E2 (fun q => absurd q.2 (by decide))).trans t_108_8)) ((upN E3 (fun q => absurd q.2 (by decide))).trans ((upN E2 (fun q => absurd q.2 (by decide))).trans t_108_9)) (upE E3) ((upN E3 (fun q => absurd q.2 (by decide))).trans ((upN E2 (fun q => absurd q.2 (by decide))).trans t_108_11)) (by omega) (by omega))
        · rw [m_cmp_le] at c14
          refine z_aload_n (M := M_X12_next) 289 dX12_next_289 rfl ?_
          refine z_getJE (M := M_X12_next) 290 dX12_next_290 f_X12_224 o_108 rfl ex13 ?_
          refine z_goto (M := M_X12_next) 293 dX12_next_293 319 rfl ?_
          refine z_putJH (M := M_X12_next) 319 dX12_next_319 p_X12_224 o_108 rfl (u_108_12 G) (R.up rfl) (fun h4 E4 G4 R4 => ?_)
          refine z_aload_n (M := M_X12_next) 322 dX12_next_322 rfl ?_
          refine z_dup (M := M_X12_next) 323 dX12_next_323 rfl ?_
          refine z_getIE (M := M_X12_next) 324 dX12_next_324 f_X12_211 o_108 (by decide) ((upN E4 (fun q => absurd q.2 (by decide))).trans t_108_10) ?_
          refine z_iconst (M := M_X12_next) 327 dX12_next_327 ?_
          refine z_iaddN (M := M_X12_next) 328 dX12_next_328 (by omega) (by omega) ?_
          refine z_putIH (M := M_X12_next) 329 dX12_next_329 p_X12_211 o_108 rfl (u_108_10 G4 (by omega) (by omega)) (R4.up rfl) (fun h5 E5 G5 R5 => ?_)
          refine z_goto (M := M_X12_next) 332 dX12_next_332 243 rfl ?_
          exact z_mask [true] rfl (ih.2.2.2.2 y_108_8 y_108_9 (y_108_10 + 1) y_108_11 h5 G5 R5 (by omega) (by omega) (by omega) (by omega) (by omega) (by omega) (by omega) (by omega) ((upN E5 (fun q => absurd q.2 (by decide))).trans ((upN E4 (fun q => absurd q.2 (by decide))).trans t_108_8)) ((upN E5 (fun q => absurd q.2 (by decide))).trans ((upN E4 (fun q => absurd q.2 (by decide))).trans t_108_9)) (upE E5) ((upN E5 (fun q => absurd q.2 (by decide))).trans ((upN E4 (fun q => absurd q.2 (by decide))).trans t_108_11)) (by omega) (by omega))
      · refine z_if_eq_T (M := M_X12_next) 274 dX12_next_274 335 rfl (by omega) ?_
        have w18 : h 108 9 = y_108_9 := t_108_9
        have w19 : h 108 10 = y_108_10 := t_108_10
        have w20 : h 108 11 = y_108_11 := t_108_11
        have w21 : h 108 8 = y_108_8 := t_108_8
        exact z_retV (M := M_X12_next) 335 dX12_next_335 rfl ⟨G, R, by omega, PIp.mk (by omega) (by omega) (by omega)⟩
theorem a_X12_next (h0 : m_H) (G0 : GI h0) (ht : h0 108 10 ≤ h0 108 8) : ∀ n, q_X12_next h0 n := by
  intro n
  induction n with
  | zero => unfold q_X12_next; refine ⟨?_, ?_, ?_, ?_, ?_⟩ <;> (intros; omega)
  | succ n ih => exact ⟨s_X12_next_8 h0 G0 ht n ih, s_X12_next_46 h0 G0 ht n ih, s_X12_next_117 h0 G0 ht n ih, s_X12_next_149 h0 G0 ht n ih, s_X12_next_243 h0 G0 ht n ih⟩
set_option maxHeartbeats 4000000 in
set_option maxRecDepth 100000 in
theorem c_X12_next (h0 : m_H) (G0 : GI h0) (ht : h0 108 10 ≤ h0 108 8) : m_CV M_X12_next [mR 108] h0 (P_X12_next h0) := by
  refine m_CV_of ⟨by decide, rfl, by simp [m_arg, m_isL, M_X12_next], ⟨rfl, rfl⟩, rfl, rfl⟩ (ls := [some (mR 108)]) rfl ?_
  have ih := a_X12_next h0 G0 ht 2416
  obtain ⟨x1, ex1⟩ : ∃ y : Int, h0 108 10 = y := ⟨_, rfl⟩
  have bx1 : 0 ≤ x1 ∧ x1 ≤ 400 := ex1 ▸ g_108_10 G0
  obtain ⟨x2, ex2⟩ : ∃ y : Int, h0 108 8 = y := ⟨_, rfl⟩
  have bx2 : 0 ≤ x2 ∧ x2 ≤ 400 := ex2 ▸ g_108_8 G0
  refine z_aload_n (M := M_X12_next) 0 dX12_next_0 rfl ?_
  refine z_aload_n (M := M_X12_next) 1 dX12_next_1 rfl ?_
  refine z_getIE (M := M_X12_next) 2 dX12_next_2 f_X12_211 o_108 (by decide) ex1 ?_
  refine z_putIH (M := M_X12_next) 5 dX12_next_5 p_X12_221 o_108 rfl (u_108_9 G0 (by omega) (by omega)) ((FR.rf (cs := []) (ss := [(108, 9), (108, 10), (108, 11), (108, 12)]) (h := h0)).up rfl) (fun h1 E1 G1 R1 => ?_)
  exact z_mask [true] rfl (ih.1 x2 x1 h1 G1 R1 (by omega) (by omega) (by omega) (by omega) ((upN E1 (fun q => absurd q.2 (by decide))).trans ex2) (upE E1) (by omega) (by omega))
abbrev P_X12_isWord (h0 : m_H) (a1 : Int) : Int → m_H → Prop := fun x h' => h0 = h' ∧ ((x = 1 ∧ (h0 108 11 = 1 ∧ h0 108 12 = a1)) ∨ (x = 0 ∧ ¬ (h0 108 11 = 1 ∧ h0 108 12 = a1)))
set_option maxHeartbeats 4000000 in
set_option maxRecDepth 100000 in
theorem c_X12_isWord (h0 : m_H) (a1 : Int) (G0 : GI h0) : m_CI M_X12_isWord [mR 108, mJ a1] h0 (P_X12_isWord h0 a1) := by
  refine m_CI_of ⟨by decide, rfl, by simp [m_arg, m_isL, M_X12_isWord], ⟨rfl, rfl⟩, rfl, rfl⟩ (ls := [some (mR 108), some (mJ a1), none]) rfl ?_
  refine z_aload_n (M := M_X12_isWord) 0 dX12_isWord_0 rfl ?_
  refine z_getIG (M := M_X12_isWord) 1 dX12_isWord_1 f_X12_234 o_108 (by decide) (g_108_11 G0) (fun x1 ex1 ax1 bx1 => ?_)
  refine z_iconst (M := M_X12_isWord) 4 dX12_isWord_4 ?_
  refine z_icmp_ne (M := M_X12_isWord) 5 dX12_isWord_5 21 rfl (fun c2 => ?_) (fun c2 => ?_)
  · refine z_iconst (M := M_X12_isWord) 21 dX12_isWord_21 ?_
    exact z_retZ (M := M_X12_isWord) 22 dX12_isWord_22 rfl (by omega) ⟨rfl, by omega⟩
  · refine z_aload_n (M := M_X12_isWord) 8 dX12_isWord_8 rfl ?_
    refine z_getJV (M := M_X12_isWord) 9 dX12_isWord_9 f_X12_224 o_108 rfl (fun x3 ex3 => ?_)
    refine z_lload_n (M := M_X12_isWord) 12 dX12_isWord_12 rfl ?_
    refine z_lcmp (M := M_X12_isWord) 13 dX12_isWord_13 ?_
    refine z_if_ne (M := M_X12_isWord) 14 dX12_isWord_14 21 rfl (fun c4 => ?_) (fun c4 => ?_)
    · rw [m_cmp_eq] at c4
      refine z_iconst (M := M_X12_isWord) 21 dX12_isWord_21 ?_
      exact z_retZ (M := M_X12_isWord) 22 dX12_isWord_22 rfl (by omega) ⟨rfl, by omega⟩
    · rw [m_cmp_eq] at c4
      refine z_iconst (M := M_X12_isWord) 17 dX12_isWord_17 ?_
      refine z_goto (M := M_X12_isWord) 18 dX12_isWord_18 22 rfl ?_
      exact z_retZ (M := M_X12_isWord) 22 dX12_isWord_22 rfl (by omega) ⟨rfl, by omega⟩
abbrev P_X12_isSign (h0 : m_H) (a1 : Int) : Int → m_H → Prop := fun x h' => h0 = h' ∧ ((x = 1 ∧ (h0 108 11 = 3 ∧ h0 108 12 = a1)) ∨ (x = 0 ∧ ¬ (h0 108 11 = 3 ∧ h0 108 12 = a1)))
set_option maxHeartbeats 4000000 in
set_option maxRecDepth 100000 in
theorem c_X12_isSign (h0 : m_H) (a1 : Int) (G0 : GI h0) : m_CI M_X12_isSign [mR 108, mI a1] h0 (P_X12_isSign h0 a1) := by
  refine m_CI_of ⟨by decide, rfl, by simp [m_arg, m_isL, M_X12_isSign], ⟨rfl, rfl⟩, rfl, rfl⟩ (ls := [some (mR 108), some (mI a1)]) rfl ?_
  refine z_ok (fun _ _ ok => ?_)
  have oa1 : m_32 a1 := ok 1 _ rfl
  unfold m_32 at oa1
  refine z_aload_n (M := M_X12_isSign) 0 dX12_isSign_0 rfl ?_
  refine z_getIG (M := M_X12_isSign) 1 dX12_isSign_1 f_X12_234 o_108 (by decide) (g_108_11 G0) (fun x1 ex1 ax1 bx1 => ?_)
  refine z_iconst (M := M_X12_isSign) 4 dX12_isSign_4 ?_
  refine z_icmp_ne (M := M_X12_isSign) 5 dX12_isSign_5 22 rfl (fun c2 => ?_) (fun c2 => ?_)
  · refine z_iconst (M := M_X12_isSign) 22 dX12_isSign_22 ?_
    exact z_retZ (M := M_X12_isSign) 23 dX12_isSign_23 rfl (by omega) ⟨rfl, by omega⟩
  · refine z_aload_n (M := M_X12_isSign) 8 dX12_isSign_8 rfl ?_
    refine z_getJV (M := M_X12_isSign) 9 dX12_isSign_9 f_X12_224 o_108 rfl (fun x3 ex3 => ?_)
    refine z_iload_n (M := M_X12_isSign) 12 dX12_isSign_12 rfl ?_
    refine z_i2l (M := M_X12_isSign) 13 dX12_isSign_13 ?_
    refine z_lcmp (M := M_X12_isSign) 14 dX12_isSign_14 ?_
    refine z_if_ne (M := M_X12_isSign) 15 dX12_isSign_15 22 rfl (fun c4 => ?_) (fun c4 => ?_)
    · rw [m_cmp_eq] at c4
      refine z_iconst (M := M_X12_isSign) 22 dX12_isSign_22 ?_
      exact z_retZ (M := M_X12_isSign) 23 dX12_isSign_23 rfl (by omega) ⟨rfl, by omega⟩
    · rw [m_cmp_eq] at c4
      refine z_iconst (M := M_X12_isSign) 18 dX12_isSign_18 ?_
      refine z_goto (M := M_X12_isSign) 19 dX12_isSign_19 23 rfl ?_
      exact z_retZ (M := M_X12_isSign) 23 dX12_isSign_23 rfl (by omega) ⟨rfl, by omega⟩
abbrev P_X12_must (h0 : m_H) (a1 : Int) : m_H → Prop := fun h' => GI h' ∧ FR [] [(108, 9), (108, 10), (108, 11), (108, 12), (108, 13), (108, 14)] h0 h' ∧ h0 108 9 ≤ h' 108 9 ∧ PIp h' ∧ Im (h' 108 14 = 0) (h0 108 14 = 0 ∧ a1 = 1 ∧ h0 108 10 ≤ h' 108 9)
set_option maxHeartbeats 4000000 in
set_option maxRecDepth 100000 in
theorem c_X12_must (h0 : m_H) (a1 : Int) (G0 : GI h0) (pa1 : 0 ≤ a1 ∧ a1 ≤ 1) (hp : PIp h0) : m_CV M_X12_must [mR 108, mI a1] h0 (P_X12_must h0 a1) := by
  refine m_CV_of ⟨by decide, rfl, by simp [m_arg, m_isL, M_X12_must], ⟨rfl, rfl⟩, rfl, rfl⟩ (ls := [some (mR 108), some (mI a1)]) rfl ?_
  have hl := hp.le
  obtain ⟨x1, ex1⟩ : ∃ y : Int, h0 108 9 = y := ⟨_, rfl⟩
  have bx1 : 0 ≤ x1 ∧ x1 ≤ 400 := ex1 ▸ g_108_9 G0
  obtain ⟨x2, ex2⟩ : ∃ y : Int, h0 108 10 = y := ⟨_, rfl⟩
  have bx2 : 0 ≤ x2 ∧ x2 ≤ 400 := ex2 ▸ g_108_10 G0
  obtain ⟨x3, ex3⟩ : ∃ y : Int, h0 108 11 = y := ⟨_, rfl⟩
  have bx3 : 0 ≤ x3 ∧ x3 ≤ 3 := ex3 ▸ g_108_11 G0
  obtain ⟨x4, ex4⟩ : ∃ y : Int, h0 108 8 = y := ⟨_, rfl⟩
  have bx4 : 0 ≤ x4 ∧ x4 ≤ 400 := ex4 ▸ g_108_8 G0
  obtain ⟨x5, ex5⟩ : ∃ y : Int, h0 108 14 = y := ⟨_, rfl⟩
  have bx5 : 0 ≤ x5 ∧ x5 ≤ 1 := ex5 ▸ g_108_14 G0
  refine z_aload_n (M := M_X12_must) 0 dX12_must_0 rfl ?_
  refine z_getIE (M := M_X12_must) 1 dX12_must_1 f_X12_214 o_108 (by decide) ex5 ?_
  refine z_if_ne (M := M_X12_must) 4 dX12_must_4 24 rfl (fun c6 => ?_) (fun c6 => ?_)
  · refine z_aload_n (M := M_X12_must) 24 dX12_must_24 rfl ?_
    refine z_getIE (M := M_X12_must) 25 dX12_must_25 f_X12_214 o_108 (by decide) ex5 ?_
    refine z_if_ne_T (M := M_X12_must) 28 dX12_must_28 35 rfl (by omega) ?_
    have w7 : h0 108 9 = x1 := ex1
    have w8 : h0 108 10 = x2 := ex2
    have w9 : h0 108 11 = x3 := ex3
    have w10 : h0 108 8 = x4 := ex4
    have w11 : h0 108 14 = x5 := ex5
    exact z_retV (M := M_X12_must) 35 dX12_must_35 rfl ⟨G0, (FR.rf (cs := []) (ss := [(108, 9), (108, 10), (108, 11), (108, 12), (108, 13), (108, 14)]) (h := h0)), by omega, hp, fun q => by omega⟩
  · refine z_iload_n (M := M_X12_must) 7 dX12_must_7 rfl ?_
    refine z_if_ne (M := M_X12_must) 8 dX12_must_8 24 rfl (fun c12 => ?_) (fun c12 => ?_)
    · refine z_aload_n (M := M_X12_must) 24 dX12_must_24 rfl ?_
      refine z_getIE (M := M_X12_must) 25 dX12_must_25 f_X12_214 o_108 (by decide) ex5 ?_
      refine z_if_ne_F (M := M_X12_must) 28 dX12_must_28 35 rfl (by omega) ?_
      refine z_aload_n (M := M_X12_must) 31 dX12_must_31 rfl ?_
      have w13 : h0 108 10 = x2 := ex2
      have w14 : h0 108 8 = x4 := ex4
      refine z_vV (M := M_X12_must) 32 dX12_must_32 t_X12_next l_X12_218 (m_rr_of rfl) (rest := []) (c_X12_next h0 G0 (by omega)) o_108 rfl rfl rfl (Nat.le_of_ble_eq_true rfl) ⟨rfl, rfl⟩ (fun h1 qx15 => ?_)
      obtain ⟨G1, S1, fx15_0, fx15_1⟩ := qx15
      have R1 := (FR.rf (cs := []) (ss := [(108, 9), (108, 10), (108, 11), (108, 12), (108, 13), (108, 14)]) (h := h0)).call S1 (by decide +kernel)
      obtain ⟨x16, ex16⟩ : ∃ y : Int, h1 108 9 = y := ⟨_, rfl⟩
      have bx16 : 0 ≤ x16 ∧ x16 ≤ 400 := ex16 ▸ g_108_9 G1
      obtain ⟨x17, ex17⟩ : ∃ y : Int, h1 108 10 = y := ⟨_, rfl⟩
      have bx17 : 0 ≤ x17 ∧ x17 ≤ 400 := ex17 ▸ g_108_10 G1
      obtain ⟨x18, ex18⟩ : ∃ y : Int, h1 108 11 = y := ⟨_, rfl⟩
      have bx18 : 0 ≤ x18 ∧ x18 ≤ 3 := ex18 ▸ g_108_11 G1
      have w19 : h1 108 9 = x16 := ex16
      have w20 : h1 108 10 = x17 := ex17
      have w21 : h1 108 11 = x18 := ex18
      have w22 : h1 108 8 = x4 := ((S1 108 8 rfl).trans ex4)
      have l23 := fx15_1.le
      have w24 : h1 108 9 = x16 := ex16
      have w25 : h1 108 10 = x17 := ex17
      have w26 : h1 108 11 = x18 := ex18
      have w27 : h1 108 8 = x4 := ((S1 108 8 rfl).trans ex4)
      have w28 : h1 108 14 = x5 := ((S1 108 14 rfl).trans ex5)
      exact z_retV (M := M_X12_must) 35 dX12_must_35 rfl ⟨G1, R1, by omega, fx15_1, fun q => by omega⟩
    · refine z_aload_n (M := M_X12_must) 11 dX12_must_11 rfl ?_
      refine z_iconst (M := M_X12_must) 12 dX12_must_12 ?_
      refine z_putZH (M := M_X12_must) 13 dX12_must_13 p_X12_214 o_108 rfl (by omega) (u_108_14 G0 (by omega) (by omega)) ((FR.rf (cs := []) (ss := [(108, 9), (108, 10), (108, 11), (108, 12), (108, 13), (108, 14)]) (h := h0)).up rfl) (fun h2 E2 G2 R2 => ?_)
      have P2 := hp.same (upN E2 (by decide)) (upN E2 (by decide)) (upN E2 (by decide)) (upN E2 (by decide))
      refine z_aload_n (M := M_X12_must) 16 dX12_must_16 rfl ?_
      refine z_aload_n (M := M_X12_must) 17 dX12_must_17 rfl ?_
      refine z_getIE (M := M_X12_must) 18 dX12_must_18 f_X12_221 o_108 (by decide) ((upN E2 (fun q => absurd q.2 (by decide))).trans ex1) ?_
      refine z_putIH (M := M_X12_must) 21 dX12_must_21 p_X12_26 o_108 rfl (u_108_13 G2) (R2.up rfl) (fun h3 E3 G3 R3 => ?_)
      have P3 := P2.same (upN E3 (by decide)) (upN E3 (by decide)) (upN E3 (by decide)) (upN E3 (by decide))
      refine z_aload_n (M := M_X12_must) 24 dX12_must_24 rfl ?_
      refine z_getIE (M := M_X12_must) 25 dX12_must_25 f_X12_214 o_108 (by decide) ((upN E3 (fun q => absurd q.2 (by decide))).trans (upE E2)) ?_
      refine z_if_ne_T (M := M_X12_must) 28 dX12_must_28 35 rfl (by omega) ?_
      have w29 : h3 108 9 = x1 := ((upN E3 (fun q => absurd q.2 (by decide))).trans ((upN E2 (fun q => absurd q.2 (by decide))).trans ex1))
      have w30 : h3 108 10 = x2 := ((upN E3 (fun q => absurd q.2 (by decide))).trans ((upN E2 (fun q => absurd q.2 (by decide))).trans ex2))
      have w31 : h3 108 11 = x3 := ((upN E3 (fun q => absurd q.2 (by decide))).trans ((upN E2 (fun q => absurd q.2 (by decide))).trans ex3))
      have w32 : h3 108 8 = x4 := ((upN E3 (fun q => absurd q.2 (by decide))).trans ((upN E2 (fun q => absurd q.2 (by decide))).trans ex4))
      have w33 : h3 108 14 = 1 := ((upN E3 (fun q => absurd q.2 (by decide))).trans (upE E2))
      exact z_retV (M := M_X12_must) 35 dX12_must_35 rfl ⟨G3, R3, by omega, P3, fun q => by omega⟩
