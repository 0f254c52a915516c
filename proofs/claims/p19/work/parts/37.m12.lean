abbrev P_X12_isTight (h0 : m_H) (a1 : Int) (L : List gE) : Int → m_H → Prop := fun x h' => GI h' ∧ FR [115, 116, 132, 133] [] h0 h' ∧ 0 ≤ x ∧ x ≤ 1 ∧ tiQ x (aS h0) L a1
set_option maxHeartbeats 4000000 in
set_option maxRecDepth 100000 in
theorem c_X12_isTight (h0 : m_H) (a1 : Int) (L : List gE) (G0 : GI h0) (pa1 : 0 ≤ a1 ∧ a1 ≤ 59) (hA : AR h0 L) (hE : ∀ q ∈ L, gEo q) (hl : a1 < h0 108 21) : m_CI M_X12_isTight [mR 108, mI a1] h0 (P_X12_isTight h0 a1 L) := by
  refine m_CI_of ⟨by decide, rfl, by simp [m_arg, m_isL, M_X12_isTight], ⟨rfl, rfl⟩, rfl, rfl⟩ (ls := [some (mR 108), some (mI a1)]) rfl ?_
  refine z_aload_n (M := M_X12_isTight) 0 dX12_isTight_0 rfl ?_
  refine z_getR (M := M_X12_isTight) 1 dX12_isTight_1 f_X12_85 o_108 rfl (g_108_37 G0) ?_
  refine z_iconst (M := M_X12_isTight) 4 dX12_isTight_4 ?_
  refine z_aload_n (M := M_X12_isTight) 5 dX12_isTight_5 rfl ?_
  refine z_getR (M := M_X12_isTight) 6 dX12_isTight_6 f_X12_61 o_108 rfl (g_108_29 G0) ?_
  refine z_iconst (M := M_X12_isTight) 9 dX12_isTight_9 ?_
  refine z_aload_n (M := M_X12_isTight) 10 dX12_isTight_10 rfl ?_
  refine z_getR (M := M_X12_isTight) 11 dX12_isTight_11 f_X12_40 o_108 rfl (g_108_22 G0) ?_
  refine z_iload_n (M := M_X12_isTight) 14 dX12_isTight_14 rfl ?_
  refine z_ialdG (M := M_X12_isTight) 15 dX12_isTight_15 o_117 (by omega) (by omega) (g_117 G0 (by omega)) (fun x1 ex1 ax1 bx1 => ?_)
  refine z_imulN (M := M_X12_isTight) 16 dX12_isTight_16 (by omega) (by omega) ?_
  refine z_aload_n (M := M_X12_isTight) 17 dX12_isTight_17 rfl ?_
  refine z_getR (M := M_X12_isTight) 18 dX12_isTight_18 f_X12_46 o_108 rfl (g_108_24 G0) ?_
  refine z_iload_n (M := M_X12_isTight) 21 dX12_isTight_21 rfl ?_
  refine z_ialdG (M := M_X12_isTight) 22 dX12_isTight_22 o_119 (by omega) (by omega) (g_119 G0 (by omega)) (fun x2 ex2 ax2 bx2 => ?_)
  refine z_sV (M := M_X12_isTight) 23 dX12_isTight_23 t_X12_times l_X12_346 (m_rr_of rfl) (rest := []) (c_X12_timesU h0 0 (5 * x1) x2 G0 ⟨by omega, by omega⟩ ⟨by omega, by omega⟩ ⟨by omega, by omega⟩) rfl rfl (Nat.le_of_ble_eq_true rfl) ⟨rfl, rfl⟩ (fun h1 qx3 => ?_)
  obtain ⟨G1, S1, fx3_0⟩ := qx3
  have R1 := (FR.rf (cs := [115, 116, 132, 133]) (ss := []) (h := h0)).call S1 (by decide +kernel)
  refine z_aload_n (M := M_X12_isTight) 26 dX12_isTight_26 rfl ?_
  refine z_getR (M := M_X12_isTight) 27 dX12_isTight_27 f_X12_88 o_108 rfl (g_108_38 G1) ?_
  refine z_iconst (M := M_X12_isTight) 30 dX12_isTight_30 ?_
  refine z_aload_n (M := M_X12_isTight) 31 dX12_isTight_31 rfl ?_
  refine z_getR (M := M_X12_isTight) 32 dX12_isTight_32 f_X12_64 o_108 rfl (g_108_30 G1) ?_
  refine z_iconst (M := M_X12_isTight) 35 dX12_isTight_35 ?_
  refine z_aload_n (M := M_X12_isTight) 36 dX12_isTight_36 rfl ?_
  refine z_getR (M := M_X12_isTight) 37 dX12_isTight_37 f_X12_40 o_108 rfl (g_108_22 G1) ?_
  refine z_iload_n (M := M_X12_isTight) 40 dX12_isTight_40 rfl ?_
  refine z_ialdG (M := M_X12_isTight) 41 dX12_isTight_41 o_117 (by omega) (by omega) (g_117 G1 (by omega)) (fun x4 ex4 ax4 bx4 => ?_)
  refine z_imulN (M := M_X12_isTight) 42 dX12_isTight_42 (by omega) (by omega) ?_
  refine z_aload_n (M := M_X12_isTight) 43 dX12_isTight_43 rfl ?_
  refine z_getR (M := M_X12_isTight) 44 dX12_isTight_44 f_X12_49 o_108 rfl (g_108_25 G1) ?_
  refine z_iload_n (M := M_X12_isTight) 47 dX12_isTight_47 rfl ?_
  refine z_ialdG (M := M_X12_isTight) 48 dX12_isTight_48 o_120 (by omega) (by omega) (g_120 G1 (by omega)) (fun x5 ex5 ax5 bx5 => ?_)
  refine z_sV (M := M_X12_isTight) 49 dX12_isTight_49 t_X12_times l_X12_346 (m_rr_of rfl) (rest := []) (c_X12_timesL h1 0 (5 * x4) x5 G1 ⟨by omega, by omega⟩ ⟨by omega, by omega⟩ ⟨by omega, by omega⟩) rfl rfl (Nat.le_of_ble_eq_true rfl) ⟨rfl, rfl⟩ (fun h2 qx6 => ?_)
  obtain ⟨G2, S2, fx6_0⟩ := qx6
  have R2 := R1.call S2 (by decide +kernel)
  refine z_aload_n (M := M_X12_isTight) 52 dX12_isTight_52 rfl ?_
  refine z_aload_n (M := M_X12_isTight) 53 dX12_isTight_53 rfl ?_
  refine z_getR (M := M_X12_isTight) 54 dX12_isTight_54 f_X12_85 o_108 rfl (g_108_37 G2) ?_
  refine z_aload_n (M := M_X12_isTight) 57 dX12_isTight_57 rfl ?_
  refine z_getR (M := M_X12_isTight) 58 dX12_isTight_58 f_X12_88 o_108 rfl (g_108_38 G2) ?_
  refine z_iconst (M := M_X12_isTight) 61 dX12_isTight_61 ?_
  refine z_aload_n (M := M_X12_isTight) 62 dX12_isTight_62 rfl ?_
  refine z_getR (M := M_X12_isTight) 63 dX12_isTight_63 f_X12_61 o_108 rfl (g_108_29 G2) ?_
  refine z_aload_n (M := M_X12_isTight) 66 dX12_isTight_66 rfl ?_
  refine z_getR (M := M_X12_isTight) 67 dX12_isTight_67 f_X12_64 o_108 rfl (g_108_30 G2) ?_
  refine z_iconst (M := M_X12_isTight) 70 dX12_isTight_70 ?_
  refine z_aload_n (M := M_X12_isTight) 71 dX12_isTight_71 rfl ?_
  refine z_getR (M := M_X12_isTight) 72 dX12_isTight_72 f_X12_43 o_108 rfl (g_108_23 G2) ?_
  refine z_iload_n (M := M_X12_isTight) 75 dX12_isTight_75 rfl ?_
  refine z_ialdG (M := M_X12_isTight) 76 dX12_isTight_76 o_118 (by omega) (by omega) (g_118 G2 (by omega)) (fun x7 ex7 ax7 bx7 => ?_)
  refine z_imulN (M := M_X12_isTight) 77 dX12_isTight_77 (by omega) (by omega) ?_
  refine z_vI (M := M_X12_isTight) 78 dX12_isTight_78 t_X12_compare l_X12_350 (m_rr_of rfl) (rest := []) (c_X12_compareB h2 0 (5 * x7) G2 ⟨by omega, by omega⟩ ⟨by omega, by omega⟩) o_108 rfl rfl rfl (Nat.le_of_ble_eq_true rfl) ⟨rfl, rfl⟩ (fun x8 h3 qx8 => ?_)
  obtain ⟨G3, S3, ax8, bx8, fx8_0⟩ := qx8
  have R3 := R2.call S3 (by decide +kernel)
  refine z_if_ne (M := M_X12_isTight) 81 dX12_isTight_81 88 rfl (fun c9 => ?_) (fun c9 => ?_)
  · refine z_iconst (M := M_X12_isTight) 88 dX12_isTight_88 ?_
    exact z_retZ (M := M_X12_isTight) 89 dX12_isTight_89 rfl (by omega) ⟨G3, R3, by omega, by omega, tiQ_0 (ti_of hE hA (by omega) rfl (by omega) ex1 ex2 S1 fx3_0 ex4 ex5 S2 fx6_0 ex7 rfl fx8_0) (by omega) rfl⟩
  · refine z_iconst (M := M_X12_isTight) 84 dX12_isTight_84 ?_
    refine z_goto (M := M_X12_isTight) 85 dX12_isTight_85 89 rfl ?_
    exact z_retZ (M := M_X12_isTight) 89 dX12_isTight_89 rfl (by omega) ⟨G3, R3, by omega, by omega, tiQ_1 (ti_of hE hA (by omega) rfl (by omega) ex1 ex2 S1 fx3_0 ex4 ex5 S2 fx6_0 ex7 rfl fx8_0) (by omega) rfl⟩
abbrev P_X12_canBe (h0 : m_H) (a1 : Int) : Int → m_H → Prop := fun x h' => GI h' ∧ FR [115, 116, 117, 118, 119, 120, 121, 124, 125, 126, 127, 128, 129, 130, 131, 132, 133, 134] [(108, 21)] h0 h' ∧ 0 ≤ x ∧ x ≤ 1 ∧ cbQ x (bL (h0 110) (h0 122) (h0 123) a1)
def q_X12_canBe (h0 : m_H) (a1 : Int) (n : Nat) : Prop := (∀ (l2 l3 : Int) (h : m_H), GI h → FR [115, 116, 117, 118, 119, 120, 121, 124, 125, 126, 127, 128, 129, 130, 131, 132, 133, 134] [(108, 21)] h0 h → 0 ≤ l2 → l2 ≤ 1 → 0 ≤ l3 → l3 ≤ 17 → (-2147483648) ≤ a1 → a1 ≤ 2147483647 → (cbI h (bL (h0 110) (h0 122) (h0 123) a1) l3 l2) → 2 * (17 - l3) + (11507) ≤ (n : Int) → m_Z oF M_X12_canBe 14 [some (mR 108), none, some (mI l2), some (mI l3), none, none] [] h (m_QI (P_X12_canBe h0 a1))) ∧ (∀ (l3 : Int) (h : m_H), GI h → FR [115, 116, 117, 118, 119, 120, 121, 124, 125, 126, 127, 128, 129, 130, 131, 132, 133, 134] [(108, 21)] h0 h → 0 ≤ l3 → l3 ≤ 256 → (-2147483648) ≤ a1 → a1 ≤ 2147483647 → (cbJ h (bL (h0 110) (h0 122) (h0 123) a1)) → (tR (h 134) l3) → 2 * (256 - l3) + (10992) ≤ (n : Int) → m_Z oF M_X12_canBe 44 [some (mR 108), none, none, some (mI l3), none, none] [] h (m_QI (P_X12_canBe h0 a1))) ∧ (∀ (l3 : Int) (h : m_H), GI h → FR [115, 116, 117, 118, 119, 120, 121, 124, 125, 126, 127, 128, 129, 130, 131, 132, 133, 134] [(108, 21)] h0 h → 0 ≤ l3 → l3 ≤ 60 → (-2147483648) ≤ a1 → a1 ≤ 2147483647 → (cbJ h (bL (h0 110) (h0 122) (h0 123) a1)) → (tR (h 134) 256) → (tE (aS h) (bL (h0 110) (h0 122) (h0 123) a1) (h 134) l3.toNat) → 2 * (60 - l3) + (10869) ≤ (n : Int) → m_Z oF M_X12_canBe 81 [some (mR 108), none, none, some (mI l3), none, none] [] h (m_QI (P_X12_canBe h0 a1))) ∧ (∀ (l3 : Int) (h : m_H), GI h → FR [115, 116, 117, 118, 119, 120, 121, 124, 125, 126, 127, 128, 129, 130, 131, 132, 133, 134] [(108, 21)] h0 h → 0 ≤ l3 → l3 ≤ 16 → (-2147483648) ≤ a1 → a1 ≤ 2147483647 → (cbJ h (bL (h0 110) (h0 122) (h0 123) a1)) → (tA h (bL (h0 110) (h0 122) (h0 123) a1) l3.toNat) → 632 * (16 - l3) + (754) ≤ (n : Int) → m_Z oF M_X12_canBe 155 [some (mR 108), none, none, some (mI l3), none, none] [] h (m_QI (P_X12_canBe h0 a1))) ∧ (∀ (l3 l4 : Int) (h : m_H), GI h → FR [115, 116, 117, 118, 119, 120, 121, 124, 125, 126, 127, 128, 129, 130, 131, 132, 133, 134] [(108, 21)] h0 h → 0 ≤ l3 → l3 ≤ 15 → 0 ≤ l4 → l4 ≤ 16 → (-2147483648) ≤ a1 → a1 ≤ 2147483647 → (cbJ h (bL (h0 110) (h0 122) (h0 123) a1)) → (tS h (bL (h0 110) (h0 122) (h0 123) a1) l3 (16 * l4)) → 632 * (16 - l3) + 37 * (16 - l4) + (36) + (123) ≤ (n : Int) → m_Z oF M_X12_canBe 164 [some (mR 108), none, none, some (mI l3), some (mI l4), none] [] h (m_QI (P_X12_canBe h0 a1))) ∧ (∀ (l3 l4 l5 : Int) (h : m_H), GI h → FR [115, 116, 117, 118, 119, 120, 121, 124, 125, 126, 127, 128, 129, 130, 131, 132, 133, 134] [(108, 21)] h0 h → 0 ≤ l3 → l3 ≤ 15 → 0 ≤ l4 → l4 ≤ 15 → 0 ≤ l5 → l5 ≤ 16 → (-2147483648) ≤ a1 → a1 ≤ 2147483647 → (cbJ h (bL (h0 110) (h0 122) (h0 123) a1)) → (tS h (bL (h0 110) (h0 122) (h0 123) a1) l3 (16 * l4 + l5)) → 632 * (16 - l3) + 37 * (16 - l4) + 2 * (16 - l5) + (1) + (123) ≤ (n : Int) → m_Z oF M_X12_canBe 174 [some (mR 108), none, none, some (mI l3), some (mI l4), some (mI l5)] [] h (m_QI (P_X12_canBe h0 a1))) ∧ (∀ (l3 : Int) (h : m_H), GI h → FR [115, 116, 117, 118, 119, 120, 121, 124, 125, 126, 127, 128, 129, 130, 131, 132, 133, 134] [(108, 21)] h0 h → 0 ≤ l3 → l3 ≤ 60 → (-2147483648) ≤ a1 → a1 ≤ 2147483647 → (cbJ h (bL (h0 110) (h0 122) (h0 123) a1)) → (tA h (bL (h0 110) (h0 122) (h0 123) a1) 16) → (tO (aS h) (bL (h0 110) (h0 122) (h0 123) a1) (h 134) l3.toNat) → 2 * (60 - l3) + (1) ≤ (n : Int) → m_Z oF M_X12_canBe 265 [some (mR 108), none, none, some (mI l3), none, none] [] h (m_QI (P_X12_canBe h0 a1)))
set_option maxHeartbeats 4000000 in
set_option maxRecDepth 100000 in
theorem s_X12_canBe_14 (h0 : m_H) (a1 : Int) (G0 : GI h0) (hN : NP h0) (n : Nat) (ih : q_X12_canBe h0 a1 n) : ∀ (l2 l3 : Int) (h : m_H), GI h → FR [115, 116, 117, 118, 119, 120, 121, 124, 125, 126, 127, 128, 129, 130, 131, 132, 133, 134] [(108, 21)] h0 h → 0 ≤ l2 → l2 ≤ 1 → 0 ≤ l3 → l3 ≤ 17 → (-2147483648) ≤ a1 → a1 ≤ 2147483647 → (cbI h (bL (h0 110) (h0 122) (h0 123) a1) l3 l2) → 2 * (17 - l3) + (11507) ≤ ((n + 1 : Nat) : Int) → m_Z oF M_X12_canBe 14 [some (mR 108), none, some (mI l2), some (mI l3), none, none] [] h (m_QI (P_X12_canBe h0 a1)) := by
  intro l2 l3 h G R v0 v1 v2 v3 v4 v5 i0 hr
  have hE := bL_ok (ct := h0 123) (en := a1) G0 hN (fun j hj => g_122 G0 hj)
  refine z_iload_n (M := M_X12_canBe) 14 dX12_canBe_14 rfl ?_
  refine z_bipush (M := M_X12_canBe) 15 dX12_canBe_15 ?_
  refine z_icmp_ge (M := M_X12_canBe) 17 dX12_canBe_17 36 rfl (fun c1 => ?_) (fun c1 => ?_)
  · refine z_iload_n (M := M_X12_canBe) 36 dX12_canBe_36 rfl ?_
    refine z_if_eq (M := M_X12_canBe) 37 dX12_canBe_37 42 rfl (fun c2 => ?_) (fun c2 => ?_)
    · refine z_iconst (M := M_X12_canBe) 42 dX12_canBe_42 ?_
      refine z_istore_n (M := M_X12_canBe) 43 dX12_canBe_43 (ls' := [some (mR 108), none, some (mI l2), some (mI 0), none, none]) (by decide) rfl ?_
      exact z_mask [true, false, false, true, false, false] rfl (ih.2.1 0 h G R (by omega) (by omega) (by omega) (by omega) (cbJ_of i0 (by omega)) (fun i hi hn => by omega) (by omega))
    · refine z_iconst (M := M_X12_canBe) 40 dX12_canBe_40 ?_
      exact z_retZ (M := M_X12_canBe) 41 dX12_canBe_41 rfl (by omega) ⟨G, R, by omega, by omega, cbQ_0⟩
  · refine z_iload_n (M := M_X12_canBe) 20 dX12_canBe_20 rfl ?_
    refine z_if_eq (M := M_X12_canBe) 21 dX12_canBe_21 36 rfl (fun c3 => ?_) (fun c3 => ?_)
    · refine z_iload_n (M := M_X12_canBe) 36 dX12_canBe_36 rfl ?_
      refine z_if_eq_T (M := M_X12_canBe) 37 dX12_canBe_37 42 rfl (by omega) ?_
      refine z_iconst (M := M_X12_canBe) 42 dX12_canBe_42 ?_
      refine z_istore_n (M := M_X12_canBe) 43 dX12_canBe_43 (ls' := [some (mR 108), none, some (mI l2), some (mI 0), none, none]) (by decide) rfl ?_
      exact z_mask [true, false, false, true, false, false] rfl (ih.2.1 0 h G R (by omega) (by omega) (by omega) (by omega) (cbJ_of i0 (by omega)) (fun i hi hn => by omega) (by omega))
    · refine z_aload_n (M := M_X12_canBe) 24 dX12_canBe_24 rfl ?_
      refine z_iconst (M := M_X12_canBe) 25 dX12_canBe_25 ?_
      refine z_vI (M := M_X12_canBe) 26 dX12_canBe_26 t_X12_round l_X12_360 (m_rr_of rfl) (rest := []) (c_X12_round h 0 (bL (h0 110) (h0 122) (h0 123) a1) G ⟨by omega, by omega⟩ i0.1 hE) o_108 rfl rfl rfl (Nat.le_of_ble_eq_true rfl) ⟨rfl, rfl⟩ (fun x4 h1 qx4 => ?_)
      obtain ⟨G1, S1, ax4, bx4, fx4_0, fx4_1⟩ := qx4
      have R1 := R.call S1 (by decide +kernel)
      refine z_istore_n (M := M_X12_canBe) 29 dX12_canBe_29 (ls' := [some (mR 108), none, some (mI x4), some (mI l3), none, none]) (by decide) rfl ?_
      refine z_iincN (M := M_X12_canBe) 30 dX12_canBe_30 (ls' := [some (mR 108), none, some (mI x4), some (mI (l3 + 1)), none, none]) (by decide) rfl (by (unfold m_32; decide)) (by omega) (by omega) rfl ?_
      refine z_goto (M := M_X12_canBe) 33 dX12_canBe_33 14 rfl ?_
      exact z_mask [true, false, true, true, false, false] rfl (ih.1 x4 (l3 + 1) h1 G1 R1 (by omega) (by omega) (by omega) (by omega) (by omega) (by omega) (cb_step hE (by omega) (by omega) i0 (AR.call i0.1 S1 rfl (fun _ => rfl) (fun _ => rfl) (fun _ => rfl) (fun _ => rfl) (fun _ => rfl)) fx4_0 fx4_1) (by omega))
set_option maxHeartbeats 4000000 in
set_option maxRecDepth 100000 in
theorem s_X12_canBe_44 (h0 : m_H) (a1 : Int) (G0 : GI h0) (hN : NP h0) (n : Nat) (ih : q_X12_canBe h0 a1 n) : ∀ (l3 : Int) (h : m_H), GI h → FR [115, 116, 117, 118, 119, 120, 121, 124, 125, 126, 127, 128, 129, 130, 131, 132, 133, 134] [(108, 21)] h0 h → 0 ≤ l3 → l3 ≤ 256 → (-2147483648) ≤ a1 → a1 ≤ 2147483647 → (cbJ h (bL (h0 110) (h0 122) (h0 123) a1)) → (tR (h 134) l3) → 2 * (256 - l3) + (10992) ≤ ((n + 1 : Nat) : Int) → m_Z oF M_X12_canBe 44 [some (mR 108), none, none, some (mI l3), none, none] [] h (m_QI (P_X12_canBe h0 a1)) := by
  intro l3 h G R v0 v1 v2 v3 i0 i1 hr
  have hE := bL_ok (ct := h0 123) (en := a1) G0 hN (fun j hj => g_122 G0 hj)
  refine z_iload_n (M := M_X12_canBe) 44 dX12_canBe_44 rfl ?_
  refine z_sipush (M := M_X12_canBe) 45 dX12_canBe_45 ?_
  refine z_icmp_ge (M := M_X12_canBe) 48 dX12_canBe_48 79 rfl (fun c1 => ?_) (fun c1 => ?_)
  · refine z_iconst (M := M_X12_canBe) 79 dX12_canBe_79 ?_
    refine z_istore_n (M := M_X12_canBe) 80 dX12_canBe_80 (ls' := [some (mR 108), none, none, some (mI 0), none, none]) (by decide) rfl ?_
    exact z_mask [true, false, false, true, false, false] rfl (ih.2.2.1 0 h G R (by omega) (by omega) (by omega) (by omega) i0 ((show l3 = 256 by omega) ▸ i1) (fun j q hj => absurd hj (Nat.not_lt_zero _)) (by omega))
  · refine z_aload_n (M := M_X12_canBe) 51 dX12_canBe_51 rfl ?_
    refine z_getR (M := M_X12_canBe) 52 dX12_canBe_52 f_X12_91 o_108 rfl (g_108_39 G) ?_
    refine z_iload_n (M := M_X12_canBe) 55 dX12_canBe_55 rfl ?_
    refine z_iload_n (M := M_X12_canBe) 56 dX12_canBe_56 rfl ?_
    refine z_bipush (M := M_X12_canBe) 57 dX12_canBe_57 ?_
    refine z_idivN (M := M_X12_canBe) 59 dX12_canBe_59 (by omega) (by omega) ?_
    refine z_topBI (lo := 0) (hi := 15) ⟨by omega, by omega⟩ (fun x2 ex2 ax2 bx2 => ?_)
    refine z_iload_n (M := M_X12_canBe) 60 dX12_canBe_60 rfl ?_
    refine z_bipush (M := M_X12_canBe) 61 dX12_canBe_61 ?_
    refine z_iremN (M := M_X12_canBe) 63 dX12_canBe_63 (by omega) (by omega) ?_
    refine z_topBI (lo := 0) (hi := 15) ⟨by omega, by omega⟩ (fun x3 ex3 ax3 bx3 => ?_)
    refine z_icmp_ne (M := M_X12_canBe) 64 dX12_canBe_64 71 rfl (fun c4 => ?_) (fun c4 => ?_)
    · refine z_iconst (M := M_X12_canBe) 71 dX12_canBe_71 ?_
      refine z_zastH (M := M_X12_canBe) 72 dX12_canBe_72 o_134 (by omega) (by omega) (by omega) (u_134 G (by omega) (by omega)) (R.up rfl) (fun h1 E1 G1 R1 => ?_)
      refine z_iincN (M := M_X12_canBe) 73 dX12_canBe_73 (ls' := [some (mR 108), none, none, some (mI (l3 + 1)), none, none]) (by decide) rfl (by (unfold m_32; decide)) (by omega) (by omega) rfl ?_
      refine z_goto (M := M_X12_canBe) 76 dX12_canBe_76 44 rfl ?_
      exact z_mask [true, false, false, true, false, false] rfl (ih.2.1 (l3 + 1) h1 G1 R1 (by omega) (by omega) (by omega) (by omega) (i0.put E1) (tR_step (by omega) i1 (fun q => by omega) E1) (by omega))
    · refine z_iconst (M := M_X12_canBe) 67 dX12_canBe_67 ?_
      refine z_goto (M := M_X12_canBe) 68 dX12_canBe_68 72 rfl ?_
      refine z_zastH (M := M_X12_canBe) 72 dX12_canBe_72 o_134 (by omega) (by omega) (by omega) (u_134 G (by omega) (by omega)) (R.up rfl) (fun h2 E2 G2 R2 => ?_)
      refine z_iincN (M := M_X12_canBe) 73 dX12_canBe_73 (ls' := [some (mR 108), none, none, some (mI (l3 + 1)), none, none]) (by decide) rfl (by (unfold m_32; decide)) (by omega) (by omega) rfl ?_
      refine z_goto (M := M_X12_canBe) 76 dX12_canBe_76 44 rfl ?_
      exact z_mask [true, false, false, true, false, false] rfl (ih.2.1 (l3 + 1) h2 G2 R2 (by omega) (by omega) (by omega) (by omega) (i0.put E2) (tR_step (by omega) i1 (fun q => by omega) E2) (by omega))
set_option maxHeartbeats 4000000 in
set_option maxRecDepth 100000 in
theorem s_X12_canBe_81 (h0 : m_H) (a1 : Int) (G0 : GI h0) (hN : NP h0) (n : Nat) (ih : q_X12_canBe h0 a1 n) : ∀ (l3 : Int) (h : m_H), GI h → FR [115, 116, 117, 118, 119, 120, 121, 124, 125, 126, 127, 128, 129, 130, 131, 132, 133, 134] [(108, 21)] h0 h → 0 ≤ l3 → l3 ≤ 60 → (-2147483648) ≤ a1 → a1 ≤ 2147483647 → (cbJ h (bL (h0 110) (h0 122) (h0 123) a1)) → (tR (h 134) 256) → (tE (aS h) (bL (h0 110) (h0 122) (h0 123) a1) (h 134) l3.toNat) → 2 * (60 - l3) + (10869) ≤ ((n + 1 : Nat) : Int) → m_Z oF M_X12_canBe 81 [some (mR 108), none, none, some (mI l3), none, none] [] h (m_QI (P_X12_canBe h0 a1)) := by
  intro l3 h G R v0 v1 v2 v3 i0 i1 i2 hr
  have hE := bL_ok (ct := h0 123) (en := a1) G0 hN (fun j hj => g_122 G0 hj)
  refine z_iload_n (M := M_X12_canBe) 81 dX12_canBe_81 rfl ?_
  refine z_aload_n (M := M_X12_canBe) 82 dX12_canBe_82 rfl ?_
  refine z_getIG (M := M_X12_canBe) 83 dX12_canBe_83 f_X12_333 o_108 (by decide) (g_108_21 G) (fun x1 ex1 ax1 bx1 => ?_)
  refine z_icmp_ge (M := M_X12_canBe) 86 dX12_canBe_86 153 rfl (fun c2 => ?_) (fun c2 => ?_)
  · refine z_iconst (M := M_X12_canBe) 153 dX12_canBe_153 ?_
    refine z_istore_n (M := M_X12_canBe) 154 dX12_canBe_154 (ls' := [some (mR 108), none, none, some (mI 0), none, none]) (by decide) rfl ?_
    exact z_mask [true, false, false, true, false, false] rfl (ih.2.2.2.1 0 h G R (by omega) (by omega) (by omega) (by omega) i0 (tA_0 i0 i1 i2 ex1 (by omega)) (by omega))
  · refine z_aload_n (M := M_X12_canBe) 89 dX12_canBe_89 rfl ?_
    refine z_getR (M := M_X12_canBe) 90 dX12_canBe_90 f_X12_91 o_108 rfl (g_108_39 G) ?_
    refine z_bipush (M := M_X12_canBe) 93 dX12_canBe_93 ?_
    refine z_aload_n (M := M_X12_canBe) 95 dX12_canBe_95 rfl ?_
    refine z_getR (M := M_X12_canBe) 96 dX12_canBe_96 f_X12_40 o_108 rfl (g_108_22 G) ?_
    refine z_iload_n (M := M_X12_canBe) 99 dX12_canBe_99 rfl ?_
    refine z_ialdG (M := M_X12_canBe) 100 dX12_canBe_100 o_117 (by omega) (by omega) (g_117 G (by omega)) (fun x3 ex3 ax3 bx3 => ?_)
    refine z_imulN (M := M_X12_canBe) 101 dX12_canBe_101 (by omega) (by omega) ?_
    refine z_aload_n (M := M_X12_canBe) 102 dX12_canBe_102 rfl ?_
    refine z_getR (M := M_X12_canBe) 103 dX12_canBe_103 f_X12_43 o_108 rfl (g_108_23 G) ?_
    refine z_iload_n (M := M_X12_canBe) 106 dX12_canBe_106 rfl ?_
    refine z_ialdG (M := M_X12_canBe) 107 dX12_canBe_107 o_118 (by omega) (by omega) (g_118 G (by omega)) (fun x4 ex4 ax4 bx4 => ?_)
    refine z_iaddN (M := M_X12_canBe) 108 dX12_canBe_108 (by omega) (by omega) ?_
    refine z_aload_n (M := M_X12_canBe) 109 dX12_canBe_109 rfl ?_
    refine z_getR (M := M_X12_canBe) 110 dX12_canBe_110 f_X12_91 o_108 rfl (g_108_39 G) ?_
    refine z_bipush (M := M_X12_canBe) 113 dX12_canBe_113 ?_
    refine z_aload_n (M := M_X12_canBe) 115 dX12_canBe_115 rfl ?_
    refine z_getR (M := M_X12_canBe) 116 dX12_canBe_116 f_X12_40 o_108 rfl (g_108_22 G) ?_
    refine z_iload_n (M := M_X12_canBe) 119 dX12_canBe_119 rfl ?_
    refine z_ialdE (M := M_X12_canBe) 120 dX12_canBe_120 o_117 (by omega) (by omega) ex3 ?_
    refine z_imulN (M := M_X12_canBe) 121 dX12_canBe_121 (by omega) (by omega) ?_
    refine z_aload_n (M := M_X12_canBe) 122 dX12_canBe_122 rfl ?_
    refine z_getR (M := M_X12_canBe) 123 dX12_canBe_123 f_X12_43 o_108 rfl (g_108_23 G) ?_
    refine z_iload_n (M := M_X12_canBe) 126 dX12_canBe_126 rfl ?_
    refine z_ialdE (M := M_X12_canBe) 127 dX12_canBe_127 o_118 (by omega) (by omega) ex4 ?_
    refine z_iaddN (M := M_X12_canBe) 128 dX12_canBe_128 (by omega) (by omega) ?_
    refine z_zaldG (M := M_X12_canBe) 129 dX12_canBe_129 o_134 (by omega) (by omega) (g_134 G (by omega)) (fun x5 ex5 ax5 bx5 => ?_)
    refine z_if_ne (M := M_X12_canBe) 130 dX12_canBe_130 141 rfl (fun c6 => ?_) (fun c6 => ?_)
    · refine z_iconst (M := M_X12_canBe) 141 dX12_canBe_141 ?_
      refine z_goto (M := M_X12_canBe) 142 dX12_canBe_142 146 rfl ?_
      refine z_zastH (M := M_X12_canBe) 146 dX12_canBe_146 o_134 (by omega) (by omega) (by omega) (u_134 G (by omega) (by omega)) (R.up rfl) (fun h1 E1 G1 R1 => ?_)
      refine z_iincN (M := M_X12_canBe) 147 dX12_canBe_147 (ls' := [some (mR 108), none, none, some (mI (l3 + 1)), none, none]) (by decide) rfl (by (unfold m_32; decide)) (by omega) (by omega) rfl ?_
      refine z_goto (M := M_X12_canBe) 150 dX12_canBe_150 81 rfl ?_
      exact z_mask [true, false, false, true, false, false] rfl (ih.2.2.1 (l3 + 1) h1 G1 R1 (by omega) (by omega) (by omega) (by omega) (i0.put E1) (tE_step hE i0 (by omega) i1 i2 ex1 (by omega) ex3 ex4 rfl rfl (fun _ => rfl) (by omega) E1).1 (tE_step hE i0 (by omega) i1 i2 ex1 (by omega) ex3 ex4 rfl rfl (fun _ => rfl) (by omega) E1).2 (by omega))
    · refine z_aload_n (M := M_X12_canBe) 133 dX12_canBe_133 rfl ?_
      refine z_iload_n (M := M_X12_canBe) 134 dX12_canBe_134 rfl ?_
      refine z_vI (M := M_X12_canBe) 135 dX12_canBe_135 t_X12_isTight l_X12_364 (m_rr_of rfl) (rest := [mI ((16 * x3) + x4), mR 134]) (c_X12_isTight h l3 (bL (h0 110) (h0 122) (h0 123) a1) G ⟨by omega, by omega⟩ i0.1 hE (by omega)) o_108 rfl rfl rfl (Nat.le_of_ble_eq_true rfl) ⟨rfl, rfl⟩ (fun x7 h2 qx7 => ?_)
      obtain ⟨G2, S2, ax7, bx7, fx7_0⟩ := qx7
      have R2 := R.call S2 (by decide +kernel)
      refine z_if_eq (M := M_X12_canBe) 138 dX12_canBe_138 145 rfl (fun c8 => ?_) (fun c8 => ?_)
      · refine z_iconst (M := M_X12_canBe) 145 dX12_canBe_145 ?_
        refine z_zastH (M := M_X12_canBe) 146 dX12_canBe_146 o_134 (by omega) (by omega) (by omega) (u_134 G2 (by omega) (by omega)) (R2.up rfl) (fun h3 E3 G3 R3 => ?_)
        refine z_iincN (M := M_X12_canBe) 147 dX12_canBe_147 (ls' := [some (mR 108), none, none, some (mI (l3 + 1)), none, none]) (by decide) rfl (by (unfold m_32; decide)) (by omega) (by omega) rfl ?_
        refine z_goto (M := M_X12_canBe) 150 dX12_canBe_150 81 rfl ?_
        exact z_mask [true, false, false, true, false, false] rfl (ih.2.2.1 (l3 + 1) h3 G3 R3 (by omega) (by omega) (by omega) (by omega) ((i0.ti S2).put E3) (tE_step hE i0 (by omega) i1 i2 ex1 (by omega) ex3 ex4 (FR.row S2 (fun _ => rfl)) (aS_ti S2) (fun z => absurd (fx7_0.mpr z) (by omega)) (by omega) E3).1 (tE_step hE i0 (by omega) i1 i2 ex1 (by omega) ex3 ex4 (FR.row S2 (fun _ => rfl)) (aS_ti S2) (fun z => absurd (fx7_0.mpr z) (by omega)) (by omega) E3).2 (by omega))
      · refine z_iconst (M := M_X12_canBe) 141 dX12_canBe_141 ?_
        refine z_goto (M := M_X12_canBe) 142 dX12_canBe_142 146 rfl ?_
        refine z_zastH (M := M_X12_canBe) 146 dX12_canBe_146 o_134 (by omega) (by omega) (by omega) (u_134 G2 (by omega) (by omega)) (R2.up rfl) (fun h4 E4 G4 R4 => ?_)
        refine z_iincN (M := M_X12_canBe) 147 dX12_canBe_147 (ls' := [some (mR 108), none, none, some (mI (l3 + 1)), none, none]) (by decide) rfl (by (unfold m_32; decide)) (by omega) (by omega) rfl ?_
        refine z_goto (M := M_X12_canBe) 150 dX12_canBe_150 81 rfl ?_
        exact z_mask [true, false, false, true, false, false] rfl (ih.2.2.1 (l3 + 1) h4 G4 R4 (by omega) (by omega) (by omega) (by omega) ((i0.ti S2).put E4) (tE_step hE i0 (by omega) i1 i2 ex1 (by omega) ex3 ex4 (FR.row S2 (fun _ => rfl)) (aS_ti S2) (fun _ => rfl) (by omega) E4).1 (tE_step hE i0 (by omega) i1 i2 ex1 (by omega) ex3 ex4 (FR.row S2 (fun _ => rfl)) (aS_ti S2) (fun _ => rfl) (by omega) E4).2 (by omega))
set_option maxHeartbeats 4000000 in
set_option maxRecDepth 100000 in
theorem s_X12_canBe_155 (h0 : m_H) (a1 : Int) (G0 : GI h0) (hN : NP h0) (n : Nat) (ih : q_X12_canBe h0 a1 n) : ∀ (l3 : Int) (h : m_H), GI h → FR [115, 116, 117, 118, 119, 120, 121, 124, 125, 126, 127, 128, 129, 130, 131, 132, 133, 134] [(108, 21)] h0 h → 0 ≤ l3 → l3 ≤ 16 → (-2147483648) ≤ a1 → a1 ≤ 2147483647 → (cbJ h (bL (h0 110) (h0 122) (h0 123) a1)) → (tA h (bL (h0 110) (h0 122) (h0 123) a1) l3.toNat) → 632 * (16 - l3) + (754) ≤ ((n + 1 : Nat) : Int) → m_Z oF M_X12_canBe 155 [some (mR 108), none, none, some (mI l3), none, none] [] h (m_QI (P_X12_canBe h0 a1)) := by
  intro l3 h G R v0 v1 v2 v3 i0 i1 hr
  have hE := bL_ok (ct := h0 123) (en := a1) G0 hN (fun j hj => g_122 G0 hj)
  refine z_iload_n (M := M_X12_canBe) 155 dX12_canBe_155 rfl ?_
  refine z_bipush (M := M_X12_canBe) 156 dX12_canBe_156 ?_
  refine z_icmp_ge (M := M_X12_canBe) 158 dX12_canBe_158 263 rfl (fun c1 => ?_) (fun c1 => ?_)
  · refine z_iconst (M := M_X12_canBe) 263 dX12_canBe_263 ?_
    refine z_istore_n (M := M_X12_canBe) 264 dX12_canBe_264 (ls' := [some (mR 108), none, none, some (mI 0), none, none]) (by decide) rfl ?_
    exact z_mask [true, false, false, true, false, false] rfl (ih.2.2.2.2.2.2 0 h G R (by omega) (by omega) (by omega) (by omega) i0 (by rw [show l3 = 16 by omega] at i1; exact i1) (fun j q hj => absurd hj (Nat.not_lt_zero _)) (by omega))
  · refine z_iconst (M := M_X12_canBe) 161 dX12_canBe_161 ?_
    refine z_istore (M := M_X12_canBe) 162 dX12_canBe_162 (ls' := [some (mR 108), none, none, some (mI l3), some (mI 0), none]) (by decide) rfl ?_
    exact z_mask [true, false, false, true, true, false] rfl (ih.2.2.2.2.1 l3 0 h G R (by omega) (by omega) (by omega) (by omega) (by omega) (by omega) i0 (tS_0 G i1) (by omega))
set_option maxHeartbeats 4000000 in
set_option maxRecDepth 100000 in
theorem s_X12_canBe_164 (h0 : m_H) (a1 : Int) (G0 : GI h0) (hN : NP h0) (n : Nat) (ih : q_X12_canBe h0 a1 n) : ∀ (l3 l4 : Int) (h : m_H), GI h → FR [115, 116, 117, 118, 119, 120, 121, 124, 125, 126, 127, 128, 129, 130, 131, 132, 133, 134] [(108, 21)] h0 h → 0 ≤ l3 → l3 ≤ 15 → 0 ≤ l4 → l4 ≤ 16 → (-2147483648) ≤ a1 → a1 ≤ 2147483647 → (cbJ h (bL (h0 110) (h0 122) (h0 123) a1)) → (tS h (bL (h0 110) (h0 122) (h0 123) a1) l3 (16 * l4)) → 632 * (16 - l3) + 37 * (16 - l4) + (36) + (123) ≤ ((n + 1 : Nat) : Int) → m_Z oF M_X12_canBe 164 [some (mR 108), none, none, some (mI l3), some (mI l4), none] [] h (m_QI (P_X12_canBe h0 a1)) := by
  intro l3 l4 h G R v0 v1 v2 v3 v4 v5 i0 i1 hr
  have hE := bL_ok (ct := h0 123) (en := a1) G0 hN (fun j hj => g_122 G0 hj)
  refine z_iload (M := M_X12_canBe) 164 dX12_canBe_164 rfl ?_
  refine z_bipush (M := M_X12_canBe) 166 dX12_canBe_166 ?_
  refine z_icmp_ge (M := M_X12_canBe) 168 dX12_canBe_168 257 rfl (fun c1 => ?_) (fun c1 => ?_)
  · refine z_iincN (M := M_X12_canBe) 257 dX12_canBe_257 (ls' := [some (mR 108), none, none, some (mI (l3 + 1)), some (mI l4), none]) (by decide) rfl (by (unfold m_32; decide)) (by omega) (by omega) rfl ?_
    refine z_goto (M := M_X12_canBe) 260 dX12_canBe_260 155 rfl ?_
    exact z_mask [true, false, false, true, false, false] rfl (ih.2.2.2.1 (l3 + 1) h G R (by omega) (by omega) (by omega) (by omega) i0 (tS_end hE (by omega) (by omega) (by omega) i1) (by omega))
  · refine z_iconst (M := M_X12_canBe) 171 dX12_canBe_171 ?_
    refine z_istore (M := M_X12_canBe) 172 dX12_canBe_172 (ls' := [some (mR 108), none, none, some (mI l3), some (mI l4), some (mI 0)]) (by decide) rfl ?_
    exact z_mask [true, false, false, true, true, true] rfl (ih.2.2.2.2.2.1 l3 l4 0 h G R (by omega) (by omega) (by omega) (by omega) (by omega) (by omega) (by omega) (by omega) i0 (by rw [Int.add_zero]; exact i1) (by omega))
set_option maxHeartbeats 4000000 in
set_option maxRecDepth 100000 in
theorem s_X12_canBe_174 (h0 : m_H) (a1 : Int) (G0 : GI h0) (hN : NP h0) (n : Nat) (ih : q_X12_canBe h0 a1 n) : ∀ (l3 l4 l5 : Int) (h : m_H), GI h → FR [115, 116, 117, 118, 119, 120, 121, 124, 125, 126, 127, 128, 129, 130, 131, 132, 133, 134] [(108, 21)] h0 h → 0 ≤ l3 → l3 ≤ 15 → 0 ≤ l4 → l4 ≤ 15 → 0 ≤ l5 → l5 ≤ 16 → (-2147483648) ≤ a1 → a1 ≤ 2147483647 → (cbJ h (bL (h0 110) (h0 122) (h0 123) a1)) → (tS h (bL (h0 110) (h0 122) (h0 123) a1) l3 (16 * l4 + l5)) → 632 * (16 - l3) + 37 * (16 - l4) + 2 * (16 - l5) + (1) + (123) ≤ ((n + 1 : Nat) : Int) → m_Z oF M_X12_canBe 174 [some (mR 108), none, none, some (mI l3), some (mI l4), some (mI l5)] [] h (m_QI (P_X12_canBe h0 a1)) := by
  intro l3 l4 l5 h G R v0 v1 v2 v3 v4 v5 v6 v7 i0 i1 hr
  have hE := bL_ok (ct := h0 123) (en := a1) G0 hN (fun j hj => g_122 G0 hj)
  refine z_iload (M := M_X12_canBe) 174 dX12_canBe_174 rfl ?_
  refine z_bipush (M := M_X12_canBe) 176 dX12_canBe_176 ?_
  refine z_icmp_ge (M := M_X12_canBe) 178 dX12_canBe_178 251 rfl (fun c1 => ?_) (fun c1 => ?_)
  · refine z_iincN (M := M_X12_canBe) 251 dX12_canBe_251 (ls' := [some (mR 108), none, none, some (mI l3), some (mI (l4 + 1)), some (mI l5)]) (by decide) rfl (by (unfold m_32; decide)) (by omega) (by omega) rfl ?_
    refine z_goto (M := M_X12_canBe) 254 dX12_canBe_254 164 rfl ?_
    exact z_mask [true, false, false, true, true, false] rfl (ih.2.2.2.2.1 l3 (l4 + 1) h G R (by omega) (by omega) (by omega) (by omega) (by omega) (by omega) i0 (by rw [show 16 * (l4 + 1) = 16 * l4 + l5 by omega]; exact i1) (by omega))
  · refine z_aload_n (M := M_X12_canBe) 181 dX12_canBe_181 rfl ?_
    refine z_getR (M := M_X12_canBe) 182 dX12_canBe_182 f_X12_91 o_108 rfl (g_108_39 G) ?_
    refine z_bipush (M := M_X12_canBe) 185 dX12_canBe_185 ?_
    refine z_iload (M := M_X12_canBe) 187 dX12_canBe_187 rfl ?_
    refine z_imulN (M := M_X12_canBe) 189 dX12_canBe_189 (by omega) (by omega) ?_
    refine z_iload (M := M_X12_canBe) 190 dX12_canBe_190 rfl ?_
    refine z_iaddN (M := M_X12_canBe) 192 dX12_canBe_192 (by omega) (by omega) ?_
    refine z_aload_n (M := M_X12_canBe) 193 dX12_canBe_193 rfl ?_
    refine z_getR (M := M_X12_canBe) 194 dX12_canBe_194 f_X12_91 o_108 rfl (g_108_39 G) ?_
    refine z_bipush (M := M_X12_canBe) 197 dX12_canBe_197 ?_
    refine z_iload (M := M_X12_canBe) 199 dX12_canBe_199 rfl ?_
    refine z_imulN (M := M_X12_canBe) 201 dX12_canBe_201 (by omega) (by omega) ?_
    refine z_iload (M := M_X12_canBe) 202 dX12_canBe_202 rfl ?_
    refine z_iaddN (M := M_X12_canBe) 204 dX12_canBe_204 (by omega) (by omega) ?_
    refine z_zaldG (M := M_X12_canBe) 205 dX12_canBe_205 o_134 (by omega) (by omega) (g_134 G (by omega)) (fun x2 ex2 ax2 bx2 => ?_)
    refine z_if_ne (M := M_X12_canBe) 206 dX12_canBe_206 239 rfl (fun c3 => ?_) (fun c3 => ?_)
    · refine z_iconst (M := M_X12_canBe) 239 dX12_canBe_239 ?_
      refine z_goto (M := M_X12_canBe) 240 dX12_canBe_240 244 rfl ?_
      refine z_zastH (M := M_X12_canBe) 244 dX12_canBe_244 o_134 (by omega) (by omega) (by omega) (u_134 G (by omega) (by omega)) (R.up rfl) (fun h1 E1 G1 R1 => ?_)
      refine z_iincN (M := M_X12_canBe) 245 dX12_canBe_245 (ls' := [some (mR 108), none, none, some (mI l3), some (mI l4), some (mI (l5 + 1))]) (by decide) rfl (by (unfold m_32; decide)) (by omega) (by omega) rfl ?_
      refine z_goto (M := M_X12_canBe) 248 dX12_canBe_248 174 rfl ?_
      exact z_mask [true, false, false, true, true, true] rfl (ih.2.2.2.2.2.1 l3 l4 (l5 + 1) h1 G1 R1 (by omega) (by omega) (by omega) (by omega) (by omega) (by omega) (by omega) (by omega) (i0.put E1) (tS_step (by omega) (by omega) (by omega) (by omega) (by omega) (by omega) i1 (by omega) E1) (by omega))
    · refine z_aload_n (M := M_X12_canBe) 209 dX12_canBe_209 rfl ?_
      refine z_getR (M := M_X12_canBe) 210 dX12_canBe_210 f_X12_91 o_108 rfl (g_108_39 G) ?_
      refine z_bipush (M := M_X12_canBe) 213 dX12_canBe_213 ?_
      refine z_iload (M := M_X12_canBe) 215 dX12_canBe_215 rfl ?_
      refine z_imulN (M := M_X12_canBe) 217 dX12_canBe_217 (by omega) (by omega) ?_
      refine z_iload_n (M := M_X12_canBe) 218 dX12_canBe_218 rfl ?_
      refine z_iaddN (M := M_X12_canBe) 219 dX12_canBe_219 (by omega) (by omega) ?_
      refine z_zaldG (M := M_X12_canBe) 220 dX12_canBe_220 o_134 (by omega) (by omega) (g_134 G (by omega)) (fun x4 ex4 ax4 bx4 => ?_)
      refine z_if_eq (M := M_X12_canBe) 221 dX12_canBe_221 243 rfl (fun c5 => ?_) (fun c5 => ?_)
      · refine z_iconst (M := M_X12_canBe) 243 dX12_canBe_243 ?_
        refine z_zastH (M := M_X12_canBe) 244 dX12_canBe_244 o_134 (by omega) (by omega) (by omega) (u_134 G (by omega) (by omega)) (R.up rfl) (fun h2 E2 G2 R2 => ?_)
        refine z_iincN (M := M_X12_canBe) 245 dX12_canBe_245 (ls' := [some (mR 108), none, none, some (mI l3), some (mI l4), some (mI (l5 + 1))]) (by decide) rfl (by (unfold m_32; decide)) (by omega) (by omega) rfl ?_
        refine z_goto (M := M_X12_canBe) 248 dX12_canBe_248 174 rfl ?_
        exact z_mask [true, false, false, true, true, true] rfl (ih.2.2.2.2.2.1 l3 l4 (l5 + 1) h2 G2 R2 (by omega) (by omega) (by omega) (by omega) (by omega) (by omega) (by omega) (by omega) (i0.put E2) (tS_step (by omega) (by omega) (by omega) (by omega) (by omega) (by omega) i1 (by omega) E2) (by omega))
      · refine z_aload_n (M := M_X12_canBe) 224 dX12_canBe_224 rfl ?_
        refine z_getR (M := M_X12_canBe) 225 dX12_canBe_225 f_X12_91 o_108 rfl (g_108_39 G) ?_
        refine z_bipush (M := M_X12_canBe) 228 dX12_canBe_228 ?_
        refine z_iload_n (M := M_X12_canBe) 230 dX12_canBe_230 rfl ?_
        refine z_imulN (M := M_X12_canBe) 231 dX12_canBe_231 (by omega) (by omega) ?_
        refine z_iload (M := M_X12_canBe) 232 dX12_canBe_232 rfl ?_
        refine z_iaddN (M := M_X12_canBe) 234 dX12_canBe_234 (by omega) (by omega) ?_
        refine z_zaldG (M := M_X12_canBe) 235 dX12_canBe_235 o_134 (by omega) (by omega) (g_134 G (by omega)) (fun x6 ex6 ax6 bx6 => ?_)
        refine z_if_eq (M := M_X12_canBe) 236 dX12_canBe_236 243 rfl (fun c7 => ?_) (fun c7 => ?_)
        · refine z_iconst (M := M_X12_canBe) 243 dX12_canBe_243 ?_
          refine z_zastH (M := M_X12_canBe) 244 dX12_canBe_244 o_134 (by omega) (by omega) (by omega) (u_134 G (by omega) (by omega)) (R.up rfl) (fun h3 E3 G3 R3 => ?_)
          refine z_iincN (M := M_X12_canBe) 245 dX12_canBe_245 (ls' := [some (mR 108), none, none, some (mI l3), some (mI l4), some (mI (l5 + 1))]) (by decide) rfl (by (unfold m_32; decide)) (by omega) (by omega) rfl ?_
          refine z_goto (M := M_X12_canBe) 248 dX12_canBe_248 174 rfl ?_
          exact z_mask [true, false, false, true, true, true] rfl (ih.2.2.2.2.2.1 l3 l4 (l5 + 1) h3 G3 R3 (by omega) (by omega) (by omega) (by omega) (by omega) (by omega) (by omega) (by omega) (i0.put E3) (tS_step (by omega) (by omega) (by omega) (by omega) (by omega) (by omega) i1 (by omega) E3) (by omega))
        · refine z_iconst (M := M_X12_canBe) 239 dX12_canBe_239 ?_
          refine z_goto (M := M_X12_canBe) 240 dX12_canBe_240 244 rfl ?_
          refine z_zastH (M := M_X12_canBe) 244 dX12_canBe_244 o_134 (by omega) (by omega) (by omega) (u_134 G (by omega) (by omega)) (R.up rfl) (fun h4 E4 G4 R4 => ?_)
          refine z_iincN (M := M_X12_canBe) 245 dX12_canBe_245 (ls' := [some (mR 108), none, none, some (mI l3), some (mI l4), some (mI (l5 + 1))]) (by decide) rfl (by (unfold m_32; decide)) (by omega) (by omega) rfl ?_
          refine z_goto (M := M_X12_canBe) 248 dX12_canBe_248 174 rfl ?_
          exact z_mask [true, false, false, true, true, true] rfl (ih.2.2.2.2.2.1 l3 l4 (l5 + 1) h4 G4 R4 (by omega) (by omega) (by omega) (by omega) (by omega) (by omega) (by omega) (by omega) (i0.put E4) (tS_step (by omega) (by omega) (by omega) (by omega) (by omega) (by omega) i1 (by omega) E4) (by omega))
set_option maxHeartbeats 4000000 in
set_option maxRecDepth 100000 in
theorem s_X12_canBe_265 (h0 : m_H) (a1 : Int) (G0 : GI h0) (hN : NP h0) (n : Nat) (ih : q_X12_canBe h0 a1 n) : ∀ (l3 : Int) (h : m_H), GI h → FR [115, 116, 117, 118, 119, 120, 121, 124, 125, 126, 127, 128, 129, 130, 131, 132, 133, 134] [(108, 21)] h0 h → 0 ≤ l3 → l3 ≤ 60 → (-2147483648) ≤ a1 → a1 ≤ 2147483647 → (cbJ h (bL (h0 110) (h0 122) (h0 123) a1)) → (tA h (bL (h0 110) (h0 122) (h0 123) a1) 16) → (tO (aS h) (bL (h0 110) (h0 122) (h0 123) a1) (h 134) l3.toNat) → 2 * (60 - l3) + (1) ≤ ((n + 1 : Nat) : Int) → m_Z oF M_X12_canBe 265 [some (mR 108), none, none, some (mI l3), none, none] [] h (m_QI (P_X12_canBe h0 a1)) := by
  intro l3 h G R v0 v1 v2 v3 i0 i1 i2 hr
  have hE := bL_ok (ct := h0 123) (en := a1) G0 hN (fun j hj => g_122 G0 hj)
  refine z_iload_n (M := M_X12_canBe) 265 dX12_canBe_265 rfl ?_
  refine z_aload_n (M := M_X12_canBe) 266 dX12_canBe_266 rfl ?_
  refine z_getIG (M := M_X12_canBe) 267 dX12_canBe_267 f_X12_333 o_108 (by decide) (g_108_21 G) (fun x1 ex1 ax1 bx1 => ?_)
  refine z_icmp_ge (M := M_X12_canBe) 270 dX12_canBe_270 322 rfl (fun c2 => ?_) (fun c2 => ?_)
  · refine z_iconst (M := M_X12_canBe) 322 dX12_canBe_322 ?_
    exact z_retZ (M := M_X12_canBe) 323 dX12_canBe_323 rfl (by omega) ⟨G, R, by omega, by omega, cb_end hE i0 i1 i2 ex1 (by omega)⟩
  · refine z_aload_n (M := M_X12_canBe) 273 dX12_canBe_273 rfl ?_
    refine z_getR (M := M_X12_canBe) 274 dX12_canBe_274 f_X12_52 o_108 rfl (g_108_26 G) ?_
    refine z_iload_n (M := M_X12_canBe) 277 dX12_canBe_277 rfl ?_
    refine z_zaldG (M := M_X12_canBe) 278 dX12_canBe_278 o_121 (by omega) (by omega) (g_121 G (by omega)) (fun x3 ex3 ax3 bx3 => ?_)
    refine z_if_eq (M := M_X12_canBe) 279 dX12_canBe_279 316 rfl (fun c4 => ?_) (fun c4 => ?_)
    · refine z_iincN (M := M_X12_canBe) 316 dX12_canBe_316 (ls' := [some (mR 108), none, none, some (mI (l3 + 1)), none, none]) (by decide) rfl (by (unfold m_32; decide)) (by omega) (by omega) rfl ?_
      refine z_goto (M := M_X12_canBe) 319 dX12_canBe_319 265 rfl ?_
      exact z_mask [true, false, false, true, false, false] rfl (ih.2.2.2.2.2.2 (l3 + 1) h G R (by omega) (by omega) (by omega) (by omega) i0 i1 (tO_a i0 (by omega) i2 ex1 (by omega) ex3 (by omega)) (by omega))
    · refine z_aload_n (M := M_X12_canBe) 282 dX12_canBe_282 rfl ?_
      refine z_iload_n (M := M_X12_canBe) 283 dX12_canBe_283 rfl ?_
      refine z_vI (M := M_X12_canBe) 284 dX12_canBe_284 t_X12_isTight l_X12_364 (m_rr_of rfl) (rest := []) (c_X12_isTight h l3 (bL (h0 110) (h0 122) (h0 123) a1) G ⟨by omega, by omega⟩ i0.1 hE (by omega)) o_108 rfl rfl rfl (Nat.le_of_ble_eq_true rfl) ⟨rfl, rfl⟩ (fun x5 h1 qx5 => ?_)
      obtain ⟨G1, S1, ax5, bx5, fx5_0⟩ := qx5
      have R1 := R.call S1 (by decide +kernel)
      refine z_if_eq (M := M_X12_canBe) 287 dX12_canBe_287 316 rfl (fun c6 => ?_) (fun c6 => ?_)
      · refine z_iincN (M := M_X12_canBe) 316 dX12_canBe_316 (ls' := [some (mR 108), none, none, some (mI (l3 + 1)), none, none]) (by decide) rfl (by (unfold m_32; decide)) (by omega) (by omega) rfl ?_
        refine z_goto (M := M_X12_canBe) 319 dX12_canBe_319 265 rfl ?_
        exact z_mask [true, false, false, true, false, false] rfl (ih.2.2.2.2.2.2 (l3 + 1) h1 G1 R1 (by omega) (by omega) (by omega) (by omega) (i0.ti S1) (i1.ti S1) (tO_b hE i0 (by omega) i2 S1 fx5_0 (by omega)) (by omega))
      · refine z_aload_n (M := M_X12_canBe) 290 dX12_canBe_290 rfl ?_
        refine z_getR (M := M_X12_canBe) 291 dX12_canBe_291 f_X12_91 o_108 rfl (g_108_39 G1) ?_
        refine z_bipush (M := M_X12_canBe) 294 dX12_canBe_294 ?_
        refine z_aload_n (M := M_X12_canBe) 296 dX12_canBe_296 rfl ?_
        refine z_getR (M := M_X12_canBe) 297 dX12_canBe_297 f_X12_43 o_108 rfl (g_108_23 G1) ?_
        refine z_iload_n (M := M_X12_canBe) 300 dX12_canBe_300 rfl ?_
        refine z_ialdG (M := M_X12_canBe) 301 dX12_canBe_301 o_118 (by omega) (by omega) (g_118 G1 (by omega)) (fun x7 ex7 ax7 bx7 => ?_)
        refine z_imulN (M := M_X12_canBe) 302 dX12_canBe_302 (by omega) (by omega) ?_
        refine z_aload_n (M := M_X12_canBe) 303 dX12_canBe_303 rfl ?_
        refine z_getR (M := M_X12_canBe) 304 dX12_canBe_304 f_X12_40 o_108 rfl (g_108_22 G1) ?_
        refine z_iload_n (M := M_X12_canBe) 307 dX12_canBe_307 rfl ?_
        refine z_ialdG (M := M_X12_canBe) 308 dX12_canBe_308 o_117 (by omega) (by omega) (g_117 G1 (by omega)) (fun x8 ex8 ax8 bx8 => ?_)
        refine z_iaddN (M := M_X12_canBe) 309 dX12_canBe_309 (by omega) (by omega) ?_
        refine z_zaldG (M := M_X12_canBe) 310 dX12_canBe_310 o_134 (by omega) (by omega) (g_134 G1 (by omega)) (fun x9 ex9 ax9 bx9 => ?_)
        refine z_if_eq (M := M_X12_canBe) 311 dX12_canBe_311 316 rfl (fun c10 => ?_) (fun c10 => ?_)
        · refine z_iincN (M := M_X12_canBe) 316 dX12_canBe_316 (ls' := [some (mR 108), none, none, some (mI (l3 + 1)), none, none]) (by decide) rfl (by (unfold m_32; decide)) (by omega) (by omega) rfl ?_
          refine z_goto (M := M_X12_canBe) 319 dX12_canBe_319 265 rfl ?_
          exact z_mask [true, false, false, true, false, false] rfl (ih.2.2.2.2.2.2 (l3 + 1) h1 G1 R1 (by omega) (by omega) (by omega) (by omega) (i0.ti S1) (i1.ti S1) (tO_c i0 (by omega) i2 S1 ex1 (by omega) ex7 ex8 ex9 (by omega)) (by omega))
        · refine z_iconst (M := M_X12_canBe) 314 dX12_canBe_314 ?_
          exact z_retZ (M := M_X12_canBe) 315 dX12_canBe_315 rfl (by omega) ⟨G1, R1, by omega, by omega, cbQ_0⟩
theorem a_X12_canBe (h0 : m_H) (a1 : Int) (G0 : GI h0) (hN : NP h0) : ∀ n, q_X12_canBe h0 a1 n := by
  intro n
  induction n with
  | zero => unfold q_X12_canBe; refine ⟨?_, ?_, ?_, ?_, ?_, ?_, ?_⟩ <;> (intros; omega)
  | succ n ih => exact ⟨s_X12_canBe_14 h0 a1 G0 hN n ih, s_X12_canBe_44 h0 a1 G0 hN n ih, s_X12_canBe_81 h0 a1 G0 hN n ih, s_X12_canBe_155 h0 a1 G0 hN n ih, s_X12_canBe_164 h0 a1 G0 hN n ih, s_X12_canBe_174 h0 a1 G0 hN n ih, s_X12_canBe_265 h0 a1 G0 hN n ih⟩
set_option maxHeartbeats 4000000 in
set_option maxRecDepth 100000 in
theorem c_X12_canBe (h0 : m_H) (a1 : Int) (G0 : GI h0) (hN : NP h0) : m_CI M_X12_canBe [mR 108, mI a1] h0 (P_X12_canBe h0 a1) := by
  refine m_CI_of ⟨by decide, rfl, by simp [m_arg, m_isL, M_X12_canBe], ⟨rfl, rfl⟩, rfl, rfl⟩ (ls := [some (mR 108), some (mI a1), none, none, none, none]) rfl ?_
  have ih := a_X12_canBe h0 a1 G0 hN 11548
  refine z_ok (fun _ _ ok => ?_)
  have oa1 : m_32 a1 := ok 1 _ rfl
  unfold m_32 at oa1
  have hE := bL_ok (ct := h0 123) (en := a1) G0 hN (fun j hj => g_122 G0 hj)
  refine z_aload_n (M := M_X12_canBe) 0 dX12_canBe_0 rfl ?_
  refine z_iload_n (M := M_X12_canBe) 1 dX12_canBe_1 rfl ?_
  refine z_vV (M := M_X12_canBe) 2 dX12_canBe_2 t_X12_build l_X12_354 (m_rr_of rfl) (rest := []) (c_X12_build h0 a1 G0 (NP.call hN (FR.rf (cs := [115, 116, 117, 118, 119, 120, 121, 124, 125, 126, 127, 128, 129, 130, 131, 132, 133, 134]) (ss := [(108, 21)]) (h := h0)) (fun _ => rfl) (fun _ => rfl) (fun _ => rfl))) o_108 rfl rfl rfl (Nat.le_of_ble_eq_true rfl) ⟨rfl, rfl⟩ (fun h1 qx1 => ?_)
  obtain ⟨G1, S1, fx1_0⟩ := qx1
  have R1 := (FR.rf (cs := [115, 116, 117, 118, 119, 120, 121, 124, 125, 126, 127, 128, 129, 130, 131, 132, 133, 134]) (ss := [(108, 21)]) (h := h0)).call S1 (by decide +kernel)
  refine z_aload_n (M := M_X12_canBe) 5 dX12_canBe_5 rfl ?_
  refine z_iconst (M := M_X12_canBe) 6 dX12_canBe_6 ?_
  refine z_vV (M := M_X12_canBe) 7 dX12_canBe_7 t_X12_startAt l_X12_357 (m_rr_of rfl) (rest := []) (c_X12_startAtX h1 (-1) G1) o_108 rfl rfl rfl (Nat.le_of_ble_eq_true rfl) ⟨rfl, rfl⟩ (fun h2 qx2 => ?_)
  obtain ⟨G2, S2, fx2_0⟩ := qx2
  have R2 := R1.call S2 (by decide +kernel)
  refine z_iconst (M := M_X12_canBe) 10 dX12_canBe_10 ?_
  refine z_istore_n (M := M_X12_canBe) 11 dX12_canBe_11 (ls' := [some (mR 108), some (mI a1), some (mI 1), none, none, none]) (by decide) rfl ?_
  refine z_iconst (M := M_X12_canBe) 12 dX12_canBe_12 ?_
  refine z_istore_n (M := M_X12_canBe) 13 dX12_canBe_13 (ls' := [some (mR 108), some (mI a1), some (mI 1), some (mI 0), none, none]) (by decide) rfl ?_
  exact z_mask [true, false, true, true, false, false] rfl (ih.1 1 0 h2 G2 R2 (by omega) (by omega) (by omega) (by omega) (by omega) (by omega) (cb_0 (AR.call fx1_0 S2 rfl (fun _ => rfl) (fun _ => rfl) (fun _ => rfl) (fun _ => rfl) (fun _ => rfl)) fx2_0) (by omega))
abbrev P_X12_canBeNow (h0 : m_H) : Int → m_H → Prop := fun x h' => GI h' ∧ FR [115, 116, 117, 118, 119, 120, 121, 122, 123, 124, 125, 126, 127, 128, 129, 130, 131, 132, 133, 134] [(108, 21)] h0 h' ∧ 0 ≤ x ∧ x ≤ 1 ∧ cbQ x (bR (h0 110))
set_option maxHeartbeats 4000000 in
set_option maxRecDepth 100000 in
theorem c_X12_canBeNow (h0 : m_H) (G0 : GI h0) (hN : NP h0) : m_CI M_X12_canBeNow [mR 108] h0 (P_X12_canBeNow h0) := by
  refine m_CI_of ⟨by decide, rfl, by simp [m_arg, m_isL, M_X12_canBeNow], ⟨rfl, rfl⟩, rfl, rfl⟩ (ls := [some (mR 108)]) rfl ?_
  refine z_aload_n (M := M_X12_canBeNow) 0 dX12_canBeNow_0 rfl ?_
  refine z_vV (M := M_X12_canBeNow) 1 dX12_canBeNow_1 t_X12_asIs l_X12_367 (m_rr_of rfl) (rest := []) (c_X12_asIsX h0 G0) o_108 rfl rfl rfl (Nat.le_of_ble_eq_true rfl) ⟨rfl, rfl⟩ (fun h1 qx1 => ?_)
  obtain ⟨G1, S1, fx1_0⟩ := qx1
  have R1 := (FR.rf (cs := [115, 116, 117, 118, 119, 120, 121, 122, 123, 124, 125, 126, 127, 128, 129, 130, 131, 132, 133, 134]) (ss := [(108, 21)]) (h := h0)).call S1 (by decide +kernel)
  refine z_aload_n (M := M_X12_canBeNow) 4 dX12_canBeNow_4 rfl ?_
  refine z_aload_n (M := M_X12_canBeNow) 5 dX12_canBeNow_5 rfl ?_
  refine z_vI (M := M_X12_canBeNow) 6 dX12_canBeNow_6 t_X12_counting l_X12_370 (m_rr_of rfl) (rest := [mR 108]) (c_X12_countingX h1 G1) o_108 rfl rfl rfl (Nat.le_of_ble_eq_true rfl) ⟨rfl, rfl⟩ (fun x2 h2 qx2 => ?_)
  obtain ⟨G2, S2, fx2_0⟩ := qx2
  have R2 := R1.call S2 (by decide +kernel)
  refine z_ok (fun ox2 _ _ => ?_)
  have ox2 := ox2.1; unfold m_ok m_32 at ox2
  refine z_vI (M := M_X12_canBeNow) 9 dX12_canBeNow_9 t_X12_canBe l_X12_374 (m_rr_of rfl) (rest := []) (c_X12_canBe h2 x2 G2 (NP.call hN R2 (fun _ => rfl) (fun _ => rfl) (fun _ => rfl))) o_108 rfl rfl rfl (Nat.le_of_ble_eq_true rfl) ⟨rfl, rfl⟩ (fun x3 h3 qx3 => ?_)
  obtain ⟨G3, S3, ax3, bx3, fx3_0⟩ := qx3
  have R3 := R2.call S3 (by decide +kernel)
  exact z_retZ (M := M_X12_canBeNow) 12 dX12_canBeNow_12 rfl (by omega) ⟨G3, R3, by omega, by omega, by have q := fx3_0; rw [bR_eq G0 (fun j => (S2 110 j rfl).trans (S1 110 j rfl)) ⟨fun j hj => (S2 122 j rfl).trans (fx1_0.1 j hj), fun j hj => (S2 123 j rfl).trans (fx1_0.2 j hj)⟩ (fx2_0.trans (congrArg cF (FR.row S1 (fun _ => rfl))))] at q; exact q⟩
abbrev P_X12_goFrom (h0 : m_H) (a1 : Int) : m_H → Prop := fun h' => GI h' ∧ FR [115, 116, 117, 118, 119, 120, 121, 122, 123, 124, 125, 126, 127, 128, 129, 130, 131, 132, 133] [(108, 21)] h0 h' ∧ goQ h'
def q_X12_goFrom (h0 : m_H) (a1 : Int) (n : Nat) : Prop := (∀ (l2 kk : Int) (h : m_H), GI h → FR [115, 116, 117, 118, 119, 120, 121, 122, 123, 124, 125, 126, 127, 128, 129, 130, 131, 132, 133] [(108, 21)] h0 h → 0 ≤ l2 → l2 ≤ 1 → (gfI h (bR (h0 110)) kk l2) → (0 ≤ kk ∧ kk ≤ 16) → 2 * (16 - kk) + (1) ≤ (n : Int) → m_Z oF M_X12_goFrom 19 [some (mR 108), none, some (mI l2)] [] h (m_QV (P_X12_goFrom h0 a1)))
set_option maxHeartbeats 4000000 in
set_option maxRecDepth 100000 in
theorem s_X12_goFrom_19 (h0 : m_H) (a1 : Int) (G0 : GI h0) (pa1 : 0 ≤ a1 ∧ a1 ≤ 15) (hN : NP h0) (hG : gG (bR (h0 110))) (n : Nat) (ih : q_X12_goFrom h0 a1 n) : ∀ (l2 kk : Int) (h : m_H), GI h → FR [115, 116, 117, 118, 119, 120, 121, 122, 123, 124, 125, 126, 127, 128, 129, 130, 131, 132, 133] [(108, 21)] h0 h → 0 ≤ l2 → l2 ≤ 1 → (gfI h (bR (h0 110)) kk l2) → (0 ≤ kk ∧ kk ≤ 16) → 2 * (16 - kk) + (1) ≤ ((n + 1 : Nat) : Int) → m_Z oF M_X12_goFrom 19 [some (mR 108), none, some (mI l2)] [] h (m_QV (P_X12_goFrom h0 a1)) := by
  intro l2 kk h G R v0 v1 i0 i1 hr
  refine z_iload_n (M := M_X12_goFrom) 19 dX12_goFrom_19 rfl ?_
  refine z_if_eq (M := M_X12_goFrom) 20 dX12_goFrom_20 32 rfl (fun c1 => ?_) (fun c1 => ?_)
  · exact z_retV (M := M_X12_goFrom) 32 dX12_goFrom_32 rfl ⟨G, R, gf_end i0⟩
  · have k15 := gf_k i0 (by omega)
    refine z_aload_n (M := M_X12_goFrom) 23 dX12_goFrom_23 rfl ?_
    refine z_iconst (M := M_X12_goFrom) 24 dX12_goFrom_24 ?_
    refine z_vI (M := M_X12_goFrom) 25 dX12_goFrom_25 t_X12_round l_X12_360 (m_rr_of rfl) (rest := []) (c_X12_round h 1 (bR (h0 110)) G ⟨by omega, by omega⟩ i0.1 (bR_ok G0 hN)) o_108 rfl rfl rfl (Nat.le_of_ble_eq_true rfl) ⟨rfl, rfl⟩ (fun x2 h1 qx2 => ?_)
    obtain ⟨G1, S1, ax2, bx2, fx2_0, fx2_1⟩ := qx2
    have R1 := R.call S1 (by decide +kernel)
    refine z_istore_n (M := M_X12_goFrom) 28 dX12_goFrom_28 (ls' := [some (mR 108), none, some (mI x2)]) (by decide) rfl ?_
    refine z_goto (M := M_X12_goFrom) 29 dX12_goFrom_29 19 rfl ?_
    exact z_mask [true, false, true] rfl (ih x2 (kk + 1) h1 G1 R1 (by omega) (by omega) (gf_step (bR_ok G0 hN) (by omega) i0 (AR.call i0.1 S1 rfl (fun _ => rfl) (fun _ => rfl) (fun _ => rfl) (fun _ => rfl) (fun _ => rfl)) fx2_0 fx2_1) (by omega) (by omega))
theorem a_X12_goFrom (h0 : m_H) (a1 : Int) (G0 : GI h0) (pa1 : 0 ≤ a1 ∧ a1 ≤ 15) (hN : NP h0) (hG : gG (bR (h0 110))) : ∀ n, q_X12_goFrom h0 a1 n := by
  intro n
  induction n with
  | zero => unfold q_X12_goFrom; intros; omega
  | succ n ih => exact s_X12_goFrom_19 h0 a1 G0 pa1 hN hG n ih
set_option maxHeartbeats 4000000 in
set_option maxRecDepth 100000 in
theorem c_X12_goFrom (h0 : m_H) (a1 : Int) (G0 : GI h0) (pa1 : 0 ≤ a1 ∧ a1 ≤ 15) (hN : NP h0) (hG : gG (bR (h0 110))) : m_CV M_X12_goFrom [mR 108, mI a1] h0 (P_X12_goFrom h0 a1) := by
  refine m_CV_of ⟨by decide, rfl, by simp [m_arg, m_isL, M_X12_goFrom], ⟨rfl, rfl⟩, rfl, rfl⟩ (ls := [some (mR 108), some (mI a1), none]) rfl ?_
  have ih := a_X12_goFrom h0 a1 G0 pa1 hN hG 40
  refine z_aload_n (M := M_X12_goFrom) 0 dX12_goFrom_0 rfl ?_
  refine z_vV (M := M_X12_goFrom) 1 dX12_goFrom_1 t_X12_asIs l_X12_367 (m_rr_of rfl) (rest := []) (c_X12_asIsX h0 G0) o_108 rfl rfl rfl (Nat.le_of_ble_eq_true rfl) ⟨rfl, rfl⟩ (fun h1 qx1 => ?_)
  obtain ⟨G1, S1, fx1_0⟩ := qx1
  have R1 := (FR.rf (cs := [115, 116, 117, 118, 119, 120, 121, 122, 123, 124, 125, 126, 127, 128, 129, 130, 131, 132, 133]) (ss := [(108, 21)]) (h := h0)).call S1 (by decide +kernel)
  refine z_aload_n (M := M_X12_goFrom) 4 dX12_goFrom_4 rfl ?_
  refine z_aload_n (M := M_X12_goFrom) 5 dX12_goFrom_5 rfl ?_
  refine z_vI (M := M_X12_goFrom) 6 dX12_goFrom_6 t_X12_counting l_X12_370 (m_rr_of rfl) (rest := [mR 108]) (c_X12_countingX h1 G1) o_108 rfl rfl rfl (Nat.le_of_ble_eq_true rfl) ⟨rfl, rfl⟩ (fun x2 h2 qx2 => ?_)
  obtain ⟨G2, S2, fx2_0⟩ := qx2
  have R2 := R1.call S2 (by decide +kernel)
  refine z_ok (fun ox2 _ _ => ?_)
  have ox2 := ox2.1; unfold m_ok m_32 at ox2
  refine z_vV (M := M_X12_goFrom) 9 dX12_goFrom_9 t_X12_build l_X12_354 (m_rr_of rfl) (rest := []) (c_X12_build h2 x2 G2 (NP.call hN R2 (fun _ => rfl) (fun _ => rfl) (fun _ => rfl))) o_108 rfl rfl rfl (Nat.le_of_ble_eq_true rfl) ⟨rfl, rfl⟩ (fun h3 qx3 => ?_)
  obtain ⟨G3, S3, fx3_0⟩ := qx3
  have R3 := R2.call S3 (by decide +kernel)
  refine z_aload_n (M := M_X12_goFrom) 12 dX12_goFrom_12 rfl ?_
  refine z_iload_n (M := M_X12_goFrom) 13 dX12_goFrom_13 rfl ?_
  refine z_vV (M := M_X12_goFrom) 14 dX12_goFrom_14 t_X12_startAt l_X12_357 (m_rr_of rfl) (rest := []) (c_X12_startAtX h3 a1 G3) o_108 rfl rfl rfl (Nat.le_of_ble_eq_true rfl) ⟨rfl, rfl⟩ (fun h4 qx4 => ?_)
  obtain ⟨G4, S4, fx4_0⟩ := qx4
  have R4 := R3.call S4 (by decide +kernel)
  refine z_iconst (M := M_X12_goFrom) 17 dX12_goFrom_17 ?_
  refine z_istore_n (M := M_X12_goFrom) 18 dX12_goFrom_18 (ls' := [some (mR 108), some (mI a1), some (mI 1)]) (by decide) rfl ?_
  exact z_mask [true, false, true] rfl (ih 1 0 h4 G4 R4 (by omega) (by omega) (gf_0 (bR_ok G0 hN) hG (AR.call (bR_of G0 (fun j => (S2 110 j rfl).trans (S1 110 j rfl)) ⟨fun j hj => (S2 122 j rfl).trans (fx1_0.1 j hj), fun j hj => (S2 123 j rfl).trans (fx1_0.2 j hj)⟩ (fx2_0.trans (congrArg cF (FR.row S1 (fun _ => rfl)))) fx3_0) S4 rfl (fun _ => rfl) (fun _ => rfl) (fun _ => rfl) (fun _ => rfl) (fun _ => rfl)) (by omega) (by omega) fx4_0) (by omega) (by omega))
