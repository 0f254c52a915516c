abbrev P_X12_isTight (h0 : m_H) (a1 : Int) (L : List gE) : Int → m_H → Prop := fun x h' => GI h' ∧ FR [115, 116, 132, 133] [] h0 h' ∧ 0 ≤ x ∧ x ≤ 1 ∧ tiQ x (aS h0) L a1
set_option maxHeartbeats 4000000 in
set_option maxRecDepth 100000 in
theorem c_X12_isTight (h0 : m_H) (a1 : Int) (L : List gE) (G0 : GI h0) (pa1 : 0 ≤ a1 ∧ a1 ≤ 59) (hA : AR h0 L) (hE : ∀ q ∈ L, gEo q) (hl : a1 < h0 108 21) : m_CI M_X12_isTight [mR 108, mI a1] h0 (P_X12_isTight h0 a1 L) := by
  refine m_CI_of ⟨by decide, rfl, by simp [m_arg, m_isL, M_X12_isTight], ⟨rfl, rfl⟩, rfl, rfl⟩ (ls := [some (mR 108), some (mI a1)]) rfl ?_
  refine z_aload_n (M := M_X12_isTight) 0 dX12_isTight_0 rfl ?_
  refine z_getR (M := M_X12_isTight) 1 dX12_isTight_1 f_X12_85 o_108 rfl (g_108_37 G0) ?_
  refine z_iconst (M := M_X12_isTight) 4 dX12_isTight_4 ?_
  refine z_aload_n (M := M_X12_isTight) 5 dX12_isTight_5 rfl ?_
  refine z_getR (M := M_X12_isTight) 6 dX12_isTight_6 f_X12_61 o_108 rfl (g_108_29 G0) ?_
  refine z_iconst (M := M_X12_isTight) 9 dX12_isTight_9 ?_
  refine z_aload_n (M := M_X12_isTight) 10 dX12_isTight_10 rfl ?_
  refine z_getR (M := M_X12_isTight) 11 dX12_isTight_11 f_X12_40 o_108 rfl (g_108_22 G0) ?_
  refine z_iload_n (M := M_X12_isTight) 14 dX12_isTight_14 rfl ?_
  refine z_ialdG (M := M_X12_isTight) 15 dX12_isTight_15 o_117 (by omega) (by omega) (g_117 G0 (by omega)) (fun x1 ex1 ax1 bx1 => ?_)
  refine z_imulN (M := M_X12_isTight) 16 dX12_isTight_16 (by omega) (by omega) ?_
  refine z_aload_n (M := M_X12_isTight) 17 dX12_isTight_17 rfl ?_
  refine z_getR (M := M_X12_isTight) 18 dX12_isTight_18 f_X12_46 o_108 rfl (g_108_24 G0) ?_
  refine z_iload_n (M := M_X12_isTight) 21 dX12_isTight_21 rfl ?_
  refine z_ialdG (M := M_X12_isTight) 22 dX12_isTight_22 o_119 (by omega) (by omega) (g_119 G0 (by omega)) (fun x2 ex2 ax2 bx2 => ?_)
  refine z_sV (M := M_X12_isTight) 23 dX12_isTight_23 t_X12_times l_X12_346 (m_rr_of rfl) (rest := []) (c_X12_timesU h0 0 (5 * x1) x2 G0 ⟨by omega, by omega⟩ ⟨by omega, by omega⟩ ⟨by omega, by omega⟩) rfl rfl (Nat.le_of_ble_eq_true rfl) ⟨rfl, rfl⟩ (fun h1 qx3 => ?_)
  obtain ⟨G1, S1, fx3_0⟩ := qx3
  have R1 := (FR.rf (cs := [115, 116, 132, 133]) (ss := []) (h := h0)).call S1 (by decide +kernel)
  refine z_aload_n (M := M_X12_isTight) 26 dX12_isTight_26 rfl ?_
  refine z_getR (M := M_X12_isTight) 27 dX12_isTight_27 f_X12_88 o_108 rfl (g_108_38 G1) ?_
  refine z_iconst (M := M_X12_isTight) 30 dX12_isTight_30 ?_
  refine z_aload_n (M := M_X12_isTight) 31 dX12_isTight_31 rfl ?_
  refine z_getR (M := M_X12_isTight) 32 dX12_isTight_32 f_X12_64 o_108 rfl (g_108_30 G1) ?_
  refine z_iconst (M := M_X12_isTight) 35 dX12_isTight_35 ?_
  refine z_aload_n (M := M_X12_isTight) 36 dX12_isTight_36 rfl ?_
  refine z_getR (M := M_X12_isTight) 37 dX12_isTight_37 f_X12_40 o_108 rfl (g_108_22 G1) ?_
  refine z_iload_n (M := M_X12_isTight) 40 dX12_isTight_40 rfl ?_
  refine z_ialdG (M := M_X12_isTight) 41 dX12_isTight_41 o_117 (by omega) (by omega) (g_117 G1 (by omega)) (fun x4 ex4 ax4 bx4 => ?_)
  refine z_imulN (M := M_X12_isTight) 42 dX12_isTight_42 (by omega) (by omega) ?_
  refine z_aload_n (M := M_X12_isTight) 43 dX12_isTight_43 rfl ?_
  refine z_getR (M := M_X12_isTight) 44 dX12_isTight_44 f_X12_49 o_108 rfl (g_108_25 G1) ?_
  refine z_iload_n (M := M_X12_isTight) 47 dX12_isTight_47 rfl ?_
  refine z_ialdG (M := M_X12_isTight) 48 dX12_isTight_48 o_120 (by omega) (by omega) (g_120 G1 (by omega)) (fun x5 ex5 ax5 bx5 => ?_)
  refine z_sV (M := M_X12_isTight) 49 dX12_isTight_49 t_X12_times l_X12_346 (m_rr_of rfl) (rest := []) (c_X12_timesL h1 0 (5 * x4) x5 G1 ⟨by omega, by omega⟩ ⟨by omega, by omega⟩ ⟨by omega, by omega⟩) rfl rfl (Nat.le_of_ble_eq_true rfl) ⟨rfl, rfl⟩ (fun h2 qx6 => ?_)
  obtain ⟨G2, S2, fx6_0⟩ := qx6
  have R2 := R1.call S2 (by decide +kernel)
  refine z_aload_n (M := M_X12_isTight) 52 dX12_isTight_52 rfl ?_
  refine z_aload_n (M := M_X12_isTight) 53 dX12_isTight_53 rfl ?_
  refine z_getR (M := M_X12_isTight) 54 dX12_isTight_54 f_X12_85 o_108 rfl (g_108_37 G2) ?_
  refine z_aload_n (M := M_X12_isTight) 57 dX12_isTight_57 rfl ?_
  refine z_getR (M := M_X12_isTight) 58 dX12_isTight_58 f_X12_88 o_108 rfl (g_108_38 G2) ?_
  refine z_iconst (M := M_X12_isTight) 61 dX12_isTight_61 ?_
  refine z_aload_n (M := M_X12_isTight) 62 dX12_isTight_62 rfl ?_
  refine z_getR (M := M_X12_isTight) 63 dX12_isTight_63 f_X12_61 o_108 rfl (g_108_29 G2) ?_
  refine z_aload_n (M := M_X12_isTight) 66 dX12_isTight_66 rfl ?_
  refine z_getR (M := M_X12_isTight) 67 dX12_isTight_67 f_X12_64 o_108 rfl (g_108_30 G2) ?_
  refine z_iconst (M := M_X12_isTight) 70 dX12_isTight_70 ?_
  refine z_aload_n (M := M_X12_isTight) 71 dX12_isTight_71 rfl ?_
  refine z_getR (M := M_X12_isTight) 72 dX12_isTight_72 f_X12_43 o_108 rfl (g_108_23 G2) ?_
  refine z_iload_n (M := M_X12_isTight) 75 dX12_isTight_75 rfl ?_
  refine z_ialdG (M := M_X12_isTight) 76 dX12_isTight_76 o_118 (by omega) (by omega) (g_118 G2 (by omega)) (fun x7 ex7 ax7 bx7 => ?_)
  refine z_imulN (M := M_X12_isTight) 77 dX12_isTight_77 (by omega) (by omega) ?_
  refine z_vI (M := M_X12_isTight) 78 dX12_isTight_78 t_X12_compare l_X12_350 (m_rr_of rfl) (rest := []) (c_X12_compareB h2 0 (5 * x7) G2 ⟨by omega, by omega⟩ ⟨by omega, by omega⟩) o_108 rfl rfl rfl (Nat.le_of_ble_eq_true rfl) ⟨rfl, rfl⟩ (fun x8 h3 qx8 => ?_)
  obtain ⟨G3, S3, ax8, bx8, fx8_0⟩ := qx8
  have R3 := R2.call S3 (by decide +kernel)
  refine z_if_ne (M := M_X12_isTight) 81 dX12_isTight_81 88 rfl (fun c9 => ?_) (fun c9 => ?_)
  · refine z_iconst (M := M_X12_isTight) 88 dX12_isTight_88 ?_
    exact z_retZ (M := M_X12_isTight) 89 dX12_isTight_89 rfl (by omega) ⟨G3, R3, by omega, by omega, tiQ_0 (ti_of hE hA (by omega) rfl (by omega) ex1 ex2 S1 fx3_0 ex4 ex5 S2 fx6_0 ex7 rfl fx8_0) (by omega) rfl⟩
  · refine z_iconst (M := M_X12_isTight) 84 dX12_isTight_84 ?_
    refine z_goto (M := M_X12_isTight) 85 dX12_isTight_85 89 rfl ?_
    exact z_retZ (M := M_X12_isTight) 89 dX12_isTight_89 rfl (by omega) ⟨G3, R3, by omega, by omega, tiQ_1 (ti_of hE hA (by omega) rfl (by omega) ex1 ex2 S1 fx3_0 ex4 ex5 S2 fx6_0 ex7 rfl fx8_0) (by omega) rfl⟩
abbrev P_X12_canBe (h0 : m_H) (a1 : Int) : Int → m_H → Prop := fun x h' => GI h' ∧ FR [115, 116, 117, 118, 119, 120, 121, 124, 125, 126, 127, 128, 129, 130, 131, 132, 133, 134] [(108, 21)] h0 h' ∧ 0 ≤ x ∧ x ≤ 1 ∧ cbQ x (bL (h0 110) (h0 122) (h0 123) a1)
def q_X12_canBe (h0 : m_H) (a1 : Int) (n : Nat) : Prop := (∀ (l2 l3 : Int) (h : m_H), GI h → FR [115, 116, 117, 118, 119, 120, 121, 124, 125, 126, 127, 128, 129, 130, 131, 132, 133, 134] [(108, 21)] h0 h → 0 ≤ l2 → l2 ≤ 1 → 0 ≤ l3 → l3 ≤ 17 → (-2147483648) ≤ a1 → a1 ≤ 2147483647 → (cbI h (bL (h0 110) (h0 122) (h0 123) a1) l3 l2) → 2 * (17 - l3) + (11507) ≤ (n : Int) → m_Z oF M_X12_canBe 14 [some (mR 108), none, some (mI l2), some (mI l3), none, none] [] h (m_QI (P_X12_canBe h0 a1))) ∧ (∀ (l3 : Int) (h : m_H), GI h → FR [115, 116, 117, 118, 119, 120, 121, 124, 125, 126, 127, 128, 129, 130, 131, 132, 133, 134] [(108, 21)] h0 h → 0 ≤ l3 → l3 ≤ 256 → (-2147483648) ≤ a1 → a1 ≤ 2147483647 → (cbJ h (bL (h0 110) (h0 122) (h0 123) a1)) → (tR (h 134) l3) → 2 * (256 - l3) + (10992) ≤ (n : Int) → m_Z oF M_X12_canBe 44 [some (mR 108), none, none, some (mI l3), none, none] [] h (m_QI (P_X12_canBe h0 a1))) ∧ (∀ (l3 : Int) (h : m_H), GI h → FR [115, 116, 117, 118, 119, 120, 121, 124, 125, 126, 127, 128, 129, 130, 131, 132, 133, 134] [(108, 21)] h0 h → 0 ≤ l3 → l3 ≤ 60 → (-2147483648) ≤ a1 → a1 ≤ 2147483647 → (cbJ h (bL (h0 110) (h0 122) (h0 123) a1)) → (tR (h 134) 256) → (tE (aS h) (bL (h0 110) (h0 122) (h0 123) a1) (h 134) l3.toNat) → 2 * (60 - l3) + (10869) ≤ (n : Int) → m_Z oF M_X12_canBe 81 [some (mR 108), none, none, some (mI l3), none, none] [] h (m_QI (P_X12_canBe h0 a1))) ∧ (∀ (l3 : Int) (h : m_H), GI h → FR [115, 116, 117, 118, 119, 120, 121, 124, 125, 126, 127, 128, 129, 130, 131, 132, 133, 134] [(108, 21)] h0 h → 0 ≤ l3 → l3 ≤ 16 → (-2147483648) ≤ a1 → a1 ≤ 2147483647 → (cbJ h (bL (h0 110) (h0 122) (h0 123) a1)) → (tA h (bL (h0 110) (h0 122) (h0 123) a1) l3.toNat) → 632 * (16 - l3) + (754) ≤ (n : Int) → m_Z oF M_X12_canBe 155 [some (mR 108), none, none, some (mI l3), none, none] [] h (m_QI (P_X12_canBe h0 a1))) ∧ (∀ (l3 l4 : Int) (h : m_H), GI h → FR [115, 116, 117, 118, 119, 120, 121, 124, 125, 126, 127, 128, 129, 130, 131, 132, 133, 134] [(108, 21)] h0 h → 0 ≤ l3 → l3 ≤ 15 → 0 ≤ l4 → l4 ≤ 16 → (-2147483648) ≤ a1 → a1 ≤ 2147483647 → (cbJ h (bL (h0 110) (h0 122) (h0 123) a1)) → (tS h (bL (h0 110) (h0 122) (h0 123) a1) l3 (16 * l4)) → 632 * (16 - l3) + 37 * (16 - l4) + (36) + (123) ≤ (n : Int) → m_Z oF M_X12_canBe 164 [some (mR 108), none, none, some (mI l3), some (mI l4), none] [] h (m_QI (P_X12_canBe h0 a1))) ∧ (∀ (l3 l4 l5 : Int) (h : m_H), GI h → FR [115, 116, 117, 118, 119, 120, 121, 124, 125, 126, 127, 128, 129, 130, 131, 132, 133, 134] [(108, 21)] h0 h → 0 ≤ l3 → l3 ≤ 15 → 0 ≤ l4 → l4 ≤ 15 → 0 ≤ l5 → l5 ≤ 16 → (-2147483648) ≤ a1 → a1 ≤ 2147483647 → (cbJ h (bL (h0 110) (h0 122) (h0 123) a1)) → (tS h (bL (h0 110) (h0 122) (h0 123) a1) l3 (16 * l4 + l5)) → 632 * (16 - l3) + 37 * (16 - l4) + 2 * (16 - l5) + (1) + (123) ≤ (n : Int) → m_Z oF M_X12_canBe 174 [some (mR 108), none, none, some (mI l3), some (mI l4), some (mI l5)] [] h (m_QI (P_X12_canBe h0 a1))) ∧ (∀ (l3 : Int) (h : m_H), GI h → FR [115, 116, 117, 118, 119, 120, 121, 124, 125, 126, 127, 128, 129, 130, 131, 132, 133, 134] [(108, 21)] h0 h → 0 ≤ l3 → l3 ≤ 60 → (-2147483648) ≤ a1 → a1 ≤ 2147483647 → (cbJ h (bL (h0 110) (h0 122) (h0 123) a1)) → (tA h (bL (h0 110) (h0 122) (h0 123) a1) 16) → (tO (aS h) (bL (h0 110) (h0 122) (h0 123) a1) (h 134) l3.toNat) → 2 * (60 - l3) + (1) ≤ (n : Int) → m_Z oF M_X12_canBe 265 [some (mR 108), none, none, some (mI l3), none, none] [] h (m_QI (P_X12_canBe h0 a1)))
set_option maxHeartbeats 4000000 in
set_option maxRecDepth 100000 in
theorem s_X12_canBe_14 (h0 : m_H) (a1 : Int) (G0 : GI h0) (hN : NP h0) (n : Nat) (ih : q_X12_canBe h0 a1 n) : ∀ (l2 l3 : Int) (h : m_H), GI h → FR [115, 116, 117, 118, 119, 120, 121, 124, 125, 126, 127, 128, 129, 130, 131, 132, 133, 134] [(108, 21)] h0 h → 0 ≤ l2 → l2 ≤ 1 → 0 ≤ l3 → l3 ≤ 17 → (-2147483648) ≤ a1 → a1 ≤ 2147483647 → (cbI h (bL (h0 110) (h0 122) (h0 123) a1) l3 l2) → 2 * (17 - l3) + (11507) ≤ ((n + 1 : Nat) : Int) → m_Z oF M_X12_canBe 14 [some (mR 108), none, some (mI l2), some (mI l3), none, none] [] h (m_QI (P_X12_canBe h0 a1)) := by
  intro l2 l3 h G R v0 v1 v2 v3 v4 v5 i0 hr
  have hE := bL_ok (ct := h0 123) (en := a1) G0 hN (fun j hj => g_122 G0 hj)
  refine z_iload_n (M := M_X12_canBe) 14 dX12_canBe_14 rfl ?_
  refine z_bipush (M := M_X12_canBe) 15 dX12_canBe_15 ?_
  refine z_icmp_ge (M := M_X12_canBe) 17 dX12_canBe_17 36 rfl (fun c1 => ?_) (fun c1 => ?_)
  · refine z_iload_n (M := M_X12_canBe) 36 dX12_canBe_36 rfl ?_
    refine z_if_eq (M := M_X12_canBe) 37 dX12_canBe_37 42 rfl (fun c2 => ?_) (fun c2 => ?_)
    · refine z_iconst (M := M_X12_canBe) 42 dX12_canBe_42 ?_
      refine z_istore_n (M := M_X12_canBe) 43 dX12_canBe_43 (ls' := [some (mR 108), none, some (mI l2), some (mI 0), none, none]) (by decide) rfl ?_
      exact z_mask [true, false, false, true, false, false] rfl (ih.2.1 0 h G R (by omega) (by omega) (by omega) (by omega) (cbJ_of i0 (by omega)) (fun i hi hn => by omega) (by omega))
    · refine z_iconst (M := M_X12_canBe) 40 dX12_canBe_40 ?_
      exact z_retZ (M := M_X12_canBe) 41 dX12_canBe_41 rfl (by omega) ⟨G, R, by omega, by omega, cbQ_0⟩
  · refine z_iload_n (M := M_X12_canBe) 20 dX12_canBe_20 rfl ?_
    refine z_if_eq (M := M_X12_canBe) 21 dX12_canBe_21 36 rfl (fun c3 => ?_) (fun c3 => ?_)
    · refine z_iload_n (M := M_X12_canBe) 36 dX12_canBe_36 rfl ?_
      refine z_if_eq_T (M := M_X12_canBe) 37 dX12_canBe_37 42 rfl (by omega) ?_
      refine z_iconst (M := M_X12_canBe) 42 dX12_canBe_42 ?_
      refine z_istore_n (M := M_X12_canBe) 43 dX12_canBe_43 (ls' := [some (mR 108), none, some (mI l2), some (mI 0), none, none]) (by decide) rfl ?_
      exact z_mask [true, false, false, true, false, false] rfl (ih.2.1 0 h G R (by omega) (by omega) (by omega) (by omega) (cbJ_of i0 (by omega)) (fun i hi hn => by omega) (by omega))
    · refine z_aload_n (M := M_X12_canBe) 24 dX12_canBe_24 rfl ?_
      refine z_iconst (M := M_X12_canBe) 25 dX12_canBe_25 ?_
      refine z_vI (M := M_X12_canBe) 26 dX12_canBe_26 t_X12_round l_X12_360 (m_rr_of rfl) (rest := []) (c_X12_round h 0 (bL (h0 110) (h0 122) (h0 123) a1) G ⟨by omega, by omega⟩ i0.1 hE) o_108 rfl rfl rfl (Nat.le_of_ble_eq_true rfl) ⟨rfl, rfl⟩ (fun x4 h1 qx4 => ?_)
      obtain ⟨G1, S1, ax4, bx4, fx4_0, fx4_1⟩ := qx4
      have R1 := R.call S1 (by decide +kernel)
      refine z_istore_n (M := M_X12_canBe) 29 dX12_canBe_29 (ls' := [some (mR 108), none, some (mI x4), some (mI l3), none, none]) (by decide) rfl ?_
      refine z_iincN (M := M_X12_canBe) 30 dX12_canBe_30 (ls' := [some (mR 108), none, some (mI x4), some (mI (l3 + 1)), none, none]) (by decide) rfl (by (unfold m_32; decide)) (by omega) (by omega) rfl ?_
      refine z_goto (M := M_X12_canBe) 33 dX12_canBe_33 14 rfl ?_
      exact z_mask [true, false, true, true, false, false] rfl (ih.1 x4 (l3 + 1) h1 G1 R1 (by omega) (by omega) (by omega) (by omega) (by omega) (by omega) (cb_step hE (by omega) (by omega) i0 (AR.call i0.1 S1 rfl (fun _ => rfl) (fun _ => rfl) (fun _ => rfl) (fun _ => rfl) (fun _ => rfl)) fx4_0 fx4_1) (by omega))
set_option maxHeartbeats 4000000 in
set_option maxRecDepth 100000 in
theorem s_X12_canBe_44 (h0 : m_H) (a1 : Int) (G0 : GI h0) (hN : NP h0) (n : Nat) (ih : q_X12_canBe h0 a1 n) : ∀ (l3 : Int) (h : m_H), GI h → FR [115, 116, 117, 118, 119, 120, 121, 124, 125, 126, 127, 128, 129, 130, 131, 132, 133, 134] [(108, 21)] h0 h → 0 ≤ l3 → l3 ≤ 256 → (-2147483648) ≤ a1 → a1 ≤ 2147483647 → (cbJ h (bL (h0 110) (h0 122) (h0 123) a1)) → (tR (h 134) l3) → 2 * (256 - l3) + (10992) ≤ ((n + 1 : Nat) : Int) → m_Z oF M_X12_canBe 44 [some (mR 108), none, none, some (mI l3), none, none] [] h (m_QI (P_X12_canBe h0 a1)) := by
  intro l3 h G R v0 v1 v2 v3 i0 i1 hr
  have hE := bL_ok (ct := h0 123) (en := a1) G0 hN (fun j hj => g_122 G0 hj)
  refine z_iload_n (M := M_X12_canBe) 44 dX12_canBe_44 rfl ?_
  refine z_sipush (M := M_X12_canBe) 45 dX12_canBe_45 ?_
  refine z_icmp_ge (M := M_X12_canBe) 48 dX12_canBe_48 79 rfl (fun c1 => ?_) (fun c1 => ?_)
  · refine z_iconst (M := M_X12_canBe) 79 dX12_canBe_79 ?_
    refine z_istore_n (M := M_X12_canBe) 80 dX12_canBe_80 (ls' := [some (mR 108), none, none, some (mI 0), none, none]) (by decide) rfl ?_
    exact z_mask [true, false, false, true, false, false] rfl (ih.2.2.1 0 h G R (by omega) (by omega) (by omega) (by omega) i0 ((show l3 = 256 by omega) ▸ i1) (fun j q hj => absurd hj (Nat.not_lt_zero _)) (by omega))
  · refine z_aload_n (M := M_X12_canBe) 51 dX12_canBe_51 rfl ?_
    refine z_getR (M := M_X12_canBe) 52 dX12_canBe_52 f_X12_91 o_108 rfl (g_108_39 G) ?_
    refine z_iload_n (M := M_X12_canBe) 55 dX12_canBe_55 rfl ?_
    refine z_iload_n (M := M_X12_canBe) 56 dX12_canBe_56 rfl ?_
    refine z_bipush (M := M_X12_canBe) 57 dX12_canBe_57 ?_
    refine z_idivN (M := M_X12_canBe) 59 dX12_canBe_59 (by omega) (by omega) ?_
    refine z_topBI (lo := 0) (hi := 15) ⟨by omega, by omega⟩ (fun x2 ex2 ax2 bx2 => ?_)
    refine z_iload_n (M := M_X12_canBe) 60 dX12_canBe_60 rfl ?_
    refine z_bipush (M := M_X12_canBe) 61 dX12_canBe_61 ?_
    refine z_iremN (M := M_X12_canBe) 63 dX12_canBe_63 (by omega) (by omega) ?_
    refine z_topBI (lo := 0) (hi := 15) ⟨by omega, by omega⟩ (fun x3 ex3 ax3 bx3 => ?_)
    refine z_icmp_ne (M := M_X12_canBe) 64 dX12_canBe_64 71 rfl (fun c4 => ?_) (fun c4 => ?_)
    · refine z_iconst (M := M_X12_canBe) 71 dX12_canBe_71 ?_
      refine z_zastH (M := M_X12_canBe) 72 dX12_canBe_72 o_134 (by omega) (by omega) (by omega) (u_134 G (by omega) (by omega)) (R.up rfl) (fun h1 E1 G1 R1 => ?_)
      refine z_iincN (M := M_X12_canBe) 73 dX12_canBe_73 (ls' := [some (mR 108), none, none, some (mI (l3 + 1)), none, none]) (by decide) rfl (by (unfold m_32; decide)) (by omega) (by omega) rfl ?_
      refine z_goto (M := M_X12_canBe) 76 dX12_canBe_76 44 rfl ?_
      exact z_mask [true, false, false, true, false, false] rfl (ih.2.1 (l3 + 1) h1 G1 R1 (by omega) (by omega) (by omega) (by omega) (i0.put E1) (tR_step (by omega) i1 (fun q => by omega) E1) (by omega))
    · refine z_iconst (M := M_X12_canBe) 67 dX12_canBe_67 ?_
      refine z_goto (M := M_X12_canBe) 68 dX12_canBe_68 72 rfl ?_
      refine z_zastH (M := M_X12_canBe) 72 dX12_canBe_72 o_134 (by omega) (by omega) (by omega) (u_134 G (by omega) (by omega)) (R.up rfl) (fun h2 E2 G2 R2 => ?_)
      refine z_iincN (M := M_X12_canBe) 73 dX12_canBe_73 (ls' := [some (mR 108), none, none, some (mI (l3 + 1)), none, none]) (by decide) rfl (by (unfold m_32; decide)) (by omega) (by omega) rfl ?_
      refine z_goto (M := M_X12_canBe) 76 dX12_canBe_76 44 rfl ?_
      exact z_mask [true, false, false, true, false, false] rfl (ih.2.1 (l3 + 1) h2 G2 R2 (by omega) (by omega) (by omega) (by omega) (i0.put E2) (tR_step (by omega) i1 (fun q => by omega) E2) (by omega))
set_option maxHeartbeats 4000000 in
set_option maxRecDepth 100000 in
theorem s_X12_canBe_81 (h0 : m_H) (a1 : Int) (G0 : GI h0) (hN : NP h0) (n : Nat) (ih : q_X12_canBe h0 a1 n) : ∀ (l3 : Int) (h : m_H), GI h → FR [115, 116, 117, 118, 119, 120, 121, 124, 125, 126, 127, 128, 129, 130, 131, 132, 133, 134] [(108, 21)] h0 h → 0 ≤ l3 → l3 ≤ 60 → (-2147483648) ≤ a1 → a1 ≤ 2147483647 → (cbJ h (bL (h0 110) (h0 122) (h0 123) a1)) → (tR (h 134) 256) → (tE (aS h) (bL (h0 110) (h0 122) (h0 123) a1) (h 134) l3.toNat) → 2 * (60 - l3) + (10869) ≤ ((n + 1 : Nat) : Int) → m_Z oF M_X12_canBe 81 [some (mR 108), none, none, some (mI l3), none, none] [] h (m_QI (P_X12_canBe h0 a1)) := by
  intro l3 h G R v0 v1 v2 v3 i0 i1 i2 hr
  have hE := bL_ok (ct := h0 123) (en := a1) G0 hN (fun j hj => g_122 G0 hj)
  refine z_iload_n (M := M_X12_canBe) 81 dX12_canBe_81 rfl ?_
  refine z_aload_n (M := M_X12_canBe) 82 dX12_canBe_82 rfl ?_
  refine z_getIG (M := M_X12_canBe) 83 dX12_canBe_83 f_X12_333 o_108 (by decide) (g_108_21 G) (fun x1 ex1 ax1 bx1 => ?_)
  refine z_icmp_ge (M := M_X12_canBe) 86 dX12_canBe_86 153 rfl (fun c2 => ?_) (fun c2 => ?_)
  · refine z_iconst (M := M_X12_canBe) 153 dX12_canBe_153 ?_
    refine z_istore_n (M := M_X12_canBe) 154 dX12_canBe_154 (ls' := [some (mR 108), none, none, some (mI 0), none, none]) (by decide) rfl ?_
    exact z_mask [true, false, false, true, false, false] rfl (ih.2.2.2.1 0 h G R (by omega) (by omega) (by omega) (by omega) i0 (tA_0 i0 i1 i2 ex1 (by omega)) (by omega))
  · refine z_aload_n (M := M_X12_canBe) 89 dX12_canBe_89 rfl ?_
    refine z_getR (M := M_X12_canBe) 90 dX12_canBe_90 f_X12_91 o_108 rfl (g_108_39 G) ?_
    refine z_bipush (M := M_X12_canBe) 93 dX12_canBe_93 ?_
    refine z_aload_n (M := M_X12_canBe) 95 dX12_canBe_95 rfl ?_
    refine z_getR (M := M_X12_canBe) 96 dX12_canBe_96 f_X12_40 o_108 rfl (g_108_22 G) ?_
    refine z_iload_n (M := M_X12_canBe) 99 dX12_canBe_99 rfl ?_
    refine z_ialdG (M := M_X12_canBe) 100 dX12_canBe_100 o_117 (by omega) (by omega) (g_117 G (by omega)) (fun x3 ex3 ax3 bx3 => ?_)
    refine z_imulN (M := M_X12_canBe) 101 dX12_canBe_101 (by omega) (by omega) ?_
    refine z_aload_n (M := M_X12_canBe) 102 dX12_canBe_102 rfl ?_
    refine z_getR (M := M_X12_canBe) 103 dX12_canBe_103 f_X12_43 o_108 rfl (g_108_23 G) ?_
    refine z_iload_n (M := M_X12_canBe) 106 dX12_canBe_106 rfl ?_
    refine z_ialdG (M := M_X12_canBe) 107 dX12_canBe_107 o_118 (by omega) (by omega) (g_118 G (by omega)) (fun x4 ex4 ax4 bx4 => ?_)
    refine z_iaddN (M := M_X12_canBe) 108 dX12_canBe_108 (by omega) (by omega) ?_
    refine z_aload_n (M := M_X12_canBe) 109 dX12_canBe_109 rfl ?_
    refine z_getR (M := M_X12_canBe) 110 dX12_canBe_110 f_X12_91 o_108 rfl (g_108_39 G) ?_
    refine z_bipush (M := M_X12_canBe) 113 dX12_canBe_113 ?_
    refine z_aload_n (M := M_X12_canBe) 115 dX12_canBe_115 rfl ?_
    refine z_getR (M := M_X12_canBe) 116 dX12_canBe_116 f_X12_40 o_108 rfl (g_108_22 G) ?_
    refine z_iload_n (M := M_X12_canBe) 119 dX12_canBe_119 rfl ?_
    refine z_ialdE (M := M_X12_canBe) 120 dX12_canBe_120 o_117 (by omega) (by omega) ex3 ?_
    refine z_imulN (M := M_X12_canBe) 121 dX12_canBe_121 (by omega) (by omega) ?_
    refine z_aload_n (M := M_X12_canBe) 122 dX12_canBe_122 rfl ?_
    refine z_getR (M := M_X12_canBe) 123 dX12_canBe_123 f_X12_43 o_108 rfl (g_108_23 G) ?_
    refine z_iload_n (M := M_X12_canBe) 126 dX12_canBe_126 rfl ?_
    refine z_ialdE (M := M_X12_canBe) 127 dX12_canBe_127 o_118 (by omega) (by omega) ex4 ?_
    refine z_iaddN (M := M_X12_canBe) 128 dX12_canBe_128 (by omega) (by omega) ?_
    refine z_zaldG (M := M_X12_canBe) 129 dX12_canBe_129 o_134 (by omega) (by omega) (g_134 G (by omega)) (fun x5 ex5 ax5 bx5 => ?_)
    refine z_if_ne (M := M_X12_canBe) 130 dX12_canBe_130 141 rfl (fun c6 => ?_) (fun c6 => ?_)
    · refine z_iconst (M := M_X12_canBe) 141 dX12_canBe_141 ?_
      refine z_goto (M := M_X12_canBe) 142 dX12_canBe_142 146 rfl ?_
      refine z_zastH (M := M_X12_canBe) 146 dX12_canBe_146 o_134 (by omega) (by omega) (by omega) (u_134 G (by omega) (by omega)) (R.up rfl) (fun h1 E1 G1 R1 => ?_)
      refine z_iincN (M := M_X12_canBe) 147 dX12_canBe_147 (ls' := [some (mR 108), none, none, some (mI (l3 + 1)), none, none]) (by decide) rfl (by (unfold m_32; decide)) (by omega) (by omega) rfl ?_
      refine z_goto (M := M_X12_canBe) 150 dX12_canBe_150 81 rfl ?_
      exact z_mask [true, false, false, true, false, false] rfl (ih.2.2.1 (l3 + 1) h1 G1 R1 (by omega) (by omega) (by omega) (by omega) (i0.put E1) (tE_step hE i0 (by omega) i1 i2 ex1 (by omega) ex3 ex4 rfl rfl (fun _ => rfl) (by omega) E1).1 (tE_step hE i0 (by omega) i1 i2 ex1 (by omega) ex3 ex4 rfl rfl (fun _ => rfl) (by omega) E1).2 (by omega))
    · refine z_aload_n (M := M_X12_canBe) 133 dX12_canBe_133 rfl ?_
      refine z_iload_n (M := M_X12_canBe) 134 dX12_canBe_134 rfl ?_
      refine z_vI (M := M_X12_canBe) 135 dX12_canBe_135 t_X12_isTight l_X12_364 (m_rr_of rfl) (rest := [mI ((16 * x3) + x4), mR 134]) (c_X12_isTight h l3 (bL (h0 110) (h0 122) (h0 123) a1) G ⟨by omega, by omega⟩ i0.1 hE (by omega)) o_108 rfl rfl rfl (Nat.le_of_ble_eq_true rfl) ⟨rfl, rfl⟩ (fun x7 h2 qx7 => ?_)
      obtain ⟨G2, S2, ax7, bx7, fx7_0⟩ := qx7
      have R2 := R.call S2 (by decide +kernel)
      refine z_if_eq (M := M_X12_canBe) 138 dX12_canBe_138 145 rfl (fun c8 => ?_) (fun c8 => ?_)
      · refine z_iconst (M := M_X12_canBe) 145 dX12_canBe_145 ?_
        refine z_zastH (M := M_X12_canBe) 146 dX12_canBe_146 o_134 (by omega) (by omega) (by omega) (u_134 G2 (by omega) (by omega)) (R2.up rfl) (fun h3 E3 G3 R3 => ?_)
        refine z_iincN (M := M_X12_canBe) 147 dX12_canBe_147 (ls' := [some (mR 108), none, none, some (mI (l3 + 1)), none, none]) (by decide) rfl (by (unfold m_32; decide)) (by omega) (by omega) rfl ?_
        refine z_goto (M := M_X12_canBe) 150 dX12_canBe_150 81 rfl ?_
        exact z_mask [true, false, false, true, false, false] rfl (ih.2.2.1 (l3 + 1) h3 G3 R3 (by omega) (by omega) (by omega) (by omega) ((i0.ti S2).put E3) (tE_step hE i0 (by omega) i1 i2 ex1 (by omega) ex3 ex4 (FR.row S2 (fun _ => rfl)) (aS_ti S2) (fun z => absurd (fx7_0.mpr z) (by omega)) (by omega) E3).1 (tE_step hE i0 (by omega) i1 i2 ex1 (by omega) ex3 ex4 (FR.row S2 (fun _ => rfl)) (aS_ti S2) (fun z => absurd (fx7_0.mpr z) (by omega)) (by omega) E3).2 (by omega))
      · refine z_iconst (M := M_X12_canBe) 141 dX12_canBe_141 ?_
        refine z_goto (M := M_X12_canBe) 142 dX12_canBe_142 146 rfl ?_
        refine z_zastH (M := M_X12_canBe) 146 dX12_canBe_146 o_134 (by omega) (by omega) (by omega) (u_134 G2 (by omega) (by omega)) (R2.up rfl) (fun h4 E4 G4 R4 => ?_)
        refine z_iincN (M := M_X12_canBe) 147 dX12_canBe_147 (ls' := [some (mR 108), none, none, some (mI (l3 + 1)), none, none]) (by decide) rfl (by (unfold m_32; decide)) (by omega) (by omega) rfl ?_
        refine z_goto (M := M_X12_canBe) 150 dX12_canBe_150 81 rfl ?_
        exact z_mask [true, false, false, true, false, false] rfl (ih.2.2.1 (l3 + 1) h4 G4 R4 (by omega) (by omega) (by omega) (by omega) ((i0.ti S2).put E4) (tE_step hE i0 (by omega) i1 i2 ex1 (by omega) ex3 ex4 (FR.row S2 (fun _ => rfl)) (aS_ti S2) (fun _ => rfl) (by omega) E4).1 (tE_step hE i0 (by omega) i1 i2 ex1 (by omega) ex3 ex4 (FR.row S2 (fun _ => rfl)) (aS_ti S2) (fun _ => rfl) (by omega) E4).2 (by omega))
set_option maxHeartbeats 4000000 in
set_option maxRecDepth 100000 in
theorem s_X12_canBe_155 (h0 : m_H) (a1 : Int) (G0 : GI h0) (hN : NP h0) (n : Nat) (ih : q_X12_canBe h0 a1 n) : ∀ (l3 : Int) (h : m_H), GI h → FR [115, 116, 117, 118, 119, 120, 121, 124, 125, 126, 127, 128, 129, 130, 131, 132, 133, 134] [(108, 21)] h0 h → 0 ≤ l3 → l3 ≤ 16 → (-2147483648) ≤ a1 → a1 ≤ 2147483647 → (cbJ h (bL (h0 110) (h0 122) (h0 123) a1)) → (tA h (bL (h0 110) (h0 122) (h0 123) a1) l3.toNat) → 632 * (16 - l3) + (754) ≤ ((n + 1 : Nat) : Int) → m_Z oF M_X12_canBe 155 [some (mR 108), none, none, some (mI l3), none, none] [] h (m_QI (P_X12_canBe h0 a1)) := by
  intro l3 h G R v0 v1 v2 v3 i0 i1 hr
  have hE := bL_ok (ct := h0 123) (en := a1) G0 hN (fun j hj => g_122 G0 hj)
  refine z_iload_n (M := M_X12_canBe) 155 dX12_canBe_155 rfl ?_
  refine z_bipush (M := M_X12_canBe) 156 dX12_canBe_156 ?_
  refine z_icmp_ge (M := M_X12_canBe) 158 dX12_canBe_158 263 rfl (fun c1 => ?_) (fun c1 => ?_)
  · refine z_iconst (M := M_X12_canBe) 263 dX12_canBe_263 ?_
    refine z_istore_n (M := M_X12_canBe) 264 dX12_canBe_264 (ls' := [some (mR 108), none, none, some (mI 0), none, none]) (by decide) rfl ?_
    exact z_mask [true, false, false, true, false, false] rfl (ih.2.2.2.2.2.2 0 h G R (by omega) (by omega) (by omega) (by omega) i0 (by rw [show l3 = 16 by omega] at i1; exact i1) (fun j q hj => absurd hj (Nat.not_lt_zero _)) (by omega))
  · refine z_iconst (M := M_X12_canBe) 161 dX12_canBe_161 ?_
    refine z_istore (M := M_X12_canBe) 162 dX12_canBe_162 (ls' := [some (mR 108), none, none, some (mI l3), some (mI 0), none]) (by decide) rfl ?_
    exact z_mask [true, false, false, true, true, false] rfl (ih.2.2.2.2.1 l3 0 h G R (by omega) (by omega) (by omega) (by omega) (by omega) (by omega) i0 (tS_0 G i1) (by omega))
set_option maxHeartbeats 4000000 in
set_option maxRecDepth 100000 in
theorem s_X12_canBe_164 (h0 : m_H) (a1 : Int) (G0 : GI h0) (hN : NP h0) (n : Nat) (ih : q_X12_canBe h0 a1 n) : ∀ (l3 l4 : Int) (h : m_H), GI h → FR [115, 116, 117, 118, 119, 120, 121, 124, 125, 126, 127, 128, 129, 130, 131, 132, 133, 134] [(108, 21)] h0 h → 0 ≤ l3 → l3 ≤ 15 → 0 ≤ l4 → l4 ≤ 16 → (-2147483648) ≤ a1 → a1 ≤ 2147483647 → (cbJ h (bL (h0 110) (h0 122) (h0 123) a1)) → (tS h (bL (h0 110) (h0 122) (h0 123) a1) l3 (16 * l4)) → 632 * (16 - l3) + 37 * (16 - l4) + (36) + (123) ≤ ((n + 1 : Nat) : Int) → m_Z oF M_X12_canBe 164 [some (mR 108), none, none, some (mI l3), some (mI l4), none] [] h (m_QI (P_X12_canBe h0 a1)) := by
  intro l3 l4 h G R v0 v1 v2 v3 v4 v5 i0 i1 hr
  have hE := bL_ok (ct := h0 123) (en := a1) G0 hN (fun j hj => g_122 G0 hj)
  refine z_iload (M := M_X12_canBe) 164 dX12_canBe_164 rfl ?_
  refine z_bipush (M := M_X12_canBe) 166 dX12_canBe_166 ?_
  refine z_icmp_ge (M := M_X12_canBe) 168 dX12_canBe_168 257 rfl (fun c1 => ?_) (fun c1 => ?_)
  · refine z_iincN (M := M_X12_canBe) 257 dX12_canBe_257 (ls' := [some (mR 108), none, none, some (mI (l3 + 1)), some (mI l4), none]) (by decide) rfl (by (unfold m_32; decide)) (by omega) (by omega) rfl ?_
    refine z_goto (M := M_X12_canBe) 260 dX12_canBe_260 155 rfl ?_
    exact z_mask [true, false, false, true, false, false] rfl (ih.2.2.2.1 (l3 + 1) h G R (by omega) (by omega) (by omega) (by omega) i0 (tS_end hE (by omega) (by omega) (by omega) i1) (by omega))
  · refine z_iconst (M := M_X12_canBe) 171 dX12_canBe_171 ?_
    refine z_istore (M := M_X12_canBe) 172 dX12_canBe_172 (ls' := [some (mR 108), none, none, some (mI l3), some (mI l4), some (mI 0)]) (by decide) rfl ?_
    exact z_mask [true, false, false, true, true, true] rfl (ih.2.2.2.2.2.1 l3 l4 0 h G R (by omega) (by omega) (by omega) (by omega) (by omega) (by omega) (by omega) (by omega) i0 (by rw [Int.add_zero]; exact i1) (by omega))
set_option maxHeartbeats 4000000 in
set_option maxRecDepth 100000 in
theorem s_X12_canBe_174 (h0 : m_H) (a1 : Int) (G0 : GI h0) (hN : NP h0) (n : Nat) (ih : q_X12_canBe h0 a1 n) : ∀ (l3 l4 l5 : Int) (h : m_H), GI h → FR [115, 116, 117, 118, 119, 120, 121, 124, 125, 126, 127, 128, 129, 130, 131, 132, 133, 134] [(108, 21)] h0 h → 0 ≤ l3 → l3 ≤ 15 → 0 ≤ l4 → l4 ≤ 15 → 0 ≤ l5 → l5 ≤ 16 → (-2147483648) ≤ a1 → a1 ≤ 2147483647 → (cbJ h (bL (h0 110) (h0 122) (h0 123) a1)) → (tS h (bL (h0 110) (h0 122) (h0 123) a1) l3 (16 * l4 + l5)) → 632 * (16 - l3) + 37 * (16 - l4) + 2 * (16 - l5) + (1) + (123) ≤ ((n + 1 : Nat) : Int) → m_Z oF M_X12_canBe 174 [some (mR 108), none, none, some (mI l3), some (mI l4), some (mI l5)] [] h (m_QI (P_X12_canBe h0 a1)) := by
  intro l3 l4 l5 h G R v0 v1 v2 v3 v4 v5 v6 v7 i0 i1 hr
  have hE := bL_ok (ct := h0 123) (en := a1) G0 hN (fun j hj => g_122 G0 hj)
  refine z_iload (M := M_X12_canBe) 174 dX12_canBe_174 rfl ?_
  refine z_bipush (M := M_X12_canBe) 176 dX12_canBe_176 ?_
  refine z_icmp_ge (M := M_X12_canBe) 178 dX12_canBe_178 251 rfl (fun c1 => ?_) (fun c1 => ?_)
  · refine z_iincN (M := M_X12_canBe) 251 dX12_canBe_251 (ls' := [some (mR 108), none, none, some (mI l3), some (mI (l4 + 1)), some (mI l5)]) (by decide) rfl (by (unfold m_32; decide)) (by omega) (by omega) rfl ?_
    refine z_goto (M := M_X12_canBe) 254 dX12_canBe_254 164 rfl ?_
    exact z_mask [true, false, false, true, true, false] rfl (ih.2.2.2.2.1 l3 (l4 + 1) h G R (by omega) (by omega) (by omega) (by omega) (by omega) (by omega) i0 (by rw [show 16 * (l4 + 1) = 16 * l4 + l5 by omega]; exact i1) (by omega))
  · refine z_aload_n (M := M_X12_canBe) 181 dX12_canBe_181 rfl ?_
    refine z_getR (M := M_X12_canBe) 182 dX12_canBe_182 f_X12_91 o_108 rfl (g_108_39 G) ?_
    refine z_bipush (M := M_X12_canBe) 185 dX12_canBe_185 ?_
    refine z_iload (M := M_X12_canBe) 187 dX12_canBe_187 rfl ?_
    refine z_imulN (M := M_X12_canBe) 189 dX12_canBe_189 (by omega) (by omega) ?_
    refine z_iload (M := M_X12_canBe) 190 dX12_canBe_190 rfl ?_
    refine z_iaddN (M := M_X12_canBe) 192 dX12_canBe_192 (by omega) (by omega) ?_
    refine z_aload_n (M := M_X12_canBe) 193 dX12_canBe_193 rfl ?_
    refine z_getR (M := M_X12_canBe) 194 dX12_canBe_194 f_X12_91 o_108 rfl (g_108_39 G) ?_
    refine z_bipush (M := M_X12_canBe) 197 dX12_canBe_197 ?_
    refine z_iload (M := M_X12_canBe) 199 dX12_canBe_199 rfl ?_
    refine z_imulN (M := M_X12_canBe) 201 dX12_canBe_201 (by omega) (by omega) ?_
    refine z_iload (M := M_X12_canBe) 202 dX12_canBe_202 rfl ?_
    refine z_iaddN (M := M_X12_canBe) 204 dX12_canBe_204 (by omega) (by omega) ?_
    refine z_zaldG (M := M_X12_canBe) 205 dX12_canBe_205 o_134 (by omega) (by omega) (g_134 G (by omega)) (fun x2 ex2 ax2 bx2 => ?_)
    refine z_if_ne (M := M_X12_canBe) 206 dX12_canBe_206 239 rfl (fun c3 => ?_) (fun c3 => ?_)
    · refine z_iconst (M := M_X12_canBe) 239 dX12_canBe_239 ?_
      refine z_goto (M := M_X12_canBe) 240 dX12_canBe_240 244 rfl ?_
      refine z_zastH (M := M_X12_canBe) 244 dX12_canBe_244 o_134 (by omega) (by omega) (by omega) (u_134 G (by omega) (by omega)) (R.up rfl) (fun h1 E1 G1 R1 => ?_)
      refine z_iincN (M := M_X12_canBe) 245 dX12_canBe_245 (ls' := [some (mR 108), none, none, some (mI l3), some (mI l4), some (mI (l5 + 1))]) (by decide) rfl (by (unfold m_32; decide)) (by omega) (by omega) rfl ?_
      refine z_goto (M := M_X12_canBe) 248 dX12_canBe_248 174 rfl ?_
      exact z_mask [true, false, false, true, true, true] rfl (ih.2.2.2.2.2.1 l3 l4 (l5 + 1) h1 G1 R1 (by omega) (by omega) (by omega) (by omega) (by omega) (by omega) (by omega) (by omega) (i0.put E1) (tS_step (by omega) (by omega) (by omega) (by omega) (by omega) (by omega) i1 (by omega) E1) (by omega))
    · refine z_aload_n (M := M_X12_canBe) 209 dX12_canBe_209 rfl ?_
      refine z_getR (M := M_X12_canBe) 210 dX12_canBe_210 f_X12_91 o_108 rfl (g_108_39 G) ?_
      refine z_bipush (M := M_X12_canBe) 213 dX12_canBe_213 ?_
      refine z_iload (M := M_X12_canBe) 215 dX12_canBe_215 rfl ?_
      refine z_imulN (M := M_X12_canBe) 217 dX12_canBe_217 (by omega) (by omega) ?_
      refine z_iload_n (M := M_X12_canBe) 218 dX12_canBe_218 rfl ?_
      refine z_iaddN (M := M_X12_canBe) 219 dX12_canBe_219 (by omega) (by omega) ?_
      refine z_zaldG (M := M_X12_canBe) 220 dX12_canBe_220 o_134 (by omega) (by omega) (g_134 G (by omega)) (fun x4 ex4 ax4 bx4 => ?_)
      refine z_if_eq (M := M_X12_canBe) 221 dX12_canBe_221 243 rfl (fun c5 => ?_) (fun c5 => ?_)
      · refine z_iconst (M := M_X12_canBe) 243 dX12_canBe_243 ?_
        refine z_zastH (M := M_X12_canBe) 244 dX12_canBe_244 o_134 (by omega) (by omega) (by omega) (u_134 G (by omega) (by omega)) (R.up rfl) (fun h2 E2 G2 R2 => ?_)
        refine z_iincN (M := M_X12_canBe) 245 dX12_canBe_245 (ls' := [some (mR 108), none, none, some (mI l3), some (mI l4), some (mI (l5 + 1))]) (by decide) rfl (by (unfold m_32; decide)) (by omega) (by omega) rfl ?_
        refine z_goto (M := M_X12_canBe) 248 dX12_canBe_248 174 rfl ?_
        exact z_mask [true, false, false, true, true, true] rfl (ih.2.2.2.2.2.1 l3 l4 (l5 + 1) h2 G2 R2 (by omega) (by omega) (by omega) (by omega) (by omega) (by omega) (by omega) (by omega) (i0.put E2) (tS_step (by omega) (by omega) (by omega) (by omega) (by omega) (by omega) i1 (by omega) E2) (by omega))
      · refine z_aload_n (M := M_X12_canBe) 224 dX12_canBe_224 rfl ?_
        refine z_getR (M := M_X12_canBe) 225 dX12_canBe_225 f_X12_91 o_108 rfl (g_108_39 G) ?_
        refine z_bipush (M := M_X12_canBe) 228 dX12_canBe_228 ?_
        refine z_iload_n (M := M_X12_canBe) 230 dX12_canBe_230 rfl ?_
        refine z_imulN (M := M_X12_canBe) 231 dX12_canBe_231 (by omega) (by omega) ?_
        refine z_iload (M := M_X12_canBe) 232 dX12_canBe_232 rfl ?_
        refine z_iaddN (M := M_X12_canBe) 234 dX12_canBe_234 (by omega) (by omega) ?_
        refine z_zaldG (M := M_X12_canBe) 235 dX12_canBe_235 o_134 (by omega) (by omega) (g_134 G (by omega)) (fun x6 ex6 ax6 bx6 => ?_)
        refine z_if_eq (M := M_X12_canBe) 236 dX12_canBe_236 243 rfl (fun c7 => ?_) (fun c7 => ?_)
        · refine z_iconst (M := M_X12_canBe) 243 dX12_canBe_243 ?_
          refine z_zastH (M := M_X12_canBe) 244 dX12_canBe_244 o_134 (by omega) (by omega) (by omega) (u_134 G (by omega) (by omega)) (R.up rfl) (fun h3 E3 G3 R3 => ?_)
          refine z_iincN (M := M_X12_canBe) 245 dX12_canBe_245 (ls' := [some (mR 108), none, none, some (mI l3), some (mI l4), some (mI (l5 + 1))]) (by decide) rfl (by (unfold m_32; decide)) (by omega) (by omega) rfl ?_
          refine z_goto (M := M_X12_canBe) 248 dX12_canBe_248 174 rfl ?_
          exact z_mask [true, false, false, true, true, true] rfl (ih.2.2.2.2.2.1 l3 l4 (l5 + 1) h3 G3 R3 (by omega) (by omega) (by omega) (by omega) (by omega) (by omega) (by omega) (by omega) (i0.put E3) (tS_step (by omega) (by omega) (by omega) (by omega) (by omega) (by omega) i1 (by omega) E3) (by omega))
        · refine z_iconst (M := M_X12_canBe) 239 dX12_canBe_239 ?_
          refine z_goto (M := M_X12_canBe) 240 dX12_canBe_240 244 rfl ?_
          refine z_zastH (M := M_X12_canBe) 244 dX12_canBe_244 o_134 (by omega) (by omega) (by omega) (u_134 G (by omega) (by omega)) (R.up rfl) (fun h4 E4 G4 R4 => ?_)
          refine z_iincN (M := M_X12_canBe) 245 dX12_canBe_245 (ls' := [some (mR 108), none, none, some (mI l3), some (mI l4), some (mI (l5 + 1))]) (by decide) rfl (by (unfold m_32; decide)) (by omega) (by omega) rfl ?_
          refine z_goto (M := M_X12_canBe) 248 dX12_canBe_248 174 rfl ?_
          exact z_mask [true, false, false, true, true, true] rfl (ih.2.2.2.2.2.1 l3 l4 (l5 + 1) h4 G4 R4 (by omega) (by omega) (by omega) (by omega) (by omega) (by omega) (by omega) (by omega) (i0.put E4) (tS_step (by omega) (by omega) (by omega) (by omega) (by omega) (by omega) i1 (by omega) E4) (by omega))
set_option maxHeartbeats 4000000 in
set_option maxRecDepth 100000 in
theorem s_X12_canBe_265 (h0 : m_H) (a1 : Int) (G0 : GI h0) (hN : NP h0) (n : Nat) (ih : q_X12_canBe h0 a1 n) : ∀ (l3 : Int) (h : m_H), GI h → FR [115, 116, 117, 118, 119, 120, 121, 124, 125, 126, 127, 128, 129, 130, 131, 132, 133, 134] [(108, 21)] h0 h → 0 ≤ l3 → l3 ≤ 60 → (-2147483648) ≤ a1 → a1 ≤ 2147483647 → (cbJ h (bL (h0 110) (h0 122) (h0 123) a1)) → (tA h (bL (h0 110) (h0 122) (h0 123) a1) 16) → (tO (aS h) (bL (h0 110) (h0 122) (h0 123) a1) (h 134) l3.toNat) → 2 * (60 - l3) + (1) ≤ ((n + 1 : Nat) : Int) → m_Z oF M_X12_canBe 265 [some (mR 108), none, none, some (mI l3), none, none] [] h (m_QI (P_X12_canBe h0 a1)) := by
  intro l3 h G R v0 v1 v2 v3 i0 i1 i2 hr
  have hE := bL_ok (ct := h0 123) (en := a1) G0 hN (fun j hj => g_122 G0 hj)
  refine z_iload_n (M := M_X12_canBe) 265 dX12_canBe_265 rfl ?_
  refine z_aload_n (M := M_X12_canBe) 266 dX12_canBe_266 rfl ?_
  refine z_getIG (M := M_X12_canBe) 267 dX12_canBe_267 f_X12_333 o_108 (by decide) (g_108_21 G) (fun x1 ex1 ax1 bx1 => ?_)
  refine z_icmp_ge (M := M_X12_canBe) 270 dX12_canBe_270 322 rfl (fun c2 => ?_) (fun c2 => ?_)
  · refine z_iconst (M := M_X12_canBe) 322 dX12_canBe_322 ?_
    exact z_retZ (M := M_X12_canBe) 323 dX12_canBe_323 rfl (by omega) ⟨G, R, by omega, by omega, cb_end hE i0 i1 i2 ex1 (by omega)⟩
  · refine z_aload_n (M := M_X12_canBe) 273 dX12_canBe_273 rfl ?_
    refine z_getR (M := M_X12_canBe) 274 dX12_canBe_274 f_X12_52 o_108 rfl (g_108_26 G) ?_
    refine z_iload_n (M := M_X12_canBe) 277 dX12_canBe_277 rfl ?_
    refine z_zaldG (M := M_X12_canBe) 278 dX12_canBe_278 o_121 (by omega) (by omega) (g_121 G (by omega)) (fun x3 ex3 ax3 bx3 => ?_)
    refine z_if_eq (M := M_X12_canBe) 279 dX12_canBe_279 316 rfl (fun c4 => ?_) (fun c4 => ?_)
    · refine z_iincN (M := M_X12_canBe) 316 dX12_canBe_316 (ls' := [some (mR 108), none, none, some (mI (l3 + 1)), none, none]) (by decide) rfl (by (unfold m_32; decide)) (by omega) (by omega) rfl ?_
      refine z_goto (M := M_X12_canBe) 319 dX12_canBe_319 265 rfl ?_
      exact z_mask [true, false, false, true, false, false] rfl (ih.2.2.2.2.2.2 (l3 + 1) h G R (by omega) (by omega) (by omega) (by omega) i0 i1 (tO_a i0 (by omega) i2 ex1 (by omega) ex3 (by omega)) (by omega))
    · refine z_aload_n (M := M_X12_canBe) 282 dX12_canBe_282 rfl ?_
      refine z_iload_n (M := M_X12_canBe) 283 dX12_canBe_283 rfl ?_
      refine z_vI (M := M_X12_canBe) 284 dX12_canBe_284 t_X12_isTight l_X12_364 (m_rr_of rfl) (rest := []) (c_X12_isTight h l3 (bL (h0 110) (h0 122) (h0 123) a1) G ⟨by omega, by omega⟩ i0.1 hE (by omega)) o_108 rfl rfl rfl (Nat.le_of_ble_eq_true rfl) ⟨rfl, rfl⟩ (fun x5 h1 qx5 => ?_)
      obtain ⟨G1, S1, ax5, bx5, fx5_0⟩ := qx5
      have R1 := R.call S1 (by decide +kernel)
      refine z_if_eq (M := M_X12_canBe) 287 dX12_canBe_287 316 rfl (fun c6 => ?_) (fun c6 => ?_)
      · refine z_iincN (M := M_X12_canBe) 316 dX12_canBe_316 (ls' := [some (mR 108), none, none, some (mI (l3 + 1)), none, none]) (by decide) rfl (by (unfold m_32; decide)) (by omega) (by omega) rfl ?_
        refine z_goto (M := M_X12_canBe) 319 dX12_canBe_319 265 rfl ?_
        exact z_mask [true, false, false, true, false, false] rfl (ih.2.2.2.2.2.2 (l3 + 1) h1 G1 R1 (by omega) (by omega) (by omega) (by omega) (i0.ti S1) (i1.ti S1) (tO_b hE i0 (by omega) i2 S1 fx5_0 (by omega)) (by omega))
      · refine z_aload_n (M := M_X12_canBe) 290 dX12_canBe_290 rfl ?_
        refine z_getR (M := M_X12_canBe) 291 dX12_canBe_291 f_X12_91 o_108 rfl (g_108_39 G1) ?_
        refine z_bipush (M := M_X12_canBe) 294 dX12_canBe_294 ?_
        refine z_aload_n (M := M_X12_canBe) 296 dX12_canBe_296 rfl ?_
        refine z_getR (M := M_X12_canBe) 297 dX12_canBe_297 f_X12_43 o_108 rfl (g_108_23 G1) ?_
        refine z_iload_n (M := M_X12_canBe) 300 dX12_canBe_300 rfl ?_
        refine z_ialdG (M := M_X12_canBe) 301 dX12_canBe_301 o_118 (by omega) (by omega) (g_118 G1 (by omega)) (fun x7 ex7 ax7 bx7 => ?_)
        refine z_imulN (M := M_X12_canBe) 302 dX12_canBe_302 (by omega) (by omega) ?_
        refine z_aload_n (M := M_X12_canBe) 303 dX12_canBe_303 rfl ?_
        refine z_getR (M := M_X12_canBe) 304 dX12_canBe_304 f_X12_40 o_108 rfl (g_108_22 G1) ?_
        refine z_iload_n (M := M_X12_canBe) 307 dX12_canBe_307 rfl ?_
        refine z_ialdG (M := M_X12_canBe) 308 dX12_canBe_308 o_117 (by omega) (by omega) (g_117 G1 (by omega)) (fun x8 ex8 ax8 bx8 => ?_)
        refine z_iaddN (M := M_X12_canBe) 309 dX12_canBe_309 (by omega) (by omega) ?_
        refine z_zaldG (M := M_X12_canBe) 310 dX12_canBe_310 o_134 (by omega) (by omega) (g_134 G1 (by omega)) (fun x9 ex9 ax9 bx9 => ?_)
        refine z_if_eq (M := M_X12_canBe) 311 dX12_canBe_311 316 rfl (fun c10 => ?_) (fun c10 => ?_)
        · refine z_iincN (M := M_X12_canBe) 316 dX12_canBe_316 (ls' := [some (mR 108), none, none, some (mI (l3 + 1)), none, none]) (by decide) rfl (by (unfold m_32; decide)) (by omega) (by omega) rfl ?_
          refine z_goto (M := M_X12_canBe) 319 dX12_canBe_319 265 rfl ?_
          exact z_mask [true, false, false, true, false, false] rfl (ih.2.2.2.2.2.2 (l3 + 1) h1 G1 R1 (by omega) (by omega) (by omega) (by omega) (i0.ti S1) (i1.ti S1) (tO_c i0 (by omega) i2 S1 ex1 (by omega) ex7 ex8 ex9 (by omega)) (by omega))
        · refine z_iconst (M := M_X12_canBe) 314 dX12_canBe_314 ?_
          exact z_retZ (M := M_X12_canBe) 315 dX12_canBe_315 rfl (by omega) ⟨G1, R1, by omega, by omega, cbQ_0⟩
theorem a_X12_canBe (h0 : m_H) (a1 : Int) (G0 : GI h0) (hN : NP h0) : ∀ n, q_X12_canBe h0 a1 n := by
  intro n
  induction n with
  | zero => unfold q_X12_canBe; refine ⟨?_, ?_, ?_, ?_, ?_, ?_, ?_⟩ <;> (intros; omega)
  | succ n ih => exact ⟨s_X12_canBe_14 h0 a1 G0 hN n ih, s_X12_canBe_44 h0 a1 G0 hN n ih, s_X12_canBe_81 h0 a1 G0 hN n ih, s_X12_canBe_155 h0 a1 G0 hN n ih, s_X12_canBe_164 h0 a1 G0 hN n ih, s_X12_canBe_174 h0 a1 G0 hN n ih, s_X12_canBe_265 h0 a1 G0 hN n ih⟩
set_option maxHeartbeats 4000000 in
set_option maxRecDepth 100000 in
theorem c_X12_canBe (h0 : m_H) (a1 : Int) (G0 : GI h0) (hN : NP h0) : m_CI M_X12_canBe [mR 108, mI a1] h0 (P_X12_canBe h0 a1) := by
  refine m_CI_of ⟨by decide, rfl, by simp [m_arg, m_isL, M_X12_canBe], ⟨rfl, rfl⟩, rfl, rfl⟩ (ls := [some (mR 108), some (mI a1), none, none, none, none]) rfl ?_
  have ih := a_X12_canBe h0 a1 G0 hN 11548
  refine z_ok (fun _ _ ok => ?_)
  have oa1 : m_32 a1 := ok 1 _ rfl
  unfold m_32 at oa1
  have hE := bL_ok (ct := h0 123) (en := a1) G0 hN (fun j hj => g_122 G0 hj)
  refine z_aload_n (M := M_X12_canBe) 0 dX12_canBe_0 rfl ?_
  refine z_iload_n (M := M_X12_canBe) 1 dX12_canBe_1 rfl ?_
  refine z_vV (M := M_X12_canBe) 2 dX12_canBe_2 t_X12_build l_X12_354 (m_rr_of rfl) (rest := []) (c_X12_build h0 a1 G0 (NP.call hN (FR.rf (cs := [115, 116, 117, 118, 119, 120, 121, 124, 125, 126, 127, 128, 129, 130, 131, 132, 133, 134]) (ss := [(108, 21)]) (h := h0)) (fun _ => rfl) (fun _ => rfl) (fun _ => rfl))) o_108 rfl rfl rfl (Nat.le_of_ble_eq_true rfl) ⟨rfl, rfl⟩ (fun h1 qx1 => ?_)
  obtain ⟨G1, S1, fx1_0⟩ := qx1
  have R1 := (FR.rf (cs := [115, 116, 117, 118, 119, 120, 121, 124, 125, 126, 127, 128, 129, 130, 131, 132, 133, 134]) (ss := [(108, 21)]) (h := h0)).call S1 (by decide +kernel)
  refine z_aload_n (M := M_X12_canBe) 5 dX12_canBe_5 rfl ?_
  refine z_iconst (M := M_X12_canBe) 6 dX12_canBe_6 ?_
  refine z_vV (M := M_X12_canBe) 7 dX12_canBe_7 t_X12_startAt l_X12_357 (m_rr_of rfl) (rest := []) (c_X12_startAtX h1 (-1) G1) o_108 rfl rfl rfl (Nat.le_of_ble_eq_true rfl) ⟨rfl, rfl⟩ (fun h2 qx2 => ?_)
  obtain ⟨G2, S2, fx2_0⟩ := qx2
  have R2 := R1.call S2 (by decide +kernel)
  refine z_iconst (M := M_X12_canBe) 10 dX12_canBe_10 ?_
  refine z_istore_n (M := M_X12_canBe) 11 dX12_canBe_11 (ls' := [some (mR 108), some (mI a1), some (mI 1), none, none, none]) (by decide) rfl ?_
  refine z_iconst (M := M_X12_canBe) 12 dX12_canBe_12 ?_
  refine z_istore_n (M := M_X12_canBe) 13 dX12_canBe_13 (ls' := [some (mR 108), some (mI a1), some (mI 1), some (mI 0), none, none]) (by decide) rfl ?_
  exact z_mask [true, false, true, true, false, false] rfl (ih.1 1 0 h2 G2 R2 (by omega) (by omega) (by omega) (by omega) (by omega) (by omega) (cb_0 (AR.call fx1_0 S2 rfl (fun _ => rfl) (fun _ => rfl) (fun _ => rfl) (fun _ => rfl) (fun _ => rfl)) fx2_0) (by omega))
abbrev P_X12_canBeNow (h0 : m_H) : Int → m_H → Prop := fun x h' => GI h' ∧ FR [115, 116, 117, 118, 119, 120, 121, 122, 123, 124, 125, 126, 127, 128, 129, 130, 131, 132, 133, 134] [(108, 21)] h0 h' ∧ 0 ≤ x ∧ x ≤ 1 ∧ cbQ x (bR (h0 110))
set_option maxHeartbeats 4000000 in
set_option maxRecDepth 100000 in
theorem c_X12_canBeNow (h0 : m_H) (G0 : GI h0) (hN : NP h0) : m_CI M_X12_canBeNow [mR 108] h0 (P_X12_canBeNow h0) := by
  refine m_CI_of ⟨by decide, rfl, by simp [m_arg, m_isL, M_X12_canBeNow], ⟨rfl, rfl⟩, rfl, rfl⟩ (ls := [some (mR 108)]) rfl ?_
  refine z_aload_n (M := M_X12_canBeNow) 0 dX12_canBeNow_0 rfl ?_
  refine z_vV (M := M_X12_canBeNow) 1 dX12_canBeNow_1 t_X12_asIs l_X12_367 (m_rr_of rfl) (rest := []) (c_X12_asIsX h0 G0) o_108 rfl rfl rfl (Nat.le_of_ble_eq_true rfl) ⟨rfl, rfl⟩ (fun h1 qx1 => ?_)
  obtain ⟨G1, S1, fx1_0⟩ := qx1
  have R1 := (FR.rf (cs := [115, 116, 117, 118, 119, 120, 121, 122, 123, 124, 125, 126, 127, 128, 129, 130, 131, 132, 133, 134]) (ss := [(108, 21)]) (h := h0)).call S1 (by decide +kernel)
  refine z_aload_n (M := M_X12_canBeNow) 4 dX12_canBeNow_4 rfl ?_
  refine z_aload_n (M := M_X12_canBeNow) 5 dX12_canBeNow_5 rfl ?_
  refine z_vI (M := M_X12_canBeNow) 6 dX12_canBeNow_6 t_X12_counting l_X12_370 (m_rr_of rfl) (rest := [mR 108]) (c_X12_countingX h1 G1) o_108 rfl rfl rfl (Nat.le_of_ble_eq_true rfl) ⟨rfl, rfl⟩ (fun x2 h2 qx2 => ?_)
  obtain ⟨G2, S2, fx2_0⟩ := qx2
  have R2 := R1.call S2 (by decide +kernel)
  refine z_ok (fun ox2 _ _ => ?_)
  have ox2 := ox2.1; unfold m_ok m_32 at ox2
  refine z_vI (M := M_X12_canBeNow) 9 dX12_canBeNow_9 t_X12_canBe l_X12_374 (m_rr_of rfl) (rest := []) (c_X12_canBe h2 x2 G2 (NP.call hN R2 (fun _ => rfl) (fun _ => rfl) (fun _ => rfl))) o_108 rfl rfl rfl (Nat.le_of_ble_eq_true rfl) ⟨rfl, rfl⟩ (fun x3 h3 qx3 => ?_)
  obtain ⟨G3, S3, ax3, bx3, fx3_0⟩ := qx3
  have R3 := R2.call S3 (by decide +kernel)
  exact z_retZ (M := M_X12_canBeNow) 12 dX12_canBeNow_12 rfl (by omega) ⟨G3, R3, by omega, by omega, by have q := fx3_0; rw [bR_eq G0 (fun j => (S2 110 j rfl).trans (S1 110 j rfl)) ⟨fun j hj => (S2 122 j rfl).trans (fx1_0.1 j hj), fun j hj => (S2 123 j rfl).trans (fx1_0.2 j hj)⟩ (fx2_0.trans (congrArg cF (FR.row S1 (fun _ => rfl))))] at q; exact q⟩
abbrev P_X12_goFrom (h0 : m_H) (a1 : Int) : m_H → Prop := fun h' => GI h' ∧ FR [115, 116, 117, 118, 119, 120, 121, 122, 123, 124, 125, 126, 127, 128, 129, 130, 131, 132, 133] [(108, 21)] h0 h' ∧ goQ h'
def q_X12_goFrom (h0 : m_H) (a1 : Int) (n : Nat) : Prop := (∀ (l2 kk : Int) (h : m_H), GI h → FR [115, 116, 117, 118, 119, 120, 121, 122, 123, 124, 125, 126, 127, 128, 129, 130, 131, 132, 133] [(108, 21)] h0 h → 0 ≤ l2 → l2 ≤ 1 → (gfI h (bR (h0 110)) kk l2) → (0 ≤ kk ∧ kk ≤ 16) → 2 * (16 - kk) + (1) ≤ (n : Int) → m_Z oF M_X12_goFrom 19 [some (mR 108), none, some (mI l2)] [] h (m_QV (P_X12_goFrom h0 a1)))
set_option maxHeartbeats 4000000 in
set_option maxRecDepth 100000 in
theorem s_X12_goFrom_19 (h0 : m_H) (a1 : Int) (G0 : GI h0) (pa1 : 0 ≤ a1 ∧ a1 ≤ 15) (hN : NP h0) (hG : gG (bR (h0 110))) (n : Nat) (ih : q_X12_goFrom h0 a1 n) : ∀ (l2 kk : Int) (h : m_H), GI h → FR [115, 116, 117, 118, 119, 120, 121, 122, 123, 124, 125, 126, 127, 128, 129, 130, 131, 132, 133] [(108, 21)] h0 h → 0 ≤ l2 → l2 ≤ 1 → (gfI h (bR (h0 110)) kk l2) → (0 ≤ kk ∧ kk ≤ 16) → 2 * (16 - kk) + (1) ≤ ((n + 1 : Nat) : Int) → m_Z oF M_X12_goFrom 19 [some (mR 108), none, some (mI l2)] [] h (m_QV (P_X12_goFrom h0 a1)) := by
  intro l2 kk h G R v0 v1 i0 i1 hr
  refine z_iload_n (M := M_X12_goFrom) 19 dX12_goFrom_19 rfl ?_
  refine z_if_eq (M := M_X12_goFrom) 20 dX12_goFrom_20 32 rfl (fun c1 => ?_) (fun c1 => ?_)
  · exact z_retV (M := M_X12_goFrom) 32 dX12_goFrom_32 rfl ⟨G, R, gf_end i0⟩
  · have k15 := gf_k i0 (by omega)
    refine z_aload_n (M := M_X12_goFrom) 23 dX12_goFrom_23 rfl ?_
    refine z_iconst (M := M_X12_goFrom) 24 dX12_goFrom_24 ?_
    refine z_vI (M := M_X12_goFrom) 25 dX12_goFrom_25 t_X12_round l_X12_360 (m_rr_of rfl) (rest := []) (c_X12_round h 1 (bR (h0 110)) G ⟨by omega, by omega⟩ i0.1 (bR_ok G0 hN)) o_108 rfl rfl rfl (Nat.le_of_ble_eq_true rfl) ⟨rfl, rfl⟩ (fun x2 h1 qx2 => ?_)
    obtain ⟨G1, S1, ax2, bx2, fx2_0, fx2_1⟩ := qx2
    have R1 := R.call S1 (by decide +kernel)
    refine z_istore_n (M := M_X12_goFrom) 28 dX12_goFrom_28 (ls' := [some (mR 108), none, some (mI x2)]) (by decide) rfl ?_
    refine z_goto (M := M_X12_goFrom) 29 dX12_goFrom_29 19 rfl ?_
    exact z_mask [true, false, true] rfl (ih x2 (kk + 1) h1 G1 R1 (by omega) (by omega) (gf_step (bR_ok G0 hN) (by omega) i0 (AR.call i0.1 S1 rfl (fun _ => rfl) (fun _ => rfl) (fun _ => rfl) (fun _ => rfl) (fun _ => rfl)) fx2_0 fx2_1) (by omega) (by omega))
theorem a_X12_goFrom (h0 : m_H) (a1 : Int) (G0 : GI h0) (pa1 : 0 ≤ a1 ∧ a1 ≤ 15) (hN : NP h0) (hG : gG (bR (h0 110))) : ∀ n, q_X12_goFrom h0 a1 n := by
  intro n
  induction n with
  | zero => unfold q_X12_goFrom; intros; omega
  | succ n ih => exact s_X12_goFrom_19 h0 a1 G0 pa1 hN hG n ih
set_option maxHeartbeats 4000000 in
set_option maxRecDepth 100000 in
theorem c_X12_goFrom (h0 : m_H) (a1 : Int) (G0 : GI h0) (pa1 : 0 ≤ a1 ∧ a1 ≤ 15) (hN : NP h0) (hG : gG (bR (h0 110))) : m_CV M_X12_goFrom [mR 108, mI a1] h0 (P_X12_goFrom h0 a1) := by
  refine m_CV_of ⟨by decide, rfl, by simp [m_arg, m_isL, M_X12_goFrom], ⟨rfl, rfl⟩, rfl, rfl⟩ (ls := [some (mR 108), some (mI a1), none]) rfl ?_
  have ih := a_X12_goFrom h0 a1 G0 pa1 hN hG 40
  refine z_aload_n (M := M_X12_goFrom) 0 dX12_goFrom_0 rfl ?_
  refine z_vV (M := M_X12_goFrom) 1 dX12_goFrom_1 t_X12_asIs l_X12_367 (m_rr_of rfl) (rest := []) (c_X12_asIsX h0 G0) o_108 rfl rfl rfl (Nat.le_of_ble_eq_true rfl) ⟨rfl, rfl⟩ (fun h1 qx1 => ?_)
  obtain ⟨G1, S1, fx1_0⟩ := qx1
  have R1 := (FR.rf (cs := [115, 116, 117, 118, 119, 120, 121, 122, 123, 124, 125, 126, 127, 128, 129, 130, 131, 132, 133]) (ss := [(108, 21)]) (h := h0)).call S1 (by decide +kernel)
  refine z_aload_n (M := M_X12_goFrom) 4 dX12_goFrom_4 rfl ?_
  refine z_aload_n (M := M_X12_goFrom) 5 dX12_goFrom_5 rfl ?_
  refine z_vI (M := M_X12_goFrom) 6 dX12_goFrom_6 t_X12_counting l_X12_370 (m_rr_of rfl) (rest := [mR 108]) (c_X12_countingX h1 G1) o_108 rfl rfl rfl (Nat.le_of_ble_eq_true rfl) ⟨rfl, rfl⟩ (fun x2 h2 qx2 => ?_)
  obtain ⟨G2, S2, fx2_0⟩ := qx2
  have R2 := R1.call S2 (by decide +kernel)
  refine z_ok (fun ox2 _ _ => ?_)
  have ox2 := ox2.1; unfold m_ok m_32 at ox2
  refine z_vV (M := M_X12_goFrom) 9 dX12_goFrom_9 t_X12_build l_X12_354 (m_rr_of rfl) (rest := []) (c_X12_build h2 x2 G2 (NP.call hN R2 (fun _ => rfl) (fun _ => rfl) (fun _ => rfl))) o_108 rfl rfl rfl (Nat.le_of_ble_eq_true rfl) ⟨rfl, rfl⟩ (fun h3 qx3 => ?_)
  obtain ⟨G3, S3, fx3_0⟩ := qx3
  have R3 := R2.call S3 (by decide +kernel)
  refine z_aload_n (M := M_X12_goFrom) 12 dX12_goFrom_12 rfl ?_
  refine z_iload_n (M := M_X12_goFrom) 13 dX12_goFrom_13 rfl ?_
  refine z_vV (M := M_X12_goFrom) 14 dX12_goFrom_14 t_X12_startAt l_X12_357 (m_rr_of rfl) (rest := []) (c_X12_startAtX h3 a1 G3) o_108 rfl rfl rfl (Nat.le_of_ble_eq_true rfl) ⟨rfl, rfl⟩ (fun h4 qx4 => ?_)
  obtain ⟨G4, S4, fx4_0⟩ := qx4
  have R4 := R3.call S4 (by decide +kernel)
  refine z_iconst (M := M_X12_goFrom) 17 dX12_goFrom_17 ?_
  refine z_istore_n (M := M_X12_goFrom) 18 dX12_goFrom_18 (ls' := [some (mR 108), some (mI a1), some (mI 1)]) (by decide) rfl ?_
  exact z_mask [true, false, true] rfl (ih 1 0 h4 G4 R4 (by omega) (by omega) (gf_0 (bR_ok G0 hN) hG (AR.call (bR_of G0 (fun j => (S2 110 j rfl).trans (S1 110 j rfl)) ⟨fun j hj => (S2 122 j rfl).trans (fx1_0.1 j hj), fun j hj => (S2 123 j rfl).trans (fx1_0.2 j hj)⟩ (fx2_0.trans (congrArg cF (FR.row S1 (fun _ => rfl)))) fx3_0) S4 rfl (fun _ => rfl) (fun _ => rfl) (fun _ => rfl) (fun _ => rfl) (fun _ => rfl)) (by omega) (by omega) fx4_0) (by omega) (by omega))
/-! ===== what is asked of the graph ===== -/
def lnQ (x a : Int) : Prop := x = 1 → 0 ≤ a ∧ a ≤ 15
theorem lnQ_0 {a : Int} : lnQ 0 a := fun q => absurd q (by decide)
def anQ (x a b : Int) (L : List gE) : Prop := x = 1 → (0 ≤ a ∧ a ≤ 15) ∧ (0 ≤ b ∧ b ≤ 15) ∧ gG L
theorem anQ_0 {a b : Int} {L : List gE} : anQ 0 a b L := fun q => absurd q (by decide)
def akQ (x a b : Int) (L : List gE) : Prop := x = 1 → (0 ≤ a ∧ a ≤ 11) ∧ (0 ≤ b ∧ b ≤ 3) ∧ gG L
theorem akQ_0 {a b : Int} {L : List gE} : akQ 0 a b L := fun q => absurd q (by decide)
theorem gG_b {h0 h : m_H} {cs : List Nat} {ss : List (Nat × Nat)} (g : gG (bR (h 110))) (R : FR cs ss h0 h) (e : ∀ j, fr cs ss 110 j = false) : gG (bR (h0 110)) := by
  rw [FR.row R e] at g; exact g
theorem gG_f {h0 h : m_H} {cs : List Nat} {ss : List (Nat × Nat)} (g : gG (bR (h0 110))) (R : FR cs ss h0 h) (e : ∀ j, fr cs ss 110 j = false) : gG (bR (h 110)) := by
  rw [FR.row R e]; exact g
def dgP (f : Nat → Int) (a : Nat) : Prop := f (a + 2) = 0 ∧ 1 ≤ f a + 100000000 * f (a + 1)
theorem vS_dg {f : Nat → Int} {a : Nat} (hd : ∀ j, j < 5 → 0 ≤ f (a + j) ∧ f (a + j) ≤ 99999999) (h1 : 1 ≤ vS f a 5) (h2 : vS f a 5 ≤ 25091827216) : dgP f a := by
  have d0 := hd 0 (by omega); have d1 := hd 1 (by omega); have d2 := hd 2 (by omega); have d3 := hd 3 (by omega); have d4 := hd 4 (by omega)
  simp only [vS] at h1 h2
  rw [Nat.add_zero] at h1 h2 d0
  unfold dgP
  omega
theorem ga_dg {h : m_H} {l : Nat} {x : Int} (G : GI h) (g : goQ h) (hl : l < 16) (ex : h 127 l = x) (hx : x = 1) : dgP (h 124) (5 * l) ∧ dgP (h 125) (5 * l) := by
  obtain ⟨⟨u1, u2⟩, ⟨l1, l2⟩⟩ := (g l hl).2.2 (ex.trans hx)
  exact ⟨vS_dg (fun j hj => g_124 G (by omega)) u1 u2, vS_dg (fun j hj => g_125 G (by omega)) l1 l2⟩
theorem ga_dgi {h : m_H} {l x : Int} (G : GI h) (g : goQ h) (h0 : 0 ≤ l) (hl : l ≤ 15) (ex : h 127 l.toNat = x) (hx : x = 1) : dgP (h 124) (5 * l).toNat ∧ dgP (h 125) (5 * l).toNat := by
  rw [show (5 * l).toNat = 5 * l.toNat by omega]
  exact ga_dg G g (by omega) ex hx
def whQ (x : Int) (f : Nat → Int) (a : Nat) : Prop := dgP f a → 1 ≤ x
theorem wh_of {f : Nat → Int} {a x1 x2 x3 x4 x5 : Int} (ha : 0 ≤ a) (e1 : f a.toNat = x1) (e2 : f (a + 1).toNat = x2) (e3 : f (a + 2).toNat = x3) (b1 : 0 ≤ x1 ∧ x1 ≤ 99999999) (b2 : 0 ≤ x2 ∧ x2 ≤ 99999999) (e4 : m_x (100000000 * (x2 + 100000000 * x3)) = x4) (e5 : m_x (x1 + x4) = x5) : whQ x5 f a.toNat := by
  rintro ⟨d1, d2⟩
  rw [show (a + 1).toNat = a.toNat + 1 by omega] at e2
  rw [show (a + 2).toNat = a.toNat + 2 by omega] at e3
  rw [e1, e2] at d2
  rw [e3] at d1
  subst d1
  rw [show (100000000 : Int) * (x2 + 100000000 * 0) = 100000000 * x2 by omega, m_x_id (by omega) (by omega)] at e4
  rw [← e4, m_x_id (by omega) (by omega)] at e5
  omega
def coI (a x y : Int) : Prop := a ≠ 0 → x ≠ 0 ∨ y ≠ 0
def coQ (x a : Int) : Prop := a ≠ 0 → x ≠ 0
theorem coI_0 {a y : Int} : coI a a y := fun q => Or.inl q
theorem coI_1 {a x y : Int} (h : x ≠ 0) : coI a x y := fun _ => Or.inl h
theorem coQ_of {a x y : Int} (I : coI a x y) (h : y = 0) : coQ x a := fun q => (I q).resolve_right (fun w => w h)
theorem tm_lt {x y r : Int} (hy : y ≠ 0) (e : x.tmod y = r) : ((r.natAbs : Nat) : Int) + 1 ≤ ((y.natAbs : Nat) : Int) := by
  rw [← e, Int.natAbs_tmod]
  have := Nat.mod_lt x.natAbs (y := y.natAbs) (by omega)
  omega
/-! the ends -/
def e1Q (h : m_H) : Prop := h 108 44 = 1 → dgP (h 138) 0 ∧ dgP (h 138) 5
def e2Q (h : m_H) : Prop := h 108 45 = 1 → dgP (h 138) 10 ∧ dgP (h 138) 15
def enQ (h : m_H) : Prop := e1Q h ∧ e2Q h
theorem goQ.put {h h' : m_H} {k j : Nat} {v : Int} (g : goQ h) (E : h' = m_up h k j v) (hk : k ≠ 124 ∧ k ≠ 125 ∧ k ≠ 126 ∧ k ≠ 127) : goQ h' := by
  unfold goQ
  rw [aS_same (upo E (Ne.symm hk.1)) (upo E (Ne.symm hk.2.1)) (upo E (Ne.symm hk.2.2.1)) (upo E (Ne.symm hk.2.2.2))]
  exact g
def feA (h : m_H) (a l : Int) : Prop := goQ h ∧ h 108 44 = h 127 a.toNat ∧ ∀ j : Nat, (j : Int) < l → h 138 j = h 124 (5 * a.toNat + j) ∧ h 138 (5 + j) = h 125 (5 * a.toNat + j)
def feB (h : m_H) (t l : Int) : Prop := goQ h ∧ h 108 45 = h 127 t.toNat ∧ ∀ j : Nat, (j : Int) < l → h 138 (10 + j) = h 125 (5 * t.toNat + j) ∧ h 138 (15 + j) = h 124 (5 * t.toNat + j)
theorem feA_0 {h1 h2 h3 : m_H} {a x v : Int} (g : goQ h1) (ex : h1 127 a.toNat = x) (E2 : h2 = m_up h1 108 44 x) (E3 : h3 = m_up h2 108 46 v) : feA h3 a 0 := by
  refine ⟨(g.put E2 (by decide)).put E3 (by decide), ?_, fun j hj => by omega⟩
  rw [upN E3 (by decide), upE E2, upN E3 (fun z => absurd z.1 (by decide)), upN E2 (fun z => absurd z.1 (by decide)), ex]
theorem feB_0 {h1 h2 h3 : m_H} {a x v : Int} (g : goQ h1) (ex : h1 127 a.toNat = x) (E2 : h2 = m_up h1 108 45 x) (E3 : h3 = m_up h2 108 47 v) : feB h3 a 0 := by
  refine ⟨(g.put E2 (by decide)).put E3 (by decide), ?_, fun j hj => by omega⟩
  rw [upN E3 (by decide), upE E2, upN E3 (fun z => absurd z.1 (by decide)), upN E2 (fun z => absurd z.1 (by decide)), ex]
theorem feA_step {h h1 h2 : m_H} {a l x y : Int} (ha : 0 ≤ a) (hl : 0 ≤ l) (hl4 : l ≤ 4) (I : feA h a l) (ex : h 124 (5 * a + l).toNat = x) (E1 : h1 = m_up h 138 l.toNat x) (ey : h1 125 (5 * a + l).toNat = y) (E2 : h2 = m_up h1 138 (5 + l).toNat y) : feA h2 a (l + 1) := by
  obtain ⟨g, i1, i2⟩ := I
  have n1 : (5 * a + l).toNat = 5 * a.toNat + l.toNat := by omega
  rw [n1] at ex ey
  rw [upN E1 (fun z => absurd z.1 (by decide))] at ey
  refine ⟨(g.put E1 (by decide)).put E2 (by decide), ?_, fun j hj => ?_⟩
  · rw [upN E2 (fun z => absurd z.1 (by decide)), upN E1 (fun z => absurd z.1 (by decide)), upN E2 (fun z => absurd z.1 (by decide)), upN E1 (fun z => absurd z.1 (by decide))]; exact i1
  · rw [upN (a := 124) E2 (fun z => absurd z.1 (by decide)), upN (a := 124) E1 (fun z => absurd z.1 (by decide)), upN (a := 125) E2 (fun z => absurd z.1 (by decide)), upN (a := 125) E1 (fun z => absurd z.1 (by decide))]
    by_cases q : (j : Int) = l
    · have q1 : l.toNat = j := by omega
      have q2 : (5 + l).toNat = 5 + j := by omega
      rw [q1] at E1 ex ey; rw [q2] at E2
      rw [upN E2 (fun z => by have := z.2; omega), upE E1, upE E2, ex, ey]
      exact ⟨rfl, rfl⟩
    · rw [upN E2 (fun z => by have := z.2; omega), upN E1 (fun z => by have := z.2; omega), upN E2 (fun z => by have := z.2; omega), upN E1 (fun z => by have := z.2; omega)]
      exact i2 j (by omega)
theorem feB_step {h h1 h2 : m_H} {a l x y : Int} (ha : 0 ≤ a) (hl : 0 ≤ l) (hl4 : l ≤ 4) (I : feB h a l) (ex : h 125 (5 * a + l).toNat = x) (E1 : h1 = m_up h 138 (10 + l).toNat x) (ey : h1 124 (5 * a + l).toNat = y) (E2 : h2 = m_up h1 138 (15 + l).toNat y) : feB h2 a (l + 1) := by
  obtain ⟨g, i1, i2⟩ := I
  have n1 : (5 * a + l).toNat = 5 * a.toNat + l.toNat := by omega
  rw [n1] at ex ey
  rw [upN E1 (fun z => absurd z.1 (by decide))] at ey
  refine ⟨(g.put E1 (by decide)).put E2 (by decide), ?_, fun j hj => ?_⟩
  · rw [upN E2 (fun z => absurd z.1 (by decide)), upN E1 (fun z => absurd z.1 (by decide)), upN E2 (fun z => absurd z.1 (by decide)), upN E1 (fun z => absurd z.1 (by decide))]; exact i1
  · rw [upN (a := 124) E2 (fun z => absurd z.1 (by decide)), upN (a := 124) E1 (fun z => absurd z.1 (by decide)), upN (a := 125) E2 (fun z => absurd z.1 (by decide)), upN (a := 125) E1 (fun z => absurd z.1 (by decide))]
    by_cases q : (j : Int) = l
    · have q1 : (10 + l).toNat = 10 + j := by omega
      have q2 : (15 + l).toNat = 15 + j := by omega
      have q3 : l.toNat = j := by omega
      rw [q3] at ex ey; rw [q1] at E1; rw [q2] at E2
      rw [upN E2 (fun z => by have := z.2; omega), upE E1, upE E2, ex, ey]
      exact ⟨rfl, rfl⟩
    · rw [upN E2 (fun z => by have := z.2; omega), upN E1 (fun z => by have := z.2; omega), upN E2 (fun z => by have := z.2; omega), upN E1 (fun z => by have := z.2; omega)]
      exact i2 j (by omega)
theorem feA_end {h : m_H} {a l : Int} (G : GI h) (ha : 0 ≤ a) (ha15 : a ≤ 15) (hl : 5 ≤ l) (I : feA h a l) : e1Q h := by
  obtain ⟨g, i1, i2⟩ := I
  intro hq
  obtain ⟨⟨d1, d2⟩, ⟨d3, d4⟩⟩ := ga_dg G g (l := a.toNat) (by omega) i1.symm hq
  have j0 := i2 0 (by omega); have j1 := i2 1 (by omega); have j2 := i2 2 (by omega)
  refine ⟨⟨?_, ?_⟩, ⟨?_, ?_⟩⟩
  · show h 138 2 = 0; rw [j2.1]; exact d1
  · show 1 ≤ h 138 0 + 100000000 * h 138 1; rw [j0.1, j1.1]; exact d2
  · show h 138 (5 + 2) = 0; rw [j2.2]; exact d3
  · show 1 ≤ h 138 (5 + 0) + 100000000 * h 138 (5 + 1); rw [j0.2, j1.2]; exact d4
theorem feB_end {h : m_H} {a l : Int} (G : GI h) (ha : 0 ≤ a) (ha15 : a ≤ 15) (hl : 5 ≤ l) (I : feB h a l) : e2Q h := by
  obtain ⟨g, i1, i2⟩ := I
  intro hq
  obtain ⟨⟨d1, d2⟩, ⟨d3, d4⟩⟩ := ga_dg G g (l := a.toNat) (by omega) i1.symm hq
  have j0 := i2 0 (by omega); have j1 := i2 1 (by omega); have j2 := i2 2 (by omega)
  refine ⟨⟨?_, ?_⟩, ⟨?_, ?_⟩⟩
  · show h 138 (10 + 2) = 0; rw [j2.1]; exact d3
  · show 1 ≤ h 138 (10 + 0) + 100000000 * h 138 (10 + 1); rw [j0.1, j1.1]; exact d4
  · show h 138 (15 + 2) = 0; rw [j2.2]; exact d1
  · show 1 ≤ h 138 (15 + 0) + 100000000 * h 138 (15 + 1); rw [j0.2, j1.2]; exact d2
theorem e1Q.same {h h' : m_H} (q : e1Q h) (e1 : h' 108 44 = h 108 44) (e2 : h' 138 = h 138) : e1Q h' := by
  unfold e1Q; rw [e1, e2]; exact q
theorem e1Q.put {h h' : m_H} {j : Nat} {v : Int} (q : e1Q h) (E : h' = m_up h 138 j v) (hj : 8 ≤ j) : e1Q h' := by
  unfold e1Q
  rw [upN E (fun z => absurd z.1 (by decide))]
  intro hq
  obtain ⟨⟨d1, d2⟩, ⟨d3, d4⟩⟩ := q hq
  refine ⟨⟨?_, ?_⟩, ⟨?_, ?_⟩⟩
  · rw [upN E (fun z => by have := z.2; omega)]; exact d1
  · rw [upN E (fun z => by have := z.2; omega), upN E (fun z => by have := z.2; omega)]; exact d2
  · rw [upN E (fun z => by have := z.2; omega)]; exact d3
  · rw [upN E (fun z => by have := z.2; omega), upN E (fun z => by have := z.2; omega)]; exact d4
def teI (h : m_H) (a x : Int) : Prop := enQ h ∧ (a = 1 → h 108 44 = x) ∧ (a = 0 → h 108 45 = x)
theorem te_of {h h1 h2 : m_H} {a x u v : Int} (q : enQ h) (e1 : a = 1 → h 108 44 = x) (e2 : a = 0 → h 108 45 = x) (E1 : h1 = m_up h 108 54 u) (E2 : h2 = m_up h1 108 55 v) : teI h2 a x := by
  have r1 : h2 138 = h 138 := by rw [upo E2 (by decide), upo E1 (by decide)]
  have r2 : h2 108 44 = h 108 44 := by rw [upN E2 (by decide), upN E1 (by decide)]
  have r3 : h2 108 45 = h 108 45 := by rw [upN E2 (by decide), upN E1 (by decide)]
  refine ⟨⟨?_, ?_⟩, by rw [r2]; exact e1, by rw [r3]; exact e2⟩
  · unfold e1Q; rw [r1, r2]; exact q.1
  · unfold e2Q; rw [r1, r3]; exact q.2
theorem te_low {h : m_H} {a x : Int} (I : teI h a x) (ha : a = 1) (hx : x = 1) : dgP (h 138) 0 := (I.1.1 ((I.2.1 ha).trans hx)).1
theorem te_high {h : m_H} {a x : Int} (I : teI h a x) (ha : a = 0) (hx : x = 1) : dgP (h 138) 10 := (I.1.2 ((I.2.2 ha).trans hx)).1
theorem shl_b {n : Int} (h1 : 0 ≤ n) (h2 : n ≤ 3) : 1 ≤ m_shl 1 (2 * n) ∧ m_shl 1 (2 * n) ≤ 64 := by
  have h3 : n = 0 ∨ n = 1 ∨ n = 2 ∨ n = 3 := by omega
  rcases h3 with q | q | q | q <;> rw [q] <;> decide
abbrev P_X12_isLengthX (h0 : m_H) (a1 : Int) : Int → m_H → Prop := fun x h' => GI h' ∧ FR [] [] h0 h' ∧ 0 ≤ x ∧ x ≤ 1 ∧ lnQ x a1
set_option maxHeartbeats 4000000 in
set_option maxRecDepth 100000 in
theorem c_X12_isLengthX (h0 : m_H) (a1 : Int) (G0 : GI h0) : m_CI M_X12_isLength [mR 108, mI a1] h0 (P_X12_isLengthX h0 a1) := by
  refine m_CI_of ⟨by decide, rfl, by simp [m_arg, m_isL, M_X12_isLength], ⟨rfl, rfl⟩, rfl, rfl⟩ (ls := [some (mR 108), some (mI a1)]) rfl ?_
  refine z_ok (fun _ _ ok => ?_)
  have oa1 : m_32 a1 := ok 1 _ rfl
  unfold m_32 at oa1
  refine z_iload_n (M := M_X12_isLength) 0 dX12_isLength_0 rfl ?_
  refine z_i2l (M := M_X12_isLength) 1 dX12_isLength_1 ?_
  refine z_lconst (M := M_X12_isLength) 2 dX12_isLength_2 (v := 0) ?_
  refine z_ldc2 (M := M_X12_isLength) 3 dX12_isLength_3 k_X12_381 ?_
  refine z_sI (M := M_X12_isLength) 6 dX12_isLength_6 t_X12_in l_X12_143 (m_rr_of rfl) (rest := []) (c_X12_in h0 a1 0 15 G0) rfl rfl (Nat.le_of_ble_eq_true rfl) ⟨rfl, rfl⟩ (fun x1 h1 qx1 => ?_)
  obtain ⟨rfl, ⟨rfl, cx1⟩ | ⟨rfl, cx1⟩⟩ := qx1
  · refine z_if_eq_F (M := M_X12_isLength) 9 dX12_isLength_9 62 rfl (by omega) ?_
    refine z_iload_n (M := M_X12_isLength) 12 dX12_isLength_12 rfl ?_
    refine z_bipush (M := M_X12_isLength) 13 dX12_isLength_13 ?_
    refine z_icmp_lt (M := M_X12_isLength) 15 dX12_isLength_15 58 rfl (fun c2 => ?_) (fun c2 => ?_)
    · refine z_iconst (M := M_X12_isLength) 58 dX12_isLength_58 ?_
      refine z_goto (M := M_X12_isLength) 59 dX12_isLength_59 63 rfl ?_
      exact z_retZ (M := M_X12_isLength) 63 dX12_isLength_63 rfl (by omega) ⟨G0, (FR.rf (cs := []) (ss := []) (h := h0)), by omega, by omega, fun _ => ⟨by omega, by omega⟩⟩
    · refine z_iload_n (M := M_X12_isLength) 18 dX12_isLength_18 rfl ?_
      refine z_bipush (M := M_X12_isLength) 19 dX12_isLength_19 ?_
      refine z_icmp_gt (M := M_X12_isLength) 21 dX12_isLength_21 58 rfl (fun c3 => ?_) (fun c3 => ?_)
      · refine z_iconst (M := M_X12_isLength) 58 dX12_isLength_58 ?_
        refine z_goto (M := M_X12_isLength) 59 dX12_isLength_59 63 rfl ?_
        exact z_retZ (M := M_X12_isLength) 63 dX12_isLength_63 rfl (by omega) ⟨G0, (FR.rf (cs := []) (ss := []) (h := h0)), by omega, by omega, fun _ => ⟨by omega, by omega⟩⟩
      · refine z_aload_n (M := M_X12_isLength) 24 dX12_isLength_24 rfl ?_
        refine z_getR (M := M_X12_isLength) 25 dX12_isLength_25 f_X12_13 o_108 rfl (g_108_3 G0) ?_
        refine z_bipush (M := M_X12_isLength) 28 dX12_isLength_28 ?_
        refine z_iload_n (M := M_X12_isLength) 30 dX12_isLength_30 rfl ?_
        refine z_i2l (M := M_X12_isLength) 31 dX12_isLength_31 ?_
        refine z_ldc2 (M := M_X12_isLength) 32 dX12_isLength_32 k_X12_383 ?_
        refine z_ldc2 (M := M_X12_isLength) 35 dX12_isLength_35 k_X12_385 ?_
        refine z_sI (M := M_X12_isLength) 38 dX12_isLength_38 t_X12_in l_X12_143 (m_rr_of rfl) (rest := [mI 42, mR 110]) (c_X12_in h0 a1 6 11 G0) rfl rfl (Nat.le_of_ble_eq_true rfl) ⟨rfl, rfl⟩ (fun x4 h2 qx4 => ?_)
        obtain ⟨rfl, ⟨rfl, cx4⟩ | ⟨rfl, cx4⟩⟩ := qx4
        · refine z_if_eq_F (M := M_X12_isLength) 41 dX12_isLength_41 51 rfl (by omega) ?_
          refine z_iload_n (M := M_X12_isLength) 44 dX12_isLength_44 rfl ?_
          refine z_bipush (M := M_X12_isLength) 45 dX12_isLength_45 ?_
          refine z_isubN (M := M_X12_isLength) 47 dX12_isLength_47 (by omega) (by omega) ?_
          refine z_goto (M := M_X12_isLength) 48 dX12_isLength_48 52 rfl ?_
          refine z_iaddN (M := M_X12_isLength) 52 dX12_isLength_52 (by omega) (by omega) ?_
          refine z_ialdG (M := M_X12_isLength) 53 dX12_isLength_53 o_110 (by omega) (by omega) (gw_c G0 (by omega) (by omega)) (fun x5 ex5 ax5 bx5 => ?_)
          refine z_iconst (M := M_X12_isLength) 54 dX12_isLength_54 ?_
          refine z_icmp_eq (M := M_X12_isLength) 55 dX12_isLength_55 62 rfl (fun c6 => ?_) (fun c6 => ?_)
          · refine z_iconst (M := M_X12_isLength) 62 dX12_isLength_62 ?_
            exact z_retZ (M := M_X12_isLength) 63 dX12_isLength_63 rfl (by omega) ⟨G0, (FR.rf (cs := []) (ss := []) (h := h0)), by omega, by omega, lnQ_0⟩
          · refine z_iconst (M := M_X12_isLength) 58 dX12_isLength_58 ?_
            refine z_goto (M := M_X12_isLength) 59 dX12_isLength_59 63 rfl ?_
            exact z_retZ (M := M_X12_isLength) 63 dX12_isLength_63 rfl (by omega) ⟨G0, (FR.rf (cs := []) (ss := []) (h := h0)), by omega, by omega, fun _ => ⟨by omega, by omega⟩⟩
        · refine z_if_eq_T (M := M_X12_isLength) 41 dX12_isLength_41 51 rfl (by omega) ?_
          refine z_iconst (M := M_X12_isLength) 51 dX12_isLength_51 ?_
          refine z_iaddN (M := M_X12_isLength) 52 dX12_isLength_52 (by omega) (by omega) ?_
          refine z_ialdG (M := M_X12_isLength) 53 dX12_isLength_53 o_110 (by omega) (by omega) (gw_c G0 (by omega) (by omega)) (fun x7 ex7 ax7 bx7 => ?_)
          refine z_iconst (M := M_X12_isLength) 54 dX12_isLength_54 ?_
          refine z_icmp_eq (M := M_X12_isLength) 55 dX12_isLength_55 62 rfl (fun c8 => ?_) (fun c8 => ?_)
          · refine z_iconst (M := M_X12_isLength) 62 dX12_isLength_62 ?_
            exact z_retZ (M := M_X12_isLength) 63 dX12_isLength_63 rfl (by omega) ⟨G0, (FR.rf (cs := []) (ss := []) (h := h0)), by omega, by omega, lnQ_0⟩
          · refine z_iconst (M := M_X12_isLength) 58 dX12_isLength_58 ?_
            refine z_goto (M := M_X12_isLength) 59 dX12_isLength_59 63 rfl ?_
            exact z_retZ (M := M_X12_isLength) 63 dX12_isLength_63 rfl (by omega) ⟨G0, (FR.rf (cs := []) (ss := []) (h := h0)), by omega, by omega, fun _ => ⟨by omega, by omega⟩⟩
  · refine z_if_eq_T (M := M_X12_isLength) 9 dX12_isLength_9 62 rfl (by omega) ?_
    refine z_iconst (M := M_X12_isLength) 62 dX12_isLength_62 ?_
    exact z_retZ (M := M_X12_isLength) 63 dX12_isLength_63 rfl (by omega) ⟨G0, (FR.rf (cs := []) (ss := []) (h := h0)), by omega, by omega, lnQ_0⟩
abbrev P_X12_isAnswered (h0 : m_H) (a1 a2 : Int) : Int → m_H → Prop := fun x h' => GI h' ∧ FR [115, 116, 117, 118, 119, 120, 121, 122, 123, 124, 125, 126, 127, 128, 129, 130, 131, 132, 133, 134] [(108, 21)] h0 h' ∧ 0 ≤ x ∧ x ≤ 1 ∧ anQ x a1 a2 (bR (h0 110))
set_option maxHeartbeats 4000000 in
set_option maxRecDepth 100000 in
theorem c_X12_isAnswered (h0 : m_H) (a1 a2 : Int) (G0 : GI h0) (hN : NP h0) : m_CI M_X12_isAnswered [mR 108, mI a1, mI a2] h0 (P_X12_isAnswered h0 a1 a2) := by
  refine m_CI_of ⟨by decide, rfl, by simp [m_arg, m_isL, M_X12_isAnswered], ⟨rfl, rfl⟩, rfl, rfl⟩ (ls := [some (mR 108), some (mI a1), some (mI a2)]) rfl ?_
  refine z_ok (fun _ _ ok => ?_)
  have oa1 : m_32 a1 := ok 1 _ rfl
  unfold m_32 at oa1
  have oa2 : m_32 a2 := ok 2 _ rfl
  unfold m_32 at oa2
  refine z_aload_n (M := M_X12_isAnswered) 0 dX12_isAnswered_0 rfl ?_
  refine z_iload_n (M := M_X12_isAnswered) 1 dX12_isAnswered_1 rfl ?_
  refine z_vI (M := M_X12_isAnswered) 2 dX12_isAnswered_2 t_X12_isLength l_X12_391 (m_rr_of rfl) (rest := []) (c_X12_isLengthX h0 a1 G0) o_108 rfl rfl rfl (Nat.le_of_ble_eq_true rfl) ⟨rfl, rfl⟩ (fun x1 h1 qx1 => ?_)
  obtain ⟨G1, S1, ax1, bx1, fx1_0⟩ := qx1
  have R1 := (FR.rf (cs := [115, 116, 117, 118, 119, 120, 121, 122, 123, 124, 125, 126, 127, 128, 129, 130, 131, 132, 133, 134]) (ss := [(108, 21)]) (h := h0)).call S1 (by decide +kernel)
  refine z_if_eq (M := M_X12_isAnswered) 5 dX12_isAnswered_5 27 rfl (fun c2 => ?_) (fun c2 => ?_)
  · refine z_iconst (M := M_X12_isAnswered) 27 dX12_isAnswered_27 ?_
    exact z_retZ (M := M_X12_isAnswered) 28 dX12_isAnswered_28 rfl (by omega) ⟨G1, R1, by omega, by omega, anQ_0⟩
  · refine z_aload_n (M := M_X12_isAnswered) 8 dX12_isAnswered_8 rfl ?_
    refine z_iload_n (M := M_X12_isAnswered) 9 dX12_isAnswered_9 rfl ?_
    refine z_vI (M := M_X12_isAnswered) 10 dX12_isAnswered_10 t_X12_isLength l_X12_391 (m_rr_of rfl) (rest := []) (c_X12_isLengthX h1 a2 G1) o_108 rfl rfl rfl (Nat.le_of_ble_eq_true rfl) ⟨rfl, rfl⟩ (fun x3 h2 qx3 => ?_)
    obtain ⟨G2, S2, ax3, bx3, fx3_0⟩ := qx3
    have R2 := R1.call S2 (by decide +kernel)
    refine z_if_eq (M := M_X12_isAnswered) 13 dX12_isAnswered_13 27 rfl (fun c4 => ?_) (fun c4 => ?_)
    · refine z_iconst (M := M_X12_isAnswered) 27 dX12_isAnswered_27 ?_
      exact z_retZ (M := M_X12_isAnswered) 28 dX12_isAnswered_28 rfl (by omega) ⟨G2, R2, by omega, by omega, anQ_0⟩
    · refine z_aload_n (M := M_X12_isAnswered) 16 dX12_isAnswered_16 rfl ?_
      refine z_vI (M := M_X12_isAnswered) 17 dX12_isAnswered_17 t_X12_canBeNow l_X12_377 (m_rr_of rfl) (rest := []) (c_X12_canBeNow h2 G2 (NP.call hN R2 (fun _ => rfl) (fun _ => rfl) (fun _ => rfl))) o_108 rfl rfl rfl (Nat.le_of_ble_eq_true rfl) ⟨rfl, rfl⟩ (fun x5 h3 qx5 => ?_)
      obtain ⟨G3, S3, ax5, bx5, fx5_0⟩ := qx5
      have R3 := R2.call S3 (by decide +kernel)
      refine z_if_eq (M := M_X12_isAnswered) 20 dX12_isAnswered_20 27 rfl (fun c6 => ?_) (fun c6 => ?_)
      · refine z_iconst (M := M_X12_isAnswered) 27 dX12_isAnswered_27 ?_
        exact z_retZ (M := M_X12_isAnswered) 28 dX12_isAnswered_28 rfl (by omega) ⟨G3, R3, by omega, by omega, anQ_0⟩
      · refine z_iconst (M := M_X12_isAnswered) 23 dX12_isAnswered_23 ?_
        refine z_goto (M := M_X12_isAnswered) 24 dX12_isAnswered_24 28 rfl ?_
        exact z_retZ (M := M_X12_isAnswered) 28 dX12_isAnswered_28 rfl (by omega) ⟨G3, R3, by omega, by omega, fun _ => ⟨fx1_0 (by omega), fx3_0 (by omega), gG_b (fx5_0 (by omega)) R2 (fun _ => rfl)⟩⟩
abbrev P_X12_fits (h0 : m_H) : Int → m_H → Prop := fun x h' => GI h' ∧ FR [115, 116, 117, 118, 119, 120, 121, 122, 123, 124, 125, 126, 127, 128, 129, 130, 131, 132, 133, 134] [(108, 0), (108, 21)] h0 h' ∧ 0 ≤ x ∧ x ≤ 1
set_option maxHeartbeats 4000000 in
set_option maxRecDepth 100000 in
theorem c_X12_fits (h0 : m_H) (G0 : GI h0) (hN : NP h0) : m_CI M_X12_fits [mR 108] h0 (P_X12_fits h0) := by
  refine m_CI_of ⟨by decide, rfl, by simp [m_arg, m_isL, M_X12_fits], ⟨rfl, rfl⟩, rfl, rfl⟩ (ls := [some (mR 108)]) rfl ?_
  refine z_aload_n (M := M_X12_fits) 0 dX12_fits_0 rfl ?_
  refine z_iconst (M := M_X12_fits) 1 dX12_fits_1 ?_
  refine z_putIH (M := M_X12_fits) 2 dX12_fits_2 p_X12_133 o_108 rfl (u_108_0 G0) ((FR.rf (cs := [115, 116, 117, 118, 119, 120, 121, 122, 123, 124, 125, 126, 127, 128, 129, 130, 131, 132, 133, 134]) (ss := [(108, 0), (108, 21)]) (h := h0)).up rfl) (fun h1 E1 G1 R1 => ?_)
  refine z_aload_n (M := M_X12_fits) 5 dX12_fits_5 rfl ?_
  refine z_vI (M := M_X12_fits) 6 dX12_fits_6 t_X12_canBeNow l_X12_377 (m_rr_of rfl) (rest := []) (c_X12_canBeNow h1 G1 (NP.call hN R1 (fun _ => rfl) (fun _ => rfl) (fun _ => rfl))) o_108 rfl rfl rfl (Nat.le_of_ble_eq_true rfl) ⟨rfl, rfl⟩ (fun x1 h2 qx1 => ?_)
  obtain ⟨G2, S2, ax1, bx1, fx1_0⟩ := qx1
  have R2 := R1.call S2 (by decide +kernel)
  refine z_if_eq (M := M_X12_fits) 9 dX12_fits_9 16 rfl (fun c2 => ?_) (fun c2 => ?_)
  · refine z_iconst (M := M_X12_fits) 16 dX12_fits_16 ?_
    exact z_retI (M := M_X12_fits) 17 dX12_fits_17 rfl ⟨G2, R2, by omega, by omega⟩
  · refine z_iconst (M := M_X12_fits) 12 dX12_fits_12 ?_
    refine z_goto (M := M_X12_fits) 13 dX12_fits_13 17 rfl ?_
    exact z_retI (M := M_X12_fits) 17 dX12_fits_17 rfl ⟨G2, R2, by omega, by omega⟩
abbrev P_X12_between (h0 : m_H) (a1 a2 a3 : Int) : Int → m_H → Prop := fun x h' => GI h' ∧ FR [115, 116, 117, 118, 119, 120, 121, 122, 123, 124, 125, 126, 127, 128, 129, 130, 131, 132, 133, 134, 135, 136] [(108, 0), (108, 21)] h0 h' ∧ (-2) ≤ x ∧ x ≤ 2000000000
set_option maxHeartbeats 4000000 in
set_option maxRecDepth 100000 in
theorem c_X12_between (h0 : m_H) (a1 a2 a3 : Int) (G0 : GI h0) (hN : NP h0) : m_CI M_X12_between [mR 108, mI a1, mI a2, mI a3] h0 (P_X12_between h0 a1 a2 a3) := by
  refine m_CI_of ⟨by decide, rfl, by simp [m_arg, m_isL, M_X12_between], ⟨rfl, rfl⟩, rfl, rfl⟩ (ls := [some (mR 108), some (mI a1), some (mI a2), some (mI a3), none, none]) rfl ?_
  refine z_ok (fun _ _ ok => ?_)
  have oa1 : m_32 a1 := ok 1 _ rfl
  unfold m_32 at oa1
  have oa2 : m_32 a2 := ok 2 _ rfl
  unfold m_32 at oa2
  have oa3 : m_32 a3 := ok 3 _ rfl
  unfold m_32 at oa3
  refine z_aload_n (M := M_X12_between) 0 dX12_between_0 rfl ?_
  refine z_iconst (M := M_X12_between) 1 dX12_between_1 ?_
  refine z_putIH (M := M_X12_between) 2 dX12_between_2 p_X12_133 o_108 rfl (u_108_0 G0) ((FR.rf (cs := [115, 116, 117, 118, 119, 120, 121, 122, 123, 124, 125, 126, 127, 128, 129, 130, 131, 132, 133, 134, 135, 136]) (ss := [(108, 0), (108, 21)]) (h := h0)).up rfl) (fun h1 E1 G1 R1 => ?_)
  refine z_iload_n (M := M_X12_between) 5 dX12_between_5 rfl ?_
  refine z_i2l (M := M_X12_between) 6 dX12_between_6 ?_
  refine z_lconst (M := M_X12_between) 7 dX12_between_7 (v := 0) ?_
  refine z_ldc2 (M := M_X12_between) 8 dX12_between_8 k_X12_152 ?_
  refine z_sI (M := M_X12_between) 11 dX12_between_11 t_X12_in l_X12_143 (m_rr_of rfl) (rest := []) (c_X12_in h1 a3 0 3 G1) rfl rfl (Nat.le_of_ble_eq_true rfl) ⟨rfl, rfl⟩ (fun x1 h2 qx1 => ?_)
  obtain ⟨rfl, ⟨rfl, cx1⟩ | ⟨rfl, cx1⟩⟩ := qx1
  · refine z_if_eq_F (M := M_X12_between) 14 dX12_between_14 26 rfl (by omega) ?_
    refine z_aload_n (M := M_X12_between) 17 dX12_between_17 rfl ?_
    refine z_iload_n (M := M_X12_between) 18 dX12_between_18 rfl ?_
    refine z_iload_n (M := M_X12_between) 19 dX12_between_19 rfl ?_
    refine z_vI (M := M_X12_between) 20 dX12_between_20 t_X12_isAnswered l_X12_394 (m_rr_of rfl) (rest := []) (c_X12_isAnswered h1 a1 a2 G1 (NP.call hN R1 (fun _ => rfl) (fun _ => rfl) (fun _ => rfl))) o_108 rfl rfl rfl (Nat.le_of_ble_eq_true rfl) ⟨rfl, rfl⟩ (fun x2 h3 qx2 => ?_)
    obtain ⟨G3, S3, ax2, bx2, fx2_0⟩ := qx2
    have R3 := R1.call S3 (by decide +kernel)
    refine z_if_ne (M := M_X12_between) 23 dX12_between_23 29 rfl (fun c3 => ?_) (fun c3 => ?_)
    · have an := fx2_0 (by omega)
      have an1 := an.1
      have an2 := an.2.1
      refine z_iload_n (M := M_X12_between) 29 dX12_between_29 rfl ?_
      refine z_iconst (M := M_X12_between) 30 dX12_between_30 ?_
      refine z_iremN (M := M_X12_between) 31 dX12_between_31 (by omega) (by omega) ?_
      refine z_topBI (lo := 0) (hi := 1) ⟨by omega, by omega⟩ (fun x4 ex4 ax4 bx4 => ?_)
      refine z_if_ne (M := M_X12_between) 32 dX12_between_32 39 rfl (fun c5 => ?_) (fun c5 => ?_)
      · refine z_iconst (M := M_X12_between) 39 dX12_between_39 ?_
        refine z_istore (M := M_X12_between) 40 dX12_between_40 (ls' := [some (mR 108), some (mI a1), some (mI a2), some (mI a3), some (mI 0), none]) (by decide) rfl ?_
        refine z_aload_n (M := M_X12_between) 42 dX12_between_42 rfl ?_
        refine z_iload (M := M_X12_between) 43 dX12_between_43 rfl ?_
        refine z_if_eq_T (M := M_X12_between) 45 dX12_between_45 52 rfl (by omega) ?_
        refine z_iload_n (M := M_X12_between) 52 dX12_between_52 rfl ?_
        refine z_vV (M := M_X12_between) 53 dX12_between_53 t_X12_goFrom l_X12_397 (m_rr_of rfl) (rest := []) (c_X12_goFrom h3 a1 G3 ⟨by omega, by omega⟩ (NP.call hN R3 (fun _ => rfl) (fun _ => rfl) (fun _ => rfl)) (gG_f (gG_b an.2.2 R1 (fun _ => rfl)) R3 (fun _ => rfl))) o_108 rfl rfl rfl (Nat.le_of_ble_eq_true rfl) ⟨rfl, rfl⟩ (fun h4 qx6 => ?_)
        obtain ⟨G4, S4, fx6_0⟩ := qx6
        have R4 := R3.call S4 (by decide +kernel)
        refine z_iload (M := M_X12_between) 56 dX12_between_56 rfl ?_
        refine z_if_eq_T (M := M_X12_between) 58 dX12_between_58 65 rfl (by omega) ?_
        refine z_iload_n (M := M_X12_between) 65 dX12_between_65 rfl ?_
        refine z_istore (M := M_X12_between) 66 dX12_between_66 (ls' := [some (mR 108), some (mI a1), some (mI a2), some (mI a3), some (mI 0), some (mI a2)]) (by decide) rfl ?_
        refine z_iload_n (M := M_X12_between) 68 dX12_between_68 rfl ?_
        refine z_iconst (M := M_X12_between) 69 dX12_between_69 ?_
        refine z_icmp_le (M := M_X12_between) 70 dX12_between_70 99 rfl (fun c7 => ?_) (fun c7 => ?_)
        · refine z_aload_n (M := M_X12_between) 99 dX12_between_99 rfl ?_
          refine z_getR (M := M_X12_between) 100 dX12_between_100 f_X12_70 o_108 rfl (g_108_32 G4) ?_
          refine z_iload (M := M_X12_between) 103 dX12_between_103 rfl ?_
          refine z_zaldG (M := M_X12_between) 105 dX12_between_105 o_127 (by omega) (by omega) (g_127 G4 (by omega)) (fun x8 ex8 ax8 bx8 => ?_)
          refine z_if_ne (M := M_X12_between) 106 dX12_between_106 120 rfl (fun c9 => ?_) (fun c9 => ?_)
          · refine z_iload (M := M_X12_between) 120 dX12_between_120 rfl ?_
            refine z_if_eq_T (M := M_X12_between) 122 dX12_between_122 154 rfl (by omega) ?_
            refine z_aload_n (M := M_X12_between) 154 dX12_between_154 rfl ?_
            refine z_aload_n (M := M_X12_between) 155 dX12_between_155 rfl ?_
            refine z_getR (M := M_X12_between) 156 dX12_between_156 f_X12_64 o_108 rfl (g_108_30 G4) ?_
            refine z_iconst (M := M_X12_between) 159 dX12_between_159 ?_
            refine z_iload (M := M_X12_between) 160 dX12_between_160 rfl ?_
            refine z_imulN (M := M_X12_between) 162 dX12_between_162 (by omega) (by omega) ?_
            refine z_aload_n (M := M_X12_between) 163 dX12_between_163 rfl ?_
            refine z_getR (M := M_X12_between) 164 dX12_between_164 f_X12_61 o_108 rfl (g_108_29 G4) ?_
            refine z_iconst (M := M_X12_between) 167 dX12_between_167 ?_
            refine z_iload (M := M_X12_between) 168 dX12_between_168 rfl ?_
            refine z_imulN (M := M_X12_between) 170 dX12_between_170 (by omega) (by omega) ?_
            refine z_ldcw (M := M_X12_between) 171 dX12_between_171 k_X12_400 ?_
            refine z_ldcw (M := M_X12_between) 174 dX12_between_174 k_X12_401 ?_
            refine z_vI (M := M_X12_between) 177 dX12_between_177 t_X12_share l_X12_402 (m_rr_of rfl) (rest := []) (c_X12_share h4 125 124 (5 * a2) (5 * a2) 1000000 2000000000 (Or.inr rfl) (Or.inl rfl) G4 ⟨by omega, by omega⟩ ⟨by omega, by omega⟩ ⟨by omega, by omega⟩) o_108 rfl rfl rfl (Nat.le_of_ble_eq_true rfl) ⟨rfl, rfl⟩ (fun x10 h5 qx10 => ?_)
            obtain ⟨G5, S5, ax10, bx10⟩ := qx10
            have R5 := R4.call S5 (by decide +kernel)
            exact z_retI (M := M_X12_between) 180 dX12_between_180 rfl ⟨G5, R5, by omega, by omega⟩
          · refine z_iload (M := M_X12_between) 109 dX12_between_109 rfl ?_
            refine z_if_eq_T (M := M_X12_between) 111 dX12_between_111 118 rfl (by omega) ?_
            refine z_iconst (M := M_X12_between) 118 dX12_between_118 ?_
            exact z_retI (M := M_X12_between) 119 dX12_between_119 rfl ⟨G4, R4, by omega, by omega⟩
        · refine z_aload_n (M := M_X12_between) 73 dX12_between_73 rfl ?_
          refine z_getR (M := M_X12_between) 74 dX12_between_74 f_X12_70 o_108 rfl (g_108_32 G4) ?_
          refine z_iload (M := M_X12_between) 77 dX12_between_77 rfl ?_
          refine z_zaldG (M := M_X12_between) 79 dX12_between_79 o_127 (by omega) (by omega) (g_127 G4 (by omega)) (fun x11 ex11 ax11 bx11 => ?_)
          refine z_if_eq (M := M_X12_between) 80 dX12_between_80 97 rfl (fun c12 => ?_) (fun c12 => ?_)
          · refine z_iconst (M := M_X12_between) 97 dX12_between_97 ?_
            exact z_retI (M := M_X12_between) 98 dX12_between_98 rfl ⟨G4, R4, by omega, by omega⟩
          · refine z_aload_n (M := M_X12_between) 83 dX12_between_83 rfl ?_
            refine z_getR (M := M_X12_between) 84 dX12_between_84 f_X12_67 o_108 rfl (g_108_31 G4) ?_
            refine z_iload (M := M_X12_between) 87 dX12_between_87 rfl ?_
            refine z_zaldG (M := M_X12_between) 89 dX12_between_89 o_126 (by omega) (by omega) (g_126 G4 (by omega)) (fun x13 ex13 ax13 bx13 => ?_)
            refine z_if_ne (M := M_X12_between) 90 dX12_between_90 97 rfl (fun c14 => ?_) (fun c14 => ?_)
            · refine z_iconst (M := M_X12_between) 97 dX12_between_97 ?_
              exact z_retI (M := M_X12_between) 98 dX12_between_98 rfl ⟨G4, R4, by omega, by omega⟩
            · refine z_iconst (M := M_X12_between) 93 dX12_between_93 ?_
              refine z_goto (M := M_X12_between) 94 dX12_between_94 98 rfl ?_
              exact z_retI (M := M_X12_between) 98 dX12_between_98 rfl ⟨G4, R4, by omega, by omega⟩
      · refine z_iconst (M := M_X12_between) 35 dX12_between_35 ?_
        refine z_goto (M := M_X12_between) 36 dX12_between_36 40 rfl ?_
        refine z_istore (M := M_X12_between) 40 dX12_between_40 (ls' := [some (mR 108), some (mI a1), some (mI a2), some (mI a3), some (mI 1), none]) (by decide) rfl ?_
        refine z_aload_n (M := M_X12_between) 42 dX12_between_42 rfl ?_
        refine z_iload (M := M_X12_between) 43 dX12_between_43 rfl ?_
        refine z_if_eq_F (M := M_X12_between) 45 dX12_between_45 52 rfl (by omega) ?_
        refine z_iload_n (M := M_X12_between) 48 dX12_between_48 rfl ?_
        refine z_goto (M := M_X12_between) 49 dX12_between_49 53 rfl ?_
        refine z_vV (M := M_X12_between) 53 dX12_between_53 t_X12_goFrom l_X12_397 (m_rr_of rfl) (rest := []) (c_X12_goFrom h3 a2 G3 ⟨by omega, by omega⟩ (NP.call hN R3 (fun _ => rfl) (fun _ => rfl) (fun _ => rfl)) (gG_f (gG_b an.2.2 R1 (fun _ => rfl)) R3 (fun _ => rfl))) o_108 rfl rfl rfl (Nat.le_of_ble_eq_true rfl) ⟨rfl, rfl⟩ (fun h6 qx15 => ?_)
        obtain ⟨G6, S6, fx15_0⟩ := qx15
        have R6 := R3.call S6 (by decide +kernel)
        refine z_iload (M := M_X12_between) 56 dX12_between_56 rfl ?_
        refine z_if_eq_F (M := M_X12_between) 58 dX12_between_58 65 rfl (by omega) ?_
        refine z_iload_n (M := M_X12_between) 61 dX12_between_61 rfl ?_
        refine z_goto (M := M_X12_between) 62 dX12_between_62 66 rfl ?_
        refine z_istore (M := M_X12_between) 66 dX12_between_66 (ls' := [some (mR 108), some (mI a1), some (mI a2), some (mI a3), some (mI 1), some (mI a1)]) (by decide) rfl ?_
        refine z_iload_n (M := M_X12_between) 68 dX12_between_68 rfl ?_
        refine z_iconst (M := M_X12_between) 69 dX12_between_69 ?_
        refine z_icmp_le (M := M_X12_between) 70 dX12_between_70 99 rfl (fun c16 => ?_) (fun c16 => ?_)
        · refine z_aload_n (M := M_X12_between) 99 dX12_between_99 rfl ?_
          refine z_getR (M := M_X12_between) 100 dX12_between_100 f_X12_70 o_108 rfl (g_108_32 G6) ?_
          refine z_iload (M := M_X12_between) 103 dX12_between_103 rfl ?_
          refine z_zaldG (M := M_X12_between) 105 dX12_between_105 o_127 (by omega) (by omega) (g_127 G6 (by omega)) (fun x17 ex17 ax17 bx17 => ?_)
          refine z_if_ne (M := M_X12_between) 106 dX12_between_106 120 rfl (fun c18 => ?_) (fun c18 => ?_)
          · refine z_iload (M := M_X12_between) 120 dX12_between_120 rfl ?_
            refine z_if_eq_F (M := M_X12_between) 122 dX12_between_122 154 rfl (by omega) ?_
            refine z_aload_n (M := M_X12_between) 125 dX12_between_125 rfl ?_
            refine z_aload_n (M := M_X12_between) 126 dX12_between_126 rfl ?_
            refine z_getR (M := M_X12_between) 127 dX12_between_127 f_X12_61 o_108 rfl (g_108_29 G6) ?_
            refine z_iconst (M := M_X12_between) 130 dX12_between_130 ?_
            refine z_iload (M := M_X12_between) 131 dX12_between_131 rfl ?_
            refine z_imulN (M := M_X12_between) 133 dX12_between_133 (by omega) (by omega) ?_
            refine z_aload_n (M := M_X12_between) 134 dX12_between_134 rfl ?_
            refine z_getR (M := M_X12_between) 135 dX12_between_135 f_X12_64 o_108 rfl (g_108_30 G6) ?_
            refine z_iconst (M := M_X12_between) 138 dX12_between_138 ?_
            refine z_iload (M := M_X12_between) 139 dX12_between_139 rfl ?_
            refine z_imulN (M := M_X12_between) 141 dX12_between_141 (by omega) (by omega) ?_
            refine z_ldcw (M := M_X12_between) 142 dX12_between_142 k_X12_400 ?_
            refine z_ldcw (M := M_X12_between) 145 dX12_between_145 k_X12_401 ?_
            refine z_vI (M := M_X12_between) 148 dX12_between_148 t_X12_share l_X12_402 (m_rr_of rfl) (rest := []) (c_X12_share h6 124 125 (5 * a1) (5 * a1) 1000000 2000000000 (Or.inl rfl) (Or.inr rfl) G6 ⟨by omega, by omega⟩ ⟨by omega, by omega⟩ ⟨by omega, by omega⟩) o_108 rfl rfl rfl (Nat.le_of_ble_eq_true rfl) ⟨rfl, rfl⟩ (fun x19 h7 qx19 => ?_)
            obtain ⟨G7, S7, ax19, bx19⟩ := qx19
            have R7 := R6.call S7 (by decide +kernel)
            refine z_goto (M := M_X12_between) 151 dX12_between_151 180 rfl ?_
            exact z_retI (M := M_X12_between) 180 dX12_between_180 rfl ⟨G7, R7, by omega, by omega⟩
          · refine z_iload (M := M_X12_between) 109 dX12_between_109 rfl ?_
            refine z_if_eq_F (M := M_X12_between) 111 dX12_between_111 118 rfl (by omega) ?_
            refine z_iconst (M := M_X12_between) 114 dX12_between_114 ?_
            refine z_goto (M := M_X12_between) 115 dX12_between_115 119 rfl ?_
            exact z_retI (M := M_X12_between) 119 dX12_between_119 rfl ⟨G6, R6, by omega, by omega⟩
        · refine z_aload_n (M := M_X12_between) 73 dX12_between_73 rfl ?_
          refine z_getR (M := M_X12_between) 74 dX12_between_74 f_X12_70 o_108 rfl (g_108_32 G6) ?_
          refine z_iload (M := M_X12_between) 77 dX12_between_77 rfl ?_
          refine z_zaldG (M := M_X12_between) 79 dX12_between_79 o_127 (by omega) (by omega) (g_127 G6 (by omega)) (fun x20 ex20 ax20 bx20 => ?_)
          refine z_if_eq (M := M_X12_between) 80 dX12_between_80 97 rfl (fun c21 => ?_) (fun c21 => ?_)
          · refine z_iconst (M := M_X12_between) 97 dX12_between_97 ?_
            exact z_retI (M := M_X12_between) 98 dX12_between_98 rfl ⟨G6, R6, by omega, by omega⟩
          · refine z_aload_n (M := M_X12_between) 83 dX12_between_83 rfl ?_
            refine z_getR (M := M_X12_between) 84 dX12_between_84 f_X12_67 o_108 rfl (g_108_31 G6) ?_
            refine z_iload (M := M_X12_between) 87 dX12_between_87 rfl ?_
            refine z_zaldG (M := M_X12_between) 89 dX12_between_89 o_126 (by omega) (by omega) (g_126 G6 (by omega)) (fun x22 ex22 ax22 bx22 => ?_)
            refine z_if_ne (M := M_X12_between) 90 dX12_between_90 97 rfl (fun c23 => ?_) (fun c23 => ?_)
            · refine z_iconst (M := M_X12_between) 97 dX12_between_97 ?_
              exact z_retI (M := M_X12_between) 98 dX12_between_98 rfl ⟨G6, R6, by omega, by omega⟩
            · refine z_iconst (M := M_X12_between) 93 dX12_between_93 ?_
              refine z_goto (M := M_X12_between) 94 dX12_between_94 98 rfl ?_
              exact z_retI (M := M_X12_between) 98 dX12_between_98 rfl ⟨G6, R6, by omega, by omega⟩
    · refine z_bipush (M := M_X12_between) 26 dX12_between_26 ?_
      exact z_retI (M := M_X12_between) 28 dX12_between_28 rfl ⟨G3, R3, by omega, by omega⟩
  · refine z_if_eq_T (M := M_X12_between) 14 dX12_between_14 26 rfl (by omega) ?_
    refine z_bipush (M := M_X12_between) 26 dX12_between_26 ?_
    exact z_retI (M := M_X12_between) 28 dX12_between_28 rfl ⟨G1, R1, by omega, by omega⟩
abbrev P_X12_besideOne (h0 : m_H) (a1 a2 : Int) : Int → m_H → Prop := fun x h' => GI h' ∧ FR [115, 116, 117, 118, 119, 120, 121, 122, 123, 124, 125, 126, 127, 128, 129, 130, 131, 132, 133] [(108, 21)] h0 h' ∧ (-1) ≤ x ∧ x ≤ 2
set_option maxHeartbeats 4000000 in
set_option maxRecDepth 100000 in
theorem c_X12_besideOne (h0 : m_H) (a1 a2 : Int) (G0 : GI h0) (pa1 : 0 ≤ a1 ∧ a1 ≤ 15) (pa2 : 0 ≤ a2 ∧ a2 ≤ 15) (hN : NP h0) (hG : gG (bR (h0 110))) : m_CI M_X12_besideOne [mR 108, mI a1, mI a2] h0 (P_X12_besideOne h0 a1 a2) := by
  refine m_CI_of ⟨by decide, rfl, by simp [m_arg, m_isL, M_X12_besideOne], ⟨rfl, rfl⟩, rfl, rfl⟩ (ls := [some (mR 108), some (mI a1), some (mI a2), none]) rfl ?_
  refine z_aload_n (M := M_X12_besideOne) 0 dX12_besideOne_0 rfl ?_
  refine z_iload_n (M := M_X12_besideOne) 1 dX12_besideOne_1 rfl ?_
  refine z_vV (M := M_X12_besideOne) 2 dX12_besideOne_2 t_X12_goFrom l_X12_397 (m_rr_of rfl) (rest := []) (c_X12_goFrom h0 a2 G0 ⟨by omega, by omega⟩ (NP.call hN (FR.rf (cs := [115, 116, 117, 118, 119, 120, 121, 122, 123, 124, 125, 126, 127, 128, 129, 130, 131, 132, 133]) (ss := [(108, 21)]) (h := h0)) (fun _ => rfl) (fun _ => rfl) (fun _ => rfl)) (gG_f hG (FR.rf (cs := [115, 116, 117, 118, 119, 120, 121, 122, 123, 124, 125, 126, 127, 128, 129, 130, 131, 132, 133]) (ss := [(108, 21)]) (h := h0)) (fun _ => rfl))) o_108 rfl rfl rfl (Nat.le_of_ble_eq_true rfl) ⟨rfl, rfl⟩ (fun h1 qx1 => ?_)
  obtain ⟨G1, S1, fx1_0⟩ := qx1
  have R1 := (FR.rf (cs := [115, 116, 117, 118, 119, 120, 121, 122, 123, 124, 125, 126, 127, 128, 129, 130, 131, 132, 133]) (ss := [(108, 21)]) (h := h0)).call S1 (by decide +kernel)
  refine z_aload_n (M := M_X12_besideOne) 5 dX12_besideOne_5 rfl ?_
  refine z_getR (M := M_X12_besideOne) 6 dX12_besideOne_6 f_X12_70 o_108 rfl (g_108_32 G1) ?_
  refine z_iload_n (M := M_X12_besideOne) 9 dX12_besideOne_9 rfl ?_
  refine z_zaldG (M := M_X12_besideOne) 10 dX12_besideOne_10 o_127 (by omega) (by omega) (g_127 G1 (by omega)) (fun x2 ex2 ax2 bx2 => ?_)
  refine z_if_ne (M := M_X12_besideOne) 11 dX12_besideOne_11 16 rfl (fun c3 => ?_) (fun c3 => ?_)
  · refine z_aload_n (M := M_X12_besideOne) 16 dX12_besideOne_16 rfl ?_
    refine z_aload_n (M := M_X12_besideOne) 17 dX12_besideOne_17 rfl ?_
    refine z_getR (M := M_X12_besideOne) 18 dX12_besideOne_18 f_X12_61 o_108 rfl (g_108_29 G1) ?_
    refine z_aload_n (M := M_X12_besideOne) 21 dX12_besideOne_21 rfl ?_
    refine z_getR (M := M_X12_besideOne) 22 dX12_besideOne_22 f_X12_64 o_108 rfl (g_108_30 G1) ?_
    refine z_iconst (M := M_X12_besideOne) 25 dX12_besideOne_25 ?_
    refine z_iload_n (M := M_X12_besideOne) 26 dX12_besideOne_26 rfl ?_
    refine z_imulN (M := M_X12_besideOne) 27 dX12_besideOne_27 (by omega) (by omega) ?_
    refine z_aload_n (M := M_X12_besideOne) 28 dX12_besideOne_28 rfl ?_
    refine z_getR (M := M_X12_besideOne) 29 dX12_besideOne_29 f_X12_100 o_108 rfl (g_108_42 G1) ?_
    refine z_aload_n (M := M_X12_besideOne) 32 dX12_besideOne_32 rfl ?_
    refine z_getR (M := M_X12_besideOne) 33 dX12_besideOne_33 f_X12_100 o_108 rfl (g_108_42 G1) ?_
    refine z_iconst (M := M_X12_besideOne) 36 dX12_besideOne_36 ?_
    refine z_vI (M := M_X12_besideOne) 37 dX12_besideOne_37 t_X12_compare l_X12_350 (m_rr_of rfl) (rest := []) (c_X12_compareC h1 (5 * a1) 0 G1 ⟨by omega, by omega⟩ ⟨by omega, by omega⟩) o_108 rfl rfl rfl (Nat.le_of_ble_eq_true rfl) ⟨rfl, rfl⟩ (fun x4 h2 qx4 => ?_)
    obtain ⟨G2, S2, ax4, bx4, fx4_0⟩ := qx4
    have R2 := R1.call S2 (by decide +kernel)
    refine z_istore_n (M := M_X12_besideOne) 40 dX12_besideOne_40 (ls' := [some (mR 108), some (mI a1), some (mI a2), some (mI x4)]) (by decide) rfl ?_
    refine z_iload_n (M := M_X12_besideOne) 41 dX12_besideOne_41 rfl ?_
    refine z_if_ne (M := M_X12_besideOne) 42 dX12_besideOne_42 58 rfl (fun c5 => ?_) (fun c5 => ?_)
    · refine z_iload_n (M := M_X12_besideOne) 58 dX12_besideOne_58 rfl ?_
      exact z_retI (M := M_X12_besideOne) 59 dX12_besideOne_59 rfl ⟨G2, R2, by omega, by omega⟩
    · refine z_aload_n (M := M_X12_besideOne) 45 dX12_besideOne_45 rfl ?_
      refine z_getR (M := M_X12_besideOne) 46 dX12_besideOne_46 f_X12_67 o_108 rfl (g_108_31 G2) ?_
      refine z_iload_n (M := M_X12_besideOne) 49 dX12_besideOne_49 rfl ?_
      refine z_zaldG (M := M_X12_besideOne) 50 dX12_besideOne_50 o_126 (by omega) (by omega) (g_126 G2 (by omega)) (fun x6 ex6 ax6 bx6 => ?_)
      refine z_if_eq (M := M_X12_besideOne) 51 dX12_besideOne_51 58 rfl (fun c7 => ?_) (fun c7 => ?_)
      · refine z_iload_n (M := M_X12_besideOne) 58 dX12_besideOne_58 rfl ?_
        exact z_retI (M := M_X12_besideOne) 59 dX12_besideOne_59 rfl ⟨G2, R2, by omega, by omega⟩
      · refine z_iconst (M := M_X12_besideOne) 54 dX12_besideOne_54 ?_
        refine z_goto (M := M_X12_besideOne) 55 dX12_besideOne_55 59 rfl ?_
        exact z_retI (M := M_X12_besideOne) 59 dX12_besideOne_59 rfl ⟨G2, R2, by omega, by omega⟩
  · refine z_iconst (M := M_X12_besideOne) 14 dX12_besideOne_14 ?_
    exact z_retI (M := M_X12_besideOne) 15 dX12_besideOne_15 rfl ⟨G1, R1, by omega, by omega⟩
abbrev P_X12_sure (h0 : m_H) (a1 a2 : Int) : Int → m_H → Prop := fun x h' => GI h' ∧ FR [115, 116, 117, 118, 119, 120, 121, 122, 123, 124, 125, 126, 127, 128, 129, 130, 131, 132, 133, 134] [(108, 0), (108, 21)] h0 h' ∧ (-2) ≤ x ∧ x ≤ 3
set_option maxHeartbeats 4000000 in
set_option maxRecDepth 100000 in
theorem c_X12_sure (h0 : m_H) (a1 a2 : Int) (G0 : GI h0) (hN : NP h0) : m_CI M_X12_sure [mR 108, mI a1, mI a2] h0 (P_X12_sure h0 a1 a2) := by
  refine m_CI_of ⟨by decide, rfl, by simp [m_arg, m_isL, M_X12_sure], ⟨rfl, rfl⟩, rfl, rfl⟩ (ls := [some (mR 108), some (mI a1), some (mI a2), none, none]) rfl ?_
  refine z_ok (fun _ _ ok => ?_)
  have oa1 : m_32 a1 := ok 1 _ rfl
  unfold m_32 at oa1
  have oa2 : m_32 a2 := ok 2 _ rfl
  unfold m_32 at oa2
  refine z_aload_n (M := M_X12_sure) 0 dX12_sure_0 rfl ?_
  refine z_iconst (M := M_X12_sure) 1 dX12_sure_1 ?_
  refine z_putIH (M := M_X12_sure) 2 dX12_sure_2 p_X12_133 o_108 rfl (u_108_0 G0) ((FR.rf (cs := [115, 116, 117, 118, 119, 120, 121, 122, 123, 124, 125, 126, 127, 128, 129, 130, 131, 132, 133, 134]) (ss := [(108, 0), (108, 21)]) (h := h0)).up rfl) (fun h1 E1 G1 R1 => ?_)
  refine z_aload_n (M := M_X12_sure) 5 dX12_sure_5 rfl ?_
  refine z_iload_n (M := M_X12_sure) 6 dX12_sure_6 rfl ?_
  refine z_iload_n (M := M_X12_sure) 7 dX12_sure_7 rfl ?_
  refine z_vI (M := M_X12_sure) 8 dX12_sure_8 t_X12_isAnswered l_X12_394 (m_rr_of rfl) (rest := []) (c_X12_isAnswered h1 a1 a2 G1 (NP.call hN R1 (fun _ => rfl) (fun _ => rfl) (fun _ => rfl))) o_108 rfl rfl rfl (Nat.le_of_ble_eq_true rfl) ⟨rfl, rfl⟩ (fun x1 h2 qx1 => ?_)
  obtain ⟨G2, S2, ax1, bx1, fx1_0⟩ := qx1
  have R2 := R1.call S2 (by decide +kernel)
  refine z_if_ne (M := M_X12_sure) 11 dX12_sure_11 17 rfl (fun c2 => ?_) (fun c2 => ?_)
  · have an := fx1_0 (by omega)
    have an1 := an.1
    have an2 := an.2.1
    refine z_aload_n (M := M_X12_sure) 17 dX12_sure_17 rfl ?_
    refine z_iload_n (M := M_X12_sure) 18 dX12_sure_18 rfl ?_
    refine z_iload_n (M := M_X12_sure) 19 dX12_sure_19 rfl ?_
    refine z_vI (M := M_X12_sure) 20 dX12_sure_20 t_X12_besideOne l_X12_406 (m_rr_of rfl) (rest := []) (c_X12_besideOne h2 a1 a2 G2 ⟨by omega, by omega⟩ ⟨by omega, by omega⟩ (NP.call hN R2 (fun _ => rfl) (fun _ => rfl) (fun _ => rfl)) (gG_f (gG_b an.2.2 R1 (fun _ => rfl)) R2 (fun _ => rfl))) o_108 rfl rfl rfl (Nat.le_of_ble_eq_true rfl) ⟨rfl, rfl⟩ (fun x3 h3 qx3 => ?_)
    obtain ⟨G3, S3, ax3, bx3⟩ := qx3
    have R3 := R2.call S3 (by decide +kernel)
    refine z_istore_n (M := M_X12_sure) 23 dX12_sure_23 (ls' := [some (mR 108), some (mI a1), some (mI a2), some (mI x3), none]) (by decide) rfl ?_
    refine z_aload_n (M := M_X12_sure) 24 dX12_sure_24 rfl ?_
    refine z_iload_n (M := M_X12_sure) 25 dX12_sure_25 rfl ?_
    refine z_iload_n (M := M_X12_sure) 26 dX12_sure_26 rfl ?_
    refine z_vI (M := M_X12_sure) 27 dX12_sure_27 t_X12_besideOne l_X12_406 (m_rr_of rfl) (rest := []) (c_X12_besideOne h3 a2 a1 G3 ⟨by omega, by omega⟩ ⟨by omega, by omega⟩ (NP.call hN R3 (fun _ => rfl) (fun _ => rfl) (fun _ => rfl)) (gG_f (gG_b an.2.2 R1 (fun _ => rfl)) R3 (fun _ => rfl))) o_108 rfl rfl rfl (Nat.le_of_ble_eq_true rfl) ⟨rfl, rfl⟩ (fun x4 h4 qx4 => ?_)
    obtain ⟨G4, S4, ax4, bx4⟩ := qx4
    have R4 := R3.call S4 (by decide +kernel)
    refine z_istore (M := M_X12_sure) 30 dX12_sure_30 (ls' := [some (mR 108), some (mI a1), some (mI a2), some (mI x3), some (mI x4)]) (by decide) rfl ?_
    refine z_iload_n (M := M_X12_sure) 32 dX12_sure_32 rfl ?_
    refine z_if_le (M := M_X12_sure) 33 dX12_sure_33 40 rfl (fun c5 => ?_) (fun c5 => ?_)
    · refine z_iload (M := M_X12_sure) 40 dX12_sure_40 rfl ?_
      refine z_if_le (M := M_X12_sure) 42 dX12_sure_42 49 rfl (fun c6 => ?_) (fun c6 => ?_)
      · refine z_iload_n (M := M_X12_sure) 49 dX12_sure_49 rfl ?_
        refine z_if_ne (M := M_X12_sure) 50 dX12_sure_50 62 rfl (fun c7 => ?_) (fun c7 => ?_)
        · refine z_iconst (M := M_X12_sure) 62 dX12_sure_62 ?_
          exact z_retI (M := M_X12_sure) 63 dX12_sure_63 rfl ⟨G4, R4, by omega, by omega⟩
        · refine z_iload (M := M_X12_sure) 53 dX12_sure_53 rfl ?_
          refine z_if_ne (M := M_X12_sure) 55 dX12_sure_55 62 rfl (fun c8 => ?_) (fun c8 => ?_)
          · refine z_iconst (M := M_X12_sure) 62 dX12_sure_62 ?_
            exact z_retI (M := M_X12_sure) 63 dX12_sure_63 rfl ⟨G4, R4, by omega, by omega⟩
          · refine z_iconst (M := M_X12_sure) 58 dX12_sure_58 ?_
            refine z_goto (M := M_X12_sure) 59 dX12_sure_59 63 rfl ?_
            exact z_retI (M := M_X12_sure) 63 dX12_sure_63 rfl ⟨G4, R4, by omega, by omega⟩
      · refine z_iconst (M := M_X12_sure) 45 dX12_sure_45 ?_
        refine z_goto (M := M_X12_sure) 46 dX12_sure_46 63 rfl ?_
        exact z_retI (M := M_X12_sure) 63 dX12_sure_63 rfl ⟨G4, R4, by omega, by omega⟩
    · refine z_iconst (M := M_X12_sure) 36 dX12_sure_36 ?_
      refine z_goto (M := M_X12_sure) 37 dX12_sure_37 63 rfl ?_
      exact z_retI (M := M_X12_sure) 63 dX12_sure_63 rfl ⟨G4, R4, by omega, by omega⟩
  · refine z_bipush (M := M_X12_sure) 14 dX12_sure_14 ?_
    exact z_retI (M := M_X12_sure) 16 dX12_sure_16 rfl ⟨G2, R2, by omega, by omega⟩
abbrev P_X12_feet (h0 : m_H) (a1 a2 a3 : Int) : Int → m_H → Prop := fun x h' => GI h' ∧ FR [115, 116, 117, 118, 119, 120, 121, 122, 123, 124, 125, 126, 127, 128, 129, 130, 131, 132, 133, 134, 135, 136] [(108, 0), (108, 21)] h0 h' ∧ (-2) ≤ x ∧ x ≤ 2000000000
def q_X12_feet (h0 : m_H) (a1 a2 a3 : Int) (n : Nat) : Prop := (∀ (l5 l6 l7 : Int) (h : m_H), GI h → FR [115, 116, 117, 118, 119, 120, 121, 122, 123, 124, 125, 126, 127, 128, 129, 130, 131, 132, 133, 134, 135, 136] [(108, 0), (108, 21)] h0 h → 0 ≤ l5 → l5 ≤ 2000000000 → 0 ≤ l6 → l6 ≤ 1 → 0 ≤ l7 → l7 ≤ 10 → 0 ≤ a1 → a1 ≤ 11 → 0 ≤ a2 → a2 ≤ 3 → 1 ≤ a3 → a3 ≤ 1 → 2 * (10 - l7) + (1) ≤ (n : Int) → m_Z oF M_X12_feet 194 [some (mR 108), none, none, none, some (mI (12 + a2)), some (mI l5), some (mI l6), some (mI l7)] [] h (m_QI (P_X12_feet h0 a1 a2 a3)))
set_option maxHeartbeats 4000000 in
set_option maxRecDepth 100000 in
theorem s_X12_feet_194 (h0 : m_H) (a1 a2 a3 : Int) (G0 : GI h0) (hN : NP h0) (n : Nat) (ih : q_X12_feet h0 a1 a2 a3 n) : ∀ (l5 l6 l7 : Int) (h : m_H), GI h → FR [115, 116, 117, 118, 119, 120, 121, 122, 123, 124, 125, 126, 127, 128, 129, 130, 131, 132, 133, 134, 135, 136] [(108, 0), (108, 21)] h0 h → 0 ≤ l5 → l5 ≤ 2000000000 → 0 ≤ l6 → l6 ≤ 1 → 0 ≤ l7 → l7 ≤ 10 → 0 ≤ a1 → a1 ≤ 11 → 0 ≤ a2 → a2 ≤ 3 → 1 ≤ a3 → a3 ≤ 1 → 2 * (10 - l7) + (1) ≤ ((n + 1 : Nat) : Int) → m_Z oF M_X12_feet 194 [some (mR 108), none, none, none, some (mI (12 + a2)), some (mI l5), some (mI l6), some (mI l7)] [] h (m_QI (P_X12_feet h0 a1 a2 a3)) := by
  intro l5 l6 l7 h G R v0 v1 v2 v3 v4 v5 v6 v7 v8 v9 v10 v11 hr
  refine z_iload (M := M_X12_feet) 194 dX12_feet_194 rfl ?_
  refine z_bipush (M := M_X12_feet) 196 dX12_feet_196 ?_
  refine z_icmp_ge (M := M_X12_feet) 198 dX12_feet_198 237 rfl (fun c1 => ?_) (fun c1 => ?_)
  · refine z_iload (M := M_X12_feet) 237 dX12_feet_237 rfl ?_
    refine z_iload (M := M_X12_feet) 239 dX12_feet_239 rfl ?_
    refine z_if_eq (M := M_X12_feet) 241 dX12_feet_241 258 rfl (fun c2 => ?_) (fun c2 => ?_)
    · refine z_iconst (M := M_X12_feet) 258 dX12_feet_258 ?_
      refine z_isubN (M := M_X12_feet) 259 dX12_feet_259 (by omega) (by omega) ?_
      refine z_istore (M := M_X12_feet) 260 dX12_feet_260 (ls' := [some (mR 108), none, none, none, some (mI (12 + a2)), some (mI (l5 - 0)), some (mI l6), some (mI l7)]) (by decide) rfl ?_
      refine z_iload (M := M_X12_feet) 262 dX12_feet_262 rfl ?_
      refine z_sipush (M := M_X12_feet) 264 dX12_feet_264 ?_
      refine z_icmp_le (M := M_X12_feet) 267 dX12_feet_267 276 rfl (fun c3 => ?_) (fun c3 => ?_)
      · refine z_iload (M := M_X12_feet) 276 dX12_feet_276 rfl ?_
        exact z_retI (M := M_X12_feet) 278 dX12_feet_278 rfl ⟨G, R, by omega, by omega⟩
      · refine z_sipush (M := M_X12_feet) 270 dX12_feet_270 ?_
        refine z_goto (M := M_X12_feet) 273 dX12_feet_273 278 rfl ?_
        exact z_retI (M := M_X12_feet) 278 dX12_feet_278 rfl ⟨G, R, by omega, by omega⟩
    · refine z_aload_n (M := M_X12_feet) 244 dX12_feet_244 rfl ?_
      refine z_getR (M := M_X12_feet) 245 dX12_feet_245 f_X12_67 o_108 rfl (g_108_31 G) ?_
      refine z_iload (M := M_X12_feet) 248 dX12_feet_248 rfl ?_
      refine z_zaldG (M := M_X12_feet) 250 dX12_feet_250 o_126 (by omega) (by omega) (g_126 G (by omega)) (fun x4 ex4 ax4 bx4 => ?_)
      refine z_if_eq (M := M_X12_feet) 251 dX12_feet_251 258 rfl (fun c5 => ?_) (fun c5 => ?_)
      · refine z_iconst (M := M_X12_feet) 258 dX12_feet_258 ?_
        refine z_isubN (M := M_X12_feet) 259 dX12_feet_259 (by omega) (by omega) ?_
        refine z_istore (M := M_X12_feet) 260 dX12_feet_260 (ls' := [some (mR 108), none, none, none, some (mI (12 + a2)), some (mI (l5 - 0)), some (mI l6), some (mI l7)]) (by decide) rfl ?_
        refine z_iload (M := M_X12_feet) 262 dX12_feet_262 rfl ?_
        refine z_sipush (M := M_X12_feet) 264 dX12_feet_264 ?_
        refine z_icmp_le (M := M_X12_feet) 267 dX12_feet_267 276 rfl (fun c6 => ?_) (fun c6 => ?_)
        · refine z_iload (M := M_X12_feet) 276 dX12_feet_276 rfl ?_
          exact z_retI (M := M_X12_feet) 278 dX12_feet_278 rfl ⟨G, R, by omega, by omega⟩
        · refine z_sipush (M := M_X12_feet) 270 dX12_feet_270 ?_
          refine z_goto (M := M_X12_feet) 273 dX12_feet_273 278 rfl ?_
          exact z_retI (M := M_X12_feet) 278 dX12_feet_278 rfl ⟨G, R, by omega, by omega⟩
      · refine z_iconst (M := M_X12_feet) 254 dX12_feet_254 ?_
        refine z_goto (M := M_X12_feet) 255 dX12_feet_255 259 rfl ?_
        refine z_isubN (M := M_X12_feet) 259 dX12_feet_259 (by omega) (by omega) ?_
        refine z_istore (M := M_X12_feet) 260 dX12_feet_260 (ls' := [some (mR 108), none, none, none, some (mI (12 + a2)), some (mI (l5 - 1)), some (mI l6), some (mI l7)]) (by decide) rfl ?_
        refine z_iload (M := M_X12_feet) 262 dX12_feet_262 rfl ?_
        refine z_sipush (M := M_X12_feet) 264 dX12_feet_264 ?_
        refine z_icmp_le (M := M_X12_feet) 267 dX12_feet_267 276 rfl (fun c7 => ?_) (fun c7 => ?_)
        · refine z_iload (M := M_X12_feet) 276 dX12_feet_276 rfl ?_
          exact z_retI (M := M_X12_feet) 278 dX12_feet_278 rfl ⟨G, R, by omega, by omega⟩
        · refine z_sipush (M := M_X12_feet) 270 dX12_feet_270 ?_
          refine z_goto (M := M_X12_feet) 273 dX12_feet_273 278 rfl ?_
          exact z_retI (M := M_X12_feet) 278 dX12_feet_278 rfl ⟨G, R, by omega, by omega⟩
  · refine z_iload (M := M_X12_feet) 201 dX12_feet_201 rfl ?_
    refine z_if_eq (M := M_X12_feet) 203 dX12_feet_203 228 rfl (fun c8 => ?_) (fun c8 => ?_)
    · refine z_iconst (M := M_X12_feet) 228 dX12_feet_228 ?_
      refine z_istore (M := M_X12_feet) 229 dX12_feet_229 (ls' := [some (mR 108), none, none, none, some (mI (12 + a2)), some (mI l5), some (mI 0), some (mI l7)]) (by decide) rfl ?_
      refine z_iincN (M := M_X12_feet) 231 dX12_feet_231 (ls' := [some (mR 108), none, none, none, some (mI (12 + a2)), some (mI l5), some (mI 0), some (mI (l7 + 1))]) (by decide) rfl (by (unfold m_32; decide)) (by omega) (by omega) rfl ?_
      refine z_goto (M := M_X12_feet) 234 dX12_feet_234 194 rfl ?_
      exact z_mask [true, false, false, false, true, true, true, true] rfl (ih l5 0 (l7 + 1) h G R (by omega) (by omega) (by omega) (by omega) (by omega) (by omega) (by omega) (by omega) (by omega) (by omega) (by omega) (by omega) (by omega))
    · refine z_aload_n (M := M_X12_feet) 206 dX12_feet_206 rfl ?_
      refine z_getR (M := M_X12_feet) 207 dX12_feet_207 f_X12_94 o_108 rfl (g_108_40 G) ?_
      refine z_iload (M := M_X12_feet) 210 dX12_feet_210 rfl ?_
      refine z_laldV (M := M_X12_feet) 212 dX12_feet_212 o_135 (by omega) (by omega) (fun x9 ex9 => ?_)
      refine z_aload_n (M := M_X12_feet) 213 dX12_feet_213 rfl ?_
      refine z_getR (M := M_X12_feet) 214 dX12_feet_214 f_X12_97 o_108 rfl (g_108_41 G) ?_
      refine z_iload (M := M_X12_feet) 217 dX12_feet_217 rfl ?_
      refine z_laldV (M := M_X12_feet) 219 dX12_feet_219 o_136 (by omega) (by omega) (fun x10 ex10 => ?_)
      refine z_lcmp (M := M_X12_feet) 220 dX12_feet_220 ?_
      refine z_if_ne (M := M_X12_feet) 221 dX12_feet_221 228 rfl (fun c11 => ?_) (fun c11 => ?_)
      · rw [m_cmp_eq] at c11
        refine z_iconst (M := M_X12_feet) 228 dX12_feet_228 ?_
        refine z_istore (M := M_X12_feet) 229 dX12_feet_229 (ls' := [some (mR 108), none, none, none, some (mI (12 + a2)), some (mI l5), some (mI 0), some (mI l7)]) (by decide) rfl ?_
        refine z_iincN (M := M_X12_feet) 231 dX12_feet_231 (ls' := [some (mR 108), none, none, none, some (mI (12 + a2)), some (mI l5), some (mI 0), some (mI (l7 + 1))]) (by decide) rfl (by (unfold m_32; decide)) (by omega) (by omega) rfl ?_
        refine z_goto (M := M_X12_feet) 234 dX12_feet_234 194 rfl ?_
        exact z_mask [true, false, false, false, true, true, true, true] rfl (ih l5 0 (l7 + 1) h G R (by omega) (by omega) (by omega) (by omega) (by omega) (by omega) (by omega) (by omega) (by omega) (by omega) (by omega) (by omega) (by omega))
      · rw [m_cmp_eq] at c11
        refine z_iconst (M := M_X12_feet) 224 dX12_feet_224 ?_
        refine z_goto (M := M_X12_feet) 225 dX12_feet_225 229 rfl ?_
        refine z_istore (M := M_X12_feet) 229 dX12_feet_229 (ls' := [some (mR 108), none, none, none, some (mI (12 + a2)), some (mI l5), some (mI 1), some (mI l7)]) (by decide) rfl ?_
        refine z_iincN (M := M_X12_feet) 231 dX12_feet_231 (ls' := [some (mR 108), none, none, none, some (mI (12 + a2)), some (mI l5), some (mI 1), some (mI (l7 + 1))]) (by decide) rfl (by (unfold m_32; decide)) (by omega) (by omega) rfl ?_
        refine z_goto (M := M_X12_feet) 234 dX12_feet_234 194 rfl ?_
        exact z_mask [true, false, false, false, true, true, true, true] rfl (ih l5 1 (l7 + 1) h G R (by omega) (by omega) (by omega) (by omega) (by omega) (by omega) (by omega) (by omega) (by omega) (by omega) (by omega) (by omega) (by omega))
theorem a_X12_feet (h0 : m_H) (a1 a2 a3 : Int) (G0 : GI h0) (hN : NP h0) : ∀ n, q_X12_feet h0 a1 a2 a3 n := by
  intro n
  induction n with
  | zero => unfold q_X12_feet; intros; omega
  | succ n ih => exact s_X12_feet_194 h0 a1 a2 a3 G0 hN n ih
set_option maxHeartbeats 4000000 in
set_option maxRecDepth 100000 in
theorem c_X12_feet (h0 : m_H) (a1 a2 a3 : Int) (G0 : GI h0) (hN : NP h0) : m_CI M_X12_feet [mR 108, mI a1, mI a2, mI a3] h0 (P_X12_feet h0 a1 a2 a3) := by
  refine m_CI_of ⟨by decide, rfl, by simp [m_arg, m_isL, M_X12_feet], ⟨rfl, rfl⟩, rfl, rfl⟩ (ls := [some (mR 108), some (mI a1), some (mI a2), some (mI a3), none, none, none, none]) rfl ?_
  have ih := a_X12_feet h0 a1 a2 a3 G0 hN 28
  refine z_ok (fun _ _ ok => ?_)
  have oa1 : m_32 a1 := ok 1 _ rfl
  unfold m_32 at oa1
  have oa2 : m_32 a2 := ok 2 _ rfl
  unfold m_32 at oa2
  have oa3 : m_32 a3 := ok 3 _ rfl
  unfold m_32 at oa3
  refine z_aload_n (M := M_X12_feet) 0 dX12_feet_0 rfl ?_
  refine z_iconst (M := M_X12_feet) 1 dX12_feet_1 ?_
  refine z_putIH (M := M_X12_feet) 2 dX12_feet_2 p_X12_133 o_108 rfl (u_108_0 G0) ((FR.rf (cs := [115, 116, 117, 118, 119, 120, 121, 122, 123, 124, 125, 126, 127, 128, 129, 130, 131, 132, 133, 134, 135, 136]) (ss := [(108, 0), (108, 21)]) (h := h0)).up rfl) (fun h1 E1 G1 R1 => ?_)
  refine z_iload_n (M := M_X12_feet) 5 dX12_feet_5 rfl ?_
  refine z_i2l (M := M_X12_feet) 6 dX12_feet_6 ?_
  refine z_lconst (M := M_X12_feet) 7 dX12_feet_7 (v := 0) ?_
  refine z_ldc2 (M := M_X12_feet) 8 dX12_feet_8 k_X12_385 ?_
  refine z_sI (M := M_X12_feet) 11 dX12_feet_11 t_X12_in l_X12_143 (m_rr_of rfl) (rest := []) (c_X12_in h1 a1 0 11 G1) rfl rfl (Nat.le_of_ble_eq_true rfl) ⟨rfl, rfl⟩ (fun x1 h2 qx1 => ?_)
  obtain ⟨rfl, ⟨rfl, cx1⟩ | ⟨rfl, cx1⟩⟩ := qx1
  · refine z_if_eq_F (M := M_X12_feet) 14 dX12_feet_14 46 rfl (by omega) ?_
    refine z_iload_n (M := M_X12_feet) 17 dX12_feet_17 rfl ?_
    refine z_sI (M := M_X12_feet) 18 dX12_feet_18 t_X12_isKeeper l_X12_169 (m_rr_of rfl) (rest := []) (c_X12_isKeeper h1 a2 G1) rfl rfl (Nat.le_of_ble_eq_true rfl) ⟨rfl, rfl⟩ (fun x2 h3 qx2 => ?_)
    obtain ⟨rfl, ⟨rfl, cx2⟩ | ⟨rfl, cx2⟩⟩ := qx2
    · refine z_if_eq_F (M := M_X12_feet) 21 dX12_feet_21 46 rfl (by omega) ?_
      refine z_iload_n (M := M_X12_feet) 24 dX12_feet_24 rfl ?_
      refine z_i2l (M := M_X12_feet) 25 dX12_feet_25 ?_
      refine z_lconst (M := M_X12_feet) 26 dX12_feet_26 (v := 0) ?_
      refine z_lconst (M := M_X12_feet) 27 dX12_feet_27 (v := 1) ?_
      refine z_sI (M := M_X12_feet) 28 dX12_feet_28 t_X12_in l_X12_143 (m_rr_of rfl) (rest := []) (c_X12_in h1 a3 0 1 G1) rfl rfl (Nat.le_of_ble_eq_true rfl) ⟨rfl, rfl⟩ (fun x3 h4 qx3 => ?_)
      obtain ⟨rfl, ⟨rfl, cx3⟩ | ⟨rfl, cx3⟩⟩ := qx3
      · refine z_if_eq_F (M := M_X12_feet) 31 dX12_feet_31 46 rfl (by omega) ?_
        refine z_aload_n (M := M_X12_feet) 34 dX12_feet_34 rfl ?_
        refine z_iload_n (M := M_X12_feet) 35 dX12_feet_35 rfl ?_
        refine z_bipush (M := M_X12_feet) 36 dX12_feet_36 ?_
        refine z_iload_n (M := M_X12_feet) 38 dX12_feet_38 rfl ?_
        refine z_iaddN (M := M_X12_feet) 39 dX12_feet_39 (by omega) (by omega) ?_
        refine z_vI (M := M_X12_feet) 40 dX12_feet_40 t_X12_isAnswered l_X12_394 (m_rr_of rfl) (rest := []) (c_X12_isAnswered h1 a1 (12 + a2) G1 (NP.call hN R1 (fun _ => rfl) (fun _ => rfl) (fun _ => rfl))) o_108 rfl rfl rfl (Nat.le_of_ble_eq_true rfl) ⟨rfl, rfl⟩ (fun x4 h5 qx4 => ?_)
        obtain ⟨G5, S5, ax4, bx4, fx4_0⟩ := qx4
        have R5 := R1.call S5 (by decide +kernel)
        refine z_if_ne (M := M_X12_feet) 43 dX12_feet_43 49 rfl (fun c5 => ?_) (fun c5 => ?_)
        · have an := fx4_0 (by omega)
          have an1 := an.1
          have an2 := an.2.1
          refine z_aload_n (M := M_X12_feet) 49 dX12_feet_49 rfl ?_
          refine z_iload_n (M := M_X12_feet) 50 dX12_feet_50 rfl ?_
          refine z_if_ne (M := M_X12_feet) 51 dX12_feet_51 61 rfl (fun c6 => ?_) (fun c6 => ?_)
          · refine z_iload_n (M := M_X12_feet) 61 dX12_feet_61 rfl ?_
            refine z_vV (M := M_X12_feet) 62 dX12_feet_62 t_X12_goFrom l_X12_397 (m_rr_of rfl) (rest := []) (c_X12_goFrom h5 a1 G5 ⟨by omega, by omega⟩ (NP.call hN R5 (fun _ => rfl) (fun _ => rfl) (fun _ => rfl)) (gG_f (gG_b an.2.2 R1 (fun _ => rfl)) R5 (fun _ => rfl))) o_108 rfl rfl rfl (Nat.le_of_ble_eq_true rfl) ⟨rfl, rfl⟩ (fun h6 qx7 => ?_)
            obtain ⟨G6, S6, fx7_0⟩ := qx7
            have R6 := R5.call S6 (by decide +kernel)
            refine z_iload_n (M := M_X12_feet) 65 dX12_feet_65 rfl ?_
            refine z_if_ne_T (M := M_X12_feet) 66 dX12_feet_66 73 rfl (by omega) ?_
            refine z_bipush (M := M_X12_feet) 73 dX12_feet_73 ?_
            refine z_iload_n (M := M_X12_feet) 75 dX12_feet_75 rfl ?_
            refine z_iaddN (M := M_X12_feet) 76 dX12_feet_76 (by omega) (by omega) ?_
            refine z_istore (M := M_X12_feet) 77 dX12_feet_77 (ls' := [some (mR 108), some (mI a1), some (mI a2), some (mI a3), some (mI (12 + a2)), none, none, none]) (by decide) rfl ?_
            refine z_aload_n (M := M_X12_feet) 79 dX12_feet_79 rfl ?_
            refine z_getR (M := M_X12_feet) 80 dX12_feet_80 f_X12_70 o_108 rfl (g_108_32 G6) ?_
            refine z_iload (M := M_X12_feet) 83 dX12_feet_83 rfl ?_
            refine z_zaldG (M := M_X12_feet) 85 dX12_feet_85 o_127 (by omega) (by omega) (g_127 G6 (by omega)) (fun x8 ex8 ax8 bx8 => ?_)
            refine z_if_ne (M := M_X12_feet) 86 dX12_feet_86 99 rfl (fun c9 => ?_) (fun c9 => ?_)
            · refine z_iload_n (M := M_X12_feet) 99 dX12_feet_99 rfl ?_
              refine z_if_ne_T (M := M_X12_feet) 100 dX12_feet_100 128 rfl (by omega) ?_
              refine z_aload_n (M := M_X12_feet) 128 dX12_feet_128 rfl ?_
              refine z_aload_n (M := M_X12_feet) 129 dX12_feet_129 rfl ?_
              refine z_getR (M := M_X12_feet) 130 dX12_feet_130 f_X12_64 o_108 rfl (g_108_30 G6) ?_
              refine z_iconst (M := M_X12_feet) 133 dX12_feet_133 ?_
              refine z_iload (M := M_X12_feet) 134 dX12_feet_134 rfl ?_
              refine z_imulN (M := M_X12_feet) 136 dX12_feet_136 (by omega) (by omega) ?_
              refine z_aload_n (M := M_X12_feet) 137 dX12_feet_137 rfl ?_
              refine z_getR (M := M_X12_feet) 138 dX12_feet_138 f_X12_61 o_108 rfl (g_108_29 G6) ?_
              refine z_iconst (M := M_X12_feet) 141 dX12_feet_141 ?_
              refine z_iload (M := M_X12_feet) 142 dX12_feet_142 rfl ?_
              refine z_imulN (M := M_X12_feet) 144 dX12_feet_144 (by omega) (by omega) ?_
              refine z_iconst (M := M_X12_feet) 145 dX12_feet_145 ?_
              refine z_sipush (M := M_X12_feet) 146 dX12_feet_146 ?_
              refine z_vI (M := M_X12_feet) 149 dX12_feet_149 t_X12_share l_X12_402 (m_rr_of rfl) (rest := []) (c_X12_share h6 125 124 (5 * (12 + a2)) (5 * (12 + a2)) 1 2001 (Or.inr rfl) (Or.inl rfl) G6 ⟨by omega, by omega⟩ ⟨by omega, by omega⟩ ⟨by omega, by omega⟩) o_108 rfl rfl rfl (Nat.le_of_ble_eq_true rfl) ⟨rfl, rfl⟩ (fun x10 h7 qx10 => ?_)
              obtain ⟨G7, S7, ax10, bx10⟩ := qx10
              have R7 := R6.call S7 (by decide +kernel)
              refine z_istore (M := M_X12_feet) 152 dX12_feet_152 (ls' := [some (mR 108), some (mI a1), some (mI a2), some (mI a3), some (mI (12 + a2)), some (mI x10), none, none]) (by decide) rfl ?_
              refine z_aload_n (M := M_X12_feet) 154 dX12_feet_154 rfl ?_
              refine z_getR (M := M_X12_feet) 155 dX12_feet_155 f_X12_94 o_108 rfl (g_108_40 G7) ?_
              refine z_aload_n (M := M_X12_feet) 158 dX12_feet_158 rfl ?_
              refine z_getR (M := M_X12_feet) 159 dX12_feet_159 f_X12_64 o_108 rfl (g_108_30 G7) ?_
              refine z_iconst (M := M_X12_feet) 162 dX12_feet_162 ?_
              refine z_iload (M := M_X12_feet) 163 dX12_feet_163 rfl ?_
              refine z_imulN (M := M_X12_feet) 165 dX12_feet_165 (by omega) (by omega) ?_
              refine z_lconst (M := M_X12_feet) 166 dX12_feet_166 (v := 1) ?_
              refine z_sV (M := M_X12_feet) 167 dX12_feet_167 t_X12_wide l_X12_387 (m_rr_of rfl) (rest := []) (c_X12_wide80 h7 135 125 (5 * (12 + a2)) 1 (Or.inl rfl) (Or.inr rfl) G7 ⟨by omega, by omega⟩) rfl rfl (Nat.le_of_ble_eq_true rfl) ⟨rfl, rfl⟩ (fun h8 qx11 => ?_)
              obtain ⟨G8, S8⟩ := qx11
              have R8 := R7.call S8 (by decide +kernel)
              refine z_aload_n (M := M_X12_feet) 170 dX12_feet_170 rfl ?_
              refine z_getR (M := M_X12_feet) 171 dX12_feet_171 f_X12_97 o_108 rfl (g_108_41 G8) ?_
              refine z_aload_n (M := M_X12_feet) 174 dX12_feet_174 rfl ?_
              refine z_getR (M := M_X12_feet) 175 dX12_feet_175 f_X12_61 o_108 rfl (g_108_29 G8) ?_
              refine z_iconst (M := M_X12_feet) 178 dX12_feet_178 ?_
              refine z_iload (M := M_X12_feet) 179 dX12_feet_179 rfl ?_
              refine z_imulN (M := M_X12_feet) 181 dX12_feet_181 (by omega) (by omega) ?_
              refine z_iload (M := M_X12_feet) 182 dX12_feet_182 rfl ?_
              refine z_i2l (M := M_X12_feet) 184 dX12_feet_184 ?_
              refine z_sV (M := M_X12_feet) 185 dX12_feet_185 t_X12_wide l_X12_387 (m_rr_of rfl) (rest := []) (c_X12_wide80 h8 136 124 (5 * (12 + a2)) x10 (Or.inr rfl) (Or.inl rfl) G8 ⟨by omega, by omega⟩) rfl rfl (Nat.le_of_ble_eq_true rfl) ⟨rfl, rfl⟩ (fun h9 qx12 => ?_)
              obtain ⟨G9, S9⟩ := qx12
              have R9 := R8.call S9 (by decide +kernel)
              refine z_iconst (M := M_X12_feet) 188 dX12_feet_188 ?_
              refine z_istore (M := M_X12_feet) 189 dX12_feet_189 (ls' := [some (mR 108), some (mI a1), some (mI a2), some (mI a3), some (mI (12 + a2)), some (mI x10), some (mI 1), none]) (by decide) rfl ?_
              refine z_iconst (M := M_X12_feet) 191 dX12_feet_191 ?_
              refine z_istore (M := M_X12_feet) 192 dX12_feet_192 (ls' := [some (mR 108), some (mI a1), some (mI a2), some (mI a3), some (mI (12 + a2)), some (mI x10), some (mI 1), some (mI 0)]) (by decide) rfl ?_
              exact z_mask [true, false, false, false, true, true, true, true] rfl (ih x10 1 0 h9 G9 R9 (by omega) (by omega) (by omega) (by omega) (by omega) (by omega) (by omega) (by omega) (by omega) (by omega) (by omega) (by omega) (by omega))
            · refine z_iload_n (M := M_X12_feet) 89 dX12_feet_89 rfl ?_
              refine z_if_ne_T (M := M_X12_feet) 90 dX12_feet_90 97 rfl (by omega) ?_
              refine z_iconst (M := M_X12_feet) 97 dX12_feet_97 ?_
              exact z_retI (M := M_X12_feet) 98 dX12_feet_98 rfl ⟨G6, R6, by omega, by omega⟩
          · refine z_bipush (M := M_X12_feet) 54 dX12_feet_54 ?_
            refine z_iload_n (M := M_X12_feet) 56 dX12_feet_56 rfl ?_
            refine z_iaddN (M := M_X12_feet) 57 dX12_feet_57 (by omega) (by omega) ?_
            refine z_goto (M := M_X12_feet) 58 dX12_feet_58 62 rfl ?_
            refine z_vV (M := M_X12_feet) 62 dX12_feet_62 t_X12_goFrom l_X12_397 (m_rr_of rfl) (rest := []) (c_X12_goFrom h5 (12 + a2) G5 ⟨by omega, by omega⟩ (NP.call hN R5 (fun _ => rfl) (fun _ => rfl) (fun _ => rfl)) (gG_f (gG_b an.2.2 R1 (fun _ => rfl)) R5 (fun _ => rfl))) o_108 rfl rfl rfl (Nat.le_of_ble_eq_true rfl) ⟨rfl, rfl⟩ (fun h10 qx13 => ?_)
            obtain ⟨G10, S10, fx13_0⟩ := qx13
            have R10 := R5.call S10 (by decide +kernel)
            refine z_iload_n (M := M_X12_feet) 65 dX12_feet_65 rfl ?_
            refine z_if_ne_F (M := M_X12_feet) 66 dX12_feet_66 73 rfl (by omega) ?_
            refine z_iload_n (M := M_X12_feet) 69 dX12_feet_69 rfl ?_
            refine z_goto (M := M_X12_feet) 70 dX12_feet_70 77 rfl ?_
            refine z_istore (M := M_X12_feet) 77 dX12_feet_77 (ls' := [some (mR 108), some (mI a1), some (mI a2), some (mI a3), some (mI a1), none, none, none]) (by decide) rfl ?_
            refine z_aload_n (M := M_X12_feet) 79 dX12_feet_79 rfl ?_
            refine z_getR (M := M_X12_feet) 80 dX12_feet_80 f_X12_70 o_108 rfl (g_108_32 G10) ?_
            refine z_iload (M := M_X12_feet) 83 dX12_feet_83 rfl ?_
            refine z_zaldG (M := M_X12_feet) 85 dX12_feet_85 o_127 (by omega) (by omega) (g_127 G10 (by omega)) (fun x14 ex14 ax14 bx14 => ?_)
            refine z_if_ne (M := M_X12_feet) 86 dX12_feet_86 99 rfl (fun c15 => ?_) (fun c15 => ?_)
            · refine z_iload_n (M := M_X12_feet) 99 dX12_feet_99 rfl ?_
              refine z_if_ne_F (M := M_X12_feet) 100 dX12_feet_100 128 rfl (by omega) ?_
              refine z_aload_n (M := M_X12_feet) 103 dX12_feet_103 rfl ?_
              refine z_aload_n (M := M_X12_feet) 104 dX12_feet_104 rfl ?_
              refine z_getR (M := M_X12_feet) 105 dX12_feet_105 f_X12_61 o_108 rfl (g_108_29 G10) ?_
              refine z_iconst (M := M_X12_feet) 108 dX12_feet_108 ?_
              refine z_iload (M := M_X12_feet) 109 dX12_feet_109 rfl ?_
              refine z_imulN (M := M_X12_feet) 111 dX12_feet_111 (by omega) (by omega) ?_
              refine z_aload_n (M := M_X12_feet) 112 dX12_feet_112 rfl ?_
              refine z_getR (M := M_X12_feet) 113 dX12_feet_113 f_X12_64 o_108 rfl (g_108_30 G10) ?_
              refine z_iconst (M := M_X12_feet) 116 dX12_feet_116 ?_
              refine z_iload (M := M_X12_feet) 117 dX12_feet_117 rfl ?_
              refine z_imulN (M := M_X12_feet) 119 dX12_feet_119 (by omega) (by omega) ?_
              refine z_iconst (M := M_X12_feet) 120 dX12_feet_120 ?_
              refine z_sipush (M := M_X12_feet) 121 dX12_feet_121 ?_
              refine z_vI (M := M_X12_feet) 124 dX12_feet_124 t_X12_share l_X12_402 (m_rr_of rfl) (rest := []) (c_X12_share h10 124 125 (5 * a1) (5 * a1) 1 2000 (Or.inl rfl) (Or.inr rfl) G10 ⟨by omega, by omega⟩ ⟨by omega, by omega⟩ ⟨by omega, by omega⟩) o_108 rfl rfl rfl (Nat.le_of_ble_eq_true rfl) ⟨rfl, rfl⟩ (fun x16 h11 qx16 => ?_)
              obtain ⟨G11, S11, ax16, bx16⟩ := qx16
              have R11 := R10.call S11 (by decide +kernel)
              exact z_retI (M := M_X12_feet) 127 dX12_feet_127 rfl ⟨G11, R11, by omega, by omega⟩
            · refine z_iload_n (M := M_X12_feet) 89 dX12_feet_89 rfl ?_
              refine z_if_ne_F (M := M_X12_feet) 90 dX12_feet_90 97 rfl (by omega) ?_
              refine z_iconst (M := M_X12_feet) 93 dX12_feet_93 ?_
              refine z_goto (M := M_X12_feet) 94 dX12_feet_94 98 rfl ?_
              exact z_retI (M := M_X12_feet) 98 dX12_feet_98 rfl ⟨G10, R10, by omega, by omega⟩
        · refine z_bipush (M := M_X12_feet) 46 dX12_feet_46 ?_
          exact z_retI (M := M_X12_feet) 48 dX12_feet_48 rfl ⟨G5, R5, by omega, by omega⟩
      · refine z_if_eq_T (M := M_X12_feet) 31 dX12_feet_31 46 rfl (by omega) ?_
        refine z_bipush (M := M_X12_feet) 46 dX12_feet_46 ?_
        exact z_retI (M := M_X12_feet) 48 dX12_feet_48 rfl ⟨G1, R1, by omega, by omega⟩
    · refine z_if_eq_T (M := M_X12_feet) 21 dX12_feet_21 46 rfl (by omega) ?_
      refine z_bipush (M := M_X12_feet) 46 dX12_feet_46 ?_
      exact z_retI (M := M_X12_feet) 48 dX12_feet_48 rfl ⟨G1, R1, by omega, by omega⟩
  · refine z_if_eq_T (M := M_X12_feet) 14 dX12_feet_14 46 rfl (by omega) ?_
    refine z_bipush (M := M_X12_feet) 46 dX12_feet_46 ?_
    exact z_retI (M := M_X12_feet) 48 dX12_feet_48 rfl ⟨G1, R1, by omega, by omega⟩
abbrev P_X12_findEnds (h0 : m_H) (a1 a2 : Int) : m_H → Prop := fun h' => GI h' ∧ FR [115, 116, 117, 118, 119, 120, 121, 122, 123, 124, 125, 126, 127, 128, 129, 130, 131, 132, 133, 138] [(108, 21), (108, 44), (108, 45), (108, 46), (108, 47)] h0 h' ∧ enQ h'
def q_X12_findEnds (h0 : m_H) (a1 a2 : Int) (n : Nat) : Prop := (∀ (l3 : Int) (h : m_H), GI h → FR [115, 116, 117, 118, 119, 120, 121, 122, 123, 124, 125, 126, 127, 128, 129, 130, 131, 132, 133, 138] [(108, 21), (108, 44), (108, 45), (108, 46), (108, 47)] h0 h → 0 ≤ l3 → l3 ≤ 5 → (feA h a1 l3) → 2 * (5 - l3) + (14) ≤ (n : Int) → m_Z oF M_X12_findEnds 45 [some (mR 108), some (mI a1), some (mI a2), some (mI l3), none] [] h (m_QV (P_X12_findEnds h0 a1 a2))) ∧ (∀ (l4 : Int) (h : m_H), GI h → FR [115, 116, 117, 118, 119, 120, 121, 122, 123, 124, 125, 126, 127, 128, 129, 130, 131, 132, 133, 138] [(108, 21), (108, 44), (108, 45), (108, 46), (108, 47)] h0 h → 0 ≤ l4 → l4 ≤ 5 → (e1Q h) → (feB h (12 + a2) l4) → 2 * (5 - l4) + (1) ≤ (n : Int) → m_Z oF M_X12_findEnds 138 [some (mR 108), none, none, some (mI (12 + a2)), some (mI l4)] [] h (m_QV (P_X12_findEnds h0 a1 a2)))
set_option maxHeartbeats 4000000 in
set_option maxRecDepth 100000 in
theorem s_X12_findEnds_45 (h0 : m_H) (a1 a2 : Int) (G0 : GI h0) (pa1 : 0 ≤ a1 ∧ a1 ≤ 11) (pa2 : 0 ≤ a2 ∧ a2 ≤ 3) (hN : NP h0) (hG : gG (bR (h0 110))) (n : Nat) (ih : q_X12_findEnds h0 a1 a2 n) : ∀ (l3 : Int) (h : m_H), GI h → FR [115, 116, 117, 118, 119, 120, 121, 122, 123, 124, 125, 126, 127, 128, 129, 130, 131, 132, 133, 138] [(108, 21), (108, 44), (108, 45), (108, 46), (108, 47)] h0 h → 0 ≤ l3 → l3 ≤ 5 → (feA h a1 l3) → 2 * (5 - l3) + (14) ≤ ((n + 1 : Nat) : Int) → m_Z oF M_X12_findEnds 45 [some (mR 108), some (mI a1), some (mI a2), some (mI l3), none] [] h (m_QV (P_X12_findEnds h0 a1 a2)) := by
  intro l3 h G R v0 v1 i0 hr
  refine z_iload_n (M := M_X12_findEnds) 45 dX12_findEnds_45 rfl ?_
  refine z_iconst (M := M_X12_findEnds) 46 dX12_findEnds_46 ?_
  refine z_icmp_ge (M := M_X12_findEnds) 47 dX12_findEnds_47 90 rfl (fun c1 => ?_) (fun c1 => ?_)
  · refine z_bipush (M := M_X12_findEnds) 90 dX12_findEnds_90 ?_
    refine z_iload_n (M := M_X12_findEnds) 92 dX12_findEnds_92 rfl ?_
    refine z_iaddN (M := M_X12_findEnds) 93 dX12_findEnds_93 (by omega) (by omega) ?_
    refine z_istore_n (M := M_X12_findEnds) 94 dX12_findEnds_94 (ls' := [some (mR 108), some (mI a1), some (mI a2), some (mI (12 + a2)), none]) (by decide) rfl ?_
    refine z_aload_n (M := M_X12_findEnds) 95 dX12_findEnds_95 rfl ?_
    refine z_iload_n (M := M_X12_findEnds) 96 dX12_findEnds_96 rfl ?_
    refine z_vV (M := M_X12_findEnds) 97 dX12_findEnds_97 t_X12_goFrom l_X12_397 (m_rr_of rfl) (rest := []) (c_X12_goFrom h a1 G ⟨by omega, by omega⟩ (NP.call hN R (fun _ => rfl) (fun _ => rfl) (fun _ => rfl)) (gG_f hG R (fun _ => rfl))) o_108 rfl rfl rfl (Nat.le_of_ble_eq_true rfl) ⟨rfl, rfl⟩ (fun h1 qx2 => ?_)
    obtain ⟨G1, S1, fx2_0⟩ := qx2
    have R1 := R.call S1 (by decide +kernel)
    refine z_aload_n (M := M_X12_findEnds) 100 dX12_findEnds_100 rfl ?_
    refine z_aload_n (M := M_X12_findEnds) 101 dX12_findEnds_101 rfl ?_
    refine z_getR (M := M_X12_findEnds) 102 dX12_findEnds_102 f_X12_70 o_108 rfl (g_108_32 G1) ?_
    refine z_iload_n (M := M_X12_findEnds) 105 dX12_findEnds_105 rfl ?_
    refine z_zaldG (M := M_X12_findEnds) 106 dX12_findEnds_106 o_127 (by omega) (by omega) (g_127 G1 (by omega)) (fun x3 ex3 ax3 bx3 => ?_)
    refine z_putZH (M := M_X12_findEnds) 107 dX12_findEnds_107 p_X12_415 o_108 rfl (by omega) (u_108_45 G1 (by omega) (by omega)) (R1.up rfl) (fun h2 E2 G2 R2 => ?_)
    refine z_aload_n (M := M_X12_findEnds) 110 dX12_findEnds_110 rfl ?_
    refine z_aload_n (M := M_X12_findEnds) 111 dX12_findEnds_111 rfl ?_
    refine z_getIE (M := M_X12_findEnds) 112 dX12_findEnds_112 f_X12_415 o_108 (by decide) (upE E2) ?_
    refine z_if_eq (M := M_X12_findEnds) 115 dX12_findEnds_115 131 rfl (fun c4 => ?_) (fun c4 => ?_)
    · refine z_iconst (M := M_X12_findEnds) 131 dX12_findEnds_131 ?_
      refine z_putZH (M := M_X12_findEnds) 132 dX12_findEnds_132 p_X12_418 o_108 rfl (by omega) (u_108_47 G2 (by omega) (by omega)) (R2.up rfl) (fun h3 E3 G3 R3 => ?_)
      refine z_iconst (M := M_X12_findEnds) 135 dX12_findEnds_135 ?_
      refine z_istore (M := M_X12_findEnds) 136 dX12_findEnds_136 (ls' := [some (mR 108), some (mI a1), some (mI a2), some (mI (12 + a2)), some (mI 0)]) (by decide) rfl ?_
      exact z_mask [true, false, false, true, true] rfl (ih.2 0 h3 G3 R3 (by omega) (by omega) (e1Q.same (feA_end G (by omega) (by omega) (by omega) i0) ((upN E3 (by decide)).trans ((upN E2 (by decide)).trans (S1 108 44 rfl))) ((upo E3 (by decide)).trans ((upo E2 (by decide)).trans (FR.row S1 (fun _ => rfl))))) (feB_0 fx2_0 ex3 E2 E3) (by omega))
    · refine z_aload_n (M := M_X12_findEnds) 118 dX12_findEnds_118 rfl ?_
      refine z_getR (M := M_X12_findEnds) 119 dX12_findEnds_119 f_X12_67 o_108 rfl (g_108_31 G2) ?_
      refine z_iload_n (M := M_X12_findEnds) 122 dX12_findEnds_122 rfl ?_
      refine z_zaldG (M := M_X12_findEnds) 123 dX12_findEnds_123 o_126 (by omega) (by omega) (g_126 G2 (by omega)) (fun x5 ex5 ax5 bx5 => ?_)
      refine z_if_ne (M := M_X12_findEnds) 124 dX12_findEnds_124 131 rfl (fun c6 => ?_) (fun c6 => ?_)
      · refine z_iconst (M := M_X12_findEnds) 131 dX12_findEnds_131 ?_
        refine z_putZH (M := M_X12_findEnds) 132 dX12_findEnds_132 p_X12_418 o_108 rfl (by omega) (u_108_47 G2 (by omega) (by omega)) (R2.up rfl) (fun h4 E4 G4 R4 => ?_)
        refine z_iconst (M := M_X12_findEnds) 135 dX12_findEnds_135 ?_
        refine z_istore (M := M_X12_findEnds) 136 dX12_findEnds_136 (ls' := [some (mR 108), some (mI a1), some (mI a2), some (mI (12 + a2)), some (mI 0)]) (by decide) rfl ?_
        exact z_mask [true, false, false, true, true] rfl (ih.2 0 h4 G4 R4 (by omega) (by omega) (e1Q.same (feA_end G (by omega) (by omega) (by omega) i0) ((upN E4 (by decide)).trans ((upN E2 (by decide)).trans (S1 108 44 rfl))) ((upo E4 (by decide)).trans ((upo E2 (by decide)).trans (FR.row S1 (fun _ => rfl))))) (feB_0 fx2_0 ex3 E2 E4) (by omega))
      · refine z_iconst (M := M_X12_findEnds) 127 dX12_findEnds_127 ?_
        refine z_goto (M := M_X12_findEnds) 128 dX12_findEnds_128 132 rfl ?_
        refine z_putZH (M := M_X12_findEnds) 132 dX12_findEnds_132 p_X12_418 o_108 rfl (by omega) (u_108_47 G2 (by omega) (by omega)) (R2.up rfl) (fun h5 E5 G5 R5 => ?_)
        refine z_iconst (M := M_X12_findEnds) 135 dX12_findEnds_135 ?_
        refine z_istore (M := M_X12_findEnds) 136 dX12_findEnds_136 (ls' := [some (mR 108), some (mI a1), some (mI a2), some (mI (12 + a2)), some (mI 0)]) (by decide) rfl ?_
        exact z_mask [true, false, false, true, true] rfl (ih.2 0 h5 G5 R5 (by omega) (by omega) (e1Q.same (feA_end G (by omega) (by omega) (by omega) i0) ((upN E5 (by decide)).trans ((upN E2 (by decide)).trans (S1 108 44 rfl))) ((upo E5 (by decide)).trans ((upo E2 (by decide)).trans (FR.row S1 (fun _ => rfl))))) (feB_0 fx2_0 ex3 E2 E5) (by omega))
  · refine z_aload_n (M := M_X12_findEnds) 50 dX12_findEnds_50 rfl ?_
    refine z_getR (M := M_X12_findEnds) 51 dX12_findEnds_51 f_X12_103 o_108 rfl (g_108_43 G) ?_
    refine z_iload_n (M := M_X12_findEnds) 54 dX12_findEnds_54 rfl ?_
    refine z_aload_n (M := M_X12_findEnds) 55 dX12_findEnds_55 rfl ?_
    refine z_getR (M := M_X12_findEnds) 56 dX12_findEnds_56 f_X12_61 o_108 rfl (g_108_29 G) ?_
    refine z_iconst (M := M_X12_findEnds) 59 dX12_findEnds_59 ?_
    refine z_iload_n (M := M_X12_findEnds) 60 dX12_findEnds_60 rfl ?_
    refine z_imulN (M := M_X12_findEnds) 61 dX12_findEnds_61 (by omega) (by omega) ?_
    refine z_iload_n (M := M_X12_findEnds) 62 dX12_findEnds_62 rfl ?_
    refine z_iaddN (M := M_X12_findEnds) 63 dX12_findEnds_63 (by omega) (by omega) ?_
    refine z_laldG (M := M_X12_findEnds) 64 dX12_findEnds_64 o_124 (by omega) (by omega) (g_124 G (by omega)) (fun x7 ex7 ax7 bx7 => ?_)
    refine z_lastH (M := M_X12_findEnds) 65 dX12_findEnds_65 o_138 (by omega) (by omega) (u_138 G (by omega) (by omega)) (R.up rfl) (fun h6 E6 G6 R6 => ?_)
    refine z_aload_n (M := M_X12_findEnds) 66 dX12_findEnds_66 rfl ?_
    refine z_getR (M := M_X12_findEnds) 67 dX12_findEnds_67 f_X12_103 o_108 rfl (g_108_43 G6) ?_
    refine z_iconst (M := M_X12_findEnds) 70 dX12_findEnds_70 ?_
    refine z_iload_n (M := M_X12_findEnds) 71 dX12_findEnds_71 rfl ?_
    refine z_iaddN (M := M_X12_findEnds) 72 dX12_findEnds_72 (by omega) (by omega) ?_
    refine z_aload_n (M := M_X12_findEnds) 73 dX12_findEnds_73 rfl ?_
    refine z_getR (M := M_X12_findEnds) 74 dX12_findEnds_74 f_X12_64 o_108 rfl (g_108_30 G6) ?_
    refine z_iconst (M := M_X12_findEnds) 77 dX12_findEnds_77 ?_
    refine z_iload_n (M := M_X12_findEnds) 78 dX12_findEnds_78 rfl ?_
    refine z_imulN (M := M_X12_findEnds) 79 dX12_findEnds_79 (by omega) (by omega) ?_
    refine z_iload_n (M := M_X12_findEnds) 80 dX12_findEnds_80 rfl ?_
    refine z_iaddN (M := M_X12_findEnds) 81 dX12_findEnds_81 (by omega) (by omega) ?_
    refine z_laldG (M := M_X12_findEnds) 82 dX12_findEnds_82 o_125 (by omega) (by omega) (g_125 G6 (by omega)) (fun x8 ex8 ax8 bx8 => ?_)
    refine z_lastH (M := M_X12_findEnds) 83 dX12_findEnds_83 o_138 (by omega) (by omega) (u_138 G6 (by omega) (by omega)) (R6.up rfl) (fun h7 E7 G7 R7 => ?_)
    refine z_iincN (M := M_X12_findEnds) 84 dX12_findEnds_84 (ls' := [some (mR 108), some (mI a1), some (mI a2), some (mI (l3 + 1)), none]) (by decide) rfl (by (unfold m_32; decide)) (by omega) (by omega) rfl ?_
    refine z_goto (M := M_X12_findEnds) 87 dX12_findEnds_87 45 rfl ?_
    exact z_mask [true, true, true, true, false] rfl (ih.1 (l3 + 1) h7 G7 R7 (by omega) (by omega) (feA_step (by omega) (by omega) (by omega) i0 ex7 E6 ex8 E7) (by omega))
set_option maxHeartbeats 4000000 in
set_option maxRecDepth 100000 in
theorem s_X12_findEnds_138 (h0 : m_H) (a1 a2 : Int) (G0 : GI h0) (pa1 : 0 ≤ a1 ∧ a1 ≤ 11) (pa2 : 0 ≤ a2 ∧ a2 ≤ 3) (hN : NP h0) (hG : gG (bR (h0 110))) (n : Nat) (ih : q_X12_findEnds h0 a1 a2 n) : ∀ (l4 : Int) (h : m_H), GI h → FR [115, 116, 117, 118, 119, 120, 121, 122, 123, 124, 125, 126, 127, 128, 129, 130, 131, 132, 133, 138] [(108, 21), (108, 44), (108, 45), (108, 46), (108, 47)] h0 h → 0 ≤ l4 → l4 ≤ 5 → (e1Q h) → (feB h (12 + a2) l4) → 2 * (5 - l4) + (1) ≤ ((n + 1 : Nat) : Int) → m_Z oF M_X12_findEnds 138 [some (mR 108), none, none, some (mI (12 + a2)), some (mI l4)] [] h (m_QV (P_X12_findEnds h0 a1 a2)) := by
  intro l4 h G R v0 v1 i0 i1 hr
  refine z_iload (M := M_X12_findEnds) 138 dX12_findEnds_138 rfl ?_
  refine z_iconst (M := M_X12_findEnds) 140 dX12_findEnds_140 ?_
  refine z_icmp_ge (M := M_X12_findEnds) 141 dX12_findEnds_141 192 rfl (fun c1 => ?_) (fun c1 => ?_)
  · exact z_retV (M := M_X12_findEnds) 192 dX12_findEnds_192 rfl ⟨G, R, ⟨i0, feB_end G (by omega) (by omega) (by omega) i1⟩⟩
  · refine z_aload_n (M := M_X12_findEnds) 144 dX12_findEnds_144 rfl ?_
    refine z_getR (M := M_X12_findEnds) 145 dX12_findEnds_145 f_X12_103 o_108 rfl (g_108_43 G) ?_
    refine z_bipush (M := M_X12_findEnds) 148 dX12_findEnds_148 ?_
    refine z_iload (M := M_X12_findEnds) 150 dX12_findEnds_150 rfl ?_
    refine z_iaddN (M := M_X12_findEnds) 152 dX12_findEnds_152 (by omega) (by omega) ?_
    refine z_aload_n (M := M_X12_findEnds) 153 dX12_findEnds_153 rfl ?_
    refine z_getR (M := M_X12_findEnds) 154 dX12_findEnds_154 f_X12_64 o_108 rfl (g_108_30 G) ?_
    refine z_iconst (M := M_X12_findEnds) 157 dX12_findEnds_157 ?_
    refine z_iload_n (M := M_X12_findEnds) 158 dX12_findEnds_158 rfl ?_
    refine z_imulN (M := M_X12_findEnds) 159 dX12_findEnds_159 (by omega) (by omega) ?_
    refine z_iload (M := M_X12_findEnds) 160 dX12_findEnds_160 rfl ?_
    refine z_iaddN (M := M_X12_findEnds) 162 dX12_findEnds_162 (by omega) (by omega) ?_
    refine z_laldG (M := M_X12_findEnds) 163 dX12_findEnds_163 o_125 (by omega) (by omega) (g_125 G (by omega)) (fun x2 ex2 ax2 bx2 => ?_)
    refine z_lastH (M := M_X12_findEnds) 164 dX12_findEnds_164 o_138 (by omega) (by omega) (u_138 G (by omega) (by omega)) (R.up rfl) (fun h1 E1 G1 R1 => ?_)
    refine z_aload_n (M := M_X12_findEnds) 165 dX12_findEnds_165 rfl ?_
    refine z_getR (M := M_X12_findEnds) 166 dX12_findEnds_166 f_X12_103 o_108 rfl (g_108_43 G1) ?_
    refine z_bipush (M := M_X12_findEnds) 169 dX12_findEnds_169 ?_
    refine z_iload (M := M_X12_findEnds) 171 dX12_findEnds_171 rfl ?_
    refine z_iaddN (M := M_X12_findEnds) 173 dX12_findEnds_173 (by omega) (by omega) ?_
    refine z_aload_n (M := M_X12_findEnds) 174 dX12_findEnds_174 rfl ?_
    refine z_getR (M := M_X12_findEnds) 175 dX12_findEnds_175 f_X12_61 o_108 rfl (g_108_29 G1) ?_
    refine z_iconst (M := M_X12_findEnds) 178 dX12_findEnds_178 ?_
    refine z_iload_n (M := M_X12_findEnds) 179 dX12_findEnds_179 rfl ?_
    refine z_imulN (M := M_X12_findEnds) 180 dX12_findEnds_180 (by omega) (by omega) ?_
    refine z_iload (M := M_X12_findEnds) 181 dX12_findEnds_181 rfl ?_
    refine z_iaddN (M := M_X12_findEnds) 183 dX12_findEnds_183 (by omega) (by omega) ?_
    refine z_laldG (M := M_X12_findEnds) 184 dX12_findEnds_184 o_124 (by omega) (by omega) (g_124 G1 (by omega)) (fun x3 ex3 ax3 bx3 => ?_)
    refine z_lastH (M := M_X12_findEnds) 185 dX12_findEnds_185 o_138 (by omega) (by omega) (u_138 G1 (by omega) (by omega)) (R1.up rfl) (fun h2 E2 G2 R2 => ?_)
    refine z_iincN (M := M_X12_findEnds) 186 dX12_findEnds_186 (ls' := [some (mR 108), none, none, some (mI (12 + a2)), some (mI (l4 + 1))]) (by decide) rfl (by (unfold m_32; decide)) (by omega) (by omega) rfl ?_
    refine z_goto (M := M_X12_findEnds) 189 dX12_findEnds_189 138 rfl ?_
    exact z_mask [true, false, false, true, true] rfl (ih.2 (l4 + 1) h2 G2 R2 (by omega) (by omega) ((i0.put E1 (by omega)).put E2 (by omega)) (feB_step (by omega) (by omega) (by omega) i1 ex2 E1 ex3 E2) (by omega))
theorem a_X12_findEnds (h0 : m_H) (a1 a2 : Int) (G0 : GI h0) (pa1 : 0 ≤ a1 ∧ a1 ≤ 11) (pa2 : 0 ≤ a2 ∧ a2 ≤ 3) (hN : NP h0) (hG : gG (bR (h0 110))) : ∀ n, q_X12_findEnds h0 a1 a2 n := by
  intro n
  induction n with
  | zero => unfold q_X12_findEnds; refine ⟨?_, ?_⟩ <;> (intros; omega)
  | succ n ih => exact ⟨s_X12_findEnds_45 h0 a1 a2 G0 pa1 pa2 hN hG n ih, s_X12_findEnds_138 h0 a1 a2 G0 pa1 pa2 hN hG n ih⟩
set_option maxHeartbeats 4000000 in
set_option maxRecDepth 100000 in
theorem c_X12_findEnds (h0 : m_H) (a1 a2 : Int) (G0 : GI h0) (pa1 : 0 ≤ a1 ∧ a1 ≤ 11) (pa2 : 0 ≤ a2 ∧ a2 ≤ 3) (hN : NP h0) (hG : gG (bR (h0 110))) : m_CV M_X12_findEnds [mR 108, mI a1, mI a2] h0 (P_X12_findEnds h0 a1 a2) := by
  refine m_CV_of ⟨by decide, rfl, by simp [m_arg, m_isL, M_X12_findEnds], ⟨rfl, rfl⟩, rfl, rfl⟩ (ls := [some (mR 108), some (mI a1), some (mI a2), none, none]) rfl ?_
  have ih := a_X12_findEnds h0 a1 a2 G0 pa1 pa2 hN hG 31
  refine z_aload_n (M := M_X12_findEnds) 0 dX12_findEnds_0 rfl ?_
  refine z_bipush (M := M_X12_findEnds) 1 dX12_findEnds_1 ?_
  refine z_iload_n (M := M_X12_findEnds) 3 dX12_findEnds_3 rfl ?_
  refine z_iaddN (M := M_X12_findEnds) 4 dX12_findEnds_4 (by omega) (by omega) ?_
  refine z_vV (M := M_X12_findEnds) 5 dX12_findEnds_5 t_X12_goFrom l_X12_397 (m_rr_of rfl) (rest := []) (c_X12_goFrom h0 (12 + a2) G0 ⟨by omega, by omega⟩ (NP.call hN (FR.rf (cs := [115, 116, 117, 118, 119, 120, 121, 122, 123, 124, 125, 126, 127, 128, 129, 130, 131, 132, 133, 138]) (ss := [(108, 21), (108, 44), (108, 45), (108, 46), (108, 47)]) (h := h0)) (fun _ => rfl) (fun _ => rfl) (fun _ => rfl)) (gG_f hG (FR.rf (cs := [115, 116, 117, 118, 119, 120, 121, 122, 123, 124, 125, 126, 127, 128, 129, 130, 131, 132, 133, 138]) (ss := [(108, 21), (108, 44), (108, 45), (108, 46), (108, 47)]) (h := h0)) (fun _ => rfl))) o_108 rfl rfl rfl (Nat.le_of_ble_eq_true rfl) ⟨rfl, rfl⟩ (fun h1 qx1 => ?_)
  obtain ⟨G1, S1, fx1_0⟩ := qx1
  have R1 := (FR.rf (cs := [115, 116, 117, 118, 119, 120, 121, 122, 123, 124, 125, 126, 127, 128, 129, 130, 131, 132, 133, 138]) (ss := [(108, 21), (108, 44), (108, 45), (108, 46), (108, 47)]) (h := h0)).call S1 (by decide +kernel)
  refine z_aload_n (M := M_X12_findEnds) 8 dX12_findEnds_8 rfl ?_
  refine z_aload_n (M := M_X12_findEnds) 9 dX12_findEnds_9 rfl ?_
  refine z_getR (M := M_X12_findEnds) 10 dX12_findEnds_10 f_X12_70 o_108 rfl (g_108_32 G1) ?_
  refine z_iload_n (M := M_X12_findEnds) 13 dX12_findEnds_13 rfl ?_
  refine z_zaldG (M := M_X12_findEnds) 14 dX12_findEnds_14 o_127 (by omega) (by omega) (g_127 G1 (by omega)) (fun x2 ex2 ax2 bx2 => ?_)
  refine z_putZH (M := M_X12_findEnds) 15 dX12_findEnds_15 p_X12_409 o_108 rfl (by omega) (u_108_44 G1 (by omega) (by omega)) (R1.up rfl) (fun h2 E2 G2 R2 => ?_)
  refine z_aload_n (M := M_X12_findEnds) 18 dX12_findEnds_18 rfl ?_
  refine z_aload_n (M := M_X12_findEnds) 19 dX12_findEnds_19 rfl ?_
  refine z_getIE (M := M_X12_findEnds) 20 dX12_findEnds_20 f_X12_409 o_108 (by decide) (upE E2) ?_
  refine z_if_eq (M := M_X12_findEnds) 23 dX12_findEnds_23 39 rfl (fun c3 => ?_) (fun c3 => ?_)
  · refine z_iconst (M := M_X12_findEnds) 39 dX12_findEnds_39 ?_
    refine z_putZH (M := M_X12_findEnds) 40 dX12_findEnds_40 p_X12_412 o_108 rfl (by omega) (u_108_46 G2 (by omega) (by omega)) (R2.up rfl) (fun h3 E3 G3 R3 => ?_)
    refine z_iconst (M := M_X12_findEnds) 43 dX12_findEnds_43 ?_
    refine z_istore_n (M := M_X12_findEnds) 44 dX12_findEnds_44 (ls' := [some (mR 108), some (mI a1), some (mI a2), some (mI 0), none]) (by decide) rfl ?_
    exact z_mask [true, true, true, true, false] rfl (ih.1 0 h3 G3 R3 (by omega) (by omega) (feA_0 fx1_0 ex2 E2 E3) (by omega))
  · refine z_aload_n (M := M_X12_findEnds) 26 dX12_findEnds_26 rfl ?_
    refine z_getR (M := M_X12_findEnds) 27 dX12_findEnds_27 f_X12_67 o_108 rfl (g_108_31 G2) ?_
    refine z_iload_n (M := M_X12_findEnds) 30 dX12_findEnds_30 rfl ?_
    refine z_zaldG (M := M_X12_findEnds) 31 dX12_findEnds_31 o_126 (by omega) (by omega) (g_126 G2 (by omega)) (fun x4 ex4 ax4 bx4 => ?_)
    refine z_if_ne (M := M_X12_findEnds) 32 dX12_findEnds_32 39 rfl (fun c5 => ?_) (fun c5 => ?_)
    · refine z_iconst (M := M_X12_findEnds) 39 dX12_findEnds_39 ?_
      refine z_putZH (M := M_X12_findEnds) 40 dX12_findEnds_40 p_X12_412 o_108 rfl (by omega) (u_108_46 G2 (by omega) (by omega)) (R2.up rfl) (fun h4 E4 G4 R4 => ?_)
      refine z_iconst (M := M_X12_findEnds) 43 dX12_findEnds_43 ?_
      refine z_istore_n (M := M_X12_findEnds) 44 dX12_findEnds_44 (ls' := [some (mR 108), some (mI a1), some (mI a2), some (mI 0), none]) (by decide) rfl ?_
      exact z_mask [true, true, true, true, false] rfl (ih.1 0 h4 G4 R4 (by omega) (by omega) (feA_0 fx1_0 ex2 E2 E4) (by omega))
    · refine z_iconst (M := M_X12_findEnds) 35 dX12_findEnds_35 ?_
      refine z_goto (M := M_X12_findEnds) 36 dX12_findEnds_36 40 rfl ?_
      refine z_putZH (M := M_X12_findEnds) 40 dX12_findEnds_40 p_X12_412 o_108 rfl (by omega) (u_108_46 G2 (by omega) (by omega)) (R2.up rfl) (fun h5 E5 G5 R5 => ?_)
      refine z_iconst (M := M_X12_findEnds) 43 dX12_findEnds_43 ?_
      refine z_istore_n (M := M_X12_findEnds) 44 dX12_findEnds_44 (ls' := [some (mR 108), some (mI a1), some (mI a2), some (mI 0), none]) (by decide) rfl ?_
      exact z_mask [true, true, true, true, false] rfl (ih.1 0 h5 G5 R5 (by omega) (by omega) (feA_0 fx1_0 ex2 E2 E5) (by omega))
abbrev P_X12_isAsked (h0 : m_H) (a1 a2 : Int) : Int → m_H → Prop := fun x h' => GI h' ∧ FR [115, 116, 117, 118, 119, 120, 121, 122, 123, 124, 125, 126, 127, 128, 129, 130, 131, 132, 133, 134] [(108, 21)] h0 h' ∧ 0 ≤ x ∧ x ≤ 1 ∧ akQ x a1 a2 (bR (h0 110))
set_option maxHeartbeats 4000000 in
set_option maxRecDepth 100000 in
theorem c_X12_isAsked (h0 : m_H) (a1 a2 : Int) (G0 : GI h0) (hN : NP h0) : m_CI M_X12_isAsked [mR 108, mI a1, mI a2] h0 (P_X12_isAsked h0 a1 a2) := by
  refine m_CI_of ⟨by decide, rfl, by simp [m_arg, m_isL, M_X12_isAsked], ⟨rfl, rfl⟩, rfl, rfl⟩ (ls := [some (mR 108), some (mI a1), some (mI a2)]) rfl ?_
  refine z_ok (fun _ _ ok => ?_)
  have oa1 : m_32 a1 := ok 1 _ rfl
  unfold m_32 at oa1
  have oa2 : m_32 a2 := ok 2 _ rfl
  unfold m_32 at oa2
  refine z_iload_n (M := M_X12_isAsked) 0 dX12_isAsked_0 rfl ?_
  refine z_i2l (M := M_X12_isAsked) 1 dX12_isAsked_1 ?_
  refine z_lconst (M := M_X12_isAsked) 2 dX12_isAsked_2 (v := 0) ?_
  refine z_ldc2 (M := M_X12_isAsked) 3 dX12_isAsked_3 k_X12_385 ?_
  refine z_sI (M := M_X12_isAsked) 6 dX12_isAsked_6 t_X12_in l_X12_143 (m_rr_of rfl) (rest := []) (c_X12_in h0 a1 0 11 G0) rfl rfl (Nat.le_of_ble_eq_true rfl) ⟨rfl, rfl⟩ (fun x1 h1 qx1 => ?_)
  obtain ⟨rfl, ⟨rfl, cx1⟩ | ⟨rfl, cx1⟩⟩ := qx1
  · refine z_if_eq_F (M := M_X12_isAsked) 9 dX12_isAsked_9 35 rfl (by omega) ?_
    refine z_iload_n (M := M_X12_isAsked) 12 dX12_isAsked_12 rfl ?_
    refine z_sI (M := M_X12_isAsked) 13 dX12_isAsked_13 t_X12_isKeeper l_X12_169 (m_rr_of rfl) (rest := []) (c_X12_isKeeper h0 a2 G0) rfl rfl (Nat.le_of_ble_eq_true rfl) ⟨rfl, rfl⟩ (fun x2 h2 qx2 => ?_)
    obtain ⟨rfl, ⟨rfl, cx2⟩ | ⟨rfl, cx2⟩⟩ := qx2
    · refine z_if_eq_F (M := M_X12_isAsked) 16 dX12_isAsked_16 35 rfl (by omega) ?_
      refine z_aload_n (M := M_X12_isAsked) 19 dX12_isAsked_19 rfl ?_
      refine z_iload_n (M := M_X12_isAsked) 20 dX12_isAsked_20 rfl ?_
      refine z_bipush (M := M_X12_isAsked) 21 dX12_isAsked_21 ?_
      refine z_iload_n (M := M_X12_isAsked) 23 dX12_isAsked_23 rfl ?_
      refine z_iaddN (M := M_X12_isAsked) 24 dX12_isAsked_24 (by omega) (by omega) ?_
      refine z_vI (M := M_X12_isAsked) 25 dX12_isAsked_25 t_X12_isAnswered l_X12_394 (m_rr_of rfl) (rest := []) (c_X12_isAnswered h0 a1 (12 + a2) G0 (NP.call hN (FR.rf (cs := [115, 116, 117, 118, 119, 120, 121, 122, 123, 124, 125, 126, 127, 128, 129, 130, 131, 132, 133, 134]) (ss := [(108, 21)]) (h := h0)) (fun _ => rfl) (fun _ => rfl) (fun _ => rfl))) o_108 rfl rfl rfl (Nat.le_of_ble_eq_true rfl) ⟨rfl, rfl⟩ (fun x3 h3 qx3 => ?_)
      obtain ⟨G3, S3, ax3, bx3, fx3_0⟩ := qx3
      have R3 := (FR.rf (cs := [115, 116, 117, 118, 119, 120, 121, 122, 123, 124, 125, 126, 127, 128, 129, 130, 131, 132, 133, 134]) (ss := [(108, 21)]) (h := h0)).call S3 (by decide +kernel)
      refine z_if_eq (M := M_X12_isAsked) 28 dX12_isAsked_28 35 rfl (fun c4 => ?_) (fun c4 => ?_)
      · refine z_iconst (M := M_X12_isAsked) 35 dX12_isAsked_35 ?_
        exact z_retZ (M := M_X12_isAsked) 36 dX12_isAsked_36 rfl (by omega) ⟨G3, R3, by omega, by omega, akQ_0⟩
      · refine z_iconst (M := M_X12_isAsked) 31 dX12_isAsked_31 ?_
        refine z_goto (M := M_X12_isAsked) 32 dX12_isAsked_32 36 rfl ?_
        exact z_retZ (M := M_X12_isAsked) 36 dX12_isAsked_36 rfl (by omega) ⟨G3, R3, by omega, by omega, fun _ => ⟨⟨by omega, by omega⟩, ⟨by omega, by omega⟩, gG_b (fx3_0 (by omega)).2.2 (FR.rf (cs := [115, 116, 117, 118, 119, 120, 121, 122, 123, 124, 125, 126, 127, 128, 129, 130, 131, 132, 133, 134]) (ss := [(108, 21)]) (h := h0)) (fun _ => rfl)⟩⟩
    · refine z_if_eq_T (M := M_X12_isAsked) 16 dX12_isAsked_16 35 rfl (by omega) ?_
      refine z_iconst (M := M_X12_isAsked) 35 dX12_isAsked_35 ?_
      exact z_retZ (M := M_X12_isAsked) 36 dX12_isAsked_36 rfl (by omega) ⟨G0, (FR.rf (cs := [115, 116, 117, 118, 119, 120, 121, 122, 123, 124, 125, 126, 127, 128, 129, 130, 131, 132, 133, 134]) (ss := [(108, 21)]) (h := h0)), by omega, by omega, akQ_0⟩
  · refine z_if_eq_T (M := M_X12_isAsked) 9 dX12_isAsked_9 35 rfl (by omega) ?_
    refine z_iconst (M := M_X12_isAsked) 35 dX12_isAsked_35 ?_
    exact z_retZ (M := M_X12_isAsked) 36 dX12_isAsked_36 rfl (by omega) ⟨G0, (FR.rf (cs := [115, 116, 117, 118, 119, 120, 121, 122, 123, 124, 125, 126, 127, 128, 129, 130, 131, 132, 133, 134]) (ss := [(108, 21)]) (h := h0)), by omega, by omega, akQ_0⟩
abbrev P_X12_would (h0 : m_H) (a1 a2 a3 a4 : Int) : Int → m_H → Prop := fun x h' => GI h' ∧ FR [115, 116, 117, 118, 119, 120, 121, 122, 123, 124, 125, 126, 127, 128, 129, 130, 131, 132, 133, 134, 135, 136, 138] [(108, 0), (108, 21), (108, 44), (108, 45), (108, 46), (108, 47)] h0 h' ∧ (-2) ≤ x ∧ x ≤ 2
set_option maxHeartbeats 4000000 in
set_option maxRecDepth 100000 in
theorem c_X12_would (h0 : m_H) (a1 a2 a3 a4 : Int) (G0 : GI h0) (hN : NP h0) : m_CI M_X12_would [mR 108, mI a1, mI a2, mI a3, mI a4] h0 (P_X12_would h0 a1 a2 a3 a4) := by
  refine m_CI_of ⟨by decide, rfl, by simp [m_arg, m_isL, M_X12_would], ⟨rfl, rfl⟩, rfl, rfl⟩ (ls := [some (mR 108), some (mI a1), some (mI a2), some (mI a3), some (mI a4)]) rfl ?_
  refine z_ok (fun _ _ ok => ?_)
  have oa1 : m_32 a1 := ok 1 _ rfl
  unfold m_32 at oa1
  have oa2 : m_32 a2 := ok 2 _ rfl
  unfold m_32 at oa2
  have oa3 : m_32 a3 := ok 3 _ rfl
  unfold m_32 at oa3
  have oa4 : m_32 a4 := ok 4 _ rfl
  unfold m_32 at oa4
  refine z_aload_n (M := M_X12_would) 0 dX12_would_0 rfl ?_
  refine z_iconst (M := M_X12_would) 1 dX12_would_1 ?_
  refine z_putIH (M := M_X12_would) 2 dX12_would_2 p_X12_133 o_108 rfl (u_108_0 G0) ((FR.rf (cs := [115, 116, 117, 118, 119, 120, 121, 122, 123, 124, 125, 126, 127, 128, 129, 130, 131, 132, 133, 134, 135, 136, 138]) (ss := [(108, 0), (108, 21), (108, 44), (108, 45), (108, 46), (108, 47)]) (h := h0)).up rfl) (fun h1 E1 G1 R1 => ?_)
  refine z_iload_n (M := M_X12_would) 5 dX12_would_5 rfl ?_
  refine z_i2l (M := M_X12_would) 6 dX12_would_6 ?_
  refine z_lconst (M := M_X12_would) 7 dX12_would_7 (v := 1) ?_
  refine z_ldc2 (M := M_X12_would) 8 dX12_would_8 k_X12_180 ?_
  refine z_sI (M := M_X12_would) 11 dX12_would_11 t_X12_in l_X12_143 (m_rr_of rfl) (rest := []) (c_X12_in h1 a3 1 99 G1) rfl rfl (Nat.le_of_ble_eq_true rfl) ⟨rfl, rfl⟩ (fun x1 h2 qx1 => ?_)
  obtain ⟨rfl, ⟨rfl, cx1⟩ | ⟨rfl, cx1⟩⟩ := qx1
  · refine z_if_eq_F (M := M_X12_would) 14 dX12_would_14 39 rfl (by omega) ?_
    refine z_iload (M := M_X12_would) 17 dX12_would_17 rfl ?_
    refine z_i2l (M := M_X12_would) 19 dX12_would_19 ?_
    refine z_lconst (M := M_X12_would) 20 dX12_would_20 (v := 0) ?_
    refine z_ldc2 (M := M_X12_would) 21 dX12_would_21 k_X12_182 ?_
    refine z_sI (M := M_X12_would) 24 dX12_would_24 t_X12_in l_X12_143 (m_rr_of rfl) (rest := []) (c_X12_in h1 a4 0 2 G1) rfl rfl (Nat.le_of_ble_eq_true rfl) ⟨rfl, rfl⟩ (fun x2 h3 qx2 => ?_)
    obtain ⟨rfl, ⟨rfl, cx2⟩ | ⟨rfl, cx2⟩⟩ := qx2
    · refine z_if_eq_F (M := M_X12_would) 27 dX12_would_27 39 rfl (by omega) ?_
      refine z_aload_n (M := M_X12_would) 30 dX12_would_30 rfl ?_
      refine z_iload_n (M := M_X12_would) 31 dX12_would_31 rfl ?_
      refine z_iload_n (M := M_X12_would) 32 dX12_would_32 rfl ?_
      refine z_vI (M := M_X12_would) 33 dX12_would_33 t_X12_isAsked l_X12_425 (m_rr_of rfl) (rest := []) (c_X12_isAsked h1 a1 a2 G1 (NP.call hN R1 (fun _ => rfl) (fun _ => rfl) (fun _ => rfl))) o_108 rfl rfl rfl (Nat.le_of_ble_eq_true rfl) ⟨rfl, rfl⟩ (fun x3 h4 qx3 => ?_)
      obtain ⟨G4, S4, ax3, bx3, fx3_0⟩ := qx3
      have R4 := R1.call S4 (by decide +kernel)
      refine z_if_ne (M := M_X12_would) 36 dX12_would_36 42 rfl (fun c4 => ?_) (fun c4 => ?_)
      · have an := fx3_0 (by omega)
        have an1 := an.1
        have an2 := an.2.1
        refine z_aload_n (M := M_X12_would) 42 dX12_would_42 rfl ?_
        refine z_iload_n (M := M_X12_would) 43 dX12_would_43 rfl ?_
        refine z_iload_n (M := M_X12_would) 44 dX12_would_44 rfl ?_
        refine z_vV (M := M_X12_would) 45 dX12_would_45 t_X12_findEnds l_X12_428 (m_rr_of rfl) (rest := []) (c_X12_findEnds h4 a1 a2 G4 ⟨by omega, by omega⟩ ⟨by omega, by omega⟩ (NP.call hN R4 (fun _ => rfl) (fun _ => rfl) (fun _ => rfl)) (gG_f (gG_b an.2.2 R1 (fun _ => rfl)) R4 (fun _ => rfl))) o_108 rfl rfl rfl (Nat.le_of_ble_eq_true rfl) ⟨rfl, rfl⟩ (fun h5 qx5 => ?_)
        obtain ⟨G5, S5, fx5_0⟩ := qx5
        have R5 := R4.call S5 (by decide +kernel)
        refine z_aload_n (M := M_X12_would) 48 dX12_would_48 rfl ?_
        refine z_iload_n (M := M_X12_would) 49 dX12_would_49 rfl ?_
        refine z_iload (M := M_X12_would) 50 dX12_would_50 rfl ?_
        refine z_vI (M := M_X12_would) 52 dX12_would_52 t_X12_tells l_X12_431 (m_rr_of rfl) (rest := []) (c_X12_tells h5 a3 a4 G5 ⟨by omega, by omega⟩ ⟨by omega, by omega⟩) o_108 rfl rfl rfl (Nat.le_of_ble_eq_true rfl) ⟨rfl, rfl⟩ (fun x6 h6 qx6 => ?_)
        obtain ⟨G6, S6, ax6, bx6⟩ := qx6
        have R6 := R5.call S6 (by decide +kernel)
        exact z_retI (M := M_X12_would) 55 dX12_would_55 rfl ⟨G6, R6, by omega, by omega⟩
      · refine z_bipush (M := M_X12_would) 39 dX12_would_39 ?_
        exact z_retI (M := M_X12_would) 41 dX12_would_41 rfl ⟨G4, R4, by omega, by omega⟩
    · refine z_if_eq_T (M := M_X12_would) 27 dX12_would_27 39 rfl (by omega) ?_
      refine z_bipush (M := M_X12_would) 39 dX12_would_39 ?_
      exact z_retI (M := M_X12_would) 41 dX12_would_41 rfl ⟨G1, R1, by omega, by omega⟩
  · refine z_if_eq_T (M := M_X12_would) 14 dX12_would_14 39 rfl (by omega) ?_
    refine z_bipush (M := M_X12_would) 39 dX12_would_39 ?_
    exact z_retI (M := M_X12_would) 41 dX12_would_41 rfl ⟨G1, R1, by omega, by omega⟩
abbrev P_X12_numbers (h0 : m_H) (a1 a2 a3 a4 : Int) : Int → m_H → Prop := fun x h' => GI h' ∧ FR [115, 116, 117, 118, 119, 120, 121, 122, 123, 124, 125, 126, 127, 128, 129, 130, 131, 132, 133, 134, 135, 136, 138] [(108, 0), (108, 21), (108, 44), (108, 45), (108, 46), (108, 47)] h0 h'
def q_X12_numbers (h0 : m_H) (a1 a2 a3 a4 : Int) (n : Nat) : Prop := (∀ (l5 l6 : Int) (h : m_H), GI h → FR [115, 116, 117, 118, 119, 120, 121, 122, 123, 124, 125, 126, 127, 128, 129, 130, 131, 132, 133, 134, 135, 136, 138] [(108, 0), (108, 21), (108, 44), (108, 45), (108, 46), (108, 47)] h0 h → (-1) ≤ l5 → l5 ≤ 99 → 1 ≤ l6 → l6 ≤ 100 → 0 ≤ a1 → a1 ≤ 11 → 0 ≤ a2 → a2 ≤ 3 → 0 ≤ a3 → a3 ≤ 2 → 1 ≤ a4 → a4 ≤ 2 → 2 * (100 - l6) + (1) ≤ (n : Int) → m_Z oF M_X12_numbers 65 [some (mR 108), none, none, some (mI a3), some (mI a4), some (mI l5), some (mI l6), none] [] h (m_QI (P_X12_numbers h0 a1 a2 a3 a4)))
set_option maxHeartbeats 4000000 in
set_option maxRecDepth 100000 in
theorem s_X12_numbers_65 (h0 : m_H) (a1 a2 a3 a4 : Int) (G0 : GI h0) (hN : NP h0) (n : Nat) (ih : q_X12_numbers h0 a1 a2 a3 a4 n) : ∀ (l5 l6 : Int) (h : m_H), GI h → FR [115, 116, 117, 118, 119, 120, 121, 122, 123, 124, 125, 126, 127, 128, 129, 130, 131, 132, 133, 134, 135, 136, 138] [(108, 0), (108, 21), (108, 44), (108, 45), (108, 46), (108, 47)] h0 h → (-1) ≤ l5 → l5 ≤ 99 → 1 ≤ l6 → l6 ≤ 100 → 0 ≤ a1 → a1 ≤ 11 → 0 ≤ a2 → a2 ≤ 3 → 0 ≤ a3 → a3 ≤ 2 → 1 ≤ a4 → a4 ≤ 2 → 2 * (100 - l6) + (1) ≤ ((n + 1 : Nat) : Int) → m_Z oF M_X12_numbers 65 [some (mR 108), none, none, some (mI a3), some (mI a4), some (mI l5), some (mI l6), none] [] h (m_QI (P_X12_numbers h0 a1 a2 a3 a4)) := by
  intro l5 l6 h G R v0 v1 v2 v3 v4 v5 v6 v7 v8 v9 v10 v11 hr
  refine z_iload (M := M_X12_numbers) 65 dX12_numbers_65 rfl ?_
  refine z_bipush (M := M_X12_numbers) 67 dX12_numbers_67 ?_
  refine z_icmp_ge (M := M_X12_numbers) 69 dX12_numbers_69 115 rfl (fun c1 => ?_) (fun c1 => ?_)
  · refine z_iload (M := M_X12_numbers) 115 dX12_numbers_115 rfl ?_
    exact z_retI (M := M_X12_numbers) 117 dX12_numbers_117 rfl ⟨G, R⟩
  · refine z_iload (M := M_X12_numbers) 72 dX12_numbers_72 rfl ?_
    refine z_iconst (M := M_X12_numbers) 74 dX12_numbers_74 ?_
    refine z_icmp_ne (M := M_X12_numbers) 75 dX12_numbers_75 86 rfl (fun c2 => ?_) (fun c2 => ?_)
    · refine z_iload (M := M_X12_numbers) 86 dX12_numbers_86 rfl ?_
      refine z_istore (M := M_X12_numbers) 88 dX12_numbers_88 (ls' := [some (mR 108), none, none, some (mI a3), some (mI a4), some (mI l5), some (mI l6), some (mI l6)]) (by decide) rfl ?_
      refine z_aload_n (M := M_X12_numbers) 90 dX12_numbers_90 rfl ?_
      refine z_iload (M := M_X12_numbers) 91 dX12_numbers_91 rfl ?_
      refine z_iload_n (M := M_X12_numbers) 93 dX12_numbers_93 rfl ?_
      refine z_vI (M := M_X12_numbers) 94 dX12_numbers_94 t_X12_tells l_X12_431 (m_rr_of rfl) (rest := []) (c_X12_tells h l6 a3 G ⟨by omega, by omega⟩ ⟨by omega, by omega⟩) o_108 rfl rfl rfl (Nat.le_of_ble_eq_true rfl) ⟨rfl, rfl⟩ (fun x3 h1 qx3 => ?_)
      obtain ⟨G1, S1, ax3, bx3⟩ := qx3
      have R1 := R.call S1 (by decide +kernel)
      refine z_if_le (M := M_X12_numbers) 97 dX12_numbers_97 105 rfl (fun c4 => ?_) (fun c4 => ?_)
      · refine z_iload (M := M_X12_numbers) 105 dX12_numbers_105 rfl ?_
        refine z_istore (M := M_X12_numbers) 107 dX12_numbers_107 (ls' := [some (mR 108), none, none, some (mI a3), some (mI a4), some (mI l5), some (mI l6), some (mI l6)]) (by decide) rfl ?_
        refine z_iincN (M := M_X12_numbers) 109 dX12_numbers_109 (ls' := [some (mR 108), none, none, some (mI a3), some (mI a4), some (mI l5), some (mI (l6 + 1)), some (mI l6)]) (by decide) rfl (by (unfold m_32; decide)) (by omega) (by omega) rfl ?_
        refine z_goto (M := M_X12_numbers) 112 dX12_numbers_112 65 rfl ?_
        exact z_mask [true, false, false, true, true, true, true, false] rfl (ih l5 (l6 + 1) h1 G1 R1 (by omega) (by omega) (by omega) (by omega) (by omega) (by omega) (by omega) (by omega) (by omega) (by omega) (by omega) (by omega) (by omega))
      · refine z_iload (M := M_X12_numbers) 100 dX12_numbers_100 rfl ?_
        refine z_goto (M := M_X12_numbers) 102 dX12_numbers_102 107 rfl ?_
        refine z_istore (M := M_X12_numbers) 107 dX12_numbers_107 (ls' := [some (mR 108), none, none, some (mI a3), some (mI a4), some (mI l6), some (mI l6), some (mI l6)]) (by decide) rfl ?_
        refine z_iincN (M := M_X12_numbers) 109 dX12_numbers_109 (ls' := [some (mR 108), none, none, some (mI a3), some (mI a4), some (mI l6), some (mI (l6 + 1)), some (mI l6)]) (by decide) rfl (by (unfold m_32; decide)) (by omega) (by omega) rfl ?_
        refine z_goto (M := M_X12_numbers) 112 dX12_numbers_112 65 rfl ?_
        exact z_mask [true, false, false, true, true, true, true, false] rfl (ih l6 (l6 + 1) h1 G1 R1 (by omega) (by omega) (by omega) (by omega) (by omega) (by omega) (by omega) (by omega) (by omega) (by omega) (by omega) (by omega) (by omega))
    · refine z_bipush (M := M_X12_numbers) 78 dX12_numbers_78 ?_
      refine z_iload (M := M_X12_numbers) 80 dX12_numbers_80 rfl ?_
      refine z_isubN (M := M_X12_numbers) 82 dX12_numbers_82 (by omega) (by omega) ?_
      refine z_goto (M := M_X12_numbers) 83 dX12_numbers_83 88 rfl ?_
      refine z_istore (M := M_X12_numbers) 88 dX12_numbers_88 (ls' := [some (mR 108), none, none, some (mI a3), some (mI a4), some (mI l5), some (mI l6), some (mI (100 - l6))]) (by decide) rfl ?_
      refine z_aload_n (M := M_X12_numbers) 90 dX12_numbers_90 rfl ?_
      refine z_iload (M := M_X12_numbers) 91 dX12_numbers_91 rfl ?_
      refine z_iload_n (M := M_X12_numbers) 93 dX12_numbers_93 rfl ?_
      refine z_vI (M := M_X12_numbers) 94 dX12_numbers_94 t_X12_tells l_X12_431 (m_rr_of rfl) (rest := []) (c_X12_tells h (100 - l6) a3 G ⟨by omega, by omega⟩ ⟨by omega, by omega⟩) o_108 rfl rfl rfl (Nat.le_of_ble_eq_true rfl) ⟨rfl, rfl⟩ (fun x5 h2 qx5 => ?_)
      obtain ⟨G2, S2, ax5, bx5⟩ := qx5
      have R2 := R.call S2 (by decide +kernel)
      refine z_if_le (M := M_X12_numbers) 97 dX12_numbers_97 105 rfl (fun c6 => ?_) (fun c6 => ?_)
      · refine z_iload (M := M_X12_numbers) 105 dX12_numbers_105 rfl ?_
        refine z_istore (M := M_X12_numbers) 107 dX12_numbers_107 (ls' := [some (mR 108), none, none, some (mI a3), some (mI a4), some (mI l5), some (mI l6), some (mI (100 - l6))]) (by decide) rfl ?_
        refine z_iincN (M := M_X12_numbers) 109 dX12_numbers_109 (ls' := [some (mR 108), none, none, some (mI a3), some (mI a4), some (mI l5), some (mI (l6 + 1)), some (mI (100 - l6))]) (by decide) rfl (by (unfold m_32; decide)) (by omega) (by omega) rfl ?_
        refine z_goto (M := M_X12_numbers) 112 dX12_numbers_112 65 rfl ?_
        exact z_mask [true, false, false, true, true, true, true, false] rfl (ih l5 (l6 + 1) h2 G2 R2 (by omega) (by omega) (by omega) (by omega) (by omega) (by omega) (by omega) (by omega) (by omega) (by omega) (by omega) (by omega) (by omega))
      · refine z_iload (M := M_X12_numbers) 100 dX12_numbers_100 rfl ?_
        refine z_goto (M := M_X12_numbers) 102 dX12_numbers_102 107 rfl ?_
        refine z_istore (M := M_X12_numbers) 107 dX12_numbers_107 (ls' := [some (mR 108), none, none, some (mI a3), some (mI a4), some (mI (100 - l6)), some (mI l6), some (mI (100 - l6))]) (by decide) rfl ?_
        refine z_iincN (M := M_X12_numbers) 109 dX12_numbers_109 (ls' := [some (mR 108), none, none, some (mI a3), some (mI a4), some (mI (100 - l6)), some (mI (l6 + 1)), some (mI (100 - l6))]) (by decide) rfl (by (unfold m_32; decide)) (by omega) (by omega) rfl ?_
        refine z_goto (M := M_X12_numbers) 112 dX12_numbers_112 65 rfl ?_
        exact z_mask [true, false, false, true, true, true, true, false] rfl (ih (100 - l6) (l6 + 1) h2 G2 R2 (by omega) (by omega) (by omega) (by omega) (by omega) (by omega) (by omega) (by omega) (by omega) (by omega) (by omega) (by omega) (by omega))
theorem a_X12_numbers (h0 : m_H) (a1 a2 a3 a4 : Int) (G0 : GI h0) (hN : NP h0) : ∀ n, q_X12_numbers h0 a1 a2 a3 a4 n := by
  intro n
  induction n with
  | zero => unfold q_X12_numbers; intros; omega
  | succ n ih => exact s_X12_numbers_65 h0 a1 a2 a3 a4 G0 hN n ih
set_option maxHeartbeats 4000000 in
set_option maxRecDepth 100000 in
theorem c_X12_numbers (h0 : m_H) (a1 a2 a3 a4 : Int) (G0 : GI h0) (hN : NP h0) : m_CI M_X12_numbers [mR 108, mI a1, mI a2, mI a3, mI a4] h0 (P_X12_numbers h0 a1 a2 a3 a4) := by
  refine m_CI_of ⟨by decide, rfl, by simp [m_arg, m_isL, M_X12_numbers], ⟨rfl, rfl⟩, rfl, rfl⟩ (ls := [some (mR 108), some (mI a1), some (mI a2), some (mI a3), some (mI a4), none, none, none]) rfl ?_
  have ih := a_X12_numbers h0 a1 a2 a3 a4 G0 hN 206
  refine z_ok (fun _ _ ok => ?_)
  have oa1 : m_32 a1 := ok 1 _ rfl
  unfold m_32 at oa1
  have oa2 : m_32 a2 := ok 2 _ rfl
  unfold m_32 at oa2
  have oa3 : m_32 a3 := ok 3 _ rfl
  unfold m_32 at oa3
  have oa4 : m_32 a4 := ok 4 _ rfl
  unfold m_32 at oa4
  refine z_aload_n (M := M_X12_numbers) 0 dX12_numbers_0 rfl ?_
  refine z_iconst (M := M_X12_numbers) 1 dX12_numbers_1 ?_
  refine z_putIH (M := M_X12_numbers) 2 dX12_numbers_2 p_X12_133 o_108 rfl (u_108_0 G0) ((FR.rf (cs := [115, 116, 117, 118, 119, 120, 121, 122, 123, 124, 125, 126, 127, 128, 129, 130, 131, 132, 133, 134, 135, 136, 138]) (ss := [(108, 0), (108, 21), (108, 44), (108, 45), (108, 46), (108, 47)]) (h := h0)).up rfl) (fun h1 E1 G1 R1 => ?_)
  refine z_iload_n (M := M_X12_numbers) 5 dX12_numbers_5 rfl ?_
  refine z_i2l (M := M_X12_numbers) 6 dX12_numbers_6 ?_
  refine z_lconst (M := M_X12_numbers) 7 dX12_numbers_7 (v := 0) ?_
  refine z_ldc2 (M := M_X12_numbers) 8 dX12_numbers_8 k_X12_182 ?_
  refine z_sI (M := M_X12_numbers) 11 dX12_numbers_11 t_X12_in l_X12_143 (m_rr_of rfl) (rest := []) (c_X12_in h1 a3 0 2 G1) rfl rfl (Nat.le_of_ble_eq_true rfl) ⟨rfl, rfl⟩ (fun x1 h2 qx1 => ?_)
  obtain ⟨rfl, ⟨rfl, cx1⟩ | ⟨rfl, cx1⟩⟩ := qx1
  · refine z_if_eq_F (M := M_X12_numbers) 14 dX12_numbers_14 39 rfl (by omega) ?_
    refine z_iload (M := M_X12_numbers) 17 dX12_numbers_17 rfl ?_
    refine z_i2l (M := M_X12_numbers) 19 dX12_numbers_19 ?_
    refine z_lconst (M := M_X12_numbers) 20 dX12_numbers_20 (v := 0) ?_
    refine z_ldc2 (M := M_X12_numbers) 21 dX12_numbers_21 k_X12_182 ?_
    refine z_sI (M := M_X12_numbers) 24 dX12_numbers_24 t_X12_in l_X12_143 (m_rr_of rfl) (rest := []) (c_X12_in h1 a4 0 2 G1) rfl rfl (Nat.le_of_ble_eq_true rfl) ⟨rfl, rfl⟩ (fun x2 h3 qx2 => ?_)
    obtain ⟨rfl, ⟨rfl, cx2⟩ | ⟨rfl, cx2⟩⟩ := qx2
    · refine z_if_eq_F (M := M_X12_numbers) 27 dX12_numbers_27 39 rfl (by omega) ?_
      refine z_aload_n (M := M_X12_numbers) 30 dX12_numbers_30 rfl ?_
      refine z_iload_n (M := M_X12_numbers) 31 dX12_numbers_31 rfl ?_
      refine z_iload_n (M := M_X12_numbers) 32 dX12_numbers_32 rfl ?_
      refine z_vI (M := M_X12_numbers) 33 dX12_numbers_33 t_X12_isAsked l_X12_425 (m_rr_of rfl) (rest := []) (c_X12_isAsked h1 a1 a2 G1 (NP.call hN R1 (fun _ => rfl) (fun _ => rfl) (fun _ => rfl))) o_108 rfl rfl rfl (Nat.le_of_ble_eq_true rfl) ⟨rfl, rfl⟩ (fun x3 h4 qx3 => ?_)
      obtain ⟨G4, S4, ax3, bx3, fx3_0⟩ := qx3
      have R4 := R1.call S4 (by decide +kernel)
      refine z_if_ne (M := M_X12_numbers) 36 dX12_numbers_36 42 rfl (fun c4 => ?_) (fun c4 => ?_)
      · have an := fx3_0 (by omega)
        have an1 := an.1
        have an2 := an.2.1
        refine z_aload_n (M := M_X12_numbers) 42 dX12_numbers_42 rfl ?_
        refine z_iload_n (M := M_X12_numbers) 43 dX12_numbers_43 rfl ?_
        refine z_iload_n (M := M_X12_numbers) 44 dX12_numbers_44 rfl ?_
        refine z_vV (M := M_X12_numbers) 45 dX12_numbers_45 t_X12_findEnds l_X12_428 (m_rr_of rfl) (rest := []) (c_X12_findEnds h4 a1 a2 G4 ⟨by omega, by omega⟩ ⟨by omega, by omega⟩ (NP.call hN R4 (fun _ => rfl) (fun _ => rfl) (fun _ => rfl)) (gG_f (gG_b an.2.2 R1 (fun _ => rfl)) R4 (fun _ => rfl))) o_108 rfl rfl rfl (Nat.le_of_ble_eq_true rfl) ⟨rfl, rfl⟩ (fun h5 qx5 => ?_)
        obtain ⟨G5, S5, fx5_0⟩ := qx5
        have R5 := R4.call S5 (by decide +kernel)
        refine z_iload (M := M_X12_numbers) 48 dX12_numbers_48 rfl ?_
        refine z_if_ne (M := M_X12_numbers) 50 dX12_numbers_50 59 rfl (fun c6 => ?_) (fun c6 => ?_)
        · refine z_iconst (M := M_X12_numbers) 59 dX12_numbers_59 ?_
          refine z_istore (M := M_X12_numbers) 60 dX12_numbers_60 (ls' := [some (mR 108), some (mI a1), some (mI a2), some (mI a3), some (mI a4), some (mI (-1)), none, none]) (by decide) rfl ?_
          refine z_iconst (M := M_X12_numbers) 62 dX12_numbers_62 ?_
          refine z_istore (M := M_X12_numbers) 63 dX12_numbers_63 (ls' := [some (mR 108), some (mI a1), some (mI a2), some (mI a3), some (mI a4), some (mI (-1)), some (mI 1), none]) (by decide) rfl ?_
          exact z_mask [true, false, false, true, true, true, true, false] rfl (ih (-1) 1 h5 G5 R5 (by omega) (by omega) (by omega) (by omega) (by omega) (by omega) (by omega) (by omega) (by omega) (by omega) (by omega) (by omega) (by omega))
        · refine z_aload_n (M := M_X12_numbers) 53 dX12_numbers_53 rfl ?_
          refine z_iload_n (M := M_X12_numbers) 54 dX12_numbers_54 rfl ?_
          refine z_vI (M := M_X12_numbers) 55 dX12_numbers_55 t_X12_numbersOf l_X12_434 (m_rr_of rfl) (rest := []) (c_X12_numbersOf h5 a3 G5 ⟨by omega, by omega⟩) o_108 rfl rfl rfl (Nat.le_of_ble_eq_true rfl) ⟨rfl, rfl⟩ (fun x7 h6 qx7 => ?_)
          obtain ⟨G6, S6⟩ := qx7
          have R6 := R5.call S6 (by decide +kernel)
          refine z_ok (fun ox7 _ _ => ?_)
          have ox7 := ox7.1; unfold m_ok m_32 at ox7
          exact z_retI (M := M_X12_numbers) 58 dX12_numbers_58 rfl ⟨G6, R6⟩
      · refine z_bipush (M := M_X12_numbers) 39 dX12_numbers_39 ?_
        exact z_retI (M := M_X12_numbers) 41 dX12_numbers_41 rfl ⟨G4, R4⟩
    · refine z_if_eq_T (M := M_X12_numbers) 27 dX12_numbers_27 39 rfl (by omega) ?_
      refine z_bipush (M := M_X12_numbers) 39 dX12_numbers_39 ?_
      exact z_retI (M := M_X12_numbers) 41 dX12_numbers_41 rfl ⟨G1, R1⟩
  · refine z_if_eq_T (M := M_X12_numbers) 14 dX12_numbers_14 39 rfl (by omega) ?_
    refine z_bipush (M := M_X12_numbers) 39 dX12_numbers_39 ?_
    exact z_retI (M := M_X12_numbers) 41 dX12_numbers_41 rfl ⟨G1, R1⟩
abbrev P_X12_ask (h0 : m_H) (a1 : Int) : Int → m_H → Prop := fun x h' => GI h' ∧ FR [115, 116, 117, 118, 119, 120, 121, 122, 123, 124, 125, 126, 127, 128, 129, 130, 131, 132, 133, 134, 135, 136, 138] [(108, 0), (108, 21), (108, 44), (108, 45), (108, 46), (108, 47)] h0 h'
def q_X12_ask (h0 : m_H) (a1 : Int) (n : Nat) : Prop := (∀ (l2 l3 l4 : Int) (h : m_H), GI h → FR [115, 116, 117, 118, 119, 120, 121, 122, 123, 124, 125, 126, 127, 128, 129, 130, 131, 132, 133, 134, 135, 136, 138] [(108, 0), (108, 21), (108, 44), (108, 45), (108, 46), (108, 47)] h0 h → (-1) ≤ l2 → l2 ≤ 47 → (-1) ≤ l3 → l3 ≤ 2147483647 → 0 ≤ l4 → l4 ≤ 12 → 0 ≤ a1 → a1 ≤ 2 → (gG (bR (h0 110))) → 13 * (12 - l4) + (12) ≤ (n : Int) → m_Z oF M_X12_ask 33 [some (mR 108), some (mI a1), some (mI l2), some (mI l3), some (mI l4), none, none] [] h (m_QI (P_X12_ask h0 a1))) ∧ (∀ (l2 l3 l4 l5 : Int) (h : m_H), GI h → FR [115, 116, 117, 118, 119, 120, 121, 122, 123, 124, 125, 126, 127, 128, 129, 130, 131, 132, 133, 134, 135, 136, 138] [(108, 0), (108, 21), (108, 44), (108, 45), (108, 46), (108, 47)] h0 h → (-1) ≤ l2 → l2 ≤ 47 → (-1) ≤ l3 → l3 ≤ 2147483647 → 0 ≤ l4 → l4 ≤ 11 → 0 ≤ l5 → l5 ≤ 4 → 0 ≤ a1 → a1 ≤ 2 → (gG (bR (h0 110))) → 13 * (12 - l4) + 2 * (4 - l5) + (1) ≤ (n : Int) → m_Z oF M_X12_ask 43 [some (mR 108), some (mI a1), some (mI l2), some (mI l3), some (mI l4), some (mI l5), none] [] h (m_QI (P_X12_ask h0 a1)))
set_option maxHeartbeats 4000000 in
set_option maxRecDepth 100000 in
theorem s_X12_ask_33 (h0 : m_H) (a1 : Int) (G0 : GI h0) (hN : NP h0) (n : Nat) (ih : q_X12_ask h0 a1 n) : ∀ (l2 l3 l4 : Int) (h : m_H), GI h → FR [115, 116, 117, 118, 119, 120, 121, 122, 123, 124, 125, 126, 127, 128, 129, 130, 131, 132, 133, 134, 135, 136, 138] [(108, 0), (108, 21), (108, 44), (108, 45), (108, 46), (108, 47)] h0 h → (-1) ≤ l2 → l2 ≤ 47 → (-1) ≤ l3 → l3 ≤ 2147483647 → 0 ≤ l4 → l4 ≤ 12 → 0 ≤ a1 → a1 ≤ 2 → (gG (bR (h0 110))) → 13 * (12 - l4) + (12) ≤ ((n + 1 : Nat) : Int) → m_Z oF M_X12_ask 33 [some (mR 108), some (mI a1), some (mI l2), some (mI l3), some (mI l4), none, none] [] h (m_QI (P_X12_ask h0 a1)) := by
  intro l2 l3 l4 h G R v0 v1 v2 v3 v4 v5 v6 v7 i0 hr
  refine z_iload (M := M_X12_ask) 33 dX12_ask_33 rfl ?_
  refine z_bipush (M := M_X12_ask) 35 dX12_ask_35 ?_
  refine z_icmp_ge (M := M_X12_ask) 37 dX12_ask_37 116 rfl (fun c1 => ?_) (fun c1 => ?_)
  · refine z_iload_n (M := M_X12_ask) 116 dX12_ask_116 rfl ?_
    refine z_if_ne (M := M_X12_ask) 117 dX12_ask_117 126 rfl (fun c2 => ?_) (fun c2 => ?_)
    · refine z_iload_n (M := M_X12_ask) 126 dX12_ask_126 rfl ?_
      refine z_iconst (M := M_X12_ask) 127 dX12_ask_127 ?_
      refine z_icmp_ne (M := M_X12_ask) 128 dX12_ask_128 137 rfl (fun c3 => ?_) (fun c3 => ?_)
      · refine z_iload_n (M := M_X12_ask) 137 dX12_ask_137 rfl ?_
        exact z_retI (M := M_X12_ask) 138 dX12_ask_138 rfl ⟨G, R⟩
      · refine z_iload_n (M := M_X12_ask) 131 dX12_ask_131 rfl ?_
        refine z_iconst (M := M_X12_ask) 132 dX12_ask_132 ?_
        refine z_irem (M := M_X12_ask) 133 dX12_ask_133 (by omega) ?_
        refine z_topm (fun x4 ex4 ox4 => ?_)
        unfold m_32 at ox4
        refine z_goto (M := M_X12_ask) 134 dX12_ask_134 138 rfl ?_
        exact z_retI (M := M_X12_ask) 138 dX12_ask_138 rfl ⟨G, R⟩
    · refine z_iload_n (M := M_X12_ask) 120 dX12_ask_120 rfl ?_
      refine z_iconst (M := M_X12_ask) 121 dX12_ask_121 ?_
      refine z_idiv (M := M_X12_ask) 122 dX12_ask_122 (by omega) ?_
      refine z_topm (fun x5 ex5 ox5 => ?_)
      unfold m_32 at ox5
      refine z_goto (M := M_X12_ask) 123 dX12_ask_123 138 rfl ?_
      exact z_retI (M := M_X12_ask) 138 dX12_ask_138 rfl ⟨G, R⟩
  · refine z_iconst (M := M_X12_ask) 40 dX12_ask_40 ?_
    refine z_istore (M := M_X12_ask) 41 dX12_ask_41 (ls' := [some (mR 108), some (mI a1), some (mI l2), some (mI l3), some (mI l4), some (mI 0), none]) (by decide) rfl ?_
    exact z_mask [true, true, true, true, true, true, false] rfl (ih.2 l2 l3 l4 0 h G R (by omega) (by omega) (by omega) (by omega) (by omega) (by omega) (by omega) (by omega) (by omega) (by omega) i0 (by omega))
set_option maxHeartbeats 4000000 in
set_option maxRecDepth 100000 in
theorem s_X12_ask_43 (h0 : m_H) (a1 : Int) (G0 : GI h0) (hN : NP h0) (n : Nat) (ih : q_X12_ask h0 a1 n) : ∀ (l2 l3 l4 l5 : Int) (h : m_H), GI h → FR [115, 116, 117, 118, 119, 120, 121, 122, 123, 124, 125, 126, 127, 128, 129, 130, 131, 132, 133, 134, 135, 136, 138] [(108, 0), (108, 21), (108, 44), (108, 45), (108, 46), (108, 47)] h0 h → (-1) ≤ l2 → l2 ≤ 47 → (-1) ≤ l3 → l3 ≤ 2147483647 → 0 ≤ l4 → l4 ≤ 11 → 0 ≤ l5 → l5 ≤ 4 → 0 ≤ a1 → a1 ≤ 2 → (gG (bR (h0 110))) → 13 * (12 - l4) + 2 * (4 - l5) + (1) ≤ ((n + 1 : Nat) : Int) → m_Z oF M_X12_ask 43 [some (mR 108), some (mI a1), some (mI l2), some (mI l3), some (mI l4), some (mI l5), none] [] h (m_QI (P_X12_ask h0 a1)) := by
  intro l2 l3 l4 l5 h G R v0 v1 v2 v3 v4 v5 v6 v7 v8 v9 i0 hr
  refine z_iload (M := M_X12_ask) 43 dX12_ask_43 rfl ?_
  refine z_iconst (M := M_X12_ask) 45 dX12_ask_45 ?_
  refine z_icmp_ge (M := M_X12_ask) 46 dX12_ask_46 110 rfl (fun c1 => ?_) (fun c1 => ?_)
  · refine z_iincN (M := M_X12_ask) 110 dX12_ask_110 (ls' := [some (mR 108), some (mI a1), some (mI l2), some (mI l3), some (mI (l4 + 1)), some (mI l5), none]) (by decide) rfl (by (unfold m_32; decide)) (by omega) (by omega) rfl ?_
    refine z_goto (M := M_X12_ask) 113 dX12_ask_113 33 rfl ?_
    exact z_mask [true, true, true, true, true, false, false] rfl (ih.1 l2 l3 (l4 + 1) h G R (by omega) (by omega) (by omega) (by omega) (by omega) (by omega) (by omega) (by omega) i0 (by omega))
  · refine z_aload_n (M := M_X12_ask) 49 dX12_ask_49 rfl ?_
    refine z_iload (M := M_X12_ask) 50 dX12_ask_50 rfl ?_
    refine z_vI (M := M_X12_ask) 52 dX12_ask_52 t_X12_isLength l_X12_391 (m_rr_of rfl) (rest := []) (c_X12_isLengthX h l4 G) o_108 rfl rfl rfl (Nat.le_of_ble_eq_true rfl) ⟨rfl, rfl⟩ (fun x2 h1 qx2 => ?_)
    obtain ⟨G1, S1, ax2, bx2, fx2_0⟩ := qx2
    have R1 := R.call S1 (by decide +kernel)
    refine z_if_eq (M := M_X12_ask) 55 dX12_ask_55 110 rfl (fun c3 => ?_) (fun c3 => ?_)
    · refine z_iincN (M := M_X12_ask) 110 dX12_ask_110 (ls' := [some (mR 108), some (mI a1), some (mI l2), some (mI l3), some (mI (l4 + 1)), some (mI l5), none]) (by decide) rfl (by (unfold m_32; decide)) (by omega) (by omega) rfl ?_
      refine z_goto (M := M_X12_ask) 113 dX12_ask_113 33 rfl ?_
      exact z_mask [true, true, true, true, true, false, false] rfl (ih.1 l2 l3 (l4 + 1) h1 G1 R1 (by omega) (by omega) (by omega) (by omega) (by omega) (by omega) (by omega) (by omega) i0 (by omega))
    · refine z_aload_n (M := M_X12_ask) 58 dX12_ask_58 rfl ?_
      refine z_iload (M := M_X12_ask) 59 dX12_ask_59 rfl ?_
      refine z_iload (M := M_X12_ask) 61 dX12_ask_61 rfl ?_
      refine z_vV (M := M_X12_ask) 63 dX12_ask_63 t_X12_findEnds l_X12_428 (m_rr_of rfl) (rest := []) (c_X12_findEnds h1 l4 l5 G1 ⟨by omega, by omega⟩ ⟨by omega, by omega⟩ (NP.call hN R1 (fun _ => rfl) (fun _ => rfl) (fun _ => rfl)) (gG_f i0 R1 (fun _ => rfl))) o_108 rfl rfl rfl (Nat.le_of_ble_eq_true rfl) ⟨rfl, rfl⟩ (fun h2 qx4 => ?_)
      obtain ⟨G2, S2, fx4_0⟩ := qx4
      have R2 := R1.call S2 (by decide +kernel)
      refine z_aload_n (M := M_X12_ask) 66 dX12_ask_66 rfl ?_
      refine z_iconst (M := M_X12_ask) 67 dX12_ask_67 ?_
      refine z_vI (M := M_X12_ask) 68 dX12_ask_68 t_X12_numbersOf l_X12_434 (m_rr_of rfl) (rest := []) (c_X12_numbersOf h2 1 G2 ⟨by omega, by omega⟩) o_108 rfl rfl rfl (Nat.le_of_ble_eq_true rfl) ⟨rfl, rfl⟩ (fun x5 h3 qx5 => ?_)
      obtain ⟨G3, S3⟩ := qx5
      have R3 := R2.call S3 (by decide +kernel)
      refine z_ok (fun ox5 _ _ => ?_)
      have ox5 := ox5.1; unfold m_ok m_32 at ox5
      refine z_istore (M := M_X12_ask) 71 dX12_ask_71 (ls' := [some (mR 108), some (mI a1), some (mI l2), some (mI l3), some (mI l4), some (mI l5), some (mI x5)]) (by decide) rfl ?_
      refine z_iload (M := M_X12_ask) 73 dX12_ask_73 rfl ?_
      refine z_iload_n (M := M_X12_ask) 75 dX12_ask_75 rfl ?_
      refine z_icmp_le (M := M_X12_ask) 76 dX12_ask_76 89 rfl (fun c6 => ?_) (fun c6 => ?_)
      · refine z_iload_n (M := M_X12_ask) 89 dX12_ask_89 rfl ?_
        refine z_istore_n (M := M_X12_ask) 90 dX12_ask_90 (ls' := [some (mR 108), some (mI a1), some (mI l2), some (mI l3), some (mI l4), some (mI l5), some (mI x5)]) (by decide) rfl ?_
        refine z_iload (M := M_X12_ask) 91 dX12_ask_91 rfl ?_
        refine z_iload_n (M := M_X12_ask) 93 dX12_ask_93 rfl ?_
        refine z_icmp_le (M := M_X12_ask) 94 dX12_ask_94 102 rfl (fun c7 => ?_) (fun c7 => ?_)
        · refine z_iload_n (M := M_X12_ask) 102 dX12_ask_102 rfl ?_
          refine z_istore_n (M := M_X12_ask) 103 dX12_ask_103 (ls' := [some (mR 108), some (mI a1), some (mI l2), some (mI l3), some (mI l4), some (mI l5), some (mI x5)]) (by decide) rfl ?_
          refine z_iincN (M := M_X12_ask) 104 dX12_ask_104 (ls' := [some (mR 108), some (mI a1), some (mI l2), some (mI l3), some (mI l4), some (mI (l5 + 1)), some (mI x5)]) (by decide) rfl (by (unfold m_32; decide)) (by omega) (by omega) rfl ?_
          refine z_goto (M := M_X12_ask) 107 dX12_ask_107 43 rfl ?_
          exact z_mask [true, true, true, true, true, true, false] rfl (ih.2 l2 l3 l4 (l5 + 1) h3 G3 R3 (by omega) (by omega) (by omega) (by omega) (by omega) (by omega) (by omega) (by omega) (by omega) (by omega) i0 (by omega))
        · refine z_iload (M := M_X12_ask) 97 dX12_ask_97 rfl ?_
          refine z_goto (M := M_X12_ask) 99 dX12_ask_99 103 rfl ?_
          refine z_istore_n (M := M_X12_ask) 103 dX12_ask_103 (ls' := [some (mR 108), some (mI a1), some (mI l2), some (mI x5), some (mI l4), some (mI l5), some (mI x5)]) (by decide) rfl ?_
          refine z_iincN (M := M_X12_ask) 104 dX12_ask_104 (ls' := [some (mR 108), some (mI a1), some (mI l2), some (mI x5), some (mI l4), some (mI (l5 + 1)), some (mI x5)]) (by decide) rfl (by (unfold m_32; decide)) (by omega) (by omega) rfl ?_
          refine z_goto (M := M_X12_ask) 107 dX12_ask_107 43 rfl ?_
          exact z_mask [true, true, true, true, true, true, false] rfl (ih.2 l2 x5 l4 (l5 + 1) h3 G3 R3 (by omega) (by omega) (by omega) (by omega) (by omega) (by omega) (by omega) (by omega) (by omega) (by omega) i0 (by omega))
      · refine z_iconst (M := M_X12_ask) 79 dX12_ask_79 ?_
        refine z_iload (M := M_X12_ask) 80 dX12_ask_80 rfl ?_
        refine z_imulN (M := M_X12_ask) 82 dX12_ask_82 (by omega) (by omega) ?_
        refine z_iload (M := M_X12_ask) 83 dX12_ask_83 rfl ?_
        refine z_iaddN (M := M_X12_ask) 85 dX12_ask_85 (by omega) (by omega) ?_
        refine z_goto (M := M_X12_ask) 86 dX12_ask_86 90 rfl ?_
        refine z_istore_n (M := M_X12_ask) 90 dX12_ask_90 (ls' := [some (mR 108), some (mI a1), some (mI ((4 * l4) + l5)), some (mI l3), some (mI l4), some (mI l5), some (mI x5)]) (by decide) rfl ?_
        refine z_iload (M := M_X12_ask) 91 dX12_ask_91 rfl ?_
        refine z_iload_n (M := M_X12_ask) 93 dX12_ask_93 rfl ?_
        refine z_icmp_le (M := M_X12_ask) 94 dX12_ask_94 102 rfl (fun c8 => ?_) (fun c8 => ?_)
        · refine z_iload_n (M := M_X12_ask) 102 dX12_ask_102 rfl ?_
          refine z_istore_n (M := M_X12_ask) 103 dX12_ask_103 (ls' := [some (mR 108), some (mI a1), some (mI ((4 * l4) + l5)), some (mI l3), some (mI l4), some (mI l5), some (mI x5)]) (by decide) rfl ?_
          refine z_iincN (M := M_X12_ask) 104 dX12_ask_104 (ls' := [some (mR 108), some (mI a1), some (mI ((4 * l4) + l5)), some (mI l3), some (mI l4), some (mI (l5 + 1)), some (mI x5)]) (by decide) rfl (by (unfold m_32; decide)) (by omega) (by omega) rfl ?_
          refine z_goto (M := M_X12_ask) 107 dX12_ask_107 43 rfl ?_
          exact z_mask [true, true, true, true, true, true, false] rfl (ih.2 ((4 * l4) + l5) l3 l4 (l5 + 1) h3 G3 R3 (by omega) (by omega) (by omega) (by omega) (by omega) (by omega) (by omega) (by omega) (by omega) (by omega) i0 (by omega))
        · refine z_iload (M := M_X12_ask) 97 dX12_ask_97 rfl ?_
          refine z_goto (M := M_X12_ask) 99 dX12_ask_99 103 rfl ?_
          refine z_istore_n (M := M_X12_ask) 103 dX12_ask_103 (ls' := [some (mR 108), some (mI a1), some (mI ((4 * l4) + l5)), some (mI x5), some (mI l4), some (mI l5), some (mI x5)]) (by decide) rfl ?_
          refine z_iincN (M := M_X12_ask) 104 dX12_ask_104 (ls' := [some (mR 108), some (mI a1), some (mI ((4 * l4) + l5)), some (mI x5), some (mI l4), some (mI (l5 + 1)), some (mI x5)]) (by decide) rfl (by (unfold m_32; decide)) (by omega) (by omega) rfl ?_
          refine z_goto (M := M_X12_ask) 107 dX12_ask_107 43 rfl ?_
          exact z_mask [true, true, true, true, true, true, false] rfl (ih.2 ((4 * l4) + l5) x5 l4 (l5 + 1) h3 G3 R3 (by omega) (by omega) (by omega) (by omega) (by omega) (by omega) (by omega) (by omega) (by omega) (by omega) i0 (by omega))
theorem a_X12_ask (h0 : m_H) (a1 : Int) (G0 : GI h0) (hN : NP h0) : ∀ n, q_X12_ask h0 a1 n := by
  intro n
  induction n with
  | zero => unfold q_X12_ask; refine ⟨?_, ?_⟩ <;> (intros; omega)
  | succ n ih => exact ⟨s_X12_ask_33 h0 a1 G0 hN n ih, s_X12_ask_43 h0 a1 G0 hN n ih⟩
set_option maxHeartbeats 4000000 in
set_option maxRecDepth 100000 in
theorem c_X12_ask (h0 : m_H) (a1 : Int) (G0 : GI h0) (hN : NP h0) : m_CI M_X12_ask [mR 108, mI a1] h0 (P_X12_ask h0 a1) := by
  refine m_CI_of ⟨by decide, rfl, by simp [m_arg, m_isL, M_X12_ask], ⟨rfl, rfl⟩, rfl, rfl⟩ (ls := [some (mR 108), some (mI a1), none, none, none, none, none]) rfl ?_
  have ih := a_X12_ask h0 a1 G0 hN 175
  refine z_ok (fun _ _ ok => ?_)
  have oa1 : m_32 a1 := ok 1 _ rfl
  unfold m_32 at oa1
  refine z_aload_n (M := M_X12_ask) 0 dX12_ask_0 rfl ?_
  refine z_iconst (M := M_X12_ask) 1 dX12_ask_1 ?_
  refine z_putIH (M := M_X12_ask) 2 dX12_ask_2 p_X12_133 o_108 rfl (u_108_0 G0) ((FR.rf (cs := [115, 116, 117, 118, 119, 120, 121, 122, 123, 124, 125, 126, 127, 128, 129, 130, 131, 132, 133, 134, 135, 136, 138]) (ss := [(108, 0), (108, 21), (108, 44), (108, 45), (108, 46), (108, 47)]) (h := h0)).up rfl) (fun h1 E1 G1 R1 => ?_)
  refine z_iload_n (M := M_X12_ask) 5 dX12_ask_5 rfl ?_
  refine z_i2l (M := M_X12_ask) 6 dX12_ask_6 ?_
  refine z_lconst (M := M_X12_ask) 7 dX12_ask_7 (v := 0) ?_
  refine z_ldc2 (M := M_X12_ask) 8 dX12_ask_8 k_X12_182 ?_
  refine z_sI (M := M_X12_ask) 11 dX12_ask_11 t_X12_in l_X12_143 (m_rr_of rfl) (rest := []) (c_X12_in h1 a1 0 2 G1) rfl rfl (Nat.le_of_ble_eq_true rfl) ⟨rfl, rfl⟩ (fun x1 h2 qx1 => ?_)
  obtain ⟨rfl, ⟨rfl, cx1⟩ | ⟨rfl, cx1⟩⟩ := qx1
  · refine z_if_eq_F (M := M_X12_ask) 14 dX12_ask_14 24 rfl (by omega) ?_
    refine z_aload_n (M := M_X12_ask) 17 dX12_ask_17 rfl ?_
    refine z_vI (M := M_X12_ask) 18 dX12_ask_18 t_X12_canBeNow l_X12_377 (m_rr_of rfl) (rest := []) (c_X12_canBeNow h1 G1 (NP.call hN R1 (fun _ => rfl) (fun _ => rfl) (fun _ => rfl))) o_108 rfl rfl rfl (Nat.le_of_ble_eq_true rfl) ⟨rfl, rfl⟩ (fun x2 h3 qx2 => ?_)
    obtain ⟨G3, S3, ax2, bx2, fx2_0⟩ := qx2
    have R3 := R1.call S3 (by decide +kernel)
    refine z_if_ne (M := M_X12_ask) 21 dX12_ask_21 26 rfl (fun c3 => ?_) (fun c3 => ?_)
    · have an := fx2_0 (by omega)
      refine z_iconst (M := M_X12_ask) 26 dX12_ask_26 ?_
      refine z_istore_n (M := M_X12_ask) 27 dX12_ask_27 (ls' := [some (mR 108), some (mI a1), some (mI (-1)), none, none, none, none]) (by decide) rfl ?_
      refine z_iconst (M := M_X12_ask) 28 dX12_ask_28 ?_
      refine z_istore_n (M := M_X12_ask) 29 dX12_ask_29 (ls' := [some (mR 108), some (mI a1), some (mI (-1)), some (mI (-1)), none, none, none]) (by decide) rfl ?_
      refine z_iconst (M := M_X12_ask) 30 dX12_ask_30 ?_
      refine z_istore (M := M_X12_ask) 31 dX12_ask_31 (ls' := [some (mR 108), some (mI a1), some (mI (-1)), some (mI (-1)), some (mI 0), none, none]) (by decide) rfl ?_
      exact z_mask [true, true, true, true, true, false, false] rfl (ih.1 (-1) (-1) 0 h3 G3 R3 (by omega) (by omega) (by omega) (by omega) (by omega) (by omega) (by omega) (by omega) (gG_b an R1 (fun _ => rfl)) (by omega))
    · refine z_iconst (M := M_X12_ask) 24 dX12_ask_24 ?_
      exact z_retI (M := M_X12_ask) 25 dX12_ask_25 rfl ⟨G3, R3⟩
  · refine z_if_eq_T (M := M_X12_ask) 14 dX12_ask_14 24 rfl (by omega) ?_
    refine z_iconst (M := M_X12_ask) 24 dX12_ask_24 ?_
    exact z_retI (M := M_X12_ask) 25 dX12_ask_25 rfl ⟨G1, R1⟩
abbrev P_X12_dates (h0 : m_H) (a1 a2 a3 a4 : Int) : Int → m_H → Prop := fun x h' => GI h' ∧ FR [115, 116, 117, 118, 119, 120, 121, 122, 123, 124, 125, 126, 127, 128, 129, 130, 131, 132, 133, 134, 135, 136, 138] [(108, 0), (108, 21), (108, 44), (108, 45), (108, 46), (108, 47)] h0 h'
def q_X12_dates (h0 : m_H) (a1 a2 a3 a4 : Int) (n : Nat) : Prop := (∀ (l5 l6 l7 l8 : Int) (h : m_H), GI h → FR [115, 116, 117, 118, 119, 120, 121, 122, 123, 124, 125, 126, 127, 128, 129, 130, 131, 132, 133, 134, 135, 136, 138] [(108, 0), (108, 21), (108, 44), (108, 45), (108, 46), (108, 47)] h0 h → (-1) ≤ l6 → l6 ≤ 31 → (-1) ≤ l7 → l7 ≤ 31 → 0 ≤ l8 → l8 ≤ 32 → 0 ≤ a1 → a1 ≤ 5 → 1 ≤ a2 → a2 ≤ 99 → 0 ≤ a3 → a3 ≤ 2 → 0 ≤ a4 → a4 ≤ 2 → (gG (bR (h0 110))) → 2 * (32 - l8) + (1) ≤ (n : Int) → m_Z oF M_X12_dates 71 [some (mR 108), some (mI a1), some (mI a2), some (mI a3), some (mI a4), some (mI l5), some (mI l6), some (mI l7), some (mI l8), none] [] h (m_QI (P_X12_dates h0 a1 a2 a3 a4)))
set_option maxHeartbeats 4000000 in
set_option maxRecDepth 100000 in
theorem s_X12_dates_71 (h0 : m_H) (a1 a2 a3 a4 : Int) (G0 : GI h0) (hN : NP h0) (n : Nat) (ih : q_X12_dates h0 a1 a2 a3 a4 n) : ∀ (l5 l6 l7 l8 : Int) (h : m_H), GI h → FR [115, 116, 117, 118, 119, 120, 121, 122, 123, 124, 125, 126, 127, 128, 129, 130, 131, 132, 133, 134, 135, 136, 138] [(108, 0), (108, 21), (108, 44), (108, 45), (108, 46), (108, 47)] h0 h → (-1) ≤ l6 → l6 ≤ 31 → (-1) ≤ l7 → l7 ≤ 31 → 0 ≤ l8 → l8 ≤ 32 → 0 ≤ a1 → a1 ≤ 5 → 1 ≤ a2 → a2 ≤ 99 → 0 ≤ a3 → a3 ≤ 2 → 0 ≤ a4 → a4 ≤ 2 → (gG (bR (h0 110))) → 2 * (32 - l8) + (1) ≤ ((n + 1 : Nat) : Int) → m_Z oF M_X12_dates 71 [some (mR 108), some (mI a1), some (mI a2), some (mI a3), some (mI a4), some (mI l5), some (mI l6), some (mI l7), some (mI l8), none] [] h (m_QI (P_X12_dates h0 a1 a2 a3 a4)) := by
  intro l5 l6 l7 l8 h G R v0 v1 v2 v3 v4 v5 v6 v7 v8 v9 v10 v11 v12 v13 i0 hr
  refine z_ok (fun ostk _ olocs => ?_)
  have ol5 : m_32 l5 := olocs 5 _ rfl
  unfold m_32 at ol5
  refine z_iload (M := M_X12_dates) 71 dX12_dates_71 rfl ?_
  refine z_bipush (M := M_X12_dates) 73 dX12_dates_73 ?_
  refine z_icmp_ge (M := M_X12_dates) 75 dX12_dates_75 182 rfl (fun c1 => ?_) (fun c1 => ?_)
  · refine z_iload (M := M_X12_dates) 182 dX12_dates_182 rfl ?_
    refine z_if_ne (M := M_X12_dates) 184 dX12_dates_184 192 rfl (fun c2 => ?_) (fun c2 => ?_)
    · refine z_iload (M := M_X12_dates) 192 dX12_dates_192 rfl ?_
      refine z_iconst (M := M_X12_dates) 194 dX12_dates_194 ?_
      refine z_icmp_ne (M := M_X12_dates) 195 dX12_dates_195 203 rfl (fun c3 => ?_) (fun c3 => ?_)
      · refine z_iload (M := M_X12_dates) 203 dX12_dates_203 rfl ?_
        exact z_retI (M := M_X12_dates) 205 dX12_dates_205 rfl ⟨G, R⟩
      · refine z_iload (M := M_X12_dates) 198 dX12_dates_198 rfl ?_
        refine z_goto (M := M_X12_dates) 200 dX12_dates_200 205 rfl ?_
        exact z_retI (M := M_X12_dates) 205 dX12_dates_205 rfl ⟨G, R⟩
    · refine z_iload (M := M_X12_dates) 187 dX12_dates_187 rfl ?_
      refine z_goto (M := M_X12_dates) 189 dX12_dates_189 205 rfl ?_
      exact z_retI (M := M_X12_dates) 205 dX12_dates_205 rfl ⟨G, R⟩
  · refine z_aload_n (M := M_X12_dates) 78 dX12_dates_78 rfl ?_
    refine z_getR (M := M_X12_dates) 79 dX12_dates_79 f_X12_13 o_108 rfl (g_108_3 G) ?_
    refine z_bipush (M := M_X12_dates) 82 dX12_dates_82 ?_
    refine z_iload (M := M_X12_dates) 84 dX12_dates_84 rfl ?_
    refine z_iaddN (M := M_X12_dates) 86 dX12_dates_86 (by omega) (by omega) ?_
    refine z_ialdG (M := M_X12_dates) 87 dX12_dates_87 o_110 (by omega) (by omega) (gw_w G (by omega) (by omega)) (fun x4 ex4 ax4 bx4 => ?_)
    refine z_iconst (M := M_X12_dates) 88 dX12_dates_88 ?_
    refine z_icmp_eq (M := M_X12_dates) 89 dX12_dates_89 176 rfl (fun c5 => ?_) (fun c5 => ?_)
    · refine z_iincN (M := M_X12_dates) 176 dX12_dates_176 (ls' := [some (mR 108), some (mI a1), some (mI a2), some (mI a3), some (mI a4), some (mI l5), some (mI l6), some (mI l7), some (mI (l8 + 1)), none]) (by decide) rfl (by (unfold m_32; decide)) (by omega) (by omega) rfl ?_
      refine z_goto (M := M_X12_dates) 179 dX12_dates_179 71 rfl ?_
      exact z_mask [true, true, true, true, true, true, true, true, true, false] rfl (ih l5 l6 l7 (l8 + 1) h G R (by omega) (by omega) (by omega) (by omega) (by omega) (by omega) (by omega) (by omega) (by omega) (by omega) (by omega) (by omega) (by omega) (by omega) i0 (by omega))
    · refine z_aload_n (M := M_X12_dates) 92 dX12_dates_92 rfl ?_
      refine z_getR (M := M_X12_dates) 93 dX12_dates_93 f_X12_13 o_108 rfl (g_108_3 G) ?_
      refine z_bipush (M := M_X12_dates) 96 dX12_dates_96 ?_
      refine z_iload_n (M := M_X12_dates) 98 dX12_dates_98 rfl ?_
      refine z_iaddN (M := M_X12_dates) 99 dX12_dates_99 (by omega) (by omega) ?_
      refine z_ialdG (M := M_X12_dates) 100 dX12_dates_100 o_110 (by omega) (by omega) (gw_c G (by omega) (by omega)) (fun x6 ex6 ax6 bx6 => ?_)
      refine z_iconst (M := M_X12_dates) 101 dX12_dates_101 ?_
      refine z_icmp_eq (M := M_X12_dates) 102 dX12_dates_102 126 rfl (fun c7 => ?_) (fun c7 => ?_)
      · refine z_iload_n (M := M_X12_dates) 126 dX12_dates_126 rfl ?_
        refine z_istore (M := M_X12_dates) 127 dX12_dates_127 (ls' := [some (mR 108), some (mI a1), some (mI a2), some (mI a3), some (mI a4), some (mI l5), some (mI l6), some (mI l7), some (mI l8), some (mI a1)]) (by decide) rfl ?_
        refine z_aload_n (M := M_X12_dates) 129 dX12_dates_129 rfl ?_
        refine z_iload (M := M_X12_dates) 130 dX12_dates_130 rfl ?_
        refine z_aload_n (M := M_X12_dates) 132 dX12_dates_132 rfl ?_
        refine z_getR (M := M_X12_dates) 133 dX12_dates_133 f_X12_13 o_108 rfl (g_108_3 G) ?_
        refine z_bipush (M := M_X12_dates) 136 dX12_dates_136 ?_
        refine z_iload (M := M_X12_dates) 138 dX12_dates_138 rfl ?_
        refine z_iaddN (M := M_X12_dates) 140 dX12_dates_140 (by omega) (by omega) ?_
        refine z_ialdE (M := M_X12_dates) 141 dX12_dates_141 o_110 (by omega) (by omega) ex4 ?_
        refine z_vV (M := M_X12_dates) 142 dX12_dates_142 t_X12_findEnds l_X12_428 (m_rr_of rfl) (rest := []) (c_X12_findEnds h a1 x4 G ⟨by omega, by omega⟩ ⟨by omega, by omega⟩ (NP.call hN R (fun _ => rfl) (fun _ => rfl) (fun _ => rfl)) (gG_f i0 R (fun _ => rfl))) o_108 rfl rfl rfl (Nat.le_of_ble_eq_true rfl) ⟨rfl, rfl⟩ (fun h1 qx8 => ?_)
        obtain ⟨G1, S1, fx8_0⟩ := qx8
        have R1 := R.call S1 (by decide +kernel)
        refine z_aload_n (M := M_X12_dates) 145 dX12_dates_145 rfl ?_
        refine z_iload_n (M := M_X12_dates) 146 dX12_dates_146 rfl ?_
        refine z_iload_n (M := M_X12_dates) 147 dX12_dates_147 rfl ?_
        refine z_vI (M := M_X12_dates) 148 dX12_dates_148 t_X12_tells l_X12_431 (m_rr_of rfl) (rest := []) (c_X12_tells h1 a2 a3 G1 ⟨by omega, by omega⟩ ⟨by omega, by omega⟩) o_108 rfl rfl rfl (Nat.le_of_ble_eq_true rfl) ⟨rfl, rfl⟩ (fun x9 h2 qx9 => ?_)
        obtain ⟨G2, S2, ax9, bx9⟩ := qx9
        have R2 := R1.call S2 (by decide +kernel)
        refine z_if_le (M := M_X12_dates) 151 dX12_dates_151 176 rfl (fun c10 => ?_) (fun c10 => ?_)
        · refine z_iincN (M := M_X12_dates) 176 dX12_dates_176 (ls' := [some (mR 108), some (mI a1), some (mI a2), some (mI a3), some (mI a4), some (mI l5), some (mI l6), some (mI l7), some (mI (l8 + 1)), some (mI a1)]) (by decide) rfl (by (unfold m_32; decide)) (by omega) (by omega) rfl ?_
          refine z_goto (M := M_X12_dates) 179 dX12_dates_179 71 rfl ?_
          exact z_mask [true, true, true, true, true, true, true, true, true, false] rfl (ih l5 l6 l7 (l8 + 1) h2 G2 R2 (by omega) (by omega) (by omega) (by omega) (by omega) (by omega) (by omega) (by omega) (by omega) (by omega) (by omega) (by omega) (by omega) (by omega) i0 (by omega))
        · refine z_iincW (M := M_X12_dates) 154 dX12_dates_154 (by decide) rfl (by (unfold m_32; decide)) (fun x11 ox11 => ?_)
          unfold m_32 at ox11
          refine z_ls (ls' := [some (mR 108), some (mI a1), some (mI a2), some (mI a3), some (mI a4), some (mI x11), some (mI l6), some (mI l7), some (mI l8), some (mI a1)]) rfl ?_
          refine z_iload (M := M_X12_dates) 157 dX12_dates_157 rfl ?_
          refine z_iconst (M := M_X12_dates) 159 dX12_dates_159 ?_
          refine z_icmp_ne (M := M_X12_dates) 160 dX12_dates_160 168 rfl (fun c12 => ?_) (fun c12 => ?_)
          · refine z_iload (M := M_X12_dates) 168 dX12_dates_168 rfl ?_
            refine z_istore (M := M_X12_dates) 170 dX12_dates_170 (ls' := [some (mR 108), some (mI a1), some (mI a2), some (mI a3), some (mI a4), some (mI x11), some (mI l6), some (mI l7), some (mI l8), some (mI a1)]) (by decide) rfl ?_
            refine z_iload (M := M_X12_dates) 172 dX12_dates_172 rfl ?_
            refine z_istore (M := M_X12_dates) 174 dX12_dates_174 (ls' := [some (mR 108), some (mI a1), some (mI a2), some (mI a3), some (mI a4), some (mI x11), some (mI l6), some (mI l8), some (mI l8), some (mI a1)]) (by decide) rfl ?_
            refine z_iincN (M := M_X12_dates) 176 dX12_dates_176 (ls' := [some (mR 108), some (mI a1), some (mI a2), some (mI a3), some (mI a4), some (mI x11), some (mI l6), some (mI l8), some (mI (l8 + 1)), some (mI a1)]) (by decide) rfl (by (unfold m_32; decide)) (by omega) (by omega) rfl ?_
            refine z_goto (M := M_X12_dates) 179 dX12_dates_179 71 rfl ?_
            exact z_mask [true, true, true, true, true, true, true, true, true, false] rfl (ih x11 l6 l8 (l8 + 1) h2 G2 R2 (by omega) (by omega) (by omega) (by omega) (by omega) (by omega) (by omega) (by omega) (by omega) (by omega) (by omega) (by omega) (by omega) (by omega) i0 (by omega))
          · refine z_iload (M := M_X12_dates) 163 dX12_dates_163 rfl ?_
            refine z_goto (M := M_X12_dates) 165 dX12_dates_165 170 rfl ?_
            refine z_istore (M := M_X12_dates) 170 dX12_dates_170 (ls' := [some (mR 108), some (mI a1), some (mI a2), some (mI a3), some (mI a4), some (mI x11), some (mI l8), some (mI l7), some (mI l8), some (mI a1)]) (by decide) rfl ?_
            refine z_iload (M := M_X12_dates) 172 dX12_dates_172 rfl ?_
            refine z_istore (M := M_X12_dates) 174 dX12_dates_174 (ls' := [some (mR 108), some (mI a1), some (mI a2), some (mI a3), some (mI a4), some (mI x11), some (mI l8), some (mI l8), some (mI l8), some (mI a1)]) (by decide) rfl ?_
            refine z_iincN (M := M_X12_dates) 176 dX12_dates_176 (ls' := [some (mR 108), some (mI a1), some (mI a2), some (mI a3), some (mI a4), some (mI x11), some (mI l8), some (mI l8), some (mI (l8 + 1)), some (mI a1)]) (by decide) rfl (by (unfold m_32; decide)) (by omega) (by omega) rfl ?_
            refine z_goto (M := M_X12_dates) 179 dX12_dates_179 71 rfl ?_
            exact z_mask [true, true, true, true, true, true, true, true, true, false] rfl (ih x11 l8 l8 (l8 + 1) h2 G2 R2 (by omega) (by omega) (by omega) (by omega) (by omega) (by omega) (by omega) (by omega) (by omega) (by omega) (by omega) (by omega) (by omega) (by omega) i0 (by omega))
      · refine z_iload (M := M_X12_dates) 105 dX12_dates_105 rfl ?_
        refine z_aload_n (M := M_X12_dates) 107 dX12_dates_107 rfl ?_
        refine z_getR (M := M_X12_dates) 108 dX12_dates_108 f_X12_13 o_108 rfl (g_108_3 G) ?_
        refine z_bipush (M := M_X12_dates) 111 dX12_dates_111 ?_
        refine z_iload_n (M := M_X12_dates) 113 dX12_dates_113 rfl ?_
        refine z_iaddN (M := M_X12_dates) 114 dX12_dates_114 (by omega) (by omega) ?_
        refine z_ialdE (M := M_X12_dates) 115 dX12_dates_115 o_110 (by omega) (by omega) ex6 ?_
        refine z_icmp_lt (M := M_X12_dates) 116 dX12_dates_116 126 rfl (fun c13 => ?_) (fun c13 => ?_)
        · refine z_iload_n (M := M_X12_dates) 126 dX12_dates_126 rfl ?_
          refine z_istore (M := M_X12_dates) 127 dX12_dates_127 (ls' := [some (mR 108), some (mI a1), some (mI a2), some (mI a3), some (mI a4), some (mI l5), some (mI l6), some (mI l7), some (mI l8), some (mI a1)]) (by decide) rfl ?_
          refine z_aload_n (M := M_X12_dates) 129 dX12_dates_129 rfl ?_
          refine z_iload (M := M_X12_dates) 130 dX12_dates_130 rfl ?_
          refine z_aload_n (M := M_X12_dates) 132 dX12_dates_132 rfl ?_
          refine z_getR (M := M_X12_dates) 133 dX12_dates_133 f_X12_13 o_108 rfl (g_108_3 G) ?_
          refine z_bipush (M := M_X12_dates) 136 dX12_dates_136 ?_
          refine z_iload (M := M_X12_dates) 138 dX12_dates_138 rfl ?_
          refine z_iaddN (M := M_X12_dates) 140 dX12_dates_140 (by omega) (by omega) ?_
          refine z_ialdE (M := M_X12_dates) 141 dX12_dates_141 o_110 (by omega) (by omega) ex4 ?_
          refine z_vV (M := M_X12_dates) 142 dX12_dates_142 t_X12_findEnds l_X12_428 (m_rr_of rfl) (rest := []) (c_X12_findEnds h a1 x4 G ⟨by omega, by omega⟩ ⟨by omega, by omega⟩ (NP.call hN R (fun _ => rfl) (fun _ => rfl) (fun _ => rfl)) (gG_f i0 R (fun _ => rfl))) o_108 rfl rfl rfl (Nat.le_of_ble_eq_true rfl) ⟨rfl, rfl⟩ (fun h3 qx14 => ?_)
          obtain ⟨G3, S3, fx14_0⟩ := qx14
          have R3 := R.call S3 (by decide +kernel)
          refine z_aload_n (M := M_X12_dates) 145 dX12_dates_145 rfl ?_
          refine z_iload_n (M := M_X12_dates) 146 dX12_dates_146 rfl ?_
          refine z_iload_n (M := M_X12_dates) 147 dX12_dates_147 rfl ?_
          refine z_vI (M := M_X12_dates) 148 dX12_dates_148 t_X12_tells l_X12_431 (m_rr_of rfl) (rest := []) (c_X12_tells h3 a2 a3 G3 ⟨by omega, by omega⟩ ⟨by omega, by omega⟩) o_108 rfl rfl rfl (Nat.le_of_ble_eq_true rfl) ⟨rfl, rfl⟩ (fun x15 h4 qx15 => ?_)
          obtain ⟨G4, S4, ax15, bx15⟩ := qx15
          have R4 := R3.call S4 (by decide +kernel)
          refine z_if_le (M := M_X12_dates) 151 dX12_dates_151 176 rfl (fun c16 => ?_) (fun c16 => ?_)
          · refine z_iincN (M := M_X12_dates) 176 dX12_dates_176 (ls' := [some (mR 108), some (mI a1), some (mI a2), some (mI a3), some (mI a4), some (mI l5), some (mI l6), some (mI l7), some (mI (l8 + 1)), some (mI a1)]) (by decide) rfl (by (unfold m_32; decide)) (by omega) (by omega) rfl ?_
            refine z_goto (M := M_X12_dates) 179 dX12_dates_179 71 rfl ?_
            exact z_mask [true, true, true, true, true, true, true, true, true, false] rfl (ih l5 l6 l7 (l8 + 1) h4 G4 R4 (by omega) (by omega) (by omega) (by omega) (by omega) (by omega) (by omega) (by omega) (by omega) (by omega) (by omega) (by omega) (by omega) (by omega) i0 (by omega))
          · refine z_iincW (M := M_X12_dates) 154 dX12_dates_154 (by decide) rfl (by (unfold m_32; decide)) (fun x17 ox17 => ?_)
            unfold m_32 at ox17
            refine z_ls (ls' := [some (mR 108), some (mI a1), some (mI a2), some (mI a3), some (mI a4), some (mI x17), some (mI l6), some (mI l7), some (mI l8), some (mI a1)]) rfl ?_
            refine z_iload (M := M_X12_dates) 157 dX12_dates_157 rfl ?_
            refine z_iconst (M := M_X12_dates) 159 dX12_dates_159 ?_
            refine z_icmp_ne (M := M_X12_dates) 160 dX12_dates_160 168 rfl (fun c18 => ?_) (fun c18 => ?_)
            · refine z_iload (M := M_X12_dates) 168 dX12_dates_168 rfl ?_
              refine z_istore (M := M_X12_dates) 170 dX12_dates_170 (ls' := [some (mR 108), some (mI a1), some (mI a2), some (mI a3), some (mI a4), some (mI x17), some (mI l6), some (mI l7), some (mI l8), some (mI a1)]) (by decide) rfl ?_
              refine z_iload (M := M_X12_dates) 172 dX12_dates_172 rfl ?_
              refine z_istore (M := M_X12_dates) 174 dX12_dates_174 (ls' := [some (mR 108), some (mI a1), some (mI a2), some (mI a3), some (mI a4), some (mI x17), some (mI l6), some (mI l8), some (mI l8), some (mI a1)]) (by decide) rfl ?_
              refine z_iincN (M := M_X12_dates) 176 dX12_dates_176 (ls' := [some (mR 108), some (mI a1), some (mI a2), some (mI a3), some (mI a4), some (mI x17), some (mI l6), some (mI l8), some (mI (l8 + 1)), some (mI a1)]) (by decide) rfl (by (unfold m_32; decide)) (by omega) (by omega) rfl ?_
              refine z_goto (M := M_X12_dates) 179 dX12_dates_179 71 rfl ?_
              exact z_mask [true, true, true, true, true, true, true, true, true, false] rfl (ih x17 l6 l8 (l8 + 1) h4 G4 R4 (by omega) (by omega) (by omega) (by omega) (by omega) (by omega) (by omega) (by omega) (by omega) (by omega) (by omega) (by omega) (by omega) (by omega) i0 (by omega))
            · refine z_iload (M := M_X12_dates) 163 dX12_dates_163 rfl ?_
              refine z_goto (M := M_X12_dates) 165 dX12_dates_165 170 rfl ?_
              refine z_istore (M := M_X12_dates) 170 dX12_dates_170 (ls' := [some (mR 108), some (mI a1), some (mI a2), some (mI a3), some (mI a4), some (mI x17), some (mI l8), some (mI l7), some (mI l8), some (mI a1)]) (by decide) rfl ?_
              refine z_iload (M := M_X12_dates) 172 dX12_dates_172 rfl ?_
              refine z_istore (M := M_X12_dates) 174 dX12_dates_174 (ls' := [some (mR 108), some (mI a1), some (mI a2), some (mI a3), some (mI a4), some (mI x17), some (mI l8), some (mI l8), some (mI l8), some (mI a1)]) (by decide) rfl ?_
              refine z_iincN (M := M_X12_dates) 176 dX12_dates_176 (ls' := [some (mR 108), some (mI a1), some (mI a2), some (mI a3), some (mI a4), some (mI x17), some (mI l8), some (mI l8), some (mI (l8 + 1)), some (mI a1)]) (by decide) rfl (by (unfold m_32; decide)) (by omega) (by omega) rfl ?_
              refine z_goto (M := M_X12_dates) 179 dX12_dates_179 71 rfl ?_
              exact z_mask [true, true, true, true, true, true, true, true, true, false] rfl (ih x17 l8 l8 (l8 + 1) h4 G4 R4 (by omega) (by omega) (by omega) (by omega) (by omega) (by omega) (by omega) (by omega) (by omega) (by omega) (by omega) (by omega) (by omega) (by omega) i0 (by omega))
        · refine z_bipush (M := M_X12_dates) 119 dX12_dates_119 ?_
          refine z_iload_n (M := M_X12_dates) 121 dX12_dates_121 rfl ?_
          refine z_iaddN (M := M_X12_dates) 122 dX12_dates_122 (by omega) (by omega) ?_
          refine z_goto (M := M_X12_dates) 123 dX12_dates_123 127 rfl ?_
          refine z_istore (M := M_X12_dates) 127 dX12_dates_127 (ls' := [some (mR 108), some (mI a1), some (mI a2), some (mI a3), some (mI a4), some (mI l5), some (mI l6), some (mI l7), some (mI l8), some (mI (6 + a1))]) (by decide) rfl ?_
          refine z_aload_n (M := M_X12_dates) 129 dX12_dates_129 rfl ?_
          refine z_iload (M := M_X12_dates) 130 dX12_dates_130 rfl ?_
          refine z_aload_n (M := M_X12_dates) 132 dX12_dates_132 rfl ?_
          refine z_getR (M := M_X12_dates) 133 dX12_dates_133 f_X12_13 o_108 rfl (g_108_3 G) ?_
          refine z_bipush (M := M_X12_dates) 136 dX12_dates_136 ?_
          refine z_iload (M := M_X12_dates) 138 dX12_dates_138 rfl ?_
          refine z_iaddN (M := M_X12_dates) 140 dX12_dates_140 (by omega) (by omega) ?_
          refine z_ialdE (M := M_X12_dates) 141 dX12_dates_141 o_110 (by omega) (by omega) ex4 ?_
          refine z_vV (M := M_X12_dates) 142 dX12_dates_142 t_X12_findEnds l_X12_428 (m_rr_of rfl) (rest := []) (c_X12_findEnds h (6 + a1) x4 G ⟨by omega, by omega⟩ ⟨by omega, by omega⟩ (NP.call hN R (fun _ => rfl) (fun _ => rfl) (fun _ => rfl)) (gG_f i0 R (fun _ => rfl))) o_108 rfl rfl rfl (Nat.le_of_ble_eq_true rfl) ⟨rfl, rfl⟩ (fun h5 qx19 => ?_)
          obtain ⟨G5, S5, fx19_0⟩ := qx19
          have R5 := R.call S5 (by decide +kernel)
          refine z_aload_n (M := M_X12_dates) 145 dX12_dates_145 rfl ?_
          refine z_iload_n (M := M_X12_dates) 146 dX12_dates_146 rfl ?_
          refine z_iload_n (M := M_X12_dates) 147 dX12_dates_147 rfl ?_
          refine z_vI (M := M_X12_dates) 148 dX12_dates_148 t_X12_tells l_X12_431 (m_rr_of rfl) (rest := []) (c_X12_tells h5 a2 a3 G5 ⟨by omega, by omega⟩ ⟨by omega, by omega⟩) o_108 rfl rfl rfl (Nat.le_of_ble_eq_true rfl) ⟨rfl, rfl⟩ (fun x20 h6 qx20 => ?_)
          obtain ⟨G6, S6, ax20, bx20⟩ := qx20
          have R6 := R5.call S6 (by decide +kernel)
          refine z_if_le (M := M_X12_dates) 151 dX12_dates_151 176 rfl (fun c21 => ?_) (fun c21 => ?_)
          · refine z_iincN (M := M_X12_dates) 176 dX12_dates_176 (ls' := [some (mR 108), some (mI a1), some (mI a2), some (mI a3), some (mI a4), some (mI l5), some (mI l6), some (mI l7), some (mI (l8 + 1)), some (mI (6 + a1))]) (by decide) rfl (by (unfold m_32; decide)) (by omega) (by omega) rfl ?_
            refine z_goto (M := M_X12_dates) 179 dX12_dates_179 71 rfl ?_
            exact z_mask [true, true, true, true, true, true, true, true, true, false] rfl (ih l5 l6 l7 (l8 + 1) h6 G6 R6 (by omega) (by omega) (by omega) (by omega) (by omega) (by omega) (by omega) (by omega) (by omega) (by omega) (by omega) (by omega) (by omega) (by omega) i0 (by omega))
          · refine z_iincW (M := M_X12_dates) 154 dX12_dates_154 (by decide) rfl (by (unfold m_32; decide)) (fun x22 ox22 => ?_)
            unfold m_32 at ox22
            refine z_ls (ls' := [some (mR 108), some (mI a1), some (mI a2), some (mI a3), some (mI a4), some (mI x22), some (mI l6), some (mI l7), some (mI l8), some (mI (6 + a1))]) rfl ?_
            refine z_iload (M := M_X12_dates) 157 dX12_dates_157 rfl ?_
            refine z_iconst (M := M_X12_dates) 159 dX12_dates_159 ?_
            refine z_icmp_ne (M := M_X12_dates) 160 dX12_dates_160 168 rfl (fun c23 => ?_) (fun c23 => ?_)
            · refine z_iload (M := M_X12_dates) 168 dX12_dates_168 rfl ?_
              refine z_istore (M := M_X12_dates) 170 dX12_dates_170 (ls' := [some (mR 108), some (mI a1), some (mI a2), some (mI a3), some (mI a4), some (mI x22), some (mI l6), some (mI l7), some (mI l8), some (mI (6 + a1))]) (by decide) rfl ?_
              refine z_iload (M := M_X12_dates) 172 dX12_dates_172 rfl ?_
              refine z_istore (M := M_X12_dates) 174 dX12_dates_174 (ls' := [some (mR 108), some (mI a1), some (mI a2), some (mI a3), some (mI a4), some (mI x22), some (mI l6), some (mI l8), some (mI l8), some (mI (6 + a1))]) (by decide) rfl ?_
              refine z_iincN (M := M_X12_dates) 176 dX12_dates_176 (ls' := [some (mR 108), some (mI a1), some (mI a2), some (mI a3), some (mI a4), some (mI x22), some (mI l6), some (mI l8), some (mI (l8 + 1)), some (mI (6 + a1))]) (by decide) rfl (by (unfold m_32; decide)) (by omega) (by omega) rfl ?_
              refine z_goto (M := M_X12_dates) 179 dX12_dates_179 71 rfl ?_
              exact z_mask [true, true, true, true, true, true, true, true, true, false] rfl (ih x22 l6 l8 (l8 + 1) h6 G6 R6 (by omega) (by omega) (by omega) (by omega) (by omega) (by omega) (by omega) (by omega) (by omega) (by omega) (by omega) (by omega) (by omega) (by omega) i0 (by omega))
            · refine z_iload (M := M_X12_dates) 163 dX12_dates_163 rfl ?_
              refine z_goto (M := M_X12_dates) 165 dX12_dates_165 170 rfl ?_
              refine z_istore (M := M_X12_dates) 170 dX12_dates_170 (ls' := [some (mR 108), some (mI a1), some (mI a2), some (mI a3), some (mI a4), some (mI x22), some (mI l8), some (mI l7), some (mI l8), some (mI (6 + a1))]) (by decide) rfl ?_
              refine z_iload (M := M_X12_dates) 172 dX12_dates_172 rfl ?_
              refine z_istore (M := M_X12_dates) 174 dX12_dates_174 (ls' := [some (mR 108), some (mI a1), some (mI a2), some (mI a3), some (mI a4), some (mI x22), some (mI l8), some (mI l8), some (mI l8), some (mI (6 + a1))]) (by decide) rfl ?_
              refine z_iincN (M := M_X12_dates) 176 dX12_dates_176 (ls' := [some (mR 108), some (mI a1), some (mI a2), some (mI a3), some (mI a4), some (mI x22), some (mI l8), some (mI l8), some (mI (l8 + 1)), some (mI (6 + a1))]) (by decide) rfl (by (unfold m_32; decide)) (by omega) (by omega) rfl ?_
              refine z_goto (M := M_X12_dates) 179 dX12_dates_179 71 rfl ?_
              exact z_mask [true, true, true, true, true, true, true, true, true, false] rfl (ih x22 l8 l8 (l8 + 1) h6 G6 R6 (by omega) (by omega) (by omega) (by omega) (by omega) (by omega) (by omega) (by omega) (by omega) (by omega) (by omega) (by omega) (by omega) (by omega) i0 (by omega))
theorem a_X12_dates (h0 : m_H) (a1 a2 a3 a4 : Int) (G0 : GI h0) (hN : NP h0) : ∀ n, q_X12_dates h0 a1 a2 a3 a4 n := by
  intro n
  induction n with
  | zero => unfold q_X12_dates; intros; omega
  | succ n ih => exact s_X12_dates_71 h0 a1 a2 a3 a4 G0 hN n ih
set_option maxHeartbeats 4000000 in
set_option maxRecDepth 100000 in
theorem c_X12_dates (h0 : m_H) (a1 a2 a3 a4 : Int) (G0 : GI h0) (hN : NP h0) : m_CI M_X12_dates [mR 108, mI a1, mI a2, mI a3, mI a4] h0 (P_X12_dates h0 a1 a2 a3 a4) := by
  refine m_CI_of ⟨by decide, rfl, by simp [m_arg, m_isL, M_X12_dates], ⟨rfl, rfl⟩, rfl, rfl⟩ (ls := [some (mR 108), some (mI a1), some (mI a2), some (mI a3), some (mI a4), none, none, none, none, none]) rfl ?_
  have ih := a_X12_dates h0 a1 a2 a3 a4 G0 hN 72
  refine z_ok (fun _ _ ok => ?_)
  have oa1 : m_32 a1 := ok 1 _ rfl
  unfold m_32 at oa1
  have oa2 : m_32 a2 := ok 2 _ rfl
  unfold m_32 at oa2
  have oa3 : m_32 a3 := ok 3 _ rfl
  unfold m_32 at oa3
  have oa4 : m_32 a4 := ok 4 _ rfl
  unfold m_32 at oa4
  refine z_aload_n (M := M_X12_dates) 0 dX12_dates_0 rfl ?_
  refine z_iconst (M := M_X12_dates) 1 dX12_dates_1 ?_
  refine z_putIH (M := M_X12_dates) 2 dX12_dates_2 p_X12_133 o_108 rfl (u_108_0 G0) ((FR.rf (cs := [115, 116, 117, 118, 119, 120, 121, 122, 123, 124, 125, 126, 127, 128, 129, 130, 131, 132, 133, 134, 135, 136, 138]) (ss := [(108, 0), (108, 21), (108, 44), (108, 45), (108, 46), (108, 47)]) (h := h0)).up rfl) (fun h1 E1 G1 R1 => ?_)
  refine z_iload_n (M := M_X12_dates) 5 dX12_dates_5 rfl ?_
  refine z_sI (M := M_X12_dates) 6 dX12_dates_6 t_X12_isThing l_X12_166 (m_rr_of rfl) (rest := []) (c_X12_isThing h1 a1 G1) rfl rfl (Nat.le_of_ble_eq_true rfl) ⟨rfl, rfl⟩ (fun x1 h2 qx1 => ?_)
  obtain ⟨rfl, ⟨rfl, cx1⟩ | ⟨rfl, cx1⟩⟩ := qx1
  · refine z_if_eq_F (M := M_X12_dates) 9 dX12_dates_9 56 rfl (by omega) ?_
    refine z_iload_n (M := M_X12_dates) 12 dX12_dates_12 rfl ?_
    refine z_i2l (M := M_X12_dates) 13 dX12_dates_13 ?_
    refine z_lconst (M := M_X12_dates) 14 dX12_dates_14 (v := 1) ?_
    refine z_ldc2 (M := M_X12_dates) 15 dX12_dates_15 k_X12_180 ?_
    refine z_sI (M := M_X12_dates) 18 dX12_dates_18 t_X12_in l_X12_143 (m_rr_of rfl) (rest := []) (c_X12_in h1 a2 1 99 G1) rfl rfl (Nat.le_of_ble_eq_true rfl) ⟨rfl, rfl⟩ (fun x2 h3 qx2 => ?_)
    obtain ⟨rfl, ⟨rfl, cx2⟩ | ⟨rfl, cx2⟩⟩ := qx2
    · refine z_if_eq_F (M := M_X12_dates) 21 dX12_dates_21 56 rfl (by omega) ?_
      refine z_iload_n (M := M_X12_dates) 24 dX12_dates_24 rfl ?_
      refine z_i2l (M := M_X12_dates) 25 dX12_dates_25 ?_
      refine z_lconst (M := M_X12_dates) 26 dX12_dates_26 (v := 0) ?_
      refine z_ldc2 (M := M_X12_dates) 27 dX12_dates_27 k_X12_182 ?_
      refine z_sI (M := M_X12_dates) 30 dX12_dates_30 t_X12_in l_X12_143 (m_rr_of rfl) (rest := []) (c_X12_in h1 a3 0 2 G1) rfl rfl (Nat.le_of_ble_eq_true rfl) ⟨rfl, rfl⟩ (fun x3 h4 qx3 => ?_)
      obtain ⟨rfl, ⟨rfl, cx3⟩ | ⟨rfl, cx3⟩⟩ := qx3
      · refine z_if_eq_F (M := M_X12_dates) 33 dX12_dates_33 56 rfl (by omega) ?_
        refine z_iload (M := M_X12_dates) 36 dX12_dates_36 rfl ?_
        refine z_i2l (M := M_X12_dates) 38 dX12_dates_38 ?_
        refine z_lconst (M := M_X12_dates) 39 dX12_dates_39 (v := 0) ?_
        refine z_ldc2 (M := M_X12_dates) 40 dX12_dates_40 k_X12_182 ?_
        refine z_sI (M := M_X12_dates) 43 dX12_dates_43 t_X12_in l_X12_143 (m_rr_of rfl) (rest := []) (c_X12_in h1 a4 0 2 G1) rfl rfl (Nat.le_of_ble_eq_true rfl) ⟨rfl, rfl⟩ (fun x4 h5 qx4 => ?_)
        obtain ⟨rfl, ⟨rfl, cx4⟩ | ⟨rfl, cx4⟩⟩ := qx4
        · refine z_if_eq_F (M := M_X12_dates) 46 dX12_dates_46 56 rfl (by omega) ?_
          refine z_aload_n (M := M_X12_dates) 49 dX12_dates_49 rfl ?_
          refine z_vI (M := M_X12_dates) 50 dX12_dates_50 t_X12_canBeNow l_X12_377 (m_rr_of rfl) (rest := []) (c_X12_canBeNow h1 G1 (NP.call hN R1 (fun _ => rfl) (fun _ => rfl) (fun _ => rfl))) o_108 rfl rfl rfl (Nat.le_of_ble_eq_true rfl) ⟨rfl, rfl⟩ (fun x5 h6 qx5 => ?_)
          obtain ⟨G6, S6, ax5, bx5, fx5_0⟩ := qx5
          have R6 := R1.call S6 (by decide +kernel)
          refine z_if_ne (M := M_X12_dates) 53 dX12_dates_53 59 rfl (fun c6 => ?_) (fun c6 => ?_)
          · have an := fx5_0 (by omega)
            refine z_iconst (M := M_X12_dates) 59 dX12_dates_59 ?_
            refine z_istore (M := M_X12_dates) 60 dX12_dates_60 (ls' := [some (mR 108), some (mI a1), some (mI a2), some (mI a3), some (mI a4), some (mI 0), none, none, none, none]) (by decide) rfl ?_
            refine z_iconst (M := M_X12_dates) 62 dX12_dates_62 ?_
            refine z_istore (M := M_X12_dates) 63 dX12_dates_63 (ls' := [some (mR 108), some (mI a1), some (mI a2), some (mI a3), some (mI a4), some (mI 0), some (mI (-1)), none, none, none]) (by decide) rfl ?_
            refine z_iconst (M := M_X12_dates) 65 dX12_dates_65 ?_
            refine z_istore (M := M_X12_dates) 66 dX12_dates_66 (ls' := [some (mR 108), some (mI a1), some (mI a2), some (mI a3), some (mI a4), some (mI 0), some (mI (-1)), some (mI (-1)), none, none]) (by decide) rfl ?_
            refine z_iconst (M := M_X12_dates) 68 dX12_dates_68 ?_
            refine z_istore (M := M_X12_dates) 69 dX12_dates_69 (ls' := [some (mR 108), some (mI a1), some (mI a2), some (mI a3), some (mI a4), some (mI 0), some (mI (-1)), some (mI (-1)), some (mI 0), none]) (by decide) rfl ?_
            exact z_mask [true, true, true, true, true, true, true, true, true, false] rfl (ih 0 (-1) (-1) 0 h6 G6 R6 (by omega) (by omega) (by omega) (by omega) (by omega) (by omega) (by omega) (by omega) (by omega) (by omega) (by omega) (by omega) (by omega) (by omega) (gG_b an R1 (fun _ => rfl)) (by omega))
          · refine z_bipush (M := M_X12_dates) 56 dX12_dates_56 ?_
            exact z_retI (M := M_X12_dates) 58 dX12_dates_58 rfl ⟨G6, R6⟩
        · refine z_if_eq_T (M := M_X12_dates) 46 dX12_dates_46 56 rfl (by omega) ?_
          refine z_bipush (M := M_X12_dates) 56 dX12_dates_56 ?_
          exact z_retI (M := M_X12_dates) 58 dX12_dates_58 rfl ⟨G1, R1⟩
      · refine z_if_eq_T (M := M_X12_dates) 33 dX12_dates_33 56 rfl (by omega) ?_
        refine z_bipush (M := M_X12_dates) 56 dX12_dates_56 ?_
        exact z_retI (M := M_X12_dates) 58 dX12_dates_58 rfl ⟨G1, R1⟩
    · refine z_if_eq_T (M := M_X12_dates) 21 dX12_dates_21 56 rfl (by omega) ?_
      refine z_bipush (M := M_X12_dates) 56 dX12_dates_56 ?_
      exact z_retI (M := M_X12_dates) 58 dX12_dates_58 rfl ⟨G1, R1⟩
  · refine z_if_eq_T (M := M_X12_dates) 9 dX12_dates_9 56 rfl (by omega) ?_
    refine z_bipush (M := M_X12_dates) 56 dX12_dates_56 ?_
    exact z_retI (M := M_X12_dates) 58 dX12_dates_58 rfl ⟨G1, R1⟩
abbrev P_X12_whole124 (h0 : m_H) (a1 : Int) : Int → m_H → Prop := fun x h' => GI h' ∧ FR [] [] h0 h' ∧ whQ x (h0 124) a1.toNat
set_option maxHeartbeats 4000000 in
set_option maxRecDepth 100000 in
theorem c_X12_whole124 (h0 : m_H) (a1 : Int) (G0 : GI h0) (pa1 : 0 ≤ a1 ∧ a1 ≤ 77) : m_CJ M_X12_whole [mR 124, mI a1] h0 (P_X12_whole124 h0 a1) := by
  refine m_CJ_of ⟨by decide, rfl, by simp [m_arg, m_isL, M_X12_whole], ⟨rfl, rfl⟩, rfl, rfl⟩ (ls := [some (mR 124), some (mI a1)]) rfl ?_
  refine z_aload_n (M := M_X12_whole) 0 dX12_whole_0 rfl ?_
  refine z_iload_n (M := M_X12_whole) 1 dX12_whole_1 rfl ?_
  refine z_laldG (M := M_X12_whole) 2 dX12_whole_2 o_124 (by omega) (by omega) (g_124 G0 (by omega)) (fun x1 ex1 ax1 bx1 => ?_)
  refine z_ldc2 (M := M_X12_whole) 3 dX12_whole_3 k_X12_327 ?_
  refine z_aload_n (M := M_X12_whole) 6 dX12_whole_6 rfl ?_
  refine z_iload_n (M := M_X12_whole) 7 dX12_whole_7 rfl ?_
  refine z_iconst (M := M_X12_whole) 8 dX12_whole_8 ?_
  refine z_iaddN (M := M_X12_whole) 9 dX12_whole_9 (by omega) (by omega) ?_
  refine z_laldG (M := M_X12_whole) 10 dX12_whole_10 o_124 (by omega) (by omega) (g_124 G0 (by omega)) (fun x2 ex2 ax2 bx2 => ?_)
  refine z_ldc2 (M := M_X12_whole) 11 dX12_whole_11 k_X12_327 ?_
  refine z_aload_n (M := M_X12_whole) 14 dX12_whole_14 rfl ?_
  refine z_iload_n (M := M_X12_whole) 15 dX12_whole_15 rfl ?_
  refine z_iconst (M := M_X12_whole) 16 dX12_whole_16 ?_
  refine z_iaddN (M := M_X12_whole) 17 dX12_whole_17 (by omega) (by omega) ?_
  refine z_laldG (M := M_X12_whole) 18 dX12_whole_18 o_124 (by omega) (by omega) (g_124 G0 (by omega)) (fun x3 ex3 ax3 bx3 => ?_)
  refine z_lmulN (M := M_X12_whole) 19 dX12_whole_19 (by omega) (by omega) ?_
  refine z_laddN (M := M_X12_whole) 20 dX12_whole_20 (by omega) (by omega) ?_
  refine z_lmul (M := M_X12_whole) 21 dX12_whole_21 ?_
  refine z_topJ (fun x4 ex4 => ?_)
  refine z_ladd (M := M_X12_whole) 22 dX12_whole_22 ?_
  refine z_topJ (fun x5 ex5 => ?_)
  exact z_retJ (M := M_X12_whole) 23 dX12_whole_23 rfl ⟨G0, (FR.rf (cs := []) (ss := []) (h := h0)), wh_of (by omega) ex1 ex2 ex3 ⟨by omega, by omega⟩ ⟨by omega, by omega⟩ ex4 ex5⟩
abbrev P_X12_whole125 (h0 : m_H) (a1 : Int) : Int → m_H → Prop := fun x h' => GI h' ∧ FR [] [] h0 h' ∧ whQ x (h0 125) a1.toNat
set_option maxHeartbeats 4000000 in
set_option maxRecDepth 100000 in
theorem c_X12_whole125 (h0 : m_H) (a1 : Int) (G0 : GI h0) (pa1 : 0 ≤ a1 ∧ a1 ≤ 77) : m_CJ M_X12_whole [mR 125, mI a1] h0 (P_X12_whole125 h0 a1) := by
  refine m_CJ_of ⟨by decide, rfl, by simp [m_arg, m_isL, M_X12_whole], ⟨rfl, rfl⟩, rfl, rfl⟩ (ls := [some (mR 125), some (mI a1)]) rfl ?_
  refine z_aload_n (M := M_X12_whole) 0 dX12_whole_0 rfl ?_
  refine z_iload_n (M := M_X12_whole) 1 dX12_whole_1 rfl ?_
  refine z_laldG (M := M_X12_whole) 2 dX12_whole_2 o_125 (by omega) (by omega) (g_125 G0 (by omega)) (fun x1 ex1 ax1 bx1 => ?_)
  refine z_ldc2 (M := M_X12_whole) 3 dX12_whole_3 k_X12_327 ?_
  refine z_aload_n (M := M_X12_whole) 6 dX12_whole_6 rfl ?_
  refine z_iload_n (M := M_X12_whole) 7 dX12_whole_7 rfl ?_
  refine z_iconst (M := M_X12_whole) 8 dX12_whole_8 ?_
  refine z_iaddN (M := M_X12_whole) 9 dX12_whole_9 (by omega) (by omega) ?_
  refine z_laldG (M := M_X12_whole) 10 dX12_whole_10 o_125 (by omega) (by omega) (g_125 G0 (by omega)) (fun x2 ex2 ax2 bx2 => ?_)
  refine z_ldc2 (M := M_X12_whole) 11 dX12_whole_11 k_X12_327 ?_
  refine z_aload_n (M := M_X12_whole) 14 dX12_whole_14 rfl ?_
  refine z_iload_n (M := M_X12_whole) 15 dX12_whole_15 rfl ?_
  refine z_iconst (M := M_X12_whole) 16 dX12_whole_16 ?_
  refine z_iaddN (M := M_X12_whole) 17 dX12_whole_17 (by omega) (by omega) ?_
  refine z_laldG (M := M_X12_whole) 18 dX12_whole_18 o_125 (by omega) (by omega) (g_125 G0 (by omega)) (fun x3 ex3 ax3 bx3 => ?_)
  refine z_lmulN (M := M_X12_whole) 19 dX12_whole_19 (by omega) (by omega) ?_
  refine z_laddN (M := M_X12_whole) 20 dX12_whole_20 (by omega) (by omega) ?_
  refine z_lmul (M := M_X12_whole) 21 dX12_whole_21 ?_
  refine z_topJ (fun x4 ex4 => ?_)
  refine z_ladd (M := M_X12_whole) 22 dX12_whole_22 ?_
  refine z_topJ (fun x5 ex5 => ?_)
  exact z_retJ (M := M_X12_whole) 23 dX12_whole_23 rfl ⟨G0, (FR.rf (cs := []) (ss := []) (h := h0)), wh_of (by omega) ex1 ex2 ex3 ⟨by omega, by omega⟩ ⟨by omega, by omega⟩ ex4 ex5⟩
abbrev P_X12_whole138 (h0 : m_H) (a1 : Int) : Int → m_H → Prop := fun x h' => GI h' ∧ FR [] [] h0 h' ∧ whQ x (h0 138) a1.toNat
set_option maxHeartbeats 4000000 in
set_option maxRecDepth 100000 in
theorem c_X12_whole138 (h0 : m_H) (a1 : Int) (G0 : GI h0) (pa1 : 0 ≤ a1 ∧ a1 ≤ 17) : m_CJ M_X12_whole [mR 138, mI a1] h0 (P_X12_whole138 h0 a1) := by
  refine m_CJ_of ⟨by decide, rfl, by simp [m_arg, m_isL, M_X12_whole], ⟨rfl, rfl⟩, rfl, rfl⟩ (ls := [some (mR 138), some (mI a1)]) rfl ?_
  refine z_aload_n (M := M_X12_whole) 0 dX12_whole_0 rfl ?_
  refine z_iload_n (M := M_X12_whole) 1 dX12_whole_1 rfl ?_
  refine z_laldG (M := M_X12_whole) 2 dX12_whole_2 o_138 (by omega) (by omega) (g_138 G0 (by omega)) (fun x1 ex1 ax1 bx1 => ?_)
  refine z_ldc2 (M := M_X12_whole) 3 dX12_whole_3 k_X12_327 ?_
  refine z_aload_n (M := M_X12_whole) 6 dX12_whole_6 rfl ?_
  refine z_iload_n (M := M_X12_whole) 7 dX12_whole_7 rfl ?_
  refine z_iconst (M := M_X12_whole) 8 dX12_whole_8 ?_
  refine z_iaddN (M := M_X12_whole) 9 dX12_whole_9 (by omega) (by omega) ?_
  refine z_laldG (M := M_X12_whole) 10 dX12_whole_10 o_138 (by omega) (by omega) (g_138 G0 (by omega)) (fun x2 ex2 ax2 bx2 => ?_)
  refine z_ldc2 (M := M_X12_whole) 11 dX12_whole_11 k_X12_327 ?_
  refine z_aload_n (M := M_X12_whole) 14 dX12_whole_14 rfl ?_
  refine z_iload_n (M := M_X12_whole) 15 dX12_whole_15 rfl ?_
  refine z_iconst (M := M_X12_whole) 16 dX12_whole_16 ?_
  refine z_iaddN (M := M_X12_whole) 17 dX12_whole_17 (by omega) (by omega) ?_
  refine z_laldG (M := M_X12_whole) 18 dX12_whole_18 o_138 (by omega) (by omega) (g_138 G0 (by omega)) (fun x3 ex3 ax3 bx3 => ?_)
  refine z_lmulN (M := M_X12_whole) 19 dX12_whole_19 (by omega) (by omega) ?_
  refine z_laddN (M := M_X12_whole) 20 dX12_whole_20 (by omega) (by omega) ?_
  refine z_lmul (M := M_X12_whole) 21 dX12_whole_21 ?_
  refine z_topJ (fun x4 ex4 => ?_)
  refine z_ladd (M := M_X12_whole) 22 dX12_whole_22 ?_
  refine z_topJ (fun x5 ex5 => ?_)
  exact z_retJ (M := M_X12_whole) 23 dX12_whole_23 rfl ⟨G0, (FR.rf (cs := []) (ss := []) (h := h0)), wh_of (by omega) ex1 ex2 ex3 ⟨by omega, by omega⟩ ⟨by omega, by omega⟩ ex4 ex5⟩
abbrev P_X12_common (h0 : m_H) (a0 a1 : Int) : Int → m_H → Prop := fun x h' => GI h' ∧ FR [] [] h0 h' ∧ coQ x a0
def q_X12_common (h0 : m_H) (a0 a1 : Int) (n : Nat) : Prop := (∀ (l4 l6 : Int) (h : m_H), GI h → FR [] [] h0 h → (coI a0 l4 l6) → 2 * (((l6.natAbs : Nat) : Int)) + (1) ≤ (n : Int) → m_Z oF M_X12_common 6 [none, none, none, none, some (mJ l4), none, some (mJ l6), none, none, none] [] h (m_QJ (P_X12_common h0 a0 a1)))
set_option maxHeartbeats 4000000 in
set_option maxRecDepth 100000 in
theorem s_X12_common_6 (h0 : m_H) (a0 a1 : Int) (G0 : GI h0) (n : Nat) (ih : q_X12_common h0 a0 a1 n) : ∀ (l4 l6 : Int) (h : m_H), GI h → FR [] [] h0 h → (coI a0 l4 l6) → 2 * (((l6.natAbs : Nat) : Int)) + (1) ≤ ((n + 1 : Nat) : Int) → m_Z oF M_X12_common 6 [none, none, none, none, some (mJ l4), none, some (mJ l6), none, none, none] [] h (m_QJ (P_X12_common h0 a0 a1)) := by
  intro l4 l6 h G R i0 hr
  refine z_lload (M := M_X12_common) 6 dX12_common_6 rfl ?_
  refine z_lconst (M := M_X12_common) 8 dX12_common_8 (v := 0) ?_
  refine z_lcmp (M := M_X12_common) 9 dX12_common_9 ?_
  refine z_if_eq (M := M_X12_common) 10 dX12_common_10 31 rfl (fun c1 => ?_) (fun c1 => ?_)
  · rw [m_cmp_eq] at c1
    refine z_lload (M := M_X12_common) 31 dX12_common_31 rfl ?_
    exact z_retJ (M := M_X12_common) 33 dX12_common_33 rfl ⟨G, R, coQ_of i0 (by omega)⟩
  · rw [m_cmp_eq] at c1
    refine z_lload (M := M_X12_common) 13 dX12_common_13 rfl ?_
    refine z_lload (M := M_X12_common) 15 dX12_common_15 rfl ?_
    refine z_lrem (M := M_X12_common) 17 dX12_common_17 (by omega) ?_
    refine z_topJ (fun x2 ex2 => ?_)
    have tm := tm_lt (by omega) ex2
    refine z_lstore (M := M_X12_common) 18 dX12_common_18 (ls' := [none, none, none, none, some (mJ l4), none, some (mJ l6), none, some (mJ x2), none]) (by decide) rfl ?_
    refine z_lload (M := M_X12_common) 20 dX12_common_20 rfl ?_
    refine z_lstore (M := M_X12_common) 22 dX12_common_22 (ls' := [none, none, none, none, some (mJ l6), none, some (mJ l6), none, some (mJ x2), none]) (by decide) rfl ?_
    refine z_lload (M := M_X12_common) 24 dX12_common_24 rfl ?_
    refine z_lstore (M := M_X12_common) 26 dX12_common_26 (ls' := [none, none, none, none, some (mJ l6), none, some (mJ x2), none, some (mJ x2), none]) (by decide) rfl ?_
    refine z_goto (M := M_X12_common) 28 dX12_common_28 6 rfl ?_
    exact z_mask [false, false, false, false, true, false, true, false, false, false] rfl (ih l6 x2 h G R (coI_1 (by omega)) (by omega))
theorem a_X12_common (h0 : m_H) (a0 a1 : Int) (G0 : GI h0) : ∀ n, q_X12_common h0 a0 a1 n := by
  intro n
  induction n with
  | zero => unfold q_X12_common; intros; omega
  | succ n ih => exact s_X12_common_6 h0 a0 a1 G0 n ih
set_option maxHeartbeats 4000000 in
set_option maxRecDepth 100000 in
theorem c_X12_common (h0 : m_H) (a0 a1 : Int) (G0 : GI h0) : m_CJ M_X12_common [mJ a0, mJ a1] h0 (P_X12_common h0 a0 a1) := by
  refine m_CJ_of ⟨by decide, rfl, by simp [m_arg, m_isL, M_X12_common], ⟨rfl, rfl⟩, rfl, rfl⟩ (ls := [some (mJ a0), none, some (mJ a1), none, none, none, none, none, none, none]) rfl ?_
  have ih := a_X12_common h0 a0 a1 G0 18446744073709551624
  refine z_ok (fun _ _ ok => ?_)
  have oa1 : m_64 a1 := ok 2 _ rfl
  unfold m_64 at oa1
  refine z_lload_n (M := M_X12_common) 0 dX12_common_0 rfl ?_
  refine z_lstore (M := M_X12_common) 1 dX12_common_1 (ls' := [some (mJ a0), none, some (mJ a1), none, some (mJ a0), none, none, none, none, none]) (by decide) rfl ?_
  refine z_lload_n (M := M_X12_common) 3 dX12_common_3 rfl ?_
  refine z_lstore (M := M_X12_common) 4 dX12_common_4 (ls' := [some (mJ a0), none, some (mJ a1), none, some (mJ a0), none, some (mJ a1), none, none, none]) (by decide) rfl ?_
  exact z_mask [false, false, false, false, true, false, true, false, false, false] rfl (ih a0 a1 h0 G0 (FR.rf (cs := []) (ss := []) (h := h0)) coI_0 (by omega))
abbrev P_X12_part (h0 : m_H) (a1 a2 a3 : Int) : Int → m_H → Prop := fun x h' => GI h' ∧ FR [115, 116, 117, 118, 119, 120, 121, 122, 123, 124, 125, 126, 127, 128, 129, 130, 131, 132, 133, 134] [(108, 0), (108, 21)] h0 h'
set_option maxHeartbeats 4000000 in
set_option maxRecDepth 100000 in
theorem c_X12_part (h0 : m_H) (a1 a2 a3 : Int) (G0 : GI h0) (hN : NP h0) : m_CJ M_X12_part [mR 108, mI a1, mI a2, mI a3] h0 (P_X12_part h0 a1 a2 a3) := by
  refine m_CJ_of ⟨by decide, rfl, by simp [m_arg, m_isL, M_X12_part], ⟨rfl, rfl⟩, rfl, rfl⟩ (ls := [some (mR 108), some (mI a1), some (mI a2), some (mI a3), none, none, none, none, none, none, none, none, none, none, none, none]) rfl ?_
  refine z_ok (fun _ _ ok => ?_)
  have oa1 : m_32 a1 := ok 1 _ rfl
  unfold m_32 at oa1
  have oa2 : m_32 a2 := ok 2 _ rfl
  unfold m_32 at oa2
  have oa3 : m_32 a3 := ok 3 _ rfl
  unfold m_32 at oa3
  refine z_aload_n (M := M_X12_part) 0 dX12_part_0 rfl ?_
  refine z_iconst (M := M_X12_part) 1 dX12_part_1 ?_
  refine z_putIH (M := M_X12_part) 2 dX12_part_2 p_X12_133 o_108 rfl (u_108_0 G0) ((FR.rf (cs := [115, 116, 117, 118, 119, 120, 121, 122, 123, 124, 125, 126, 127, 128, 129, 130, 131, 132, 133, 134]) (ss := [(108, 0), (108, 21)]) (h := h0)).up rfl) (fun h1 E1 G1 R1 => ?_)
  refine z_iload_n (M := M_X12_part) 5 dX12_part_5 rfl ?_
  refine z_i2l (M := M_X12_part) 6 dX12_part_6 ?_
  refine z_lconst (M := M_X12_part) 7 dX12_part_7 (v := 0) ?_
  refine z_lconst (M := M_X12_part) 8 dX12_part_8 (v := 1) ?_
  refine z_sI (M := M_X12_part) 9 dX12_part_9 t_X12_in l_X12_143 (m_rr_of rfl) (rest := []) (c_X12_in h1 a3 0 1 G1) rfl rfl (Nat.le_of_ble_eq_true rfl) ⟨rfl, rfl⟩ (fun x1 h2 qx1 => ?_)
  obtain ⟨rfl, ⟨rfl, cx1⟩ | ⟨rfl, cx1⟩⟩ := qx1
  · refine z_if_eq_F (M := M_X12_part) 12 dX12_part_12 24 rfl (by omega) ?_
    refine z_aload_n (M := M_X12_part) 15 dX12_part_15 rfl ?_
    refine z_iload_n (M := M_X12_part) 16 dX12_part_16 rfl ?_
    refine z_iload_n (M := M_X12_part) 17 dX12_part_17 rfl ?_
    refine z_vI (M := M_X12_part) 18 dX12_part_18 t_X12_isAnswered l_X12_394 (m_rr_of rfl) (rest := []) (c_X12_isAnswered h1 a1 a2 G1 (NP.call hN R1 (fun _ => rfl) (fun _ => rfl) (fun _ => rfl))) o_108 rfl rfl rfl (Nat.le_of_ble_eq_true rfl) ⟨rfl, rfl⟩ (fun x2 h3 qx2 => ?_)
    obtain ⟨G3, S3, ax2, bx2, fx2_0⟩ := qx2
    have R3 := R1.call S3 (by decide +kernel)
    refine z_if_ne (M := M_X12_part) 21 dX12_part_21 28 rfl (fun c3 => ?_) (fun c3 => ?_)
    · have an := fx2_0 (by omega)
      have an1 := an.1
      have an2 := an.2.1
      refine z_aload_n (M := M_X12_part) 28 dX12_part_28 rfl ?_
      refine z_iload_n (M := M_X12_part) 29 dX12_part_29 rfl ?_
      refine z_vV (M := M_X12_part) 30 dX12_part_30 t_X12_goFrom l_X12_397 (m_rr_of rfl) (rest := []) (c_X12_goFrom h3 a2 G3 ⟨by omega, by omega⟩ (NP.call hN R3 (fun _ => rfl) (fun _ => rfl) (fun _ => rfl)) (gG_f (gG_b an.2.2 R1 (fun _ => rfl)) R3 (fun _ => rfl))) o_108 rfl rfl rfl (Nat.le_of_ble_eq_true rfl) ⟨rfl, rfl⟩ (fun h4 qx4 => ?_)
      obtain ⟨G4, S4, fx4_0⟩ := qx4
      have R4 := R3.call S4 (by decide +kernel)
      refine z_aload_n (M := M_X12_part) 33 dX12_part_33 rfl ?_
      refine z_getR (M := M_X12_part) 34 dX12_part_34 f_X12_70 o_108 rfl (g_108_32 G4) ?_
      refine z_iload_n (M := M_X12_part) 37 dX12_part_37 rfl ?_
      refine z_zaldG (M := M_X12_part) 38 dX12_part_38 o_127 (by omega) (by omega) (g_127 G4 (by omega)) (fun x5 ex5 ax5 bx5 => ?_)
      refine z_if_ne (M := M_X12_part) 39 dX12_part_39 44 rfl (fun c6 => ?_) (fun c6 => ?_)
      · refine z_aload_n (M := M_X12_part) 44 dX12_part_44 rfl ?_
        refine z_getR (M := M_X12_part) 45 dX12_part_45 f_X12_61 o_108 rfl (g_108_29 G4) ?_
        refine z_iconst (M := M_X12_part) 48 dX12_part_48 ?_
        refine z_iload_n (M := M_X12_part) 49 dX12_part_49 rfl ?_
        refine z_imulN (M := M_X12_part) 50 dX12_part_50 (by omega) (by omega) ?_
        refine z_sJ (M := M_X12_part) 51 dX12_part_51 t_X12_whole l_X12_439 (m_rr_of rfl) (rest := []) (c_X12_whole124 h4 (5 * a1) G4 ⟨by omega, by omega⟩) rfl rfl (Nat.le_of_ble_eq_true rfl) ⟨rfl, rfl⟩ (fun x7 h5 qx7 => ?_)
        obtain ⟨G5, S5, fx7_0⟩ := qx7
        have R5 := R4.call S5 (by decide +kernel)
        refine z_lstore (M := M_X12_part) 54 dX12_part_54 (ls' := [some (mR 108), some (mI a1), some (mI a2), some (mI a3), some (mJ x7), none, none, none, none, none, none, none, none, none, none, none]) (by decide) rfl ?_
        refine z_aload_n (M := M_X12_part) 56 dX12_part_56 rfl ?_
        refine z_getR (M := M_X12_part) 57 dX12_part_57 f_X12_64 o_108 rfl (g_108_30 G5) ?_
        refine z_iconst (M := M_X12_part) 60 dX12_part_60 ?_
        refine z_iload_n (M := M_X12_part) 61 dX12_part_61 rfl ?_
        refine z_imulN (M := M_X12_part) 62 dX12_part_62 (by omega) (by omega) ?_
        refine z_sJ (M := M_X12_part) 63 dX12_part_63 t_X12_whole l_X12_439 (m_rr_of rfl) (rest := []) (c_X12_whole125 h5 (5 * a1) G5 ⟨by omega, by omega⟩) rfl rfl (Nat.le_of_ble_eq_true rfl) ⟨rfl, rfl⟩ (fun x8 h6 qx8 => ?_)
        obtain ⟨G6, S6, fx8_0⟩ := qx8
        have R6 := R5.call S6 (by decide +kernel)
        refine z_lstore (M := M_X12_part) 66 dX12_part_66 (ls' := [some (mR 108), some (mI a1), some (mI a2), some (mI a3), some (mJ x7), none, some (mJ x8), none, none, none, none, none, none, none, none, none]) (by decide) rfl ?_
        refine z_lload (M := M_X12_part) 68 dX12_part_68 rfl ?_
        refine z_lload (M := M_X12_part) 70 dX12_part_70 rfl ?_
        refine z_sJ (M := M_X12_part) 72 dX12_part_72 t_X12_common l_X12_443 (m_rr_of rfl) (rest := []) (c_X12_common h6 x7 x8 G6) rfl rfl (Nat.le_of_ble_eq_true rfl) ⟨rfl, rfl⟩ (fun x9 h7 qx9 => ?_)
        obtain ⟨G7, S7, fx9_0⟩ := qx9
        have R7 := R6.call S7 (by decide +kernel)
        refine z_lstore (M := M_X12_part) 75 dX12_part_75 (ls' := [some (mR 108), some (mI a1), some (mI a2), some (mI a3), some (mJ x7), none, some (mJ x8), none, some (mJ x9), none, none, none, none, none, none, none]) (by decide) rfl ?_
        have du := (ga_dgi G4 fx4_0 (by omega) (by omega) ex5 (by omega)).1
        have wu := fx7_0 du
        have wc : x9 ≠ 0 := fx9_0 (by omega)
        refine z_aload_n (M := M_X12_part) 77 dX12_part_77 rfl ?_
        refine z_iload_n (M := M_X12_part) 78 dX12_part_78 rfl ?_
        refine z_vV (M := M_X12_part) 79 dX12_part_79 t_X12_goFrom l_X12_397 (m_rr_of rfl) (rest := []) (c_X12_goFrom h7 a1 G7 ⟨by omega, by omega⟩ (NP.call hN R7 (fun _ => rfl) (fun _ => rfl) (fun _ => rfl)) (gG_f (gG_b an.2.2 R1 (fun _ => rfl)) R7 (fun _ => rfl))) o_108 rfl rfl rfl (Nat.le_of_ble_eq_true rfl) ⟨rfl, rfl⟩ (fun h8 qx10 => ?_)
        obtain ⟨G8, S8, fx10_0⟩ := qx10
        have R8 := R7.call S8 (by decide +kernel)
        refine z_aload_n (M := M_X12_part) 82 dX12_part_82 rfl ?_
        refine z_getR (M := M_X12_part) 83 dX12_part_83 f_X12_70 o_108 rfl (g_108_32 G8) ?_
        refine z_iload_n (M := M_X12_part) 86 dX12_part_86 rfl ?_
        refine z_zaldG (M := M_X12_part) 87 dX12_part_87 o_127 (by omega) (by omega) (g_127 G8 (by omega)) (fun x11 ex11 ax11 bx11 => ?_)
        refine z_if_ne (M := M_X12_part) 88 dX12_part_88 93 rfl (fun c12 => ?_) (fun c12 => ?_)
        · refine z_aload_n (M := M_X12_part) 93 dX12_part_93 rfl ?_
          refine z_getR (M := M_X12_part) 94 dX12_part_94 f_X12_61 o_108 rfl (g_108_29 G8) ?_
          refine z_iconst (M := M_X12_part) 97 dX12_part_97 ?_
          refine z_iload_n (M := M_X12_part) 98 dX12_part_98 rfl ?_
          refine z_imulN (M := M_X12_part) 99 dX12_part_99 (by omega) (by omega) ?_
          refine z_sJ (M := M_X12_part) 100 dX12_part_100 t_X12_whole l_X12_439 (m_rr_of rfl) (rest := []) (c_X12_whole124 h8 (5 * a2) G8 ⟨by omega, by omega⟩) rfl rfl (Nat.le_of_ble_eq_true rfl) ⟨rfl, rfl⟩ (fun x13 h9 qx13 => ?_)
          obtain ⟨G9, S9, fx13_0⟩ := qx13
          have R9 := R8.call S9 (by decide +kernel)
          refine z_lstore (M := M_X12_part) 103 dX12_part_103 (ls' := [some (mR 108), some (mI a1), some (mI a2), some (mI a3), some (mJ x7), none, some (mJ x8), none, some (mJ x9), none, some (mJ x13), none, none, none, none, none]) (by decide) rfl ?_
          refine z_aload_n (M := M_X12_part) 105 dX12_part_105 rfl ?_
          refine z_getR (M := M_X12_part) 106 dX12_part_106 f_X12_64 o_108 rfl (g_108_30 G9) ?_
          refine z_iconst (M := M_X12_part) 109 dX12_part_109 ?_
          refine z_iload_n (M := M_X12_part) 110 dX12_part_110 rfl ?_
          refine z_imulN (M := M_X12_part) 111 dX12_part_111 (by omega) (by omega) ?_
          refine z_sJ (M := M_X12_part) 112 dX12_part_112 t_X12_whole l_X12_439 (m_rr_of rfl) (rest := []) (c_X12_whole125 h9 (5 * a2) G9 ⟨by omega, by omega⟩) rfl rfl (Nat.le_of_ble_eq_true rfl) ⟨rfl, rfl⟩ (fun x14 h10 qx14 => ?_)
          obtain ⟨G10, S10, fx14_0⟩ := qx14
          have R10 := R9.call S10 (by decide +kernel)
          refine z_lstore (M := M_X12_part) 115 dX12_part_115 (ls' := [some (mR 108), some (mI a1), some (mI a2), some (mI a3), some (mJ x7), none, some (mJ x8), none, some (mJ x9), none, some (mJ x13), none, some (mJ x14), none, none, none]) (by decide) rfl ?_
          refine z_lload (M := M_X12_part) 117 dX12_part_117 rfl ?_
          refine z_lload (M := M_X12_part) 119 dX12_part_119 rfl ?_
          refine z_sJ (M := M_X12_part) 121 dX12_part_121 t_X12_common l_X12_443 (m_rr_of rfl) (rest := []) (c_X12_common h10 x13 x14 G10) rfl rfl (Nat.le_of_ble_eq_true rfl) ⟨rfl, rfl⟩ (fun x15 h11 qx15 => ?_)
          obtain ⟨G11, S11, fx15_0⟩ := qx15
          have R11 := R10.call S11 (by decide +kernel)
          refine z_lstore (M := M_X12_part) 124 dX12_part_124 (ls' := [some (mR 108), some (mI a1), some (mI a2), some (mI a3), some (mJ x7), none, some (mJ x8), none, some (mJ x9), none, some (mJ x13), none, some (mJ x14), none, some (mJ x15), none]) (by decide) rfl ?_
          have db := (ga_dgi G8 fx10_0 (by omega) (by omega) ex11 (by omega)).1
          have wb := fx13_0 db
          have wd : x15 ≠ 0 := fx15_0 (by omega)
          refine z_lload (M := M_X12_part) 126 dX12_part_126 rfl ?_
          refine z_lload (M := M_X12_part) 128 dX12_part_128 rfl ?_
          refine z_ldiv (M := M_X12_part) 130 dX12_part_130 wc ?_
          refine z_topJ (fun x16 ex16 => ?_)
          refine z_lload (M := M_X12_part) 131 dX12_part_131 rfl ?_
          refine z_lload (M := M_X12_part) 133 dX12_part_133 rfl ?_
          refine z_ldiv (M := M_X12_part) 135 dX12_part_135 wd ?_
          refine z_topJ (fun x17 ex17 => ?_)
          refine z_lcmp (M := M_X12_part) 136 dX12_part_136 ?_
          refine z_if_ne (M := M_X12_part) 137 dX12_part_137 154 rfl (fun c18 => ?_) (fun c18 => ?_)
          · rw [m_cmp_eq] at c18
            refine z_lconst (M := M_X12_part) 154 dX12_part_154 (v := 0) ?_
            exact z_retJ (M := M_X12_part) 155 dX12_part_155 rfl ⟨G11, R11⟩
          · rw [m_cmp_eq] at c18
            refine z_lload (M := M_X12_part) 140 dX12_part_140 rfl ?_
            refine z_lload (M := M_X12_part) 142 dX12_part_142 rfl ?_
            refine z_ldiv (M := M_X12_part) 144 dX12_part_144 wc ?_
            refine z_topJ (fun x19 ex19 => ?_)
            refine z_lload (M := M_X12_part) 145 dX12_part_145 rfl ?_
            refine z_lload (M := M_X12_part) 147 dX12_part_147 rfl ?_
            refine z_ldiv (M := M_X12_part) 149 dX12_part_149 wd ?_
            refine z_topJ (fun x20 ex20 => ?_)
            refine z_lcmp (M := M_X12_part) 150 dX12_part_150 ?_
            refine z_if_eq (M := M_X12_part) 151 dX12_part_151 156 rfl (fun c21 => ?_) (fun c21 => ?_)
            · rw [m_cmp_eq] at c21
              refine z_iload_n (M := M_X12_part) 156 dX12_part_156 rfl ?_
              refine z_if_ne (M := M_X12_part) 157 dX12_part_157 168 rfl (fun c22 => ?_) (fun c22 => ?_)
              · refine z_lload (M := M_X12_part) 168 dX12_part_168 rfl ?_
                refine z_lload (M := M_X12_part) 170 dX12_part_170 rfl ?_
                refine z_ldiv (M := M_X12_part) 172 dX12_part_172 wc ?_
                refine z_topJ (fun x23 ex23 => ?_)
                exact z_retJ (M := M_X12_part) 173 dX12_part_173 rfl ⟨G11, R11⟩
              · refine z_lload (M := M_X12_part) 160 dX12_part_160 rfl ?_
                refine z_lload (M := M_X12_part) 162 dX12_part_162 rfl ?_
                refine z_ldiv (M := M_X12_part) 164 dX12_part_164 wc ?_
                refine z_topJ (fun x24 ex24 => ?_)
                refine z_goto (M := M_X12_part) 165 dX12_part_165 173 rfl ?_
                exact z_retJ (M := M_X12_part) 173 dX12_part_173 rfl ⟨G11, R11⟩
            · rw [m_cmp_eq] at c21
              refine z_lconst (M := M_X12_part) 154 dX12_part_154 (v := 0) ?_
              exact z_retJ (M := M_X12_part) 155 dX12_part_155 rfl ⟨G11, R11⟩
        · refine z_lconst (M := M_X12_part) 91 dX12_part_91 (v := 0) ?_
          exact z_retJ (M := M_X12_part) 92 dX12_part_92 rfl ⟨G8, R8⟩
      · refine z_lconst (M := M_X12_part) 42 dX12_part_42 (v := 0) ?_
        exact z_retJ (M := M_X12_part) 43 dX12_part_43 rfl ⟨G4, R4⟩
    · refine z_ldc2 (M := M_X12_part) 24 dX12_part_24 k_X12_437 ?_
      exact z_retJ (M := M_X12_part) 27 dX12_part_27 rfl ⟨G3, R3⟩
  · refine z_if_eq_T (M := M_X12_part) 12 dX12_part_12 24 rfl (by omega) ?_
    refine z_ldc2 (M := M_X12_part) 24 dX12_part_24 k_X12_437 ?_
    exact z_retJ (M := M_X12_part) 27 dX12_part_27 rfl ⟨G1, R1⟩
abbrev P_X12_takeEnd (h0 : m_H) (a1 a2 a3 a4 : Int) : m_H → Prop := fun h' => GI h' ∧ FR [115, 116, 117, 118, 119, 120, 121, 122, 123, 124, 125, 126, 127, 128, 129, 130, 131, 132, 133, 138, 143, 144] [(108, 21), (108, 44), (108, 45), (108, 46), (108, 47), (108, 54), (108, 55)] h0 h'
def q_X12_takeEnd (h0 : m_H) (a1 a2 a3 a4 : Int) (n : Nat) : Prop := (∀ (l5 : Int) (h : m_H), GI h → FR [115, 116, 117, 118, 119, 120, 121, 122, 123, 124, 125, 126, 127, 128, 129, 130, 131, 132, 133, 138, 143, 144] [(108, 21), (108, 44), (108, 45), (108, 46), (108, 47), (108, 54), (108, 55)] h0 h → 0 ≤ l5 → l5 ≤ 1 → 0 ≤ a2 → a2 ≤ 11 → (teI h a4 l5) → (1) ≤ (n : Int) → m_Z oF M_X12_takeEnd 103 [some (mR 108), some (mI a1), none, none, some (mI a4), some (mI l5), none, none, none, none, none, none] [] h (m_QV (P_X12_takeEnd h0 a1 a2 a3 a4)))
set_option maxHeartbeats 4000000 in
set_option maxRecDepth 100000 in
theorem s_X12_takeEnd_103 (h0 : m_H) (a1 a2 a3 a4 : Int) (G0 : GI h0) (pa1 : 0 ≤ a1 ∧ a1 ≤ 2) (pa2 : (-1) ≤ a2 ∧ a2 ≤ 11) (pa3 : 0 ≤ a3 ∧ a3 ≤ 3) (pa4 : 0 ≤ a4 ∧ a4 ≤ 1) (hN : NP h0) (hG : gG (bR (h0 110))) (n : Nat) (ih : q_X12_takeEnd h0 a1 a2 a3 a4 n) : ∀ (l5 : Int) (h : m_H), GI h → FR [115, 116, 117, 118, 119, 120, 121, 122, 123, 124, 125, 126, 127, 128, 129, 130, 131, 132, 133, 138, 143, 144] [(108, 21), (108, 44), (108, 45), (108, 46), (108, 47), (108, 54), (108, 55)] h0 h → 0 ≤ l5 → l5 ≤ 1 → 0 ≤ a2 → a2 ≤ 11 → (teI h a4 l5) → (1) ≤ ((n + 1 : Nat) : Int) → m_Z oF M_X12_takeEnd 103 [some (mR 108), some (mI a1), none, none, some (mI a4), some (mI l5), none, none, none, none, none, none] [] h (m_QV (P_X12_takeEnd h0 a1 a2 a3 a4)) := by
  intro l5 h G R v0 v1 v2 v3 i0 hr
  refine z_iload (M := M_X12_takeEnd) 103 dX12_takeEnd_103 rfl ?_
  refine z_if_eq (M := M_X12_takeEnd) 105 dX12_takeEnd_105 179 rfl (fun c1 => ?_) (fun c1 => ?_)
  · exact z_retV (M := M_X12_takeEnd) 179 dX12_takeEnd_179 rfl ⟨G, R⟩
  · refine z_aload_n (M := M_X12_takeEnd) 108 dX12_takeEnd_108 rfl ?_
    refine z_getR (M := M_X12_takeEnd) 109 dX12_takeEnd_109 f_X12_103 o_108 rfl (g_108_43 G) ?_
    refine z_iload (M := M_X12_takeEnd) 112 dX12_takeEnd_112 rfl ?_
    refine z_if_eq (M := M_X12_takeEnd) 114 dX12_takeEnd_114 121 rfl (fun c2 => ?_) (fun c2 => ?_)
    · refine z_bipush (M := M_X12_takeEnd) 121 dX12_takeEnd_121 ?_
      refine z_sJ (M := M_X12_takeEnd) 123 dX12_takeEnd_123 t_X12_whole l_X12_439 (m_rr_of rfl) (rest := []) (c_X12_whole138 h 10 G ⟨by omega, by omega⟩) rfl rfl (Nat.le_of_ble_eq_true rfl) ⟨rfl, rfl⟩ (fun x3 h1 qx3 => ?_)
      obtain ⟨G1, S1, fx3_0⟩ := qx3
      have R1 := R.call S1 (by decide +kernel)
      refine z_lstore (M := M_X12_takeEnd) 126 dX12_takeEnd_126 (ls' := [some (mR 108), some (mI a1), none, none, some (mI a4), some (mI l5), some (mJ x3), none, none, none, none, none]) (by decide) rfl ?_
      refine z_aload_n (M := M_X12_takeEnd) 128 dX12_takeEnd_128 rfl ?_
      refine z_getR (M := M_X12_takeEnd) 129 dX12_takeEnd_129 f_X12_103 o_108 rfl (g_108_43 G1) ?_
      refine z_iload (M := M_X12_takeEnd) 132 dX12_takeEnd_132 rfl ?_
      refine z_if_eq_T (M := M_X12_takeEnd) 134 dX12_takeEnd_134 141 rfl (by omega) ?_
      refine z_bipush (M := M_X12_takeEnd) 141 dX12_takeEnd_141 ?_
      refine z_sJ (M := M_X12_takeEnd) 143 dX12_takeEnd_143 t_X12_whole l_X12_439 (m_rr_of rfl) (rest := []) (c_X12_whole138 h1 15 G1 ⟨by omega, by omega⟩) rfl rfl (Nat.le_of_ble_eq_true rfl) ⟨rfl, rfl⟩ (fun x4 h2 qx4 => ?_)
      obtain ⟨G2, S2, fx4_0⟩ := qx4
      have R2 := R1.call S2 (by decide +kernel)
      refine z_lstore (M := M_X12_takeEnd) 146 dX12_takeEnd_146 (ls' := [some (mR 108), some (mI a1), none, none, some (mI a4), some (mI l5), some (mJ x3), none, some (mJ x4), none, none, none]) (by decide) rfl ?_
      refine z_lload (M := M_X12_takeEnd) 148 dX12_takeEnd_148 rfl ?_
      refine z_lload (M := M_X12_takeEnd) 150 dX12_takeEnd_150 rfl ?_
      refine z_sJ (M := M_X12_takeEnd) 152 dX12_takeEnd_152 t_X12_common l_X12_443 (m_rr_of rfl) (rest := []) (c_X12_common h2 x3 x4 G2) rfl rfl (Nat.le_of_ble_eq_true rfl) ⟨rfl, rfl⟩ (fun x5 h3 qx5 => ?_)
      obtain ⟨G3, S3, fx5_0⟩ := qx5
      have R3 := R2.call S3 (by decide +kernel)
      refine z_lstore (M := M_X12_takeEnd) 155 dX12_takeEnd_155 (ls' := [some (mR 108), some (mI a1), none, none, some (mI a4), some (mI l5), some (mJ x3), none, some (mJ x4), none, some (mJ x5), none]) (by decide) rfl ?_
      have dt := te_high i0 (by omega) (by omega)
      have wt := fx3_0 dt
      have wc : x5 ≠ 0 := fx5_0 (by omega)
      refine z_aload_n (M := M_X12_takeEnd) 157 dX12_takeEnd_157 rfl ?_
      refine z_getR (M := M_X12_takeEnd) 158 dX12_takeEnd_158 f_X12_118 o_108 rfl (g_108_52 G3) ?_
      refine z_iload_n (M := M_X12_takeEnd) 161 dX12_takeEnd_161 rfl ?_
      refine z_lload (M := M_X12_takeEnd) 162 dX12_takeEnd_162 rfl ?_
      refine z_lload (M := M_X12_takeEnd) 164 dX12_takeEnd_164 rfl ?_
      refine z_ldiv (M := M_X12_takeEnd) 166 dX12_takeEnd_166 wc ?_
      refine z_topJ (fun x6 ex6 => ?_)
      refine z_lastH (M := M_X12_takeEnd) 167 dX12_takeEnd_167 o_143 (by omega) (by omega) (u_143 G3) (R3.up rfl) (fun h4 E4 G4 R4 => ?_)
      refine z_aload_n (M := M_X12_takeEnd) 168 dX12_takeEnd_168 rfl ?_
      refine z_getR (M := M_X12_takeEnd) 169 dX12_takeEnd_169 f_X12_121 o_108 rfl (g_108_53 G4) ?_
      refine z_iload_n (M := M_X12_takeEnd) 172 dX12_takeEnd_172 rfl ?_
      refine z_lload (M := M_X12_takeEnd) 173 dX12_takeEnd_173 rfl ?_
      refine z_lload (M := M_X12_takeEnd) 175 dX12_takeEnd_175 rfl ?_
      refine z_ldiv (M := M_X12_takeEnd) 177 dX12_takeEnd_177 wc ?_
      refine z_topJ (fun x7 ex7 => ?_)
      refine z_lastH (M := M_X12_takeEnd) 178 dX12_takeEnd_178 o_144 (by omega) (by omega) (u_144 G4) (R4.up rfl) (fun h5 E5 G5 R5 => ?_)
      exact z_retV (M := M_X12_takeEnd) 179 dX12_takeEnd_179 rfl ⟨G5, R5⟩
    · refine z_iconst (M := M_X12_takeEnd) 117 dX12_takeEnd_117 ?_
      refine z_goto (M := M_X12_takeEnd) 118 dX12_takeEnd_118 123 rfl ?_
      refine z_sJ (M := M_X12_takeEnd) 123 dX12_takeEnd_123 t_X12_whole l_X12_439 (m_rr_of rfl) (rest := []) (c_X12_whole138 h 0 G ⟨by omega, by omega⟩) rfl rfl (Nat.le_of_ble_eq_true rfl) ⟨rfl, rfl⟩ (fun x8 h6 qx8 => ?_)
      obtain ⟨G6, S6, fx8_0⟩ := qx8
      have R6 := R.call S6 (by decide +kernel)
      refine z_lstore (M := M_X12_takeEnd) 126 dX12_takeEnd_126 (ls' := [some (mR 108), some (mI a1), none, none, some (mI a4), some (mI l5), some (mJ x8), none, none, none, none, none]) (by decide) rfl ?_
      refine z_aload_n (M := M_X12_takeEnd) 128 dX12_takeEnd_128 rfl ?_
      refine z_getR (M := M_X12_takeEnd) 129 dX12_takeEnd_129 f_X12_103 o_108 rfl (g_108_43 G6) ?_
      refine z_iload (M := M_X12_takeEnd) 132 dX12_takeEnd_132 rfl ?_
      refine z_if_eq_F (M := M_X12_takeEnd) 134 dX12_takeEnd_134 141 rfl (by omega) ?_
      refine z_iconst (M := M_X12_takeEnd) 137 dX12_takeEnd_137 ?_
      refine z_goto (M := M_X12_takeEnd) 138 dX12_takeEnd_138 143 rfl ?_
      refine z_sJ (M := M_X12_takeEnd) 143 dX12_takeEnd_143 t_X12_whole l_X12_439 (m_rr_of rfl) (rest := []) (c_X12_whole138 h6 5 G6 ⟨by omega, by omega⟩) rfl rfl (Nat.le_of_ble_eq_true rfl) ⟨rfl, rfl⟩ (fun x9 h7 qx9 => ?_)
      obtain ⟨G7, S7, fx9_0⟩ := qx9
      have R7 := R6.call S7 (by decide +kernel)
      refine z_lstore (M := M_X12_takeEnd) 146 dX12_takeEnd_146 (ls' := [some (mR 108), some (mI a1), none, none, some (mI a4), some (mI l5), some (mJ x8), none, some (mJ x9), none, none, none]) (by decide) rfl ?_
      refine z_lload (M := M_X12_takeEnd) 148 dX12_takeEnd_148 rfl ?_
      refine z_lload (M := M_X12_takeEnd) 150 dX12_takeEnd_150 rfl ?_
      refine z_sJ (M := M_X12_takeEnd) 152 dX12_takeEnd_152 t_X12_common l_X12_443 (m_rr_of rfl) (rest := []) (c_X12_common h7 x8 x9 G7) rfl rfl (Nat.le_of_ble_eq_true rfl) ⟨rfl, rfl⟩ (fun x10 h8 qx10 => ?_)
      obtain ⟨G8, S8, fx10_0⟩ := qx10
      have R8 := R7.call S8 (by decide +kernel)
      refine z_lstore (M := M_X12_takeEnd) 155 dX12_takeEnd_155 (ls' := [some (mR 108), some (mI a1), none, none, some (mI a4), some (mI l5), some (mJ x8), none, some (mJ x9), none, some (mJ x10), none]) (by decide) rfl ?_
      have dt := te_low i0 (by omega) (by omega)
      have wt := fx8_0 dt
      have wc : x10 ≠ 0 := fx10_0 (by omega)
      refine z_aload_n (M := M_X12_takeEnd) 157 dX12_takeEnd_157 rfl ?_
      refine z_getR (M := M_X12_takeEnd) 158 dX12_takeEnd_158 f_X12_118 o_108 rfl (g_108_52 G8) ?_
      refine z_iload_n (M := M_X12_takeEnd) 161 dX12_takeEnd_161 rfl ?_
      refine z_lload (M := M_X12_takeEnd) 162 dX12_takeEnd_162 rfl ?_
      refine z_lload (M := M_X12_takeEnd) 164 dX12_takeEnd_164 rfl ?_
      refine z_ldiv (M := M_X12_takeEnd) 166 dX12_takeEnd_166 wc ?_
      refine z_topJ (fun x11 ex11 => ?_)
      refine z_lastH (M := M_X12_takeEnd) 167 dX12_takeEnd_167 o_143 (by omega) (by omega) (u_143 G8) (R8.up rfl) (fun h9 E9 G9 R9 => ?_)
      refine z_aload_n (M := M_X12_takeEnd) 168 dX12_takeEnd_168 rfl ?_
      refine z_getR (M := M_X12_takeEnd) 169 dX12_takeEnd_169 f_X12_121 o_108 rfl (g_108_53 G9) ?_
      refine z_iload_n (M := M_X12_takeEnd) 172 dX12_takeEnd_172 rfl ?_
      refine z_lload (M := M_X12_takeEnd) 173 dX12_takeEnd_173 rfl ?_
      refine z_lload (M := M_X12_takeEnd) 175 dX12_takeEnd_175 rfl ?_
      refine z_ldiv (M := M_X12_takeEnd) 177 dX12_takeEnd_177 wc ?_
      refine z_topJ (fun x12 ex12 => ?_)
      refine z_lastH (M := M_X12_takeEnd) 178 dX12_takeEnd_178 o_144 (by omega) (by omega) (u_144 G9) (R9.up rfl) (fun h10 E10 G10 R10 => ?_)
      exact z_retV (M := M_X12_takeEnd) 179 dX12_takeEnd_179 rfl ⟨G10, R10⟩
theorem a_X12_takeEnd (h0 : m_H) (a1 a2 a3 a4 : Int) (G0 : GI h0) (pa1 : 0 ≤ a1 ∧ a1 ≤ 2) (pa2 : (-1) ≤ a2 ∧ a2 ≤ 11) (pa3 : 0 ≤ a3 ∧ a3 ≤ 3) (pa4 : 0 ≤ a4 ∧ a4 ≤ 1) (hN : NP h0) (hG : gG (bR (h0 110))) : ∀ n, q_X12_takeEnd h0 a1 a2 a3 a4 n := by
  intro n
  induction n with
  | zero => unfold q_X12_takeEnd; intros; omega
  | succ n ih => exact s_X12_takeEnd_103 h0 a1 a2 a3 a4 G0 pa1 pa2 pa3 pa4 hN hG n ih
set_option maxHeartbeats 4000000 in
set_option maxRecDepth 100000 in
theorem c_X12_takeEnd (h0 : m_H) (a1 a2 a3 a4 : Int) (G0 : GI h0) (pa1 : 0 ≤ a1 ∧ a1 ≤ 2) (pa2 : (-1) ≤ a2 ∧ a2 ≤ 11) (pa3 : 0 ≤ a3 ∧ a3 ≤ 3) (pa4 : 0 ≤ a4 ∧ a4 ≤ 1) (hN : NP h0) (hG : gG (bR (h0 110))) : m_CV M_X12_takeEnd [mR 108, mI a1, mI a2, mI a3, mI a4] h0 (P_X12_takeEnd h0 a1 a2 a3 a4) := by
  refine m_CV_of ⟨by decide, rfl, by simp [m_arg, m_isL, M_X12_takeEnd], ⟨rfl, rfl⟩, rfl, rfl⟩ (ls := [some (mR 108), some (mI a1), some (mI a2), some (mI a3), some (mI a4), none, none, none, none, none, none, none]) rfl ?_
  have ih := a_X12_takeEnd h0 a1 a2 a3 a4 G0 pa1 pa2 pa3 pa4 hN hG 6
  refine z_aload_n (M := M_X12_takeEnd) 0 dX12_takeEnd_0 rfl ?_
  refine z_getR (M := M_X12_takeEnd) 1 dX12_takeEnd_1 f_X12_118 o_108 rfl (g_108_52 G0) ?_
  refine z_iload_n (M := M_X12_takeEnd) 4 dX12_takeEnd_4 rfl ?_
  refine z_lconst (M := M_X12_takeEnd) 5 dX12_takeEnd_5 (v := 0) ?_
  refine z_lastH (M := M_X12_takeEnd) 6 dX12_takeEnd_6 o_143 (by omega) (by omega) (u_143 G0) ((FR.rf (cs := [115, 116, 117, 118, 119, 120, 121, 122, 123, 124, 125, 126, 127, 128, 129, 130, 131, 132, 133, 138, 143, 144]) (ss := [(108, 21), (108, 44), (108, 45), (108, 46), (108, 47), (108, 54), (108, 55)]) (h := h0)).up rfl) (fun h1 E1 G1 R1 => ?_)
  refine z_aload_n (M := M_X12_takeEnd) 7 dX12_takeEnd_7 rfl ?_
  refine z_getR (M := M_X12_takeEnd) 8 dX12_takeEnd_8 f_X12_121 o_108 rfl (g_108_53 G1) ?_
  refine z_iload_n (M := M_X12_takeEnd) 11 dX12_takeEnd_11 rfl ?_
  refine z_lconst (M := M_X12_takeEnd) 12 dX12_takeEnd_12 (v := 1) ?_
  refine z_lastH (M := M_X12_takeEnd) 13 dX12_takeEnd_13 o_144 (by omega) (by omega) (u_144 G1) (R1.up rfl) (fun h2 E2 G2 R2 => ?_)
  refine z_iload_n (M := M_X12_takeEnd) 14 dX12_takeEnd_14 rfl ?_
  refine z_iconst (M := M_X12_takeEnd) 15 dX12_takeEnd_15 ?_
  refine z_icmp_ne (M := M_X12_takeEnd) 16 dX12_takeEnd_16 20 rfl (fun c1 => ?_) (fun c1 => ?_)
  · refine z_aload_n (M := M_X12_takeEnd) 20 dX12_takeEnd_20 rfl ?_
    refine z_iload_n (M := M_X12_takeEnd) 21 dX12_takeEnd_21 rfl ?_
    refine z_iload_n (M := M_X12_takeEnd) 22 dX12_takeEnd_22 rfl ?_
    refine z_vV (M := M_X12_takeEnd) 23 dX12_takeEnd_23 t_X12_findEnds l_X12_428 (m_rr_of rfl) (rest := []) (c_X12_findEnds h2 a2 a3 G2 ⟨by omega, by omega⟩ ⟨by omega, by omega⟩ (NP.call hN R2 (fun _ => rfl) (fun _ => rfl) (fun _ => rfl)) (gG_f hG R2 (fun _ => rfl))) o_108 rfl rfl rfl (Nat.le_of_ble_eq_true rfl) ⟨rfl, rfl⟩ (fun h3 qx2 => ?_)
    obtain ⟨G3, S3, fx2_0⟩ := qx2
    have R3 := R2.call S3 (by decide +kernel)
    refine z_iload (M := M_X12_takeEnd) 26 dX12_takeEnd_26 rfl ?_
    refine z_if_eq (M := M_X12_takeEnd) 28 dX12_takeEnd_28 38 rfl (fun c3 => ?_) (fun c3 => ?_)
    · refine z_aload_n (M := M_X12_takeEnd) 38 dX12_takeEnd_38 rfl ?_
      refine z_getIG (M := M_X12_takeEnd) 39 dX12_takeEnd_39 f_X12_415 o_108 (by decide) (g_108_45 G3) (fun x4 ex4 ax4 bx4 => ?_)
      refine z_istore (M := M_X12_takeEnd) 42 dX12_takeEnd_42 (ls' := [some (mR 108), some (mI a1), some (mI a2), some (mI a3), some (mI a4), some (mI x4), none, none, none, none, none, none]) (by decide) rfl ?_
      refine z_aload_n (M := M_X12_takeEnd) 44 dX12_takeEnd_44 rfl ?_
      refine z_aload_n (M := M_X12_takeEnd) 45 dX12_takeEnd_45 rfl ?_
      refine z_getIG (M := M_X12_takeEnd) 46 dX12_takeEnd_46 f_X12_459 o_108 (by decide) (g_108_54 G3) (fun x5 ex5 ax5 bx5 => ?_)
      refine z_if_eq (M := M_X12_takeEnd) 49 dX12_takeEnd_49 61 rfl (fun c6 => ?_) (fun c6 => ?_)
      · refine z_iconst (M := M_X12_takeEnd) 61 dX12_takeEnd_61 ?_
        refine z_putZH (M := M_X12_takeEnd) 62 dX12_takeEnd_62 p_X12_459 o_108 rfl (by omega) (u_108_54 G3 (by omega) (by omega)) (R3.up rfl) (fun h4 E4 G4 R4 => ?_)
        refine z_aload_n (M := M_X12_takeEnd) 65 dX12_takeEnd_65 rfl ?_
        refine z_aload_n (M := M_X12_takeEnd) 66 dX12_takeEnd_66 rfl ?_
        refine z_getIG (M := M_X12_takeEnd) 67 dX12_takeEnd_67 f_X12_462 o_108 (by decide) (g_108_55 G4) (fun x7 ex7 ax7 bx7 => ?_)
        refine z_if_eq (M := M_X12_takeEnd) 70 dX12_takeEnd_70 99 rfl (fun c8 => ?_) (fun c8 => ?_)
        · refine z_iconst (M := M_X12_takeEnd) 99 dX12_takeEnd_99 ?_
          refine z_putZH (M := M_X12_takeEnd) 100 dX12_takeEnd_100 p_X12_462 o_108 rfl (by omega) (u_108_55 G4 (by omega) (by omega)) (R4.up rfl) (fun h5 E5 G5 R5 => ?_)
          exact z_mask [true, true, false, false, true, true, false, false, false, false, false, false] rfl (ih x4 h5 G5 R5 (by omega) (by omega) (by omega) (by omega) (te_of fx2_0 (fun q => absurd q (by omega)) (fun _ => ex4) E4 E5) (by omega))
        · refine z_iload (M := M_X12_takeEnd) 73 dX12_takeEnd_73 rfl ?_
          refine z_if_eq_T (M := M_X12_takeEnd) 75 dX12_takeEnd_75 88 rfl (by omega) ?_
          refine z_aload_n (M := M_X12_takeEnd) 88 dX12_takeEnd_88 rfl ?_
          refine z_getIG (M := M_X12_takeEnd) 89 dX12_takeEnd_89 f_X12_418 o_108 (by decide) (g_108_47 G4) (fun x9 ex9 ax9 bx9 => ?_)
          refine z_if_eq (M := M_X12_takeEnd) 92 dX12_takeEnd_92 99 rfl (fun c10 => ?_) (fun c10 => ?_)
          · refine z_iconst (M := M_X12_takeEnd) 99 dX12_takeEnd_99 ?_
            refine z_putZH (M := M_X12_takeEnd) 100 dX12_takeEnd_100 p_X12_462 o_108 rfl (by omega) (u_108_55 G4 (by omega) (by omega)) (R4.up rfl) (fun h6 E6 G6 R6 => ?_)
            exact z_mask [true, true, false, false, true, true, false, false, false, false, false, false] rfl (ih x4 h6 G6 R6 (by omega) (by omega) (by omega) (by omega) (te_of fx2_0 (fun q => absurd q (by omega)) (fun _ => ex4) E4 E6) (by omega))
          · refine z_iconst (M := M_X12_takeEnd) 95 dX12_takeEnd_95 ?_
            refine z_goto (M := M_X12_takeEnd) 96 dX12_takeEnd_96 100 rfl ?_
            refine z_putZH (M := M_X12_takeEnd) 100 dX12_takeEnd_100 p_X12_462 o_108 rfl (by omega) (u_108_55 G4 (by omega) (by omega)) (R4.up rfl) (fun h7 E7 G7 R7 => ?_)
            exact z_mask [true, true, false, false, true, true, false, false, false, false, false, false] rfl (ih x4 h7 G7 R7 (by omega) (by omega) (by omega) (by omega) (te_of fx2_0 (fun q => absurd q (by omega)) (fun _ => ex4) E4 E7) (by omega))
      · refine z_iload (M := M_X12_takeEnd) 52 dX12_takeEnd_52 rfl ?_
        refine z_if_eq (M := M_X12_takeEnd) 54 dX12_takeEnd_54 61 rfl (fun c11 => ?_) (fun c11 => ?_)
        · refine z_iconst (M := M_X12_takeEnd) 61 dX12_takeEnd_61 ?_
          refine z_putZH (M := M_X12_takeEnd) 62 dX12_takeEnd_62 p_X12_459 o_108 rfl (by omega) (u_108_54 G3 (by omega) (by omega)) (R3.up rfl) (fun h8 E8 G8 R8 => ?_)
          refine z_aload_n (M := M_X12_takeEnd) 65 dX12_takeEnd_65 rfl ?_
          refine z_aload_n (M := M_X12_takeEnd) 66 dX12_takeEnd_66 rfl ?_
          refine z_getIG (M := M_X12_takeEnd) 67 dX12_takeEnd_67 f_X12_462 o_108 (by decide) (g_108_55 G8) (fun x12 ex12 ax12 bx12 => ?_)
          refine z_if_eq (M := M_X12_takeEnd) 70 dX12_takeEnd_70 99 rfl (fun c13 => ?_) (fun c13 => ?_)
          · refine z_iconst (M := M_X12_takeEnd) 99 dX12_takeEnd_99 ?_
            refine z_putZH (M := M_X12_takeEnd) 100 dX12_takeEnd_100 p_X12_462 o_108 rfl (by omega) (u_108_55 G8 (by omega) (by omega)) (R8.up rfl) (fun h9 E9 G9 R9 => ?_)
            exact z_mask [true, true, false, false, true, true, false, false, false, false, false, false] rfl (ih x4 h9 G9 R9 (by omega) (by omega) (by omega) (by omega) (te_of fx2_0 (fun q => absurd q (by omega)) (fun _ => ex4) E8 E9) (by omega))
          · refine z_iload (M := M_X12_takeEnd) 73 dX12_takeEnd_73 rfl ?_
            refine z_if_eq_T (M := M_X12_takeEnd) 75 dX12_takeEnd_75 88 rfl (by omega) ?_
            refine z_aload_n (M := M_X12_takeEnd) 88 dX12_takeEnd_88 rfl ?_
            refine z_getIG (M := M_X12_takeEnd) 89 dX12_takeEnd_89 f_X12_418 o_108 (by decide) (g_108_47 G8) (fun x14 ex14 ax14 bx14 => ?_)
            refine z_if_eq (M := M_X12_takeEnd) 92 dX12_takeEnd_92 99 rfl (fun c15 => ?_) (fun c15 => ?_)
            · refine z_iconst (M := M_X12_takeEnd) 99 dX12_takeEnd_99 ?_
              refine z_putZH (M := M_X12_takeEnd) 100 dX12_takeEnd_100 p_X12_462 o_108 rfl (by omega) (u_108_55 G8 (by omega) (by omega)) (R8.up rfl) (fun h10 E10 G10 R10 => ?_)
              exact z_mask [true, true, false, false, true, true, false, false, false, false, false, false] rfl (ih x4 h10 G10 R10 (by omega) (by omega) (by omega) (by omega) (te_of fx2_0 (fun q => absurd q (by omega)) (fun _ => ex4) E8 E10) (by omega))
            · refine z_iconst (M := M_X12_takeEnd) 95 dX12_takeEnd_95 ?_
              refine z_goto (M := M_X12_takeEnd) 96 dX12_takeEnd_96 100 rfl ?_
              refine z_putZH (M := M_X12_takeEnd) 100 dX12_takeEnd_100 p_X12_462 o_108 rfl (by omega) (u_108_55 G8 (by omega) (by omega)) (R8.up rfl) (fun h11 E11 G11 R11 => ?_)
              exact z_mask [true, true, false, false, true, true, false, false, false, false, false, false] rfl (ih x4 h11 G11 R11 (by omega) (by omega) (by omega) (by omega) (te_of fx2_0 (fun q => absurd q (by omega)) (fun _ => ex4) E8 E11) (by omega))
        · refine z_iconst (M := M_X12_takeEnd) 57 dX12_takeEnd_57 ?_
          refine z_goto (M := M_X12_takeEnd) 58 dX12_takeEnd_58 62 rfl ?_
          refine z_putZH (M := M_X12_takeEnd) 62 dX12_takeEnd_62 p_X12_459 o_108 rfl (by omega) (u_108_54 G3 (by omega) (by omega)) (R3.up rfl) (fun h12 E12 G12 R12 => ?_)
          refine z_aload_n (M := M_X12_takeEnd) 65 dX12_takeEnd_65 rfl ?_
          refine z_aload_n (M := M_X12_takeEnd) 66 dX12_takeEnd_66 rfl ?_
          refine z_getIG (M := M_X12_takeEnd) 67 dX12_takeEnd_67 f_X12_462 o_108 (by decide) (g_108_55 G12) (fun x16 ex16 ax16 bx16 => ?_)
          refine z_if_eq (M := M_X12_takeEnd) 70 dX12_takeEnd_70 99 rfl (fun c17 => ?_) (fun c17 => ?_)
          · refine z_iconst (M := M_X12_takeEnd) 99 dX12_takeEnd_99 ?_
            refine z_putZH (M := M_X12_takeEnd) 100 dX12_takeEnd_100 p_X12_462 o_108 rfl (by omega) (u_108_55 G12 (by omega) (by omega)) (R12.up rfl) (fun h13 E13 G13 R13 => ?_)
            exact z_mask [true, true, false, false, true, true, false, false, false, false, false, false] rfl (ih x4 h13 G13 R13 (by omega) (by omega) (by omega) (by omega) (te_of fx2_0 (fun q => absurd q (by omega)) (fun _ => ex4) E12 E13) (by omega))
          · refine z_iload (M := M_X12_takeEnd) 73 dX12_takeEnd_73 rfl ?_
            refine z_if_eq_T (M := M_X12_takeEnd) 75 dX12_takeEnd_75 88 rfl (by omega) ?_
            refine z_aload_n (M := M_X12_takeEnd) 88 dX12_takeEnd_88 rfl ?_
            refine z_getIG (M := M_X12_takeEnd) 89 dX12_takeEnd_89 f_X12_418 o_108 (by decide) (g_108_47 G12) (fun x18 ex18 ax18 bx18 => ?_)
            refine z_if_eq (M := M_X12_takeEnd) 92 dX12_takeEnd_92 99 rfl (fun c19 => ?_) (fun c19 => ?_)
            · refine z_iconst (M := M_X12_takeEnd) 99 dX12_takeEnd_99 ?_
              refine z_putZH (M := M_X12_takeEnd) 100 dX12_takeEnd_100 p_X12_462 o_108 rfl (by omega) (u_108_55 G12 (by omega) (by omega)) (R12.up rfl) (fun h14 E14 G14 R14 => ?_)
              exact z_mask [true, true, false, false, true, true, false, false, false, false, false, false] rfl (ih x4 h14 G14 R14 (by omega) (by omega) (by omega) (by omega) (te_of fx2_0 (fun q => absurd q (by omega)) (fun _ => ex4) E12 E14) (by omega))
            · refine z_iconst (M := M_X12_takeEnd) 95 dX12_takeEnd_95 ?_
              refine z_goto (M := M_X12_takeEnd) 96 dX12_takeEnd_96 100 rfl ?_
              refine z_putZH (M := M_X12_takeEnd) 100 dX12_takeEnd_100 p_X12_462 o_108 rfl (by omega) (u_108_55 G12 (by omega) (by omega)) (R12.up rfl) (fun h15 E15 G15 R15 => ?_)
              exact z_mask [true, true, false, false, true, true, false, false, false, false, false, false] rfl (ih x4 h15 G15 R15 (by omega) (by omega) (by omega) (by omega) (te_of fx2_0 (fun q => absurd q (by omega)) (fun _ => ex4) E12 E15) (by omega))
    · refine z_aload_n (M := M_X12_takeEnd) 31 dX12_takeEnd_31 rfl ?_
      refine z_getIG (M := M_X12_takeEnd) 32 dX12_takeEnd_32 f_X12_409 o_108 (by decide) (g_108_44 G3) (fun x20 ex20 ax20 bx20 => ?_)
      refine z_goto (M := M_X12_takeEnd) 35 dX12_takeEnd_35 42 rfl ?_
      refine z_istore (M := M_X12_takeEnd) 42 dX12_takeEnd_42 (ls' := [some (mR 108), some (mI a1), some (mI a2), some (mI a3), some (mI a4), some (mI x20), none, none, none, none, none, none]) (by decide) rfl ?_
      refine z_aload_n (M := M_X12_takeEnd) 44 dX12_takeEnd_44 rfl ?_
      refine z_aload_n (M := M_X12_takeEnd) 45 dX12_takeEnd_45 rfl ?_
      refine z_getIG (M := M_X12_takeEnd) 46 dX12_takeEnd_46 f_X12_459 o_108 (by decide) (g_108_54 G3) (fun x21 ex21 ax21 bx21 => ?_)
      refine z_if_eq (M := M_X12_takeEnd) 49 dX12_takeEnd_49 61 rfl (fun c22 => ?_) (fun c22 => ?_)
      · refine z_iconst (M := M_X12_takeEnd) 61 dX12_takeEnd_61 ?_
        refine z_putZH (M := M_X12_takeEnd) 62 dX12_takeEnd_62 p_X12_459 o_108 rfl (by omega) (u_108_54 G3 (by omega) (by omega)) (R3.up rfl) (fun h16 E16 G16 R16 => ?_)
        refine z_aload_n (M := M_X12_takeEnd) 65 dX12_takeEnd_65 rfl ?_
        refine z_aload_n (M := M_X12_takeEnd) 66 dX12_takeEnd_66 rfl ?_
        refine z_getIG (M := M_X12_takeEnd) 67 dX12_takeEnd_67 f_X12_462 o_108 (by decide) (g_108_55 G16) (fun x23 ex23 ax23 bx23 => ?_)
        refine z_if_eq (M := M_X12_takeEnd) 70 dX12_takeEnd_70 99 rfl (fun c24 => ?_) (fun c24 => ?_)
        · refine z_iconst (M := M_X12_takeEnd) 99 dX12_takeEnd_99 ?_
          refine z_putZH (M := M_X12_takeEnd) 100 dX12_takeEnd_100 p_X12_462 o_108 rfl (by omega) (u_108_55 G16 (by omega) (by omega)) (R16.up rfl) (fun h17 E17 G17 R17 => ?_)
          exact z_mask [true, true, false, false, true, true, false, false, false, false, false, false] rfl (ih x20 h17 G17 R17 (by omega) (by omega) (by omega) (by omega) (te_of fx2_0 (fun _ => ex20) (fun q => absurd q (by omega)) E16 E17) (by omega))
        · refine z_iload (M := M_X12_takeEnd) 73 dX12_takeEnd_73 rfl ?_
          refine z_if_eq_F (M := M_X12_takeEnd) 75 dX12_takeEnd_75 88 rfl (by omega) ?_
          refine z_aload_n (M := M_X12_takeEnd) 78 dX12_takeEnd_78 rfl ?_
          refine z_getIG (M := M_X12_takeEnd) 79 dX12_takeEnd_79 f_X12_412 o_108 (by decide) (g_108_46 G16) (fun x25 ex25 ax25 bx25 => ?_)
          refine z_if_eq (M := M_X12_takeEnd) 82 dX12_takeEnd_82 99 rfl (fun c26 => ?_) (fun c26 => ?_)
          · refine z_iconst (M := M_X12_takeEnd) 99 dX12_takeEnd_99 ?_
            refine z_putZH (M := M_X12_takeEnd) 100 dX12_takeEnd_100 p_X12_462 o_108 rfl (by omega) (u_108_55 G16 (by omega) (by omega)) (R16.up rfl) (fun h18 E18 G18 R18 => ?_)
            exact z_mask [true, true, false, false, true, true, false, false, false, false, false, false] rfl (ih x20 h18 G18 R18 (by omega) (by omega) (by omega) (by omega) (te_of fx2_0 (fun _ => ex20) (fun q => absurd q (by omega)) E16 E18) (by omega))
          · refine z_goto (M := M_X12_takeEnd) 85 dX12_takeEnd_85 95 rfl ?_
            refine z_iconst (M := M_X12_takeEnd) 95 dX12_takeEnd_95 ?_
            refine z_goto (M := M_X12_takeEnd) 96 dX12_takeEnd_96 100 rfl ?_
            refine z_putZH (M := M_X12_takeEnd) 100 dX12_takeEnd_100 p_X12_462 o_108 rfl (by omega) (u_108_55 G16 (by omega) (by omega)) (R16.up rfl) (fun h19 E19 G19 R19 => ?_)
            exact z_mask [true, true, false, false, true, true, false, false, false, false, false, false] rfl (ih x20 h19 G19 R19 (by omega) (by omega) (by omega) (by omega) (te_of fx2_0 (fun _ => ex20) (fun q => absurd q (by omega)) E16 E19) (by omega))
      · refine z_iload (M := M_X12_takeEnd) 52 dX12_takeEnd_52 rfl ?_
        refine z_if_eq (M := M_X12_takeEnd) 54 dX12_takeEnd_54 61 rfl (fun c27 => ?_) (fun c27 => ?_)
        · refine z_iconst (M := M_X12_takeEnd) 61 dX12_takeEnd_61 ?_
          refine z_putZH (M := M_X12_takeEnd) 62 dX12_takeEnd_62 p_X12_459 o_108 rfl (by omega) (u_108_54 G3 (by omega) (by omega)) (R3.up rfl) (fun h20 E20 G20 R20 => ?_)
          refine z_aload_n (M := M_X12_takeEnd) 65 dX12_takeEnd_65 rfl ?_
          refine z_aload_n (M := M_X12_takeEnd) 66 dX12_takeEnd_66 rfl ?_
          refine z_getIG (M := M_X12_takeEnd) 67 dX12_takeEnd_67 f_X12_462 o_108 (by decide) (g_108_55 G20) (fun x28 ex28 ax28 bx28 => ?_)
          refine z_if_eq (M := M_X12_takeEnd) 70 dX12_takeEnd_70 99 rfl (fun c29 => ?_) (fun c29 => ?_)
          · refine z_iconst (M := M_X12_takeEnd) 99 dX12_takeEnd_99 ?_
            refine z_putZH (M := M_X12_takeEnd) 100 dX12_takeEnd_100 p_X12_462 o_108 rfl (by omega) (u_108_55 G20 (by omega) (by omega)) (R20.up rfl) (fun h21 E21 G21 R21 => ?_)
            exact z_mask [true, true, false, false, true, true, false, false, false, false, false, false] rfl (ih x20 h21 G21 R21 (by omega) (by omega) (by omega) (by omega) (te_of fx2_0 (fun _ => ex20) (fun q => absurd q (by omega)) E20 E21) (by omega))
          · refine z_iload (M := M_X12_takeEnd) 73 dX12_takeEnd_73 rfl ?_
            refine z_if_eq_F (M := M_X12_takeEnd) 75 dX12_takeEnd_75 88 rfl (by omega) ?_
            refine z_aload_n (M := M_X12_takeEnd) 78 dX12_takeEnd_78 rfl ?_
            refine z_getIG (M := M_X12_takeEnd) 79 dX12_takeEnd_79 f_X12_412 o_108 (by decide) (g_108_46 G20) (fun x30 ex30 ax30 bx30 => ?_)
            refine z_if_eq (M := M_X12_takeEnd) 82 dX12_takeEnd_82 99 rfl (fun c31 => ?_) (fun c31 => ?_)
            · refine z_iconst (M := M_X12_takeEnd) 99 dX12_takeEnd_99 ?_
              refine z_putZH (M := M_X12_takeEnd) 100 dX12_takeEnd_100 p_X12_462 o_108 rfl (by omega) (u_108_55 G20 (by omega) (by omega)) (R20.up rfl) (fun h22 E22 G22 R22 => ?_)
              exact z_mask [true, true, false, false, true, true, false, false, false, false, false, false] rfl (ih x20 h22 G22 R22 (by omega) (by omega) (by omega) (by omega) (te_of fx2_0 (fun _ => ex20) (fun q => absurd q (by omega)) E20 E22) (by omega))
            · refine z_goto (M := M_X12_takeEnd) 85 dX12_takeEnd_85 95 rfl ?_
              refine z_iconst (M := M_X12_takeEnd) 95 dX12_takeEnd_95 ?_
              refine z_goto (M := M_X12_takeEnd) 96 dX12_takeEnd_96 100 rfl ?_
              refine z_putZH (M := M_X12_takeEnd) 100 dX12_takeEnd_100 p_X12_462 o_108 rfl (by omega) (u_108_55 G20 (by omega) (by omega)) (R20.up rfl) (fun h23 E23 G23 R23 => ?_)
              exact z_mask [true, true, false, false, true, true, false, false, false, false, false, false] rfl (ih x20 h23 G23 R23 (by omega) (by omega) (by omega) (by omega) (te_of fx2_0 (fun _ => ex20) (fun q => absurd q (by omega)) E20 E23) (by omega))
        · refine z_iconst (M := M_X12_takeEnd) 57 dX12_takeEnd_57 ?_
          refine z_goto (M := M_X12_takeEnd) 58 dX12_takeEnd_58 62 rfl ?_
          refine z_putZH (M := M_X12_takeEnd) 62 dX12_takeEnd_62 p_X12_459 o_108 rfl (by omega) (u_108_54 G3 (by omega) (by omega)) (R3.up rfl) (fun h24 E24 G24 R24 => ?_)
          refine z_aload_n (M := M_X12_takeEnd) 65 dX12_takeEnd_65 rfl ?_
          refine z_aload_n (M := M_X12_takeEnd) 66 dX12_takeEnd_66 rfl ?_
          refine z_getIG (M := M_X12_takeEnd) 67 dX12_takeEnd_67 f_X12_462 o_108 (by decide) (g_108_55 G24) (fun x32 ex32 ax32 bx32 => ?_)
          refine z_if_eq (M := M_X12_takeEnd) 70 dX12_takeEnd_70 99 rfl (fun c33 => ?_) (fun c33 => ?_)
          · refine z_iconst (M := M_X12_takeEnd) 99 dX12_takeEnd_99 ?_
            refine z_putZH (M := M_X12_takeEnd) 100 dX12_takeEnd_100 p_X12_462 o_108 rfl (by omega) (u_108_55 G24 (by omega) (by omega)) (R24.up rfl) (fun h25 E25 G25 R25 => ?_)
            exact z_mask [true, true, false, false, true, true, false, false, false, false, false, false] rfl (ih x20 h25 G25 R25 (by omega) (by omega) (by omega) (by omega) (te_of fx2_0 (fun _ => ex20) (fun q => absurd q (by omega)) E24 E25) (by omega))
          · refine z_iload (M := M_X12_takeEnd) 73 dX12_takeEnd_73 rfl ?_
            refine z_if_eq_F (M := M_X12_takeEnd) 75 dX12_takeEnd_75 88 rfl (by omega) ?_
            refine z_aload_n (M := M_X12_takeEnd) 78 dX12_takeEnd_78 rfl ?_
            refine z_getIG (M := M_X12_takeEnd) 79 dX12_takeEnd_79 f_X12_412 o_108 (by decide) (g_108_46 G24) (fun x34 ex34 ax34 bx34 => ?_)
            refine z_if_eq (M := M_X12_takeEnd) 82 dX12_takeEnd_82 99 rfl (fun c35 => ?_) (fun c35 => ?_)
            · refine z_iconst (M := M_X12_takeEnd) 99 dX12_takeEnd_99 ?_
              refine z_putZH (M := M_X12_takeEnd) 100 dX12_takeEnd_100 p_X12_462 o_108 rfl (by omega) (u_108_55 G24 (by omega) (by omega)) (R24.up rfl) (fun h26 E26 G26 R26 => ?_)
              exact z_mask [true, true, false, false, true, true, false, false, false, false, false, false] rfl (ih x20 h26 G26 R26 (by omega) (by omega) (by omega) (by omega) (te_of fx2_0 (fun _ => ex20) (fun q => absurd q (by omega)) E24 E26) (by omega))
            · refine z_goto (M := M_X12_takeEnd) 85 dX12_takeEnd_85 95 rfl ?_
              refine z_iconst (M := M_X12_takeEnd) 95 dX12_takeEnd_95 ?_
              refine z_goto (M := M_X12_takeEnd) 96 dX12_takeEnd_96 100 rfl ?_
              refine z_putZH (M := M_X12_takeEnd) 100 dX12_takeEnd_100 p_X12_462 o_108 rfl (by omega) (u_108_55 G24 (by omega) (by omega)) (R24.up rfl) (fun h27 E27 G27 R27 => ?_)
              exact z_mask [true, true, false, false, true, true, false, false, false, false, false, false] rfl (ih x20 h27 G27 R27 (by omega) (by omega) (by omega) (by omega) (te_of fx2_0 (fun _ => ex20) (fun q => absurd q (by omega)) E24 E27) (by omega))
  · exact z_retV (M := M_X12_takeEnd) 19 dX12_takeEnd_19 rfl ⟨G2, R2⟩
abbrev P_X12_lay (h0 : m_H) (a1 a2 a3 a4 a5 : Int) : Int → m_H → Prop := fun x h' => GI h' ∧ FR [115, 116, 117, 118, 119, 120, 121, 122, 123, 124, 125, 126, 127, 128, 129, 130, 131, 132, 133, 134, 138, 139, 140, 141, 142, 143, 144] [(108, 0), (108, 21), (108, 44), (108, 45), (108, 46), (108, 47), (108, 54), (108, 55)] h0 h' ∧ (-2) ≤ x ∧ x ≤ 4000000
set_option maxHeartbeats 4000000 in
set_option maxRecDepth 100000 in
theorem c_X12_lay (h0 : m_H) (a1 a2 a3 a4 a5 : Int) (G0 : GI h0) (hN : NP h0) : m_CI M_X12_lay [mR 108, mI a1, mI a2, mI a3, mI a4, mI a5] h0 (P_X12_lay h0 a1 a2 a3 a4 a5) := by
  refine m_CI_of ⟨by decide, rfl, by simp [m_arg, m_isL, M_X12_lay], ⟨rfl, rfl⟩, rfl, rfl⟩ (ls := [some (mR 108), some (mI a1), some (mI a2), some (mI a3), some (mI a4), some (mI a5), none]) rfl ?_
  refine z_ok (fun _ _ ok => ?_)
  have oa1 : m_32 a1 := ok 1 _ rfl
  unfold m_32 at oa1
  have oa2 : m_32 a2 := ok 2 _ rfl
  unfold m_32 at oa2
  have oa3 : m_32 a3 := ok 3 _ rfl
  unfold m_32 at oa3
  have oa4 : m_32 a4 := ok 4 _ rfl
  unfold m_32 at oa4
  have oa5 : m_32 a5 := ok 5 _ rfl
  unfold m_32 at oa5
  refine z_aload_n (M := M_X12_lay) 0 dX12_lay_0 rfl ?_
  refine z_iconst (M := M_X12_lay) 1 dX12_lay_1 ?_
  refine z_putIH (M := M_X12_lay) 2 dX12_lay_2 p_X12_133 o_108 rfl (u_108_0 G0) ((FR.rf (cs := [115, 116, 117, 118, 119, 120, 121, 122, 123, 124, 125, 126, 127, 128, 129, 130, 131, 132, 133, 134, 138, 139, 140, 141, 142, 143, 144]) (ss := [(108, 0), (108, 21), (108, 44), (108, 45), (108, 46), (108, 47), (108, 54), (108, 55)]) (h := h0)).up rfl) (fun h1 E1 G1 R1 => ?_)
  refine z_iload_n (M := M_X12_lay) 5 dX12_lay_5 rfl ?_
  refine z_sI (M := M_X12_lay) 6 dX12_lay_6 t_X12_isGround l_X12_465 (m_rr_of rfl) (rest := []) (c_X12_isGround h1 a1 G1) rfl rfl (Nat.le_of_ble_eq_true rfl) ⟨rfl, rfl⟩ (fun x1 h2 qx1 => ?_)
  obtain ⟨rfl, ⟨rfl, cx1⟩ | ⟨rfl, cx1⟩⟩ := qx1
  · refine z_if_eq_F (M := M_X12_lay) 9 dX12_lay_9 54 rfl (by omega) ?_
    refine z_iload_n (M := M_X12_lay) 12 dX12_lay_12 rfl ?_
    refine z_sI (M := M_X12_lay) 13 dX12_lay_13 t_X12_isGround l_X12_465 (m_rr_of rfl) (rest := []) (c_X12_isGround h1 a2 G1) rfl rfl (Nat.le_of_ble_eq_true rfl) ⟨rfl, rfl⟩ (fun x2 h3 qx2 => ?_)
    obtain ⟨rfl, ⟨rfl, cx2⟩ | ⟨rfl, cx2⟩⟩ := qx2
    · refine z_if_eq_F (M := M_X12_lay) 16 dX12_lay_16 54 rfl (by omega) ?_
      refine z_iload_n (M := M_X12_lay) 19 dX12_lay_19 rfl ?_
      refine z_iconst (M := M_X12_lay) 20 dX12_lay_20 ?_
      refine z_icmp_eq (M := M_X12_lay) 21 dX12_lay_21 31 rfl (fun c3 => ?_) (fun c3 => ?_)
      · refine z_iload (M := M_X12_lay) 31 dX12_lay_31 rfl ?_
        refine z_sI (M := M_X12_lay) 33 dX12_lay_33 t_X12_isKeeper l_X12_169 (m_rr_of rfl) (rest := []) (c_X12_isKeeper h1 a4 G1) rfl rfl (Nat.le_of_ble_eq_true rfl) ⟨rfl, rfl⟩ (fun x4 h4 qx4 => ?_)
        obtain ⟨rfl, ⟨rfl, cx4⟩ | ⟨rfl, cx4⟩⟩ := qx4
        · refine z_if_eq_F (M := M_X12_lay) 36 dX12_lay_36 54 rfl (by omega) ?_
          refine z_iload (M := M_X12_lay) 39 dX12_lay_39 rfl ?_
          refine z_i2l (M := M_X12_lay) 41 dX12_lay_41 ?_
          refine z_lconst (M := M_X12_lay) 42 dX12_lay_42 (v := 0) ?_
          refine z_lconst (M := M_X12_lay) 43 dX12_lay_43 (v := 1) ?_
          refine z_sI (M := M_X12_lay) 44 dX12_lay_44 t_X12_in l_X12_143 (m_rr_of rfl) (rest := []) (c_X12_in h1 a5 0 1 G1) rfl rfl (Nat.le_of_ble_eq_true rfl) ⟨rfl, rfl⟩ (fun x5 h5 qx5 => ?_)
          obtain ⟨rfl, ⟨rfl, cx5⟩ | ⟨rfl, cx5⟩⟩ := qx5
          · refine z_if_eq_F (M := M_X12_lay) 47 dX12_lay_47 54 rfl (by omega) ?_
            refine z_iconst (M := M_X12_lay) 50 dX12_lay_50 ?_
            refine z_goto (M := M_X12_lay) 51 dX12_lay_51 55 rfl ?_
            refine z_istore (M := M_X12_lay) 55 dX12_lay_55 (ls' := [some (mR 108), some (mI a1), some (mI a2), some (mI a3), some (mI a4), some (mI a5), some (mI 1)]) (by decide) rfl ?_
            refine z_iload (M := M_X12_lay) 57 dX12_lay_57 rfl ?_
            refine z_if_eq_F (M := M_X12_lay) 59 dX12_lay_59 96 rfl (by omega) ?_
            refine z_aload_n (M := M_X12_lay) 62 dX12_lay_62 rfl ?_
            refine z_iload_n (M := M_X12_lay) 63 dX12_lay_63 rfl ?_
            refine z_vI (M := M_X12_lay) 64 dX12_lay_64 t_X12_isLength l_X12_391 (m_rr_of rfl) (rest := []) (c_X12_isLengthX h1 a2 G1) o_108 rfl rfl rfl (Nat.le_of_ble_eq_true rfl) ⟨rfl, rfl⟩ (fun x6 h6 qx6 => ?_)
            obtain ⟨G6, S6, ax6, bx6, fx6_0⟩ := qx6
            have R6 := R1.call S6 (by decide +kernel)
            refine z_if_eq (M := M_X12_lay) 67 dX12_lay_67 96 rfl (fun c7 => ?_) (fun c7 => ?_)
            · refine z_bipush (M := M_X12_lay) 96 dX12_lay_96 ?_
              exact z_retI (M := M_X12_lay) 98 dX12_lay_98 rfl ⟨G6, R6, by omega, by omega⟩
            · refine z_iload_n (M := M_X12_lay) 70 dX12_lay_70 rfl ?_
              refine z_iconst (M := M_X12_lay) 71 dX12_lay_71 ?_
              refine z_icmp_eq_T (M := M_X12_lay) 72 dX12_lay_72 83 rfl (by omega) ?_
              refine z_aload_n (M := M_X12_lay) 83 dX12_lay_83 rfl ?_
              refine z_iload_n (M := M_X12_lay) 84 dX12_lay_84 rfl ?_
              refine z_bipush (M := M_X12_lay) 85 dX12_lay_85 ?_
              refine z_iload (M := M_X12_lay) 87 dX12_lay_87 rfl ?_
              refine z_iaddN (M := M_X12_lay) 89 dX12_lay_89 (by omega) (by omega) ?_
              refine z_vI (M := M_X12_lay) 90 dX12_lay_90 t_X12_isAnswered l_X12_394 (m_rr_of rfl) (rest := []) (c_X12_isAnswered h6 a1 (12 + a4) G6 (NP.call hN R6 (fun _ => rfl) (fun _ => rfl) (fun _ => rfl))) o_108 rfl rfl rfl (Nat.le_of_ble_eq_true rfl) ⟨rfl, rfl⟩ (fun x8 h7 qx8 => ?_)
              obtain ⟨G7, S7, ax8, bx8, fx8_0⟩ := qx8
              have R7 := R6.call S7 (by decide +kernel)
              refine z_if_ne (M := M_X12_lay) 93 dX12_lay_93 99 rfl (fun c9 => ?_) (fun c9 => ?_)
              · have an := fx8_0 (by omega)
                have an1 := an.1
                have an2 := an.2.1
                refine z_aload_n (M := M_X12_lay) 99 dX12_lay_99 rfl ?_
                refine z_iconst (M := M_X12_lay) 100 dX12_lay_100 ?_
                refine z_putZH (M := M_X12_lay) 101 dX12_lay_101 p_X12_459 o_108 rfl (by omega) (u_108_54 G7 (by omega) (by omega)) (R7.up rfl) (fun h8 E8 G8 R8 => ?_)
                refine z_aload_n (M := M_X12_lay) 104 dX12_lay_104 rfl ?_
                refine z_iconst (M := M_X12_lay) 105 dX12_lay_105 ?_
                refine z_putZH (M := M_X12_lay) 106 dX12_lay_106 p_X12_462 o_108 rfl (by omega) (u_108_55 G8 (by omega) (by omega)) (R8.up rfl) (fun h9 E9 G9 R9 => ?_)
                refine z_aload_n (M := M_X12_lay) 109 dX12_lay_109 rfl ?_
                refine z_iconst (M := M_X12_lay) 110 dX12_lay_110 ?_
                refine z_iload_n (M := M_X12_lay) 111 dX12_lay_111 rfl ?_
                refine z_iload (M := M_X12_lay) 112 dX12_lay_112 rfl ?_
                refine z_iload (M := M_X12_lay) 114 dX12_lay_114 rfl ?_
                refine z_if_ne (M := M_X12_lay) 116 dX12_lay_116 123 rfl (fun c10 => ?_) (fun c10 => ?_)
                · refine z_iconst (M := M_X12_lay) 123 dX12_lay_123 ?_
                  refine z_vV (M := M_X12_lay) 124 dX12_lay_124 t_X12_takeEnd l_X12_468 (m_rr_of rfl) (rest := []) (c_X12_takeEnd h9 0 a1 a4 0 G9 ⟨by omega, by omega⟩ ⟨by omega, by omega⟩ ⟨by omega, by omega⟩ ⟨by omega, by omega⟩ (NP.call hN R9 (fun _ => rfl) (fun _ => rfl) (fun _ => rfl)) (gG_f (gG_b an.2.2 R6 (fun _ => rfl)) R9 (fun _ => rfl))) o_108 rfl rfl rfl (Nat.le_of_ble_eq_true rfl) ⟨rfl, rfl⟩ (fun h10 qx11 => ?_)
                  obtain ⟨G10, S10⟩ := qx11
                  have R10 := R9.call S10 (by decide +kernel)
                  refine z_aload_n (M := M_X12_lay) 127 dX12_lay_127 rfl ?_
                  refine z_iconst (M := M_X12_lay) 128 dX12_lay_128 ?_
                  refine z_iload_n (M := M_X12_lay) 129 dX12_lay_129 rfl ?_
                  refine z_iload (M := M_X12_lay) 130 dX12_lay_130 rfl ?_
                  refine z_iload (M := M_X12_lay) 132 dX12_lay_132 rfl ?_
                  refine z_if_ne_T (M := M_X12_lay) 134 dX12_lay_134 141 rfl (by omega) ?_
                  refine z_iconst (M := M_X12_lay) 141 dX12_lay_141 ?_
                  refine z_vV (M := M_X12_lay) 142 dX12_lay_142 t_X12_takeEnd l_X12_468 (m_rr_of rfl) (rest := []) (c_X12_takeEnd h10 1 a2 a4 0 G10 ⟨by omega, by omega⟩ ⟨by omega, by omega⟩ ⟨by omega, by omega⟩ ⟨by omega, by omega⟩ (NP.call hN R10 (fun _ => rfl) (fun _ => rfl) (fun _ => rfl)) (gG_f (gG_b an.2.2 R6 (fun _ => rfl)) R10 (fun _ => rfl))) o_108 rfl rfl rfl (Nat.le_of_ble_eq_true rfl) ⟨rfl, rfl⟩ (fun h11 qx12 => ?_)
                  obtain ⟨G11, S11⟩ := qx12
                  have R11 := R10.call S11 (by decide +kernel)
                  refine z_aload_n (M := M_X12_lay) 145 dX12_lay_145 rfl ?_
                  refine z_iconst (M := M_X12_lay) 146 dX12_lay_146 ?_
                  refine z_iload_n (M := M_X12_lay) 147 dX12_lay_147 rfl ?_
                  refine z_iload (M := M_X12_lay) 148 dX12_lay_148 rfl ?_
                  refine z_iload (M := M_X12_lay) 150 dX12_lay_150 rfl ?_
                  refine z_if_ne_T (M := M_X12_lay) 152 dX12_lay_152 159 rfl (by omega) ?_
                  refine z_iconst (M := M_X12_lay) 159 dX12_lay_159 ?_
                  refine z_vV (M := M_X12_lay) 160 dX12_lay_160 t_X12_takeEnd l_X12_468 (m_rr_of rfl) (rest := []) (c_X12_takeEnd h11 2 a3 a4 0 G11 ⟨by omega, by omega⟩ ⟨by omega, by omega⟩ ⟨by omega, by omega⟩ ⟨by omega, by omega⟩ (NP.call hN R11 (fun _ => rfl) (fun _ => rfl) (fun _ => rfl)) (gG_f (gG_b an.2.2 R6 (fun _ => rfl)) R11 (fun _ => rfl))) o_108 rfl rfl rfl (Nat.le_of_ble_eq_true rfl) ⟨rfl, rfl⟩ (fun h12 qx13 => ?_)
                  obtain ⟨G12, S12⟩ := qx13
                  have R12 := R11.call S12 (by decide +kernel)
                  refine z_iload (M := M_X12_lay) 163 dX12_lay_163 rfl ?_
                  refine z_iconst (M := M_X12_lay) 165 dX12_lay_165 ?_
                  refine z_icmp_ne_F (M := M_X12_lay) 166 dX12_lay_166 178 rfl (by omega) ?_
                  refine z_aload_n (M := M_X12_lay) 169 dX12_lay_169 rfl ?_
                  refine z_getIG (M := M_X12_lay) 170 dX12_lay_170 f_X12_459 o_108 (by decide) (g_108_54 G12) (fun x14 ex14 ax14 bx14 => ?_)
                  refine z_if_ne (M := M_X12_lay) 173 dX12_lay_173 178 rfl (fun c15 => ?_) (fun c15 => ?_)
                  · refine z_aload_n (M := M_X12_lay) 178 dX12_lay_178 rfl ?_
                    refine z_aload_n (M := M_X12_lay) 179 dX12_lay_179 rfl ?_
                    refine z_getR (M := M_X12_lay) 180 dX12_lay_180 f_X12_109 o_108 rfl (g_108_49 G12) ?_
                    refine z_aload_n (M := M_X12_lay) 183 dX12_lay_183 rfl ?_
                    refine z_getR (M := M_X12_lay) 184 dX12_lay_184 f_X12_121 o_108 rfl (g_108_53 G12) ?_
                    refine z_iconst (M := M_X12_lay) 187 dX12_lay_187 ?_
                    refine z_laldV (M := M_X12_lay) 188 dX12_lay_188 o_144 (by omega) (by omega) (fun x16 ex16 => ?_)
                    refine z_aload_n (M := M_X12_lay) 189 dX12_lay_189 rfl ?_
                    refine z_getR (M := M_X12_lay) 190 dX12_lay_190 f_X12_121 o_108 rfl (g_108_53 G12) ?_
                    refine z_iconst (M := M_X12_lay) 193 dX12_lay_193 ?_
                    refine z_laldV (M := M_X12_lay) 194 dX12_lay_194 o_144 (by omega) (by omega) (fun x17 ex17 => ?_)
                    refine z_aload_n (M := M_X12_lay) 195 dX12_lay_195 rfl ?_
                    refine z_getR (M := M_X12_lay) 196 dX12_lay_196 f_X12_121 o_108 rfl (g_108_53 G12) ?_
                    refine z_iconst (M := M_X12_lay) 199 dX12_lay_199 ?_
                    refine z_laldV (M := M_X12_lay) 200 dX12_lay_200 o_144 (by omega) (by omega) (fun x18 ex18 => ?_)
                    refine z_vV (M := M_X12_lay) 201 dX12_lay_201 t_X12_triple l_X12_472 (m_rr_of rfl) (rest := []) (c_X12_triple h12 140 x16 x17 x18 (Or.inr (Or.inl rfl)) G12) o_108 rfl rfl rfl (Nat.le_of_ble_eq_true rfl) ⟨rfl, rfl⟩ (fun h13 qx19 => ?_)
                    obtain ⟨G13, S13⟩ := qx19
                    have R13 := R12.call S13 (by decide +kernel)
                    refine z_aload_n (M := M_X12_lay) 204 dX12_lay_204 rfl ?_
                    refine z_aload_n (M := M_X12_lay) 205 dX12_lay_205 rfl ?_
                    refine z_getR (M := M_X12_lay) 206 dX12_lay_206 f_X12_106 o_108 rfl (g_108_48 G13) ?_
                    refine z_aload_n (M := M_X12_lay) 209 dX12_lay_209 rfl ?_
                    refine z_getR (M := M_X12_lay) 210 dX12_lay_210 f_X12_118 o_108 rfl (g_108_52 G13) ?_
                    refine z_iconst (M := M_X12_lay) 213 dX12_lay_213 ?_
                    refine z_laldV (M := M_X12_lay) 214 dX12_lay_214 o_143 (by omega) (by omega) (fun x20 ex20 => ?_)
                    refine z_aload_n (M := M_X12_lay) 215 dX12_lay_215 rfl ?_
                    refine z_getR (M := M_X12_lay) 216 dX12_lay_216 f_X12_121 o_108 rfl (g_108_53 G13) ?_
                    refine z_iconst (M := M_X12_lay) 219 dX12_lay_219 ?_
                    refine z_laldE (M := M_X12_lay) 220 dX12_lay_220 o_144 (by omega) (by omega) ((S13 144 1 rfl).trans ex17) ?_
                    refine z_aload_n (M := M_X12_lay) 221 dX12_lay_221 rfl ?_
                    refine z_getR (M := M_X12_lay) 222 dX12_lay_222 f_X12_121 o_108 rfl (g_108_53 G13) ?_
                    refine z_iconst (M := M_X12_lay) 225 dX12_lay_225 ?_
                    refine z_laldE (M := M_X12_lay) 226 dX12_lay_226 o_144 (by omega) (by omega) ((S13 144 2 rfl).trans ex18) ?_
                    refine z_vV (M := M_X12_lay) 227 dX12_lay_227 t_X12_triple l_X12_472 (m_rr_of rfl) (rest := []) (c_X12_triple h13 139 x20 x17 x18 (Or.inl rfl) G13) o_108 rfl rfl rfl (Nat.le_of_ble_eq_true rfl) ⟨rfl, rfl⟩ (fun h14 qx21 => ?_)
                    obtain ⟨G14, S14⟩ := qx21
                    have R14 := R13.call S14 (by decide +kernel)
                    refine z_aload_n (M := M_X12_lay) 230 dX12_lay_230 rfl ?_
                    refine z_aload_n (M := M_X12_lay) 231 dX12_lay_231 rfl ?_
                    refine z_getR (M := M_X12_lay) 232 dX12_lay_232 f_X12_112 o_108 rfl (g_108_50 G14) ?_
                    refine z_aload_n (M := M_X12_lay) 235 dX12_lay_235 rfl ?_
                    refine z_getR (M := M_X12_lay) 236 dX12_lay_236 f_X12_121 o_108 rfl (g_108_53 G14) ?_
                    refine z_iconst (M := M_X12_lay) 239 dX12_lay_239 ?_
                    refine z_laldE (M := M_X12_lay) 240 dX12_lay_240 o_144 (by omega) (by omega) ((S14 144 0 rfl).trans ((S13 144 0 rfl).trans ex16)) ?_
                    refine z_aload_n (M := M_X12_lay) 241 dX12_lay_241 rfl ?_
                    refine z_getR (M := M_X12_lay) 242 dX12_lay_242 f_X12_118 o_108 rfl (g_108_52 G14) ?_
                    refine z_iconst (M := M_X12_lay) 245 dX12_lay_245 ?_
                    refine z_laldV (M := M_X12_lay) 246 dX12_lay_246 o_143 (by omega) (by omega) (fun x22 ex22 => ?_)
                    refine z_aload_n (M := M_X12_lay) 247 dX12_lay_247 rfl ?_
                    refine z_getR (M := M_X12_lay) 248 dX12_lay_248 f_X12_121 o_108 rfl (g_108_53 G14) ?_
                    refine z_iconst (M := M_X12_lay) 251 dX12_lay_251 ?_
                    refine z_laldE (M := M_X12_lay) 252 dX12_lay_252 o_144 (by omega) (by omega) ((S14 144 2 rfl).trans ((S13 144 2 rfl).trans ex18)) ?_
                    refine z_vV (M := M_X12_lay) 253 dX12_lay_253 t_X12_triple l_X12_472 (m_rr_of rfl) (rest := []) (c_X12_triple h14 141 x16 x22 x18 (Or.inr (Or.inr rfl)) G14) o_108 rfl rfl rfl (Nat.le_of_ble_eq_true rfl) ⟨rfl, rfl⟩ (fun h15 qx23 => ?_)
                    obtain ⟨G15, S15⟩ := qx23
                    have R15 := R14.call S15 (by decide +kernel)
                    refine z_aload_n (M := M_X12_lay) 256 dX12_lay_256 rfl ?_
                    refine z_vV (M := M_X12_lay) 257 dX12_lay_257 t_X12_addFactor l_X12_476 (m_rr_of rfl) (rest := []) (c_X12_addFactor h15 G15) o_108 rfl rfl rfl (Nat.le_of_ble_eq_true rfl) ⟨rfl, rfl⟩ (fun h16 qx24 => ?_)
                    obtain ⟨G16, S16⟩ := qx24
                    have R16 := R15.call S16 (by decide +kernel)
                    refine z_aload_n (M := M_X12_lay) 260 dX12_lay_260 rfl ?_
                    refine z_aload_n (M := M_X12_lay) 261 dX12_lay_261 rfl ?_
                    refine z_getR (M := M_X12_lay) 262 dX12_lay_262 f_X12_112 o_108 rfl (g_108_50 G16) ?_
                    refine z_aload_n (M := M_X12_lay) 265 dX12_lay_265 rfl ?_
                    refine z_getR (M := M_X12_lay) 266 dX12_lay_266 f_X12_121 o_108 rfl (g_108_53 G16) ?_
                    refine z_iconst (M := M_X12_lay) 269 dX12_lay_269 ?_
                    refine z_laldE (M := M_X12_lay) 270 dX12_lay_270 o_144 (by omega) (by omega) ((S16 144 0 rfl).trans ((S15 144 0 rfl).trans ((S14 144 0 rfl).trans ((S13 144 0 rfl).trans ex16)))) ?_
                    refine z_aload_n (M := M_X12_lay) 271 dX12_lay_271 rfl ?_
                    refine z_getR (M := M_X12_lay) 272 dX12_lay_272 f_X12_121 o_108 rfl (g_108_53 G16) ?_
                    refine z_iconst (M := M_X12_lay) 275 dX12_lay_275 ?_
                    refine z_laldE (M := M_X12_lay) 276 dX12_lay_276 o_144 (by omega) (by omega) ((S16 144 1 rfl).trans ((S15 144 1 rfl).trans ((S14 144 1 rfl).trans ((S13 144 1 rfl).trans ex17)))) ?_
                    refine z_aload_n (M := M_X12_lay) 277 dX12_lay_277 rfl ?_
                    refine z_getR (M := M_X12_lay) 278 dX12_lay_278 f_X12_118 o_108 rfl (g_108_52 G16) ?_
                    refine z_iconst (M := M_X12_lay) 281 dX12_lay_281 ?_
                    refine z_laldV (M := M_X12_lay) 282 dX12_lay_282 o_143 (by omega) (by omega) (fun x25 ex25 => ?_)
                    refine z_vV (M := M_X12_lay) 283 dX12_lay_283 t_X12_triple l_X12_472 (m_rr_of rfl) (rest := []) (c_X12_triple h16 141 x16 x17 x25 (Or.inr (Or.inr rfl)) G16) o_108 rfl rfl rfl (Nat.le_of_ble_eq_true rfl) ⟨rfl, rfl⟩ (fun h17 qx26 => ?_)
                    obtain ⟨G17, S17⟩ := qx26
                    have R17 := R16.call S17 (by decide +kernel)
                    refine z_aload_n (M := M_X12_lay) 286 dX12_lay_286 rfl ?_
                    refine z_vV (M := M_X12_lay) 287 dX12_lay_287 t_X12_addFactor l_X12_476 (m_rr_of rfl) (rest := []) (c_X12_addFactor h17 G17) o_108 rfl rfl rfl (Nat.le_of_ble_eq_true rfl) ⟨rfl, rfl⟩ (fun h18 qx27 => ?_)
                    obtain ⟨G18, S18⟩ := qx27
                    have R18 := R17.call S18 (by decide +kernel)
                    refine z_aload_n (M := M_X12_lay) 290 dX12_lay_290 rfl ?_
                    refine z_sipush (M := M_X12_lay) 291 dX12_lay_291 ?_
                    refine z_iload (M := M_X12_lay) 294 dX12_lay_294 rfl ?_
                    refine z_if_eq_F (M := M_X12_lay) 296 dX12_lay_296 306 rfl (by omega) ?_
                    refine z_aload_n (M := M_X12_lay) 299 dX12_lay_299 rfl ?_
                    refine z_getIG (M := M_X12_lay) 300 dX12_lay_300 f_X12_462 o_108 (by decide) (g_108_55 G18) (fun x28 ex28 ax28 bx28 => ?_)
                    refine z_if_eq (M := M_X12_lay) 303 dX12_lay_303 310 rfl (fun c29 => ?_) (fun c29 => ?_)
                    · refine z_iconst (M := M_X12_lay) 310 dX12_lay_310 ?_
                      refine z_vI (M := M_X12_lay) 311 dX12_lay_311 t_X12_often l_X12_479 (m_rr_of rfl) (rest := []) (c_X12_often h18 6000 0 G18 ⟨by omega, by omega⟩ ⟨by omega, by omega⟩) o_108 rfl rfl rfl (Nat.le_of_ble_eq_true rfl) ⟨rfl, rfl⟩ (fun x30 h19 qx30 => ?_)
                      obtain ⟨G19, S19, ax30, bx30⟩ := qx30
                      have R19 := R18.call S19 (by decide +kernel)
                      exact z_retI (M := M_X12_lay) 314 dX12_lay_314 rfl ⟨G19, R19, by omega, by omega⟩
                    · refine z_iconst (M := M_X12_lay) 306 dX12_lay_306 ?_
                      refine z_goto (M := M_X12_lay) 307 dX12_lay_307 311 rfl ?_
                      refine z_vI (M := M_X12_lay) 311 dX12_lay_311 t_X12_often l_X12_479 (m_rr_of rfl) (rest := []) (c_X12_often h18 6000 1 G18 ⟨by omega, by omega⟩ ⟨by omega, by omega⟩) o_108 rfl rfl rfl (Nat.le_of_ble_eq_true rfl) ⟨rfl, rfl⟩ (fun x31 h20 qx31 => ?_)
                      obtain ⟨G20, S20, ax31, bx31⟩ := qx31
                      have R20 := R18.call S20 (by decide +kernel)
                      exact z_retI (M := M_X12_lay) 314 dX12_lay_314 rfl ⟨G20, R20, by omega, by omega⟩
                  · refine z_iconst (M := M_X12_lay) 176 dX12_lay_176 ?_
                    exact z_retI (M := M_X12_lay) 177 dX12_lay_177 rfl ⟨G12, R12, by omega, by omega⟩
                · refine z_iconst (M := M_X12_lay) 119 dX12_lay_119 ?_
                  refine z_goto (M := M_X12_lay) 120 dX12_lay_120 124 rfl ?_
                  refine z_vV (M := M_X12_lay) 124 dX12_lay_124 t_X12_takeEnd l_X12_468 (m_rr_of rfl) (rest := []) (c_X12_takeEnd h9 0 a1 a4 1 G9 ⟨by omega, by omega⟩ ⟨by omega, by omega⟩ ⟨by omega, by omega⟩ ⟨by omega, by omega⟩ (NP.call hN R9 (fun _ => rfl) (fun _ => rfl) (fun _ => rfl)) (gG_f (gG_b an.2.2 R6 (fun _ => rfl)) R9 (fun _ => rfl))) o_108 rfl rfl rfl (Nat.le_of_ble_eq_true rfl) ⟨rfl, rfl⟩ (fun h21 qx32 => ?_)
                  obtain ⟨G21, S21⟩ := qx32
                  have R21 := R9.call S21 (by decide +kernel)
                  refine z_aload_n (M := M_X12_lay) 127 dX12_lay_127 rfl ?_
                  refine z_iconst (M := M_X12_lay) 128 dX12_lay_128 ?_
                  refine z_iload_n (M := M_X12_lay) 129 dX12_lay_129 rfl ?_
                  refine z_iload (M := M_X12_lay) 130 dX12_lay_130 rfl ?_
                  refine z_iload (M := M_X12_lay) 132 dX12_lay_132 rfl ?_
                  refine z_if_ne_F (M := M_X12_lay) 134 dX12_lay_134 141 rfl (by omega) ?_
                  refine z_iconst (M := M_X12_lay) 137 dX12_lay_137 ?_
                  refine z_goto (M := M_X12_lay) 138 dX12_lay_138 142 rfl ?_
                  refine z_vV (M := M_X12_lay) 142 dX12_lay_142 t_X12_takeEnd l_X12_468 (m_rr_of rfl) (rest := []) (c_X12_takeEnd h21 1 a2 a4 1 G21 ⟨by omega, by omega⟩ ⟨by omega, by omega⟩ ⟨by omega, by omega⟩ ⟨by omega, by omega⟩ (NP.call hN R21 (fun _ => rfl) (fun _ => rfl) (fun _ => rfl)) (gG_f (gG_b an.2.2 R6 (fun _ => rfl)) R21 (fun _ => rfl))) o_108 rfl rfl rfl (Nat.le_of_ble_eq_true rfl) ⟨rfl, rfl⟩ (fun h22 qx33 => ?_)
                  obtain ⟨G22, S22⟩ := qx33
                  have R22 := R21.call S22 (by decide +kernel)
                  refine z_aload_n (M := M_X12_lay) 145 dX12_lay_145 rfl ?_
                  refine z_iconst (M := M_X12_lay) 146 dX12_lay_146 ?_
                  refine z_iload_n (M := M_X12_lay) 147 dX12_lay_147 rfl ?_
                  refine z_iload (M := M_X12_lay) 148 dX12_lay_148 rfl ?_
                  refine z_iload (M := M_X12_lay) 150 dX12_lay_150 rfl ?_
                  refine z_if_ne_F (M := M_X12_lay) 152 dX12_lay_152 159 rfl (by omega) ?_
                  refine z_iconst (M := M_X12_lay) 155 dX12_lay_155 ?_
                  refine z_goto (M := M_X12_lay) 156 dX12_lay_156 160 rfl ?_
                  refine z_vV (M := M_X12_lay) 160 dX12_lay_160 t_X12_takeEnd l_X12_468 (m_rr_of rfl) (rest := []) (c_X12_takeEnd h22 2 a3 a4 1 G22 ⟨by omega, by omega⟩ ⟨by omega, by omega⟩ ⟨by omega, by omega⟩ ⟨by omega, by omega⟩ (NP.call hN R22 (fun _ => rfl) (fun _ => rfl) (fun _ => rfl)) (gG_f (gG_b an.2.2 R6 (fun _ => rfl)) R22 (fun _ => rfl))) o_108 rfl rfl rfl (Nat.le_of_ble_eq_true rfl) ⟨rfl, rfl⟩ (fun h23 qx34 => ?_)
                  obtain ⟨G23, S23⟩ := qx34
                  have R23 := R22.call S23 (by decide +kernel)
                  refine z_iload (M := M_X12_lay) 163 dX12_lay_163 rfl ?_
                  refine z_iconst (M := M_X12_lay) 165 dX12_lay_165 ?_
                  refine z_icmp_ne_T (M := M_X12_lay) 166 dX12_lay_166 178 rfl (by omega) ?_
                  refine z_aload_n (M := M_X12_lay) 178 dX12_lay_178 rfl ?_
                  refine z_aload_n (M := M_X12_lay) 179 dX12_lay_179 rfl ?_
                  refine z_getR (M := M_X12_lay) 180 dX12_lay_180 f_X12_109 o_108 rfl (g_108_49 G23) ?_
                  refine z_aload_n (M := M_X12_lay) 183 dX12_lay_183 rfl ?_
                  refine z_getR (M := M_X12_lay) 184 dX12_lay_184 f_X12_121 o_108 rfl (g_108_53 G23) ?_
                  refine z_iconst (M := M_X12_lay) 187 dX12_lay_187 ?_
                  refine z_laldV (M := M_X12_lay) 188 dX12_lay_188 o_144 (by omega) (by omega) (fun x35 ex35 => ?_)
                  refine z_aload_n (M := M_X12_lay) 189 dX12_lay_189 rfl ?_
                  refine z_getR (M := M_X12_lay) 190 dX12_lay_190 f_X12_121 o_108 rfl (g_108_53 G23) ?_
                  refine z_iconst (M := M_X12_lay) 193 dX12_lay_193 ?_
                  refine z_laldV (M := M_X12_lay) 194 dX12_lay_194 o_144 (by omega) (by omega) (fun x36 ex36 => ?_)
                  refine z_aload_n (M := M_X12_lay) 195 dX12_lay_195 rfl ?_
                  refine z_getR (M := M_X12_lay) 196 dX12_lay_196 f_X12_121 o_108 rfl (g_108_53 G23) ?_
                  refine z_iconst (M := M_X12_lay) 199 dX12_lay_199 ?_
                  refine z_laldV (M := M_X12_lay) 200 dX12_lay_200 o_144 (by omega) (by omega) (fun x37 ex37 => ?_)
                  refine z_vV (M := M_X12_lay) 201 dX12_lay_201 t_X12_triple l_X12_472 (m_rr_of rfl) (rest := []) (c_X12_triple h23 140 x35 x36 x37 (Or.inr (Or.inl rfl)) G23) o_108 rfl rfl rfl (Nat.le_of_ble_eq_true rfl) ⟨rfl, rfl⟩ (fun h24 qx38 => ?_)
                  obtain ⟨G24, S24⟩ := qx38
                  have R24 := R23.call S24 (by decide +kernel)
                  refine z_aload_n (M := M_X12_lay) 204 dX12_lay_204 rfl ?_
                  refine z_aload_n (M := M_X12_lay) 205 dX12_lay_205 rfl ?_
                  refine z_getR (M := M_X12_lay) 206 dX12_lay_206 f_X12_106 o_108 rfl (g_108_48 G24) ?_
                  refine z_aload_n (M := M_X12_lay) 209 dX12_lay_209 rfl ?_
                  refine z_getR (M := M_X12_lay) 210 dX12_lay_210 f_X12_118 o_108 rfl (g_108_52 G24) ?_
                  refine z_iconst (M := M_X12_lay) 213 dX12_lay_213 ?_
                  refine z_laldV (M := M_X12_lay) 214 dX12_lay_214 o_143 (by omega) (by omega) (fun x39 ex39 => ?_)
                  refine z_aload_n (M := M_X12_lay) 215 dX12_lay_215 rfl ?_
                  refine z_getR (M := M_X12_lay) 216 dX12_lay_216 f_X12_121 o_108 rfl (g_108_53 G24) ?_
                  refine z_iconst (M := M_X12_lay) 219 dX12_lay_219 ?_
                  refine z_laldE (M := M_X12_lay) 220 dX12_lay_220 o_144 (by omega) (by omega) ((S24 144 1 rfl).trans ex36) ?_
                  refine z_aload_n (M := M_X12_lay) 221 dX12_lay_221 rfl ?_
                  refine z_getR (M := M_X12_lay) 222 dX12_lay_222 f_X12_121 o_108 rfl (g_108_53 G24) ?_
                  refine z_iconst (M := M_X12_lay) 225 dX12_lay_225 ?_
                  refine z_laldE (M := M_X12_lay) 226 dX12_lay_226 o_144 (by omega) (by omega) ((S24 144 2 rfl).trans ex37) ?_
                  refine z_vV (M := M_X12_lay) 227 dX12_lay_227 t_X12_triple l_X12_472 (m_rr_of rfl) (rest := []) (c_X12_triple h24 139 x39 x36 x37 (Or.inl rfl) G24) o_108 rfl rfl rfl (Nat.le_of_ble_eq_true rfl) ⟨rfl, rfl⟩ (fun h25 qx40 => ?_)
                  obtain ⟨G25, S25⟩ := qx40
                  have R25 := R24.call S25 (by decide +kernel)
                  refine z_aload_n (M := M_X12_lay) 230 dX12_lay_230 rfl ?_
                  refine z_aload_n (M := M_X12_lay) 231 dX12_lay_231 rfl ?_
                  refine z_getR (M := M_X12_lay) 232 dX12_lay_232 f_X12_112 o_108 rfl (g_108_50 G25) ?_
                  refine z_aload_n (M := M_X12_lay) 235 dX12_lay_235 rfl ?_
                  refine z_getR (M := M_X12_lay) 236 dX12_lay_236 f_X12_121 o_108 rfl (g_108_53 G25) ?_
                  refine z_iconst (M := M_X12_lay) 239 dX12_lay_239 ?_
                  refine z_laldE (M := M_X12_lay) 240 dX12_lay_240 o_144 (by omega) (by omega) ((S25 144 0 rfl).trans ((S24 144 0 rfl).trans ex35)) ?_
                  refine z_aload_n (M := M_X12_lay) 241 dX12_lay_241 rfl ?_
                  refine z_getR (M := M_X12_lay) 242 dX12_lay_242 f_X12_118 o_108 rfl (g_108_52 G25) ?_
                  refine z_iconst (M := M_X12_lay) 245 dX12_lay_245 ?_
                  refine z_laldV (M := M_X12_lay) 246 dX12_lay_246 o_143 (by omega) (by omega) (fun x41 ex41 => ?_)
                  refine z_aload_n (M := M_X12_lay) 247 dX12_lay_247 rfl ?_
                  refine z_getR (M := M_X12_lay) 248 dX12_lay_248 f_X12_121 o_108 rfl (g_108_53 G25) ?_
                  refine z_iconst (M := M_X12_lay) 251 dX12_lay_251 ?_
                  refine z_laldE (M := M_X12_lay) 252 dX12_lay_252 o_144 (by omega) (by omega) ((S25 144 2 rfl).trans ((S24 144 2 rfl).trans ex37)) ?_
                  refine z_vV (M := M_X12_lay) 253 dX12_lay_253 t_X12_triple l_X12_472 (m_rr_of rfl) (rest := []) (c_X12_triple h25 141 x35 x41 x37 (Or.inr (Or.inr rfl)) G25) o_108 rfl rfl rfl (Nat.le_of_ble_eq_true rfl) ⟨rfl, rfl⟩ (fun h26 qx42 => ?_)
                  obtain ⟨G26, S26⟩ := qx42
                  have R26 := R25.call S26 (by decide +kernel)
                  refine z_aload_n (M := M_X12_lay) 256 dX12_lay_256 rfl ?_
                  refine z_vV (M := M_X12_lay) 257 dX12_lay_257 t_X12_addFactor l_X12_476 (m_rr_of rfl) (rest := []) (c_X12_addFactor h26 G26) o_108 rfl rfl rfl (Nat.le_of_ble_eq_true rfl) ⟨rfl, rfl⟩ (fun h27 qx43 => ?_)
                  obtain ⟨G27, S27⟩ := qx43
                  have R27 := R26.call S27 (by decide +kernel)
                  refine z_aload_n (M := M_X12_lay) 260 dX12_lay_260 rfl ?_
                  refine z_aload_n (M := M_X12_lay) 261 dX12_lay_261 rfl ?_
                  refine z_getR (M := M_X12_lay) 262 dX12_lay_262 f_X12_112 o_108 rfl (g_108_50 G27) ?_
                  refine z_aload_n (M := M_X12_lay) 265 dX12_lay_265 rfl ?_
                  refine z_getR (M := M_X12_lay) 266 dX12_lay_266 f_X12_121 o_108 rfl (g_108_53 G27) ?_
                  refine z_iconst (M := M_X12_lay) 269 dX12_lay_269 ?_
                  refine z_laldE (M := M_X12_lay) 270 dX12_lay_270 o_144 (by omega) (by omega) ((S27 144 0 rfl).trans ((S26 144 0 rfl).trans ((S25 144 0 rfl).trans ((S24 144 0 rfl).trans ex35)))) ?_
                  refine z_aload_n (M := M_X12_lay) 271 dX12_lay_271 rfl ?_
                  refine z_getR (M := M_X12_lay) 272 dX12_lay_272 f_X12_121 o_108 rfl (g_108_53 G27) ?_
                  refine z_iconst (M := M_X12_lay) 275 dX12_lay_275 ?_
                  refine z_laldE (M := M_X12_lay) 276 dX12_lay_276 o_144 (by omega) (by omega) ((S27 144 1 rfl).trans ((S26 144 1 rfl).trans ((S25 144 1 rfl).trans ((S24 144 1 rfl).trans ex36)))) ?_
                  refine z_aload_n (M := M_X12_lay) 277 dX12_lay_277 rfl ?_
                  refine z_getR (M := M_X12_lay) 278 dX12_lay_278 f_X12_118 o_108 rfl (g_108_52 G27) ?_
                  refine z_iconst (M := M_X12_lay) 281 dX12_lay_281 ?_
                  refine z_laldV (M := M_X12_lay) 282 dX12_lay_282 o_143 (by omega) (by omega) (fun x44 ex44 => ?_)
                  refine z_vV (M := M_X12_lay) 283 dX12_lay_283 t_X12_triple l_X12_472 (m_rr_of rfl) (rest := []) (c_X12_triple h27 141 x35 x36 x44 (Or.inr (Or.inr rfl)) G27) o_108 rfl rfl rfl (Nat.le_of_ble_eq_true rfl) ⟨rfl, rfl⟩ (fun h28 qx45 => ?_)
                  obtain ⟨G28, S28⟩ := qx45
                  have R28 := R27.call S28 (by decide +kernel)
                  refine z_aload_n (M := M_X12_lay) 286 dX12_lay_286 rfl ?_
                  refine z_vV (M := M_X12_lay) 287 dX12_lay_287 t_X12_addFactor l_X12_476 (m_rr_of rfl) (rest := []) (c_X12_addFactor h28 G28) o_108 rfl rfl rfl (Nat.le_of_ble_eq_true rfl) ⟨rfl, rfl⟩ (fun h29 qx46 => ?_)
                  obtain ⟨G29, S29⟩ := qx46
                  have R29 := R28.call S29 (by decide +kernel)
                  refine z_aload_n (M := M_X12_lay) 290 dX12_lay_290 rfl ?_
                  refine z_sipush (M := M_X12_lay) 291 dX12_lay_291 ?_
                  refine z_iload (M := M_X12_lay) 294 dX12_lay_294 rfl ?_
                  refine z_if_eq_T (M := M_X12_lay) 296 dX12_lay_296 306 rfl (by omega) ?_
                  refine z_iconst (M := M_X12_lay) 306 dX12_lay_306 ?_
                  refine z_goto (M := M_X12_lay) 307 dX12_lay_307 311 rfl ?_
                  refine z_vI (M := M_X12_lay) 311 dX12_lay_311 t_X12_often l_X12_479 (m_rr_of rfl) (rest := []) (c_X12_often h29 6000 1 G29 ⟨by omega, by omega⟩ ⟨by omega, by omega⟩) o_108 rfl rfl rfl (Nat.le_of_ble_eq_true rfl) ⟨rfl, rfl⟩ (fun x47 h30 qx47 => ?_)
                  obtain ⟨G30, S30, ax47, bx47⟩ := qx47
                  have R30 := R29.call S30 (by decide +kernel)
                  exact z_retI (M := M_X12_lay) 314 dX12_lay_314 rfl ⟨G30, R30, by omega, by omega⟩
              · refine z_bipush (M := M_X12_lay) 96 dX12_lay_96 ?_
                exact z_retI (M := M_X12_lay) 98 dX12_lay_98 rfl ⟨G7, R7, by omega, by omega⟩
          · refine z_if_eq_T (M := M_X12_lay) 47 dX12_lay_47 54 rfl (by omega) ?_
            refine z_iconst (M := M_X12_lay) 54 dX12_lay_54 ?_
            refine z_istore (M := M_X12_lay) 55 dX12_lay_55 (ls' := [some (mR 108), some (mI a1), some (mI a2), some (mI a3), some (mI a4), some (mI a5), some (mI 0)]) (by decide) rfl ?_
            refine z_iload (M := M_X12_lay) 57 dX12_lay_57 rfl ?_
            refine z_if_eq_T (M := M_X12_lay) 59 dX12_lay_59 96 rfl (by omega) ?_
            refine z_bipush (M := M_X12_lay) 96 dX12_lay_96 ?_
            exact z_retI (M := M_X12_lay) 98 dX12_lay_98 rfl ⟨G1, R1, by omega, by omega⟩
        · refine z_if_eq_T (M := M_X12_lay) 36 dX12_lay_36 54 rfl (by omega) ?_
          refine z_iconst (M := M_X12_lay) 54 dX12_lay_54 ?_
          refine z_istore (M := M_X12_lay) 55 dX12_lay_55 (ls' := [some (mR 108), some (mI a1), some (mI a2), some (mI a3), some (mI a4), some (mI a5), some (mI 0)]) (by decide) rfl ?_
          refine z_iload (M := M_X12_lay) 57 dX12_lay_57 rfl ?_
          refine z_if_eq_T (M := M_X12_lay) 59 dX12_lay_59 96 rfl (by omega) ?_
          refine z_bipush (M := M_X12_lay) 96 dX12_lay_96 ?_
          exact z_retI (M := M_X12_lay) 98 dX12_lay_98 rfl ⟨G1, R1, by omega, by omega⟩
      · refine z_iload_n (M := M_X12_lay) 24 dX12_lay_24 rfl ?_
        refine z_sI (M := M_X12_lay) 25 dX12_lay_25 t_X12_isGround l_X12_465 (m_rr_of rfl) (rest := []) (c_X12_isGround h1 a3 G1) rfl rfl (Nat.le_of_ble_eq_true rfl) ⟨rfl, rfl⟩ (fun x48 h31 qx48 => ?_)
        obtain ⟨rfl, ⟨rfl, cx48⟩ | ⟨rfl, cx48⟩⟩ := qx48
        · refine z_if_eq_F (M := M_X12_lay) 28 dX12_lay_28 54 rfl (by omega) ?_
          refine z_iload (M := M_X12_lay) 31 dX12_lay_31 rfl ?_
          refine z_sI (M := M_X12_lay) 33 dX12_lay_33 t_X12_isKeeper l_X12_169 (m_rr_of rfl) (rest := []) (c_X12_isKeeper h1 a4 G1) rfl rfl (Nat.le_of_ble_eq_true rfl) ⟨rfl, rfl⟩ (fun x49 h32 qx49 => ?_)
          obtain ⟨rfl, ⟨rfl, cx49⟩ | ⟨rfl, cx49⟩⟩ := qx49
          · refine z_if_eq_F (M := M_X12_lay) 36 dX12_lay_36 54 rfl (by omega) ?_
            refine z_iload (M := M_X12_lay) 39 dX12_lay_39 rfl ?_
            refine z_i2l (M := M_X12_lay) 41 dX12_lay_41 ?_
            refine z_lconst (M := M_X12_lay) 42 dX12_lay_42 (v := 0) ?_
            refine z_lconst (M := M_X12_lay) 43 dX12_lay_43 (v := 1) ?_
            refine z_sI (M := M_X12_lay) 44 dX12_lay_44 t_X12_in l_X12_143 (m_rr_of rfl) (rest := []) (c_X12_in h1 a5 0 1 G1) rfl rfl (Nat.le_of_ble_eq_true rfl) ⟨rfl, rfl⟩ (fun x50 h33 qx50 => ?_)
            obtain ⟨rfl, ⟨rfl, cx50⟩ | ⟨rfl, cx50⟩⟩ := qx50
            · refine z_if_eq_F (M := M_X12_lay) 47 dX12_lay_47 54 rfl (by omega) ?_
              refine z_iconst (M := M_X12_lay) 50 dX12_lay_50 ?_
              refine z_goto (M := M_X12_lay) 51 dX12_lay_51 55 rfl ?_
              refine z_istore (M := M_X12_lay) 55 dX12_lay_55 (ls' := [some (mR 108), some (mI a1), some (mI a2), some (mI a3), some (mI a4), some (mI a5), some (mI 1)]) (by decide) rfl ?_
              refine z_iload (M := M_X12_lay) 57 dX12_lay_57 rfl ?_
              refine z_if_eq_F (M := M_X12_lay) 59 dX12_lay_59 96 rfl (by omega) ?_
              refine z_aload_n (M := M_X12_lay) 62 dX12_lay_62 rfl ?_
              refine z_iload_n (M := M_X12_lay) 63 dX12_lay_63 rfl ?_
              refine z_vI (M := M_X12_lay) 64 dX12_lay_64 t_X12_isLength l_X12_391 (m_rr_of rfl) (rest := []) (c_X12_isLengthX h1 a2 G1) o_108 rfl rfl rfl (Nat.le_of_ble_eq_true rfl) ⟨rfl, rfl⟩ (fun x51 h34 qx51 => ?_)
              obtain ⟨G34, S34, ax51, bx51, fx51_0⟩ := qx51
              have R34 := R1.call S34 (by decide +kernel)
              refine z_if_eq (M := M_X12_lay) 67 dX12_lay_67 96 rfl (fun c52 => ?_) (fun c52 => ?_)
              · refine z_bipush (M := M_X12_lay) 96 dX12_lay_96 ?_
                exact z_retI (M := M_X12_lay) 98 dX12_lay_98 rfl ⟨G34, R34, by omega, by omega⟩
              · refine z_iload_n (M := M_X12_lay) 70 dX12_lay_70 rfl ?_
                refine z_iconst (M := M_X12_lay) 71 dX12_lay_71 ?_
                refine z_icmp_eq_F (M := M_X12_lay) 72 dX12_lay_72 83 rfl (by omega) ?_
                refine z_aload_n (M := M_X12_lay) 75 dX12_lay_75 rfl ?_
                refine z_iload_n (M := M_X12_lay) 76 dX12_lay_76 rfl ?_
                refine z_vI (M := M_X12_lay) 77 dX12_lay_77 t_X12_isLength l_X12_391 (m_rr_of rfl) (rest := []) (c_X12_isLengthX h34 a3 G34) o_108 rfl rfl rfl (Nat.le_of_ble_eq_true rfl) ⟨rfl, rfl⟩ (fun x53 h35 qx53 => ?_)
                obtain ⟨G35, S35, ax53, bx53, fx53_0⟩ := qx53
                have R35 := R34.call S35 (by decide +kernel)
                refine z_if_eq (M := M_X12_lay) 80 dX12_lay_80 96 rfl (fun c54 => ?_) (fun c54 => ?_)
                · refine z_bipush (M := M_X12_lay) 96 dX12_lay_96 ?_
                  exact z_retI (M := M_X12_lay) 98 dX12_lay_98 rfl ⟨G35, R35, by omega, by omega⟩
                · refine z_aload_n (M := M_X12_lay) 83 dX12_lay_83 rfl ?_
                  refine z_iload_n (M := M_X12_lay) 84 dX12_lay_84 rfl ?_
                  refine z_bipush (M := M_X12_lay) 85 dX12_lay_85 ?_
                  refine z_iload (M := M_X12_lay) 87 dX12_lay_87 rfl ?_
                  refine z_iaddN (M := M_X12_lay) 89 dX12_lay_89 (by omega) (by omega) ?_
                  refine z_vI (M := M_X12_lay) 90 dX12_lay_90 t_X12_isAnswered l_X12_394 (m_rr_of rfl) (rest := []) (c_X12_isAnswered h35 a1 (12 + a4) G35 (NP.call hN R35 (fun _ => rfl) (fun _ => rfl) (fun _ => rfl))) o_108 rfl rfl rfl (Nat.le_of_ble_eq_true rfl) ⟨rfl, rfl⟩ (fun x55 h36 qx55 => ?_)
                  obtain ⟨G36, S36, ax55, bx55, fx55_0⟩ := qx55
                  have R36 := R35.call S36 (by decide +kernel)
                  refine z_if_ne (M := M_X12_lay) 93 dX12_lay_93 99 rfl (fun c56 => ?_) (fun c56 => ?_)
                  · have an := fx55_0 (by omega)
                    have an1 := an.1
                    have an2 := an.2.1
                    refine z_aload_n (M := M_X12_lay) 99 dX12_lay_99 rfl ?_
                    refine z_iconst (M := M_X12_lay) 100 dX12_lay_100 ?_
                    refine z_putZH (M := M_X12_lay) 101 dX12_lay_101 p_X12_459 o_108 rfl (by omega) (u_108_54 G36 (by omega) (by omega)) (R36.up rfl) (fun h37 E37 G37 R37 => ?_)
                    refine z_aload_n (M := M_X12_lay) 104 dX12_lay_104 rfl ?_
                    refine z_iconst (M := M_X12_lay) 105 dX12_lay_105 ?_
                    refine z_putZH (M := M_X12_lay) 106 dX12_lay_106 p_X12_462 o_108 rfl (by omega) (u_108_55 G37 (by omega) (by omega)) (R37.up rfl) (fun h38 E38 G38 R38 => ?_)
                    refine z_aload_n (M := M_X12_lay) 109 dX12_lay_109 rfl ?_
                    refine z_iconst (M := M_X12_lay) 110 dX12_lay_110 ?_
                    refine z_iload_n (M := M_X12_lay) 111 dX12_lay_111 rfl ?_
                    refine z_iload (M := M_X12_lay) 112 dX12_lay_112 rfl ?_
                    refine z_iload (M := M_X12_lay) 114 dX12_lay_114 rfl ?_
                    refine z_if_ne (M := M_X12_lay) 116 dX12_lay_116 123 rfl (fun c57 => ?_) (fun c57 => ?_)
                    · refine z_iconst (M := M_X12_lay) 123 dX12_lay_123 ?_
                      refine z_vV (M := M_X12_lay) 124 dX12_lay_124 t_X12_takeEnd l_X12_468 (m_rr_of rfl) (rest := []) (c_X12_takeEnd h38 0 a1 a4 0 G38 ⟨by omega, by omega⟩ ⟨by omega, by omega⟩ ⟨by omega, by omega⟩ ⟨by omega, by omega⟩ (NP.call hN R38 (fun _ => rfl) (fun _ => rfl) (fun _ => rfl)) (gG_f (gG_b an.2.2 R35 (fun _ => rfl)) R38 (fun _ => rfl))) o_108 rfl rfl rfl (Nat.le_of_ble_eq_true rfl) ⟨rfl, rfl⟩ (fun h39 qx58 => ?_)
                      obtain ⟨G39, S39⟩ := qx58
                      have R39 := R38.call S39 (by decide +kernel)
                      refine z_aload_n (M := M_X12_lay) 127 dX12_lay_127 rfl ?_
                      refine z_iconst (M := M_X12_lay) 128 dX12_lay_128 ?_
                      refine z_iload_n (M := M_X12_lay) 129 dX12_lay_129 rfl ?_
                      refine z_iload (M := M_X12_lay) 130 dX12_lay_130 rfl ?_
                      refine z_iload (M := M_X12_lay) 132 dX12_lay_132 rfl ?_
                      refine z_if_ne_T (M := M_X12_lay) 134 dX12_lay_134 141 rfl (by omega) ?_
                      refine z_iconst (M := M_X12_lay) 141 dX12_lay_141 ?_
                      refine z_vV (M := M_X12_lay) 142 dX12_lay_142 t_X12_takeEnd l_X12_468 (m_rr_of rfl) (rest := []) (c_X12_takeEnd h39 1 a2 a4 0 G39 ⟨by omega, by omega⟩ ⟨by omega, by omega⟩ ⟨by omega, by omega⟩ ⟨by omega, by omega⟩ (NP.call hN R39 (fun _ => rfl) (fun _ => rfl) (fun _ => rfl)) (gG_f (gG_b an.2.2 R35 (fun _ => rfl)) R39 (fun _ => rfl))) o_108 rfl rfl rfl (Nat.le_of_ble_eq_true rfl) ⟨rfl, rfl⟩ (fun h40 qx59 => ?_)
                      obtain ⟨G40, S40⟩ := qx59
                      have R40 := R39.call S40 (by decide +kernel)
                      refine z_aload_n (M := M_X12_lay) 145 dX12_lay_145 rfl ?_
                      refine z_iconst (M := M_X12_lay) 146 dX12_lay_146 ?_
                      refine z_iload_n (M := M_X12_lay) 147 dX12_lay_147 rfl ?_
                      refine z_iload (M := M_X12_lay) 148 dX12_lay_148 rfl ?_
                      refine z_iload (M := M_X12_lay) 150 dX12_lay_150 rfl ?_
                      refine z_if_ne_T (M := M_X12_lay) 152 dX12_lay_152 159 rfl (by omega) ?_
                      refine z_iconst (M := M_X12_lay) 159 dX12_lay_159 ?_
                      refine z_vV (M := M_X12_lay) 160 dX12_lay_160 t_X12_takeEnd l_X12_468 (m_rr_of rfl) (rest := []) (c_X12_takeEnd h40 2 a3 a4 0 G40 ⟨by omega, by omega⟩ ⟨by omega, by omega⟩ ⟨by omega, by omega⟩ ⟨by omega, by omega⟩ (NP.call hN R40 (fun _ => rfl) (fun _ => rfl) (fun _ => rfl)) (gG_f (gG_b an.2.2 R35 (fun _ => rfl)) R40 (fun _ => rfl))) o_108 rfl rfl rfl (Nat.le_of_ble_eq_true rfl) ⟨rfl, rfl⟩ (fun h41 qx60 => ?_)
                      obtain ⟨G41, S41⟩ := qx60
                      have R41 := R40.call S41 (by decide +kernel)
                      refine z_iload (M := M_X12_lay) 163 dX12_lay_163 rfl ?_
                      refine z_iconst (M := M_X12_lay) 165 dX12_lay_165 ?_
                      refine z_icmp_ne_F (M := M_X12_lay) 166 dX12_lay_166 178 rfl (by omega) ?_
                      refine z_aload_n (M := M_X12_lay) 169 dX12_lay_169 rfl ?_
                      refine z_getIG (M := M_X12_lay) 170 dX12_lay_170 f_X12_459 o_108 (by decide) (g_108_54 G41) (fun x61 ex61 ax61 bx61 => ?_)
                      refine z_if_ne (M := M_X12_lay) 173 dX12_lay_173 178 rfl (fun c62 => ?_) (fun c62 => ?_)
                      · refine z_aload_n (M := M_X12_lay) 178 dX12_lay_178 rfl ?_
                        refine z_aload_n (M := M_X12_lay) 179 dX12_lay_179 rfl ?_
                        refine z_getR (M := M_X12_lay) 180 dX12_lay_180 f_X12_109 o_108 rfl (g_108_49 G41) ?_
                        refine z_aload_n (M := M_X12_lay) 183 dX12_lay_183 rfl ?_
                        refine z_getR (M := M_X12_lay) 184 dX12_lay_184 f_X12_121 o_108 rfl (g_108_53 G41) ?_
                        refine z_iconst (M := M_X12_lay) 187 dX12_lay_187 ?_
                        refine z_laldV (M := M_X12_lay) 188 dX12_lay_188 o_144 (by omega) (by omega) (fun x63 ex63 => ?_)
                        refine z_aload_n (M := M_X12_lay) 189 dX12_lay_189 rfl ?_
                        refine z_getR (M := M_X12_lay) 190 dX12_lay_190 f_X12_121 o_108 rfl (g_108_53 G41) ?_
                        refine z_iconst (M := M_X12_lay) 193 dX12_lay_193 ?_
                        refine z_laldV (M := M_X12_lay) 194 dX12_lay_194 o_144 (by omega) (by omega) (fun x64 ex64 => ?_)
                        refine z_aload_n (M := M_X12_lay) 195 dX12_lay_195 rfl ?_
                        refine z_getR (M := M_X12_lay) 196 dX12_lay_196 f_X12_121 o_108 rfl (g_108_53 G41) ?_
                        refine z_iconst (M := M_X12_lay) 199 dX12_lay_199 ?_
                        refine z_laldV (M := M_X12_lay) 200 dX12_lay_200 o_144 (by omega) (by omega) (fun x65 ex65 => ?_)
                        refine z_vV (M := M_X12_lay) 201 dX12_lay_201 t_X12_triple l_X12_472 (m_rr_of rfl) (rest := []) (c_X12_triple h41 140 x63 x64 x65 (Or.inr (Or.inl rfl)) G41) o_108 rfl rfl rfl (Nat.le_of_ble_eq_true rfl) ⟨rfl, rfl⟩ (fun h42 qx66 => ?_)
                        obtain ⟨G42, S42⟩ := qx66
                        have R42 := R41.call S42 (by decide +kernel)
                        refine z_aload_n (M := M_X12_lay) 204 dX12_lay_204 rfl ?_
                        refine z_aload_n (M := M_X12_lay) 205 dX12_lay_205 rfl ?_
                        refine z_getR (M := M_X12_lay) 206 dX12_lay_206 f_X12_106 o_108 rfl (g_108_48 G42) ?_
                        refine z_aload_n (M := M_X12_lay) 209 dX12_lay_209 rfl ?_
                        refine z_getR (M := M_X12_lay) 210 dX12_lay_210 f_X12_118 o_108 rfl (g_108_52 G42) ?_
                        refine z_iconst (M := M_X12_lay) 213 dX12_lay_213 ?_
                        refine z_laldV (M := M_X12_lay) 214 dX12_lay_214 o_143 (by omega) (by omega) (fun x67 ex67 => ?_)
                        refine z_aload_n (M := M_X12_lay) 215 dX12_lay_215 rfl ?_
                        refine z_getR (M := M_X12_lay) 216 dX12_lay_216 f_X12_121 o_108 rfl (g_108_53 G42) ?_
                        refine z_iconst (M := M_X12_lay) 219 dX12_lay_219 ?_
                        refine z_laldE (M := M_X12_lay) 220 dX12_lay_220 o_144 (by omega) (by omega) ((S42 144 1 rfl).trans ex64) ?_
                        refine z_aload_n (M := M_X12_lay) 221 dX12_lay_221 rfl ?_
                        refine z_getR (M := M_X12_lay) 222 dX12_lay_222 f_X12_121 o_108 rfl (g_108_53 G42) ?_
                        refine z_iconst (M := M_X12_lay) 225 dX12_lay_225 ?_
                        refine z_laldE (M := M_X12_lay) 226 dX12_lay_226 o_144 (by omega) (by omega) ((S42 144 2 rfl).trans ex65) ?_
                        refine z_vV (M := M_X12_lay) 227 dX12_lay_227 t_X12_triple l_X12_472 (m_rr_of rfl) (rest := []) (c_X12_triple h42 139 x67 x64 x65 (Or.inl rfl) G42) o_108 rfl rfl rfl (Nat.le_of_ble_eq_true rfl) ⟨rfl, rfl⟩ (fun h43 qx68 => ?_)
                        obtain ⟨G43, S43⟩ := qx68
                        have R43 := R42.call S43 (by decide +kernel)
                        refine z_aload_n (M := M_X12_lay) 230 dX12_lay_230 rfl ?_
                        refine z_aload_n (M := M_X12_lay) 231 dX12_lay_231 rfl ?_
                        refine z_getR (M := M_X12_lay) 232 dX12_lay_232 f_X12_112 o_108 rfl (g_108_50 G43) ?_
                        refine z_aload_n (M := M_X12_lay) 235 dX12_lay_235 rfl ?_
                        refine z_getR (M := M_X12_lay) 236 dX12_lay_236 f_X12_121 o_108 rfl (g_108_53 G43) ?_
                        refine z_iconst (M := M_X12_lay) 239 dX12_lay_239 ?_
                        refine z_laldE (M := M_X12_lay) 240 dX12_lay_240 o_144 (by omega) (by omega) ((S43 144 0 rfl).trans ((S42 144 0 rfl).trans ex63)) ?_
                        refine z_aload_n (M := M_X12_lay) 241 dX12_lay_241 rfl ?_
                        refine z_getR (M := M_X12_lay) 242 dX12_lay_242 f_X12_118 o_108 rfl (g_108_52 G43) ?_
                        refine z_iconst (M := M_X12_lay) 245 dX12_lay_245 ?_
                        refine z_laldV (M := M_X12_lay) 246 dX12_lay_246 o_143 (by omega) (by omega) (fun x69 ex69 => ?_)
                        refine z_aload_n (M := M_X12_lay) 247 dX12_lay_247 rfl ?_
                        refine z_getR (M := M_X12_lay) 248 dX12_lay_248 f_X12_121 o_108 rfl (g_108_53 G43) ?_
                        refine z_iconst (M := M_X12_lay) 251 dX12_lay_251 ?_
                        refine z_laldE (M := M_X12_lay) 252 dX12_lay_252 o_144 (by omega) (by omega) ((S43 144 2 rfl).trans ((S42 144 2 rfl).trans ex65)) ?_
                        refine z_vV (M := M_X12_lay) 253 dX12_lay_253 t_X12_triple l_X12_472 (m_rr_of rfl) (rest := []) (c_X12_triple h43 141 x63 x69 x65 (Or.inr (Or.inr rfl)) G43) o_108 rfl rfl rfl (Nat.le_of_ble_eq_true rfl) ⟨rfl, rfl⟩ (fun h44 qx70 => ?_)
                        obtain ⟨G44, S44⟩ := qx70
                        have R44 := R43.call S44 (by decide +kernel)
                        refine z_aload_n (M := M_X12_lay) 256 dX12_lay_256 rfl ?_
                        refine z_vV (M := M_X12_lay) 257 dX12_lay_257 t_X12_addFactor l_X12_476 (m_rr_of rfl) (rest := []) (c_X12_addFactor h44 G44) o_108 rfl rfl rfl (Nat.le_of_ble_eq_true rfl) ⟨rfl, rfl⟩ (fun h45 qx71 => ?_)
                        obtain ⟨G45, S45⟩ := qx71
                        have R45 := R44.call S45 (by decide +kernel)
                        refine z_aload_n (M := M_X12_lay) 260 dX12_lay_260 rfl ?_
                        refine z_aload_n (M := M_X12_lay) 261 dX12_lay_261 rfl ?_
                        refine z_getR (M := M_X12_lay) 262 dX12_lay_262 f_X12_112 o_108 rfl (g_108_50 G45) ?_
                        refine z_aload_n (M := M_X12_lay) 265 dX12_lay_265 rfl ?_
                        refine z_getR (M := M_X12_lay) 266 dX12_lay_266 f_X12_121 o_108 rfl (g_108_53 G45) ?_
                        refine z_iconst (M := M_X12_lay) 269 dX12_lay_269 ?_
                        refine z_laldE (M := M_X12_lay) 270 dX12_lay_270 o_144 (by omega) (by omega) ((S45 144 0 rfl).trans ((S44 144 0 rfl).trans ((S43 144 0 rfl).trans ((S42 144 0 rfl).trans ex63)))) ?_
                        refine z_aload_n (M := M_X12_lay) 271 dX12_lay_271 rfl ?_
                        refine z_getR (M := M_X12_lay) 272 dX12_lay_272 f_X12_121 o_108 rfl (g_108_53 G45) ?_
                        refine z_iconst (M := M_X12_lay) 275 dX12_lay_275 ?_
                        refine z_laldE (M := M_X12_lay) 276 dX12_lay_276 o_144 (by omega) (by omega) ((S45 144 1 rfl).trans ((S44 144 1 rfl).trans ((S43 144 1 rfl).trans ((S42 144 1 rfl).trans ex64)))) ?_
                        refine z_aload_n (M := M_X12_lay) 277 dX12_lay_277 rfl ?_
                        refine z_getR (M := M_X12_lay) 278 dX12_lay_278 f_X12_118 o_108 rfl (g_108_52 G45) ?_
                        refine z_iconst (M := M_X12_lay) 281 dX12_lay_281 ?_
                        refine z_laldV (M := M_X12_lay) 282 dX12_lay_282 o_143 (by omega) (by omega) (fun x72 ex72 => ?_)
                        refine z_vV (M := M_X12_lay) 283 dX12_lay_283 t_X12_triple l_X12_472 (m_rr_of rfl) (rest := []) (c_X12_triple h45 141 x63 x64 x72 (Or.inr (Or.inr rfl)) G45) o_108 rfl rfl rfl (Nat.le_of_ble_eq_true rfl) ⟨rfl, rfl⟩ (fun h46 qx73 => ?_)
                        obtain ⟨G46, S46⟩ := qx73
                        have R46 := R45.call S46 (by decide +kernel)
                        refine z_aload_n (M := M_X12_lay) 286 dX12_lay_286 rfl ?_
                        refine z_vV (M := M_X12_lay) 287 dX12_lay_287 t_X12_addFactor l_X12_476 (m_rr_of rfl) (rest := []) (c_X12_addFactor h46 G46) o_108 rfl rfl rfl (Nat.le_of_ble_eq_true rfl) ⟨rfl, rfl⟩ (fun h47 qx74 => ?_)
                        obtain ⟨G47, S47⟩ := qx74
                        have R47 := R46.call S47 (by decide +kernel)
                        refine z_aload_n (M := M_X12_lay) 290 dX12_lay_290 rfl ?_
                        refine z_sipush (M := M_X12_lay) 291 dX12_lay_291 ?_
                        refine z_iload (M := M_X12_lay) 294 dX12_lay_294 rfl ?_
                        refine z_if_eq_F (M := M_X12_lay) 296 dX12_lay_296 306 rfl (by omega) ?_
                        refine z_aload_n (M := M_X12_lay) 299 dX12_lay_299 rfl ?_
                        refine z_getIG (M := M_X12_lay) 300 dX12_lay_300 f_X12_462 o_108 (by decide) (g_108_55 G47) (fun x75 ex75 ax75 bx75 => ?_)
                        refine z_if_eq (M := M_X12_lay) 303 dX12_lay_303 310 rfl (fun c76 => ?_) (fun c76 => ?_)
                        · refine z_iconst (M := M_X12_lay) 310 dX12_lay_310 ?_
                          refine z_vI (M := M_X12_lay) 311 dX12_lay_311 t_X12_often l_X12_479 (m_rr_of rfl) (rest := []) (c_X12_often h47 6000 0 G47 ⟨by omega, by omega⟩ ⟨by omega, by omega⟩) o_108 rfl rfl rfl (Nat.le_of_ble_eq_true rfl) ⟨rfl, rfl⟩ (fun x77 h48 qx77 => ?_)
                          obtain ⟨G48, S48, ax77, bx77⟩ := qx77
                          have R48 := R47.call S48 (by decide +kernel)
                          exact z_retI (M := M_X12_lay) 314 dX12_lay_314 rfl ⟨G48, R48, by omega, by omega⟩
                        · refine z_iconst (M := M_X12_lay) 306 dX12_lay_306 ?_
                          refine z_goto (M := M_X12_lay) 307 dX12_lay_307 311 rfl ?_
                          refine z_vI (M := M_X12_lay) 311 dX12_lay_311 t_X12_often l_X12_479 (m_rr_of rfl) (rest := []) (c_X12_often h47 6000 1 G47 ⟨by omega, by omega⟩ ⟨by omega, by omega⟩) o_108 rfl rfl rfl (Nat.le_of_ble_eq_true rfl) ⟨rfl, rfl⟩ (fun x78 h49 qx78 => ?_)
                          obtain ⟨G49, S49, ax78, bx78⟩ := qx78
                          have R49 := R47.call S49 (by decide +kernel)
                          exact z_retI (M := M_X12_lay) 314 dX12_lay_314 rfl ⟨G49, R49, by omega, by omega⟩
                      · refine z_iconst (M := M_X12_lay) 176 dX12_lay_176 ?_
                        exact z_retI (M := M_X12_lay) 177 dX12_lay_177 rfl ⟨G41, R41, by omega, by omega⟩
                    · refine z_iconst (M := M_X12_lay) 119 dX12_lay_119 ?_
                      refine z_goto (M := M_X12_lay) 120 dX12_lay_120 124 rfl ?_
                      refine z_vV (M := M_X12_lay) 124 dX12_lay_124 t_X12_takeEnd l_X12_468 (m_rr_of rfl) (rest := []) (c_X12_takeEnd h38 0 a1 a4 1 G38 ⟨by omega, by omega⟩ ⟨by omega, by omega⟩ ⟨by omega, by omega⟩ ⟨by omega, by omega⟩ (NP.call hN R38 (fun _ => rfl) (fun _ => rfl) (fun _ => rfl)) (gG_f (gG_b an.2.2 R35 (fun _ => rfl)) R38 (fun _ => rfl))) o_108 rfl rfl rfl (Nat.le_of_ble_eq_true rfl) ⟨rfl, rfl⟩ (fun h50 qx79 => ?_)
                      obtain ⟨G50, S50⟩ := qx79
                      have R50 := R38.call S50 (by decide +kernel)
                      refine z_aload_n (M := M_X12_lay) 127 dX12_lay_127 rfl ?_
                      refine z_iconst (M := M_X12_lay) 128 dX12_lay_128 ?_
                      refine z_iload_n (M := M_X12_lay) 129 dX12_lay_129 rfl ?_
                      refine z_iload (M := M_X12_lay) 130 dX12_lay_130 rfl ?_
                      refine z_iload (M := M_X12_lay) 132 dX12_lay_132 rfl ?_
                      refine z_if_ne_F (M := M_X12_lay) 134 dX12_lay_134 141 rfl (by omega) ?_
                      refine z_iconst (M := M_X12_lay) 137 dX12_lay_137 ?_
                      refine z_goto (M := M_X12_lay) 138 dX12_lay_138 142 rfl ?_
                      refine z_vV (M := M_X12_lay) 142 dX12_lay_142 t_X12_takeEnd l_X12_468 (m_rr_of rfl) (rest := []) (c_X12_takeEnd h50 1 a2 a4 1 G50 ⟨by omega, by omega⟩ ⟨by omega, by omega⟩ ⟨by omega, by omega⟩ ⟨by omega, by omega⟩ (NP.call hN R50 (fun _ => rfl) (fun _ => rfl) (fun _ => rfl)) (gG_f (gG_b an.2.2 R35 (fun _ => rfl)) R50 (fun _ => rfl))) o_108 rfl rfl rfl (Nat.le_of_ble_eq_true rfl) ⟨rfl, rfl⟩ (fun h51 qx80 => ?_)
                      obtain ⟨G51, S51⟩ := qx80
                      have R51 := R50.call S51 (by decide +kernel)
                      refine z_aload_n (M := M_X12_lay) 145 dX12_lay_145 rfl ?_
                      refine z_iconst (M := M_X12_lay) 146 dX12_lay_146 ?_
                      refine z_iload_n (M := M_X12_lay) 147 dX12_lay_147 rfl ?_
                      refine z_iload (M := M_X12_lay) 148 dX12_lay_148 rfl ?_
                      refine z_iload (M := M_X12_lay) 150 dX12_lay_150 rfl ?_
                      refine z_if_ne_F (M := M_X12_lay) 152 dX12_lay_152 159 rfl (by omega) ?_
                      refine z_iconst (M := M_X12_lay) 155 dX12_lay_155 ?_
                      refine z_goto (M := M_X12_lay) 156 dX12_lay_156 160 rfl ?_
                      refine z_vV (M := M_X12_lay) 160 dX12_lay_160 t_X12_takeEnd l_X12_468 (m_rr_of rfl) (rest := []) (c_X12_takeEnd h51 2 a3 a4 1 G51 ⟨by omega, by omega⟩ ⟨by omega, by omega⟩ ⟨by omega, by omega⟩ ⟨by omega, by omega⟩ (NP.call hN R51 (fun _ => rfl) (fun _ => rfl) (fun _ => rfl)) (gG_f (gG_b an.2.2 R35 (fun _ => rfl)) R51 (fun _ => rfl))) o_108 rfl rfl rfl (Nat.le_of_ble_eq_true rfl) ⟨rfl, rfl⟩ (fun h52 qx81 => ?_)
                      obtain ⟨G52, S52⟩ := qx81
                      have R52 := R51.call S52 (by decide +kernel)
                      refine z_iload (M := M_X12_lay) 163 dX12_lay_163 rfl ?_
                      refine z_iconst (M := M_X12_lay) 165 dX12_lay_165 ?_
                      refine z_icmp_ne_T (M := M_X12_lay) 166 dX12_lay_166 178 rfl (by omega) ?_
                      refine z_aload_n (M := M_X12_lay) 178 dX12_lay_178 rfl ?_
                      refine z_aload_n (M := M_X12_lay) 179 dX12_lay_179 rfl ?_
                      refine z_getR (M := M_X12_lay) 180 dX12_lay_180 f_X12_109 o_108 rfl (g_108_49 G52) ?_
                      refine z_aload_n (M := M_X12_lay) 183 dX12_lay_183 rfl ?_
                      refine z_getR (M := M_X12_lay) 184 dX12_lay_184 f_X12_121 o_108 rfl (g_108_53 G52) ?_
                      refine z_iconst (M := M_X12_lay) 187 dX12_lay_187 ?_
                      refine z_laldV (M := M_X12_lay) 188 dX12_lay_188 o_144 (by omega) (by omega) (fun x82 ex82 => ?_)
                      refine z_aload_n (M := M_X12_lay) 189 dX12_lay_189 rfl ?_
                      refine z_getR (M := M_X12_lay) 190 dX12_lay_190 f_X12_121 o_108 rfl (g_108_53 G52) ?_
                      refine z_iconst (M := M_X12_lay) 193 dX12_lay_193 ?_
                      refine z_laldV (M := M_X12_lay) 194 dX12_lay_194 o_144 (by omega) (by omega) (fun x83 ex83 => ?_)
                      refine z_aload_n (M := M_X12_lay) 195 dX12_lay_195 rfl ?_
                      refine z_getR (M := M_X12_lay) 196 dX12_lay_196 f_X12_121 o_108 rfl (g_108_53 G52) ?_
                      refine z_iconst (M := M_X12_lay) 199 dX12_lay_199 ?_
                      refine z_laldV (M := M_X12_lay) 200 dX12_lay_200 o_144 (by omega) (by omega) (fun x84 ex84 => ?_)
                      refine z_vV (M := M_X12_lay) 201 dX12_lay_201 t_X12_triple l_X12_472 (m_rr_of rfl) (rest := []) (c_X12_triple h52 140 x82 x83 x84 (Or.inr (Or.inl rfl)) G52) o_108 rfl rfl rfl (Nat.le_of_ble_eq_true rfl) ⟨rfl, rfl⟩ (fun h53 qx85 => ?_)
                      obtain ⟨G53, S53⟩ := qx85
                      have R53 := R52.call S53 (by decide +kernel)
                      refine z_aload_n (M := M_X12_lay) 204 dX12_lay_204 rfl ?_
                      refine z_aload_n (M := M_X12_lay) 205 dX12_lay_205 rfl ?_
                      refine z_getR (M := M_X12_lay) 206 dX12_lay_206 f_X12_106 o_108 rfl (g_108_48 G53) ?_
                      refine z_aload_n (M := M_X12_lay) 209 dX12_lay_209 rfl ?_
                      refine z_getR (M := M_X12_lay) 210 dX12_lay_210 f_X12_118 o_108 rfl (g_108_52 G53) ?_
                      refine z_iconst (M := M_X12_lay) 213 dX12_lay_213 ?_
                      refine z_laldV (M := M_X12_lay) 214 dX12_lay_214 o_143 (by omega) (by omega) (fun x86 ex86 => ?_)
                      refine z_aload_n (M := M_X12_lay) 215 dX12_lay_215 rfl ?_
                      refine z_getR (M := M_X12_lay) 216 dX12_lay_216 f_X12_121 o_108 rfl (g_108_53 G53) ?_
                      refine z_iconst (M := M_X12_lay) 219 dX12_lay_219 ?_
                      refine z_laldE (M := M_X12_lay) 220 dX12_lay_220 o_144 (by omega) (by omega) ((S53 144 1 rfl).trans ex83) ?_
                      refine z_aload_n (M := M_X12_lay) 221 dX12_lay_221 rfl ?_
                      refine z_getR (M := M_X12_lay) 222 dX12_lay_222 f_X12_121 o_108 rfl (g_108_53 G53) ?_
                      refine z_iconst (M := M_X12_lay) 225 dX12_lay_225 ?_
                      refine z_laldE (M := M_X12_lay) 226 dX12_lay_226 o_144 (by omega) (by omega) ((S53 144 2 rfl).trans ex84) ?_
                      refine z_vV (M := M_X12_lay) 227 dX12_lay_227 t_X12_triple l_X12_472 (m_rr_of rfl) (rest := []) (c_X12_triple h53 139 x86 x83 x84 (Or.inl rfl) G53) o_108 rfl rfl rfl (Nat.le_of_ble_eq_true rfl) ⟨rfl, rfl⟩ (fun h54 qx87 => ?_)
                      obtain ⟨G54, S54⟩ := qx87
                      have R54 := R53.call S54 (by decide +kernel)
                      refine z_aload_n (M := M_X12_lay) 230 dX12_lay_230 rfl ?_
                      refine z_aload_n (M := M_X12_lay) 231 dX12_lay_231 rfl ?_
                      refine z_getR (M := M_X12_lay) 232 dX12_lay_232 f_X12_112 o_108 rfl (g_108_50 G54) ?_
                      refine z_aload_n (M := M_X12_lay) 235 dX12_lay_235 rfl ?_
                      refine z_getR (M := M_X12_lay) 236 dX12_lay_236 f_X12_121 o_108 rfl (g_108_53 G54) ?_
                      refine z_iconst (M := M_X12_lay) 239 dX12_lay_239 ?_
                      refine z_laldE (M := M_X12_lay) 240 dX12_lay_240 o_144 (by omega) (by omega) ((S54 144 0 rfl).trans ((S53 144 0 rfl).trans ex82)) ?_
                      refine z_aload_n (M := M_X12_lay) 241 dX12_lay_241 rfl ?_
                      refine z_getR (M := M_X12_lay) 242 dX12_lay_242 f_X12_118 o_108 rfl (g_108_52 G54) ?_
                      refine z_iconst (M := M_X12_lay) 245 dX12_lay_245 ?_
                      refine z_laldV (M := M_X12_lay) 246 dX12_lay_246 o_143 (by omega) (by omega) (fun x88 ex88 => ?_)
                      refine z_aload_n (M := M_X12_lay) 247 dX12_lay_247 rfl ?_
                      refine z_getR (M := M_X12_lay) 248 dX12_lay_248 f_X12_121 o_108 rfl (g_108_53 G54) ?_
                      refine z_iconst (M := M_X12_lay) 251 dX12_lay_251 ?_
                      refine z_laldE (M := M_X12_lay) 252 dX12_lay_252 o_144 (by omega) (by omega) ((S54 144 2 rfl).trans ((S53 144 2 rfl).trans ex84)) ?_
                      refine z_vV (M := M_X12_lay) 253 dX12_lay_253 t_X12_triple l_X12_472 (m_rr_of rfl) (rest := []) (c_X12_triple h54 141 x82 x88 x84 (Or.inr (Or.inr rfl)) G54) o_108 rfl rfl rfl (Nat.le_of_ble_eq_true rfl) ⟨rfl, rfl⟩ (fun h55 qx89 => ?_)
                      obtain ⟨G55, S55⟩ := qx89
                      have R55 := R54.call S55 (by decide +kernel)
                      refine z_aload_n (M := M_X12_lay) 256 dX12_lay_256 rfl ?_
                      refine z_vV (M := M_X12_lay) 257 dX12_lay_257 t_X12_addFactor l_X12_476 (m_rr_of rfl) (rest := []) (c_X12_addFactor h55 G55) o_108 rfl rfl rfl (Nat.le_of_ble_eq_true rfl) ⟨rfl, rfl⟩ (fun h56 qx90 => ?_)
                      obtain ⟨G56, S56⟩ := qx90
                      have R56 := R55.call S56 (by decide +kernel)
                      refine z_aload_n (M := M_X12_lay) 260 dX12_lay_260 rfl ?_
                      refine z_aload_n (M := M_X12_lay) 261 dX12_lay_261 rfl ?_
                      refine z_getR (M := M_X12_lay) 262 dX12_lay_262 f_X12_112 o_108 rfl (g_108_50 G56) ?_
                      refine z_aload_n (M := M_X12_lay) 265 dX12_lay_265 rfl ?_
                      refine z_getR (M := M_X12_lay) 266 dX12_lay_266 f_X12_121 o_108 rfl (g_108_53 G56) ?_
                      refine z_iconst (M := M_X12_lay) 269 dX12_lay_269 ?_
                      refine z_laldE (M := M_X12_lay) 270 dX12_lay_270 o_144 (by omega) (by omega) ((S56 144 0 rfl).trans ((S55 144 0 rfl).trans ((S54 144 0 rfl).trans ((S53 144 0 rfl).trans ex82)))) ?_
                      refine z_aload_n (M := M_X12_lay) 271 dX12_lay_271 rfl ?_
                      refine z_getR (M := M_X12_lay) 272 dX12_lay_272 f_X12_121 o_108 rfl (g_108_53 G56) ?_
                      refine z_iconst (M := M_X12_lay) 275 dX12_lay_275 ?_
                      refine z_laldE (M := M_X12_lay) 276 dX12_lay_276 o_144 (by omega) (by omega) ((S56 144 1 rfl).trans ((S55 144 1 rfl).trans ((S54 144 1 rfl).trans ((S53 144 1 rfl).trans ex83)))) ?_
                      refine z_aload_n (M := M_X12_lay) 277 dX12_lay_277 rfl ?_
                      refine z_getR (M := M_X12_lay) 278 dX12_lay_278 f_X12_118 o_108 rfl (g_108_52 G56) ?_
                      refine z_iconst (M := M_X12_lay) 281 dX12_lay_281 ?_
                      refine z_laldV (M := M_X12_lay) 282 dX12_lay_282 o_143 (by omega) (by omega) (fun x91 ex91 => ?_)
                      refine z_vV (M := M_X12_lay) 283 dX12_lay_283 t_X12_triple l_X12_472 (m_rr_of rfl) (rest := []) (c_X12_triple h56 141 x82 x83 x91 (Or.inr (Or.inr rfl)) G56) o_108 rfl rfl rfl (Nat.le_of_ble_eq_true rfl) ⟨rfl, rfl⟩ (fun h57 qx92 => ?_)
                      obtain ⟨G57, S57⟩ := qx92
                      have R57 := R56.call S57 (by decide +kernel)
                      refine z_aload_n (M := M_X12_lay) 286 dX12_lay_286 rfl ?_
                      refine z_vV (M := M_X12_lay) 287 dX12_lay_287 t_X12_addFactor l_X12_476 (m_rr_of rfl) (rest := []) (c_X12_addFactor h57 G57) o_108 rfl rfl rfl (Nat.le_of_ble_eq_true rfl) ⟨rfl, rfl⟩ (fun h58 qx93 => ?_)
                      obtain ⟨G58, S58⟩ := qx93
                      have R58 := R57.call S58 (by decide +kernel)
                      refine z_aload_n (M := M_X12_lay) 290 dX12_lay_290 rfl ?_
                      refine z_sipush (M := M_X12_lay) 291 dX12_lay_291 ?_
                      refine z_iload (M := M_X12_lay) 294 dX12_lay_294 rfl ?_
                      refine z_if_eq_T (M := M_X12_lay) 296 dX12_lay_296 306 rfl (by omega) ?_
                      refine z_iconst (M := M_X12_lay) 306 dX12_lay_306 ?_
                      refine z_goto (M := M_X12_lay) 307 dX12_lay_307 311 rfl ?_
                      refine z_vI (M := M_X12_lay) 311 dX12_lay_311 t_X12_often l_X12_479 (m_rr_of rfl) (rest := []) (c_X12_often h58 6000 1 G58 ⟨by omega, by omega⟩ ⟨by omega, by omega⟩) o_108 rfl rfl rfl (Nat.le_of_ble_eq_true rfl) ⟨rfl, rfl⟩ (fun x94 h59 qx94 => ?_)
                      obtain ⟨G59, S59, ax94, bx94⟩ := qx94
                      have R59 := R58.call S59 (by decide +kernel)
                      exact z_retI (M := M_X12_lay) 314 dX12_lay_314 rfl ⟨G59, R59, by omega, by omega⟩
                  · refine z_bipush (M := M_X12_lay) 96 dX12_lay_96 ?_
                    exact z_retI (M := M_X12_lay) 98 dX12_lay_98 rfl ⟨G36, R36, by omega, by omega⟩
            · refine z_if_eq_T (M := M_X12_lay) 47 dX12_lay_47 54 rfl (by omega) ?_
              refine z_iconst (M := M_X12_lay) 54 dX12_lay_54 ?_
              refine z_istore (M := M_X12_lay) 55 dX12_lay_55 (ls' := [some (mR 108), some (mI a1), some (mI a2), some (mI a3), some (mI a4), some (mI a5), some (mI 0)]) (by decide) rfl ?_
              refine z_iload (M := M_X12_lay) 57 dX12_lay_57 rfl ?_
              refine z_if_eq_T (M := M_X12_lay) 59 dX12_lay_59 96 rfl (by omega) ?_
              refine z_bipush (M := M_X12_lay) 96 dX12_lay_96 ?_
              exact z_retI (M := M_X12_lay) 98 dX12_lay_98 rfl ⟨G1, R1, by omega, by omega⟩
          · refine z_if_eq_T (M := M_X12_lay) 36 dX12_lay_36 54 rfl (by omega) ?_
            refine z_iconst (M := M_X12_lay) 54 dX12_lay_54 ?_
            refine z_istore (M := M_X12_lay) 55 dX12_lay_55 (ls' := [some (mR 108), some (mI a1), some (mI a2), some (mI a3), some (mI a4), some (mI a5), some (mI 0)]) (by decide) rfl ?_
            refine z_iload (M := M_X12_lay) 57 dX12_lay_57 rfl ?_
            refine z_if_eq_T (M := M_X12_lay) 59 dX12_lay_59 96 rfl (by omega) ?_
            refine z_bipush (M := M_X12_lay) 96 dX12_lay_96 ?_
            exact z_retI (M := M_X12_lay) 98 dX12_lay_98 rfl ⟨G1, R1, by omega, by omega⟩
        · refine z_if_eq_T (M := M_X12_lay) 28 dX12_lay_28 54 rfl (by omega) ?_
          refine z_iconst (M := M_X12_lay) 54 dX12_lay_54 ?_
          refine z_istore (M := M_X12_lay) 55 dX12_lay_55 (ls' := [some (mR 108), some (mI a1), some (mI a2), some (mI a3), some (mI a4), some (mI a5), some (mI 0)]) (by decide) rfl ?_
          refine z_iload (M := M_X12_lay) 57 dX12_lay_57 rfl ?_
          refine z_if_eq_T (M := M_X12_lay) 59 dX12_lay_59 96 rfl (by omega) ?_
          refine z_bipush (M := M_X12_lay) 96 dX12_lay_96 ?_
          exact z_retI (M := M_X12_lay) 98 dX12_lay_98 rfl ⟨G1, R1, by omega, by omega⟩
    · refine z_if_eq_T (M := M_X12_lay) 16 dX12_lay_16 54 rfl (by omega) ?_
      refine z_iconst (M := M_X12_lay) 54 dX12_lay_54 ?_
      refine z_istore (M := M_X12_lay) 55 dX12_lay_55 (ls' := [some (mR 108), some (mI a1), some (mI a2), some (mI a3), some (mI a4), some (mI a5), some (mI 0)]) (by decide) rfl ?_
      refine z_iload (M := M_X12_lay) 57 dX12_lay_57 rfl ?_
      refine z_if_eq_T (M := M_X12_lay) 59 dX12_lay_59 96 rfl (by omega) ?_
      refine z_bipush (M := M_X12_lay) 96 dX12_lay_96 ?_
      exact z_retI (M := M_X12_lay) 98 dX12_lay_98 rfl ⟨G1, R1, by omega, by omega⟩
  · refine z_if_eq_T (M := M_X12_lay) 9 dX12_lay_9 54 rfl (by omega) ?_
    refine z_iconst (M := M_X12_lay) 54 dX12_lay_54 ?_
    refine z_istore (M := M_X12_lay) 55 dX12_lay_55 (ls' := [some (mR 108), some (mI a1), some (mI a2), some (mI a3), some (mI a4), some (mI a5), some (mI 0)]) (by decide) rfl ?_
    refine z_iload (M := M_X12_lay) 57 dX12_lay_57 rfl ?_
    refine z_if_eq_T (M := M_X12_lay) 59 dX12_lay_59 96 rfl (by omega) ?_
    refine z_bipush (M := M_X12_lay) 96 dX12_lay_96 ?_
    exact z_retI (M := M_X12_lay) 98 dX12_lay_98 rfl ⟨G1, R1, by omega, by omega⟩
abbrev P_X12_area (h0 : m_H) (a1 a2 a3 a4 : Int) : Int → m_H → Prop := fun x h' => GI h' ∧ FR [115, 116, 117, 118, 119, 120, 121, 122, 123, 124, 125, 126, 127, 128, 129, 130, 131, 132, 133, 134, 138, 139, 140, 141, 142, 143, 144] [(108, 0), (108, 21), (108, 44), (108, 45), (108, 46), (108, 47), (108, 54), (108, 55)] h0 h' ∧ (-2) ≤ x ∧ x ≤ 4000000
set_option maxHeartbeats 4000000 in
set_option maxRecDepth 100000 in
theorem c_X12_area (h0 : m_H) (a1 a2 a3 a4 : Int) (G0 : GI h0) (hN : NP h0) : m_CI M_X12_area [mR 108, mI a1, mI a2, mI a3, mI a4] h0 (P_X12_area h0 a1 a2 a3 a4) := by
  refine m_CI_of ⟨by decide, rfl, by simp [m_arg, m_isL, M_X12_area], ⟨rfl, rfl⟩, rfl, rfl⟩ (ls := [some (mR 108), some (mI a1), some (mI a2), some (mI a3), some (mI a4), none]) rfl ?_
  refine z_ok (fun _ _ ok => ?_)
  have oa1 : m_32 a1 := ok 1 _ rfl
  unfold m_32 at oa1
  have oa2 : m_32 a2 := ok 2 _ rfl
  unfold m_32 at oa2
  have oa3 : m_32 a3 := ok 3 _ rfl
  unfold m_32 at oa3
  have oa4 : m_32 a4 := ok 4 _ rfl
  unfold m_32 at oa4
  refine z_aload_n (M := M_X12_area) 0 dX12_area_0 rfl ?_
  refine z_iconst (M := M_X12_area) 1 dX12_area_1 ?_
  refine z_putIH (M := M_X12_area) 2 dX12_area_2 p_X12_133 o_108 rfl (u_108_0 G0) ((FR.rf (cs := [115, 116, 117, 118, 119, 120, 121, 122, 123, 124, 125, 126, 127, 128, 129, 130, 131, 132, 133, 134, 138, 139, 140, 141, 142, 143, 144]) (ss := [(108, 0), (108, 21), (108, 44), (108, 45), (108, 46), (108, 47), (108, 54), (108, 55)]) (h := h0)).up rfl) (fun h1 E1 G1 R1 => ?_)
  refine z_iload_n (M := M_X12_area) 5 dX12_area_5 rfl ?_
  refine z_sI (M := M_X12_area) 6 dX12_area_6 t_X12_isGround l_X12_465 (m_rr_of rfl) (rest := []) (c_X12_isGround h1 a1 G1) rfl rfl (Nat.le_of_ble_eq_true rfl) ⟨rfl, rfl⟩ (fun x1 h2 qx1 => ?_)
  obtain ⟨rfl, ⟨rfl, cx1⟩ | ⟨rfl, cx1⟩⟩ := qx1
  · refine z_if_eq_F (M := M_X12_area) 9 dX12_area_9 41 rfl (by omega) ?_
    refine z_iload_n (M := M_X12_area) 12 dX12_area_12 rfl ?_
    refine z_sI (M := M_X12_area) 13 dX12_area_13 t_X12_isGround l_X12_465 (m_rr_of rfl) (rest := []) (c_X12_isGround h1 a2 G1) rfl rfl (Nat.le_of_ble_eq_true rfl) ⟨rfl, rfl⟩ (fun x2 h3 qx2 => ?_)
    obtain ⟨rfl, ⟨rfl, cx2⟩ | ⟨rfl, cx2⟩⟩ := qx2
    · refine z_if_eq_F (M := M_X12_area) 16 dX12_area_16 41 rfl (by omega) ?_
      refine z_iload_n (M := M_X12_area) 19 dX12_area_19 rfl ?_
      refine z_sI (M := M_X12_area) 20 dX12_area_20 t_X12_isKeeper l_X12_169 (m_rr_of rfl) (rest := []) (c_X12_isKeeper h1 a3 G1) rfl rfl (Nat.le_of_ble_eq_true rfl) ⟨rfl, rfl⟩ (fun x3 h4 qx3 => ?_)
      obtain ⟨rfl, ⟨rfl, cx3⟩ | ⟨rfl, cx3⟩⟩ := qx3
      · refine z_if_eq_F (M := M_X12_area) 23 dX12_area_23 41 rfl (by omega) ?_
        refine z_iload (M := M_X12_area) 26 dX12_area_26 rfl ?_
        refine z_i2l (M := M_X12_area) 28 dX12_area_28 ?_
        refine z_lconst (M := M_X12_area) 29 dX12_area_29 (v := 0) ?_
        refine z_lconst (M := M_X12_area) 30 dX12_area_30 (v := 1) ?_
        refine z_sI (M := M_X12_area) 31 dX12_area_31 t_X12_in l_X12_143 (m_rr_of rfl) (rest := []) (c_X12_in h1 a4 0 1 G1) rfl rfl (Nat.le_of_ble_eq_true rfl) ⟨rfl, rfl⟩ (fun x4 h5 qx4 => ?_)
        obtain ⟨rfl, ⟨rfl, cx4⟩ | ⟨rfl, cx4⟩⟩ := qx4
        · refine z_if_eq_F (M := M_X12_area) 34 dX12_area_34 41 rfl (by omega) ?_
          refine z_iconst (M := M_X12_area) 37 dX12_area_37 ?_
          refine z_goto (M := M_X12_area) 38 dX12_area_38 42 rfl ?_
          refine z_istore (M := M_X12_area) 42 dX12_area_42 (ls' := [some (mR 108), some (mI a1), some (mI a2), some (mI a3), some (mI a4), some (mI 1)]) (by decide) rfl ?_
          refine z_iload (M := M_X12_area) 44 dX12_area_44 rfl ?_
          refine z_if_eq_F (M := M_X12_area) 46 dX12_area_46 69 rfl (by omega) ?_
          refine z_aload_n (M := M_X12_area) 49 dX12_area_49 rfl ?_
          refine z_iload_n (M := M_X12_area) 50 dX12_area_50 rfl ?_
          refine z_vI (M := M_X12_area) 51 dX12_area_51 t_X12_isLength l_X12_391 (m_rr_of rfl) (rest := []) (c_X12_isLengthX h1 a2 G1) o_108 rfl rfl rfl (Nat.le_of_ble_eq_true rfl) ⟨rfl, rfl⟩ (fun x5 h6 qx5 => ?_)
          obtain ⟨G6, S6, ax5, bx5, fx5_0⟩ := qx5
          have R6 := R1.call S6 (by decide +kernel)
          refine z_if_eq (M := M_X12_area) 54 dX12_area_54 69 rfl (fun c6 => ?_) (fun c6 => ?_)
          · refine z_bipush (M := M_X12_area) 69 dX12_area_69 ?_
            exact z_retI (M := M_X12_area) 71 dX12_area_71 rfl ⟨G6, R6, by omega, by omega⟩
          · refine z_aload_n (M := M_X12_area) 57 dX12_area_57 rfl ?_
            refine z_iload_n (M := M_X12_area) 58 dX12_area_58 rfl ?_
            refine z_bipush (M := M_X12_area) 59 dX12_area_59 ?_
            refine z_iload_n (M := M_X12_area) 61 dX12_area_61 rfl ?_
            refine z_iaddN (M := M_X12_area) 62 dX12_area_62 (by omega) (by omega) ?_
            refine z_vI (M := M_X12_area) 63 dX12_area_63 t_X12_isAnswered l_X12_394 (m_rr_of rfl) (rest := []) (c_X12_isAnswered h6 a1 (12 + a3) G6 (NP.call hN R6 (fun _ => rfl) (fun _ => rfl) (fun _ => rfl))) o_108 rfl rfl rfl (Nat.le_of_ble_eq_true rfl) ⟨rfl, rfl⟩ (fun x7 h7 qx7 => ?_)
            obtain ⟨G7, S7, ax7, bx7, fx7_0⟩ := qx7
            have R7 := R6.call S7 (by decide +kernel)
            refine z_if_ne (M := M_X12_area) 66 dX12_area_66 72 rfl (fun c8 => ?_) (fun c8 => ?_)
            · have an := fx7_0 (by omega)
              have an1 := an.1
              have an2 := an.2.1
              refine z_aload_n (M := M_X12_area) 72 dX12_area_72 rfl ?_
              refine z_iconst (M := M_X12_area) 73 dX12_area_73 ?_
              refine z_putZH (M := M_X12_area) 74 dX12_area_74 p_X12_459 o_108 rfl (by omega) (u_108_54 G7 (by omega) (by omega)) (R7.up rfl) (fun h8 E8 G8 R8 => ?_)
              refine z_aload_n (M := M_X12_area) 77 dX12_area_77 rfl ?_
              refine z_iconst (M := M_X12_area) 78 dX12_area_78 ?_
              refine z_putZH (M := M_X12_area) 79 dX12_area_79 p_X12_462 o_108 rfl (by omega) (u_108_55 G8 (by omega) (by omega)) (R8.up rfl) (fun h9 E9 G9 R9 => ?_)
              refine z_aload_n (M := M_X12_area) 82 dX12_area_82 rfl ?_
              refine z_iconst (M := M_X12_area) 83 dX12_area_83 ?_
              refine z_iload_n (M := M_X12_area) 84 dX12_area_84 rfl ?_
              refine z_iload_n (M := M_X12_area) 85 dX12_area_85 rfl ?_
              refine z_iload (M := M_X12_area) 86 dX12_area_86 rfl ?_
              refine z_if_ne (M := M_X12_area) 88 dX12_area_88 95 rfl (fun c9 => ?_) (fun c9 => ?_)
              · refine z_iconst (M := M_X12_area) 95 dX12_area_95 ?_
                refine z_vV (M := M_X12_area) 96 dX12_area_96 t_X12_takeEnd l_X12_468 (m_rr_of rfl) (rest := []) (c_X12_takeEnd h9 0 a1 a3 0 G9 ⟨by omega, by omega⟩ ⟨by omega, by omega⟩ ⟨by omega, by omega⟩ ⟨by omega, by omega⟩ (NP.call hN R9 (fun _ => rfl) (fun _ => rfl) (fun _ => rfl)) (gG_f (gG_b an.2.2 R6 (fun _ => rfl)) R9 (fun _ => rfl))) o_108 rfl rfl rfl (Nat.le_of_ble_eq_true rfl) ⟨rfl, rfl⟩ (fun h10 qx10 => ?_)
                obtain ⟨G10, S10⟩ := qx10
                have R10 := R9.call S10 (by decide +kernel)
                refine z_aload_n (M := M_X12_area) 99 dX12_area_99 rfl ?_
                refine z_iconst (M := M_X12_area) 100 dX12_area_100 ?_
                refine z_iload_n (M := M_X12_area) 101 dX12_area_101 rfl ?_
                refine z_iload_n (M := M_X12_area) 102 dX12_area_102 rfl ?_
                refine z_iload (M := M_X12_area) 103 dX12_area_103 rfl ?_
                refine z_if_ne_T (M := M_X12_area) 105 dX12_area_105 112 rfl (by omega) ?_
                refine z_iconst (M := M_X12_area) 112 dX12_area_112 ?_
                refine z_vV (M := M_X12_area) 113 dX12_area_113 t_X12_takeEnd l_X12_468 (m_rr_of rfl) (rest := []) (c_X12_takeEnd h10 1 a2 a3 0 G10 ⟨by omega, by omega⟩ ⟨by omega, by omega⟩ ⟨by omega, by omega⟩ ⟨by omega, by omega⟩ (NP.call hN R10 (fun _ => rfl) (fun _ => rfl) (fun _ => rfl)) (gG_f (gG_b an.2.2 R6 (fun _ => rfl)) R10 (fun _ => rfl))) o_108 rfl rfl rfl (Nat.le_of_ble_eq_true rfl) ⟨rfl, rfl⟩ (fun h11 qx11 => ?_)
                obtain ⟨G11, S11⟩ := qx11
                have R11 := R10.call S11 (by decide +kernel)
                refine z_iload (M := M_X12_area) 116 dX12_area_116 rfl ?_
                refine z_iconst (M := M_X12_area) 118 dX12_area_118 ?_
                refine z_icmp_ne_F (M := M_X12_area) 119 dX12_area_119 131 rfl (by omega) ?_
                refine z_aload_n (M := M_X12_area) 122 dX12_area_122 rfl ?_
                refine z_getIG (M := M_X12_area) 123 dX12_area_123 f_X12_459 o_108 (by decide) (g_108_54 G11) (fun x12 ex12 ax12 bx12 => ?_)
                refine z_if_ne (M := M_X12_area) 126 dX12_area_126 131 rfl (fun c13 => ?_) (fun c13 => ?_)
                · refine z_aload_n (M := M_X12_area) 131 dX12_area_131 rfl ?_
                  refine z_aload_n (M := M_X12_area) 132 dX12_area_132 rfl ?_
                  refine z_getR (M := M_X12_area) 133 dX12_area_133 f_X12_106 o_108 rfl (g_108_48 G11) ?_
                  refine z_aload_n (M := M_X12_area) 136 dX12_area_136 rfl ?_
                  refine z_getR (M := M_X12_area) 137 dX12_area_137 f_X12_118 o_108 rfl (g_108_52 G11) ?_
                  refine z_iconst (M := M_X12_area) 140 dX12_area_140 ?_
                  refine z_laldV (M := M_X12_area) 141 dX12_area_141 o_143 (by omega) (by omega) (fun x14 ex14 => ?_)
                  refine z_aload_n (M := M_X12_area) 142 dX12_area_142 rfl ?_
                  refine z_getR (M := M_X12_area) 143 dX12_area_143 f_X12_118 o_108 rfl (g_108_52 G11) ?_
                  refine z_iconst (M := M_X12_area) 146 dX12_area_146 ?_
                  refine z_laldV (M := M_X12_area) 147 dX12_area_147 o_143 (by omega) (by omega) (fun x15 ex15 => ?_)
                  refine z_lconst (M := M_X12_area) 148 dX12_area_148 (v := 1) ?_
                  refine z_vV (M := M_X12_area) 149 dX12_area_149 t_X12_triple l_X12_472 (m_rr_of rfl) (rest := []) (c_X12_triple h11 139 x14 x15 1 (Or.inl rfl) G11) o_108 rfl rfl rfl (Nat.le_of_ble_eq_true rfl) ⟨rfl, rfl⟩ (fun h12 qx16 => ?_)
                  obtain ⟨G12, S12⟩ := qx16
                  have R12 := R11.call S12 (by decide +kernel)
                  refine z_aload_n (M := M_X12_area) 152 dX12_area_152 rfl ?_
                  refine z_aload_n (M := M_X12_area) 153 dX12_area_153 rfl ?_
                  refine z_getR (M := M_X12_area) 154 dX12_area_154 f_X12_109 o_108 rfl (g_108_49 G12) ?_
                  refine z_aload_n (M := M_X12_area) 157 dX12_area_157 rfl ?_
                  refine z_getR (M := M_X12_area) 158 dX12_area_158 f_X12_121 o_108 rfl (g_108_53 G12) ?_
                  refine z_iconst (M := M_X12_area) 161 dX12_area_161 ?_
                  refine z_laldV (M := M_X12_area) 162 dX12_area_162 o_144 (by omega) (by omega) (fun x17 ex17 => ?_)
                  refine z_aload_n (M := M_X12_area) 163 dX12_area_163 rfl ?_
                  refine z_getR (M := M_X12_area) 164 dX12_area_164 f_X12_121 o_108 rfl (g_108_53 G12) ?_
                  refine z_iconst (M := M_X12_area) 167 dX12_area_167 ?_
                  refine z_laldV (M := M_X12_area) 168 dX12_area_168 o_144 (by omega) (by omega) (fun x18 ex18 => ?_)
                  refine z_lconst (M := M_X12_area) 169 dX12_area_169 (v := 1) ?_
                  refine z_vV (M := M_X12_area) 170 dX12_area_170 t_X12_triple l_X12_472 (m_rr_of rfl) (rest := []) (c_X12_triple h12 140 x17 x18 1 (Or.inr (Or.inl rfl)) G12) o_108 rfl rfl rfl (Nat.le_of_ble_eq_true rfl) ⟨rfl, rfl⟩ (fun h13 qx19 => ?_)
                  obtain ⟨G13, S13⟩ := qx19
                  have R13 := R12.call S13 (by decide +kernel)
                  refine z_aload_n (M := M_X12_area) 173 dX12_area_173 rfl ?_
                  refine z_ldcw (M := M_X12_area) 174 dX12_area_174 k_X12_483 ?_
                  refine z_iload (M := M_X12_area) 177 dX12_area_177 rfl ?_
                  refine z_if_eq_F (M := M_X12_area) 179 dX12_area_179 189 rfl (by omega) ?_
                  refine z_aload_n (M := M_X12_area) 182 dX12_area_182 rfl ?_
                  refine z_getIG (M := M_X12_area) 183 dX12_area_183 f_X12_462 o_108 (by decide) (g_108_55 G13) (fun x20 ex20 ax20 bx20 => ?_)
                  refine z_if_eq (M := M_X12_area) 186 dX12_area_186 193 rfl (fun c21 => ?_) (fun c21 => ?_)
                  · refine z_iconst (M := M_X12_area) 193 dX12_area_193 ?_
                    refine z_vI (M := M_X12_area) 194 dX12_area_194 t_X12_often l_X12_479 (m_rr_of rfl) (rest := []) (c_X12_often h13 4000000 0 G13 ⟨by omega, by omega⟩ ⟨by omega, by omega⟩) o_108 rfl rfl rfl (Nat.le_of_ble_eq_true rfl) ⟨rfl, rfl⟩ (fun x22 h14 qx22 => ?_)
                    obtain ⟨G14, S14, ax22, bx22⟩ := qx22
                    have R14 := R13.call S14 (by decide +kernel)
                    exact z_retI (M := M_X12_area) 197 dX12_area_197 rfl ⟨G14, R14, by omega, by omega⟩
                  · refine z_iconst (M := M_X12_area) 189 dX12_area_189 ?_
                    refine z_goto (M := M_X12_area) 190 dX12_area_190 194 rfl ?_
                    refine z_vI (M := M_X12_area) 194 dX12_area_194 t_X12_often l_X12_479 (m_rr_of rfl) (rest := []) (c_X12_often h13 4000000 1 G13 ⟨by omega, by omega⟩ ⟨by omega, by omega⟩) o_108 rfl rfl rfl (Nat.le_of_ble_eq_true rfl) ⟨rfl, rfl⟩ (fun x23 h15 qx23 => ?_)
                    obtain ⟨G15, S15, ax23, bx23⟩ := qx23
                    have R15 := R13.call S15 (by decide +kernel)
                    exact z_retI (M := M_X12_area) 197 dX12_area_197 rfl ⟨G15, R15, by omega, by omega⟩
                · refine z_iconst (M := M_X12_area) 129 dX12_area_129 ?_
                  exact z_retI (M := M_X12_area) 130 dX12_area_130 rfl ⟨G11, R11, by omega, by omega⟩
              · refine z_iconst (M := M_X12_area) 91 dX12_area_91 ?_
                refine z_goto (M := M_X12_area) 92 dX12_area_92 96 rfl ?_
                refine z_vV (M := M_X12_area) 96 dX12_area_96 t_X12_takeEnd l_X12_468 (m_rr_of rfl) (rest := []) (c_X12_takeEnd h9 0 a1 a3 1 G9 ⟨by omega, by omega⟩ ⟨by omega, by omega⟩ ⟨by omega, by omega⟩ ⟨by omega, by omega⟩ (NP.call hN R9 (fun _ => rfl) (fun _ => rfl) (fun _ => rfl)) (gG_f (gG_b an.2.2 R6 (fun _ => rfl)) R9 (fun _ => rfl))) o_108 rfl rfl rfl (Nat.le_of_ble_eq_true rfl) ⟨rfl, rfl⟩ (fun h16 qx24 => ?_)
                obtain ⟨G16, S16⟩ := qx24
                have R16 := R9.call S16 (by decide +kernel)
                refine z_aload_n (M := M_X12_area) 99 dX12_area_99 rfl ?_
                refine z_iconst (M := M_X12_area) 100 dX12_area_100 ?_
                refine z_iload_n (M := M_X12_area) 101 dX12_area_101 rfl ?_
                refine z_iload_n (M := M_X12_area) 102 dX12_area_102 rfl ?_
                refine z_iload (M := M_X12_area) 103 dX12_area_103 rfl ?_
                refine z_if_ne_F (M := M_X12_area) 105 dX12_area_105 112 rfl (by omega) ?_
                refine z_iconst (M := M_X12_area) 108 dX12_area_108 ?_
                refine z_goto (M := M_X12_area) 109 dX12_area_109 113 rfl ?_
                refine z_vV (M := M_X12_area) 113 dX12_area_113 t_X12_takeEnd l_X12_468 (m_rr_of rfl) (rest := []) (c_X12_takeEnd h16 1 a2 a3 1 G16 ⟨by omega, by omega⟩ ⟨by omega, by omega⟩ ⟨by omega, by omega⟩ ⟨by omega, by omega⟩ (NP.call hN R16 (fun _ => rfl) (fun _ => rfl) (fun _ => rfl)) (gG_f (gG_b an.2.2 R6 (fun _ => rfl)) R16 (fun _ => rfl))) o_108 rfl rfl rfl (Nat.le_of_ble_eq_true rfl) ⟨rfl, rfl⟩ (fun h17 qx25 => ?_)
                obtain ⟨G17, S17⟩ := qx25
                have R17 := R16.call S17 (by decide +kernel)
                refine z_iload (M := M_X12_area) 116 dX12_area_116 rfl ?_
                refine z_iconst (M := M_X12_area) 118 dX12_area_118 ?_
                refine z_icmp_ne_T (M := M_X12_area) 119 dX12_area_119 131 rfl (by omega) ?_
                refine z_aload_n (M := M_X12_area) 131 dX12_area_131 rfl ?_
                refine z_aload_n (M := M_X12_area) 132 dX12_area_132 rfl ?_
                refine z_getR (M := M_X12_area) 133 dX12_area_133 f_X12_106 o_108 rfl (g_108_48 G17) ?_
                refine z_aload_n (M := M_X12_area) 136 dX12_area_136 rfl ?_
                refine z_getR (M := M_X12_area) 137 dX12_area_137 f_X12_118 o_108 rfl (g_108_52 G17) ?_
                refine z_iconst (M := M_X12_area) 140 dX12_area_140 ?_
                refine z_laldV (M := M_X12_area) 141 dX12_area_141 o_143 (by omega) (by omega) (fun x26 ex26 => ?_)
                refine z_aload_n (M := M_X12_area) 142 dX12_area_142 rfl ?_
                refine z_getR (M := M_X12_area) 143 dX12_area_143 f_X12_118 o_108 rfl (g_108_52 G17) ?_
                refine z_iconst (M := M_X12_area) 146 dX12_area_146 ?_
                refine z_laldV (M := M_X12_area) 147 dX12_area_147 o_143 (by omega) (by omega) (fun x27 ex27 => ?_)
                refine z_lconst (M := M_X12_area) 148 dX12_area_148 (v := 1) ?_
                refine z_vV (M := M_X12_area) 149 dX12_area_149 t_X12_triple l_X12_472 (m_rr_of rfl) (rest := []) (c_X12_triple h17 139 x26 x27 1 (Or.inl rfl) G17) o_108 rfl rfl rfl (Nat.le_of_ble_eq_true rfl) ⟨rfl, rfl⟩ (fun h18 qx28 => ?_)
                obtain ⟨G18, S18⟩ := qx28
                have R18 := R17.call S18 (by decide +kernel)
                refine z_aload_n (M := M_X12_area) 152 dX12_area_152 rfl ?_
                refine z_aload_n (M := M_X12_area) 153 dX12_area_153 rfl ?_
                refine z_getR (M := M_X12_area) 154 dX12_area_154 f_X12_109 o_108 rfl (g_108_49 G18) ?_
                refine z_aload_n (M := M_X12_area) 157 dX12_area_157 rfl ?_
                refine z_getR (M := M_X12_area) 158 dX12_area_158 f_X12_121 o_108 rfl (g_108_53 G18) ?_
                refine z_iconst (M := M_X12_area) 161 dX12_area_161 ?_
                refine z_laldV (M := M_X12_area) 162 dX12_area_162 o_144 (by omega) (by omega) (fun x29 ex29 => ?_)
                refine z_aload_n (M := M_X12_area) 163 dX12_area_163 rfl ?_
                refine z_getR (M := M_X12_area) 164 dX12_area_164 f_X12_121 o_108 rfl (g_108_53 G18) ?_
                refine z_iconst (M := M_X12_area) 167 dX12_area_167 ?_
                refine z_laldV (M := M_X12_area) 168 dX12_area_168 o_144 (by omega) (by omega) (fun x30 ex30 => ?_)
                refine z_lconst (M := M_X12_area) 169 dX12_area_169 (v := 1) ?_
                refine z_vV (M := M_X12_area) 170 dX12_area_170 t_X12_triple l_X12_472 (m_rr_of rfl) (rest := []) (c_X12_triple h18 140 x29 x30 1 (Or.inr (Or.inl rfl)) G18) o_108 rfl rfl rfl (Nat.le_of_ble_eq_true rfl) ⟨rfl, rfl⟩ (fun h19 qx31 => ?_)
                obtain ⟨G19, S19⟩ := qx31
                have R19 := R18.call S19 (by decide +kernel)
                refine z_aload_n (M := M_X12_area) 173 dX12_area_173 rfl ?_
                refine z_ldcw (M := M_X12_area) 174 dX12_area_174 k_X12_483 ?_
                refine z_iload (M := M_X12_area) 177 dX12_area_177 rfl ?_
                refine z_if_eq_T (M := M_X12_area) 179 dX12_area_179 189 rfl (by omega) ?_
                refine z_iconst (M := M_X12_area) 189 dX12_area_189 ?_
                refine z_goto (M := M_X12_area) 190 dX12_area_190 194 rfl ?_
                refine z_vI (M := M_X12_area) 194 dX12_area_194 t_X12_often l_X12_479 (m_rr_of rfl) (rest := []) (c_X12_often h19 4000000 1 G19 ⟨by omega, by omega⟩ ⟨by omega, by omega⟩) o_108 rfl rfl rfl (Nat.le_of_ble_eq_true rfl) ⟨rfl, rfl⟩ (fun x32 h20 qx32 => ?_)
                obtain ⟨G20, S20, ax32, bx32⟩ := qx32
                have R20 := R19.call S20 (by decide +kernel)
                exact z_retI (M := M_X12_area) 197 dX12_area_197 rfl ⟨G20, R20, by omega, by omega⟩
            · refine z_bipush (M := M_X12_area) 69 dX12_area_69 ?_
              exact z_retI (M := M_X12_area) 71 dX12_area_71 rfl ⟨G7, R7, by omega, by omega⟩
        · refine z_if_eq_T (M := M_X12_area) 34 dX12_area_34 41 rfl (by omega) ?_
          refine z_iconst (M := M_X12_area) 41 dX12_area_41 ?_
          refine z_istore (M := M_X12_area) 42 dX12_area_42 (ls' := [some (mR 108), some (mI a1), some (mI a2), some (mI a3), some (mI a4), some (mI 0)]) (by decide) rfl ?_
          refine z_iload (M := M_X12_area) 44 dX12_area_44 rfl ?_
          refine z_if_eq_T (M := M_X12_area) 46 dX12_area_46 69 rfl (by omega) ?_
          refine z_bipush (M := M_X12_area) 69 dX12_area_69 ?_
          exact z_retI (M := M_X12_area) 71 dX12_area_71 rfl ⟨G1, R1, by omega, by omega⟩
      · refine z_if_eq_T (M := M_X12_area) 23 dX12_area_23 41 rfl (by omega) ?_
        refine z_iconst (M := M_X12_area) 41 dX12_area_41 ?_
        refine z_istore (M := M_X12_area) 42 dX12_area_42 (ls' := [some (mR 108), some (mI a1), some (mI a2), some (mI a3), some (mI a4), some (mI 0)]) (by decide) rfl ?_
        refine z_iload (M := M_X12_area) 44 dX12_area_44 rfl ?_
        refine z_if_eq_T (M := M_X12_area) 46 dX12_area_46 69 rfl (by omega) ?_
        refine z_bipush (M := M_X12_area) 69 dX12_area_69 ?_
        exact z_retI (M := M_X12_area) 71 dX12_area_71 rfl ⟨G1, R1, by omega, by omega⟩
    · refine z_if_eq_T (M := M_X12_area) 16 dX12_area_16 41 rfl (by omega) ?_
      refine z_iconst (M := M_X12_area) 41 dX12_area_41 ?_
      refine z_istore (M := M_X12_area) 42 dX12_area_42 (ls' := [some (mR 108), some (mI a1), some (mI a2), some (mI a3), some (mI a4), some (mI 0)]) (by decide) rfl ?_
      refine z_iload (M := M_X12_area) 44 dX12_area_44 rfl ?_
      refine z_if_eq_T (M := M_X12_area) 46 dX12_area_46 69 rfl (by omega) ?_
      refine z_bipush (M := M_X12_area) 69 dX12_area_69 ?_
      exact z_retI (M := M_X12_area) 71 dX12_area_71 rfl ⟨G1, R1, by omega, by omega⟩
  · refine z_if_eq_T (M := M_X12_area) 9 dX12_area_9 41 rfl (by omega) ?_
    refine z_iconst (M := M_X12_area) 41 dX12_area_41 ?_
    refine z_istore (M := M_X12_area) 42 dX12_area_42 (ls' := [some (mR 108), some (mI a1), some (mI a2), some (mI a3), some (mI a4), some (mI 0)]) (by decide) rfl ?_
    refine z_iload (M := M_X12_area) 44 dX12_area_44 rfl ?_
    refine z_if_eq_T (M := M_X12_area) 46 dX12_area_46 69 rfl (by omega) ?_
    refine z_bipush (M := M_X12_area) 69 dX12_area_69 ?_
    exact z_retI (M := M_X12_area) 71 dX12_area_71 rfl ⟨G1, R1, by omega, by omega⟩
abbrev P_X12_findGroups (h0 : m_H) : m_H → Prop := fun h' => GI h' ∧ FR [117, 118, 119, 120, 121, 122, 123, 145] [(108, 21)] h0 h'
def q_X12_findGroups (h0 : m_H) (n : Nat) : Prop := (∀ (l1 : Int) (h : m_H), GI h → FR [117, 118, 119, 120, 121, 122, 123, 145] [(108, 21)] h0 h → 0 ≤ l1 → l1 ≤ 16 → 2 * (16 - l1) + (2127) ≤ (n : Int) → m_Z oF M_X12_findGroups 14 [some (mR 108), some (mI l1), none, none, none, none] [] h (m_QV (P_X12_findGroups h0))) ∧ (∀ (l1 : Int) (h : m_H), GI h → FR [117, 118, 119, 120, 121, 122, 123, 145] [(108, 21)] h0 h → 0 ≤ l1 → l1 ≤ 16 → 125 * (16 - l1) + (124) ≤ (n : Int) → m_Z oF M_X12_findGroups 35 [some (mR 108), some (mI l1), none, none, none, none] [] h (m_QV (P_X12_findGroups h0))) ∧ (∀ (l1 l2 : Int) (h : m_H), GI h → FR [117, 118, 119, 120, 121, 122, 123, 145] [(108, 21)] h0 h → 0 ≤ l1 → l1 ≤ 15 → 0 ≤ l2 → l2 ≤ 60 → 125 * (16 - l1) + 2 * (60 - l2) + (1) ≤ (n : Int) → m_Z oF M_X12_findGroups 43 [some (mR 108), some (mI l1), some (mI l2), none, none, none] [] h (m_QV (P_X12_findGroups h0)))
set_option maxHeartbeats 4000000 in
set_option maxRecDepth 100000 in
theorem s_X12_findGroups_14 (h0 : m_H) (G0 : GI h0) (hN : NP h0) (n : Nat) (ih : q_X12_findGroups h0 n) : ∀ (l1 : Int) (h : m_H), GI h → FR [117, 118, 119, 120, 121, 122, 123, 145] [(108, 21)] h0 h → 0 ≤ l1 → l1 ≤ 16 → 2 * (16 - l1) + (2127) ≤ ((n + 1 : Nat) : Int) → m_Z oF M_X12_findGroups 14 [some (mR 108), some (mI l1), none, none, none, none] [] h (m_QV (P_X12_findGroups h0)) := by
  intro l1 h G R v0 v1 hr
  refine z_iload_n (M := M_X12_findGroups) 14 dX12_findGroups_14 rfl ?_
  refine z_bipush (M := M_X12_findGroups) 15 dX12_findGroups_15 ?_
  refine z_icmp_ge (M := M_X12_findGroups) 17 dX12_findGroups_17 33 rfl (fun c1 => ?_) (fun c1 => ?_)
  · refine z_iconst (M := M_X12_findGroups) 33 dX12_findGroups_33 ?_
    refine z_istore_n (M := M_X12_findGroups) 34 dX12_findGroups_34 (ls' := [some (mR 108), some (mI 0), none, none, none, none]) (by decide) rfl ?_
    exact z_mask [true, true, false, false, false, false] rfl (ih.2.1 0 h G R (by omega) (by omega) (by omega))
  · refine z_aload_n (M := M_X12_findGroups) 20 dX12_findGroups_20 rfl ?_
    refine z_getR (M := M_X12_findGroups) 21 dX12_findGroups_21 f_X12_124 o_108 rfl (g_108_56 G) ?_
    refine z_iload_n (M := M_X12_findGroups) 24 dX12_findGroups_24 rfl ?_
    refine z_iload_n (M := M_X12_findGroups) 25 dX12_findGroups_25 rfl ?_
    refine z_iastH (M := M_X12_findGroups) 26 dX12_findGroups_26 o_145 (by omega) (by omega) (u_145 G (by omega) (by omega)) (R.up rfl) (fun h1 E1 G1 R1 => ?_)
    refine z_iincN (M := M_X12_findGroups) 27 dX12_findGroups_27 (ls' := [some (mR 108), some (mI (l1 + 1)), none, none, none, none]) (by decide) rfl (by (unfold m_32; decide)) (by omega) (by omega) rfl ?_
    refine z_goto (M := M_X12_findGroups) 30 dX12_findGroups_30 14 rfl ?_
    exact z_mask [true, true, false, false, false, false] rfl (ih.1 (l1 + 1) h1 G1 R1 (by omega) (by omega) (by omega))
set_option maxHeartbeats 4000000 in
set_option maxRecDepth 100000 in
theorem s_X12_findGroups_35 (h0 : m_H) (G0 : GI h0) (hN : NP h0) (n : Nat) (ih : q_X12_findGroups h0 n) : ∀ (l1 : Int) (h : m_H), GI h → FR [117, 118, 119, 120, 121, 122, 123, 145] [(108, 21)] h0 h → 0 ≤ l1 → l1 ≤ 16 → 125 * (16 - l1) + (124) ≤ ((n + 1 : Nat) : Int) → m_Z oF M_X12_findGroups 35 [some (mR 108), some (mI l1), none, none, none, none] [] h (m_QV (P_X12_findGroups h0)) := by
  intro l1 h G R v0 v1 hr
  refine z_iload_n (M := M_X12_findGroups) 35 dX12_findGroups_35 rfl ?_
  refine z_bipush (M := M_X12_findGroups) 36 dX12_findGroups_36 ?_
  refine z_icmp_ge (M := M_X12_findGroups) 38 dX12_findGroups_38 128 rfl (fun c1 => ?_) (fun c1 => ?_)
  · exact z_retV (M := M_X12_findGroups) 128 dX12_findGroups_128 rfl ⟨G, R⟩
  · refine z_iconst (M := M_X12_findGroups) 41 dX12_findGroups_41 ?_
    refine z_istore_n (M := M_X12_findGroups) 42 dX12_findGroups_42 (ls' := [some (mR 108), some (mI l1), some (mI 0), none, none, none]) (by decide) rfl ?_
    exact z_mask [true, true, true, false, false, false] rfl (ih.2.2 l1 0 h G R (by omega) (by omega) (by omega) (by omega) (by omega))
set_option maxHeartbeats 4000000 in
set_option maxRecDepth 100000 in
theorem s_X12_findGroups_43 (h0 : m_H) (G0 : GI h0) (hN : NP h0) (n : Nat) (ih : q_X12_findGroups h0 n) : ∀ (l1 l2 : Int) (h : m_H), GI h → FR [117, 118, 119, 120, 121, 122, 123, 145] [(108, 21)] h0 h → 0 ≤ l1 → l1 ≤ 15 → 0 ≤ l2 → l2 ≤ 60 → 125 * (16 - l1) + 2 * (60 - l2) + (1) ≤ ((n + 1 : Nat) : Int) → m_Z oF M_X12_findGroups 43 [some (mR 108), some (mI l1), some (mI l2), none, none, none] [] h (m_QV (P_X12_findGroups h0)) := by
  intro l1 l2 h G R v0 v1 v2 v3 hr
  refine z_iload_n (M := M_X12_findGroups) 43 dX12_findGroups_43 rfl ?_
  refine z_aload_n (M := M_X12_findGroups) 44 dX12_findGroups_44 rfl ?_
  refine z_getIG (M := M_X12_findGroups) 45 dX12_findGroups_45 f_X12_333 o_108 (by decide) (g_108_21 G) (fun x1 ex1 ax1 bx1 => ?_)
  refine z_icmp_ge (M := M_X12_findGroups) 48 dX12_findGroups_48 122 rfl (fun c2 => ?_) (fun c2 => ?_)
  · refine z_iincN (M := M_X12_findGroups) 122 dX12_findGroups_122 (ls' := [some (mR 108), some (mI (l1 + 1)), some (mI l2), none, none, none]) (by decide) rfl (by (unfold m_32; decide)) (by omega) (by omega) rfl ?_
    refine z_goto (M := M_X12_findGroups) 125 dX12_findGroups_125 35 rfl ?_
    exact z_mask [true, true, false, false, false, false] rfl (ih.2.1 (l1 + 1) h G R (by omega) (by omega) (by omega))
  · refine z_aload_n (M := M_X12_findGroups) 51 dX12_findGroups_51 rfl ?_
    refine z_getR (M := M_X12_findGroups) 52 dX12_findGroups_52 f_X12_124 o_108 rfl (g_108_56 G) ?_
    refine z_aload_n (M := M_X12_findGroups) 55 dX12_findGroups_55 rfl ?_
    refine z_getR (M := M_X12_findGroups) 56 dX12_findGroups_56 f_X12_40 o_108 rfl (g_108_22 G) ?_
    refine z_iload_n (M := M_X12_findGroups) 59 dX12_findGroups_59 rfl ?_
    refine z_ialdG (M := M_X12_findGroups) 60 dX12_findGroups_60 o_117 (by omega) (by omega) (g_117 G (by omega)) (fun x3 ex3 ax3 bx3 => ?_)
    refine z_ialdG (M := M_X12_findGroups) 61 dX12_findGroups_61 o_145 (by omega) (by omega) (g_145 G (by omega)) (fun x4 ex4 ax4 bx4 => ?_)
    refine z_istore_n (M := M_X12_findGroups) 62 dX12_findGroups_62 (ls' := [some (mR 108), some (mI l1), some (mI l2), some (mI x4), none, none]) (by decide) rfl ?_
    refine z_aload_n (M := M_X12_findGroups) 63 dX12_findGroups_63 rfl ?_
    refine z_getR (M := M_X12_findGroups) 64 dX12_findGroups_64 f_X12_124 o_108 rfl (g_108_56 G) ?_
    refine z_aload_n (M := M_X12_findGroups) 67 dX12_findGroups_67 rfl ?_
    refine z_getR (M := M_X12_findGroups) 68 dX12_findGroups_68 f_X12_43 o_108 rfl (g_108_23 G) ?_
    refine z_iload_n (M := M_X12_findGroups) 71 dX12_findGroups_71 rfl ?_
    refine z_ialdG (M := M_X12_findGroups) 72 dX12_findGroups_72 o_118 (by omega) (by omega) (g_118 G (by omega)) (fun x5 ex5 ax5 bx5 => ?_)
    refine z_ialdG (M := M_X12_findGroups) 73 dX12_findGroups_73 o_145 (by omega) (by omega) (g_145 G (by omega)) (fun x6 ex6 ax6 bx6 => ?_)
    refine z_istore (M := M_X12_findGroups) 74 dX12_findGroups_74 (ls' := [some (mR 108), some (mI l1), some (mI l2), some (mI x4), some (mI x6), none]) (by decide) rfl ?_
    refine z_iload_n (M := M_X12_findGroups) 76 dX12_findGroups_76 rfl ?_
    refine z_iload (M := M_X12_findGroups) 77 dX12_findGroups_77 rfl ?_
    refine z_icmp_ge (M := M_X12_findGroups) 79 dX12_findGroups_79 86 rfl (fun c7 => ?_) (fun c7 => ?_)
    · refine z_iload (M := M_X12_findGroups) 86 dX12_findGroups_86 rfl ?_
      refine z_istore (M := M_X12_findGroups) 88 dX12_findGroups_88 (ls' := [some (mR 108), some (mI l1), some (mI l2), some (mI x4), some (mI x6), some (mI x6)]) (by decide) rfl ?_
      refine z_aload_n (M := M_X12_findGroups) 90 dX12_findGroups_90 rfl ?_
      refine z_getR (M := M_X12_findGroups) 91 dX12_findGroups_91 f_X12_124 o_108 rfl (g_108_56 G) ?_
      refine z_aload_n (M := M_X12_findGroups) 94 dX12_findGroups_94 rfl ?_
      refine z_getR (M := M_X12_findGroups) 95 dX12_findGroups_95 f_X12_40 o_108 rfl (g_108_22 G) ?_
      refine z_iload_n (M := M_X12_findGroups) 98 dX12_findGroups_98 rfl ?_
      refine z_ialdE (M := M_X12_findGroups) 99 dX12_findGroups_99 o_117 (by omega) (by omega) ex3 ?_
      refine z_iload (M := M_X12_findGroups) 100 dX12_findGroups_100 rfl ?_
      refine z_iastH (M := M_X12_findGroups) 102 dX12_findGroups_102 o_145 (by omega) (by omega) (u_145 G (by omega) (by omega)) (R.up rfl) (fun h1 E1 G1 R1 => ?_)
      refine z_aload_n (M := M_X12_findGroups) 103 dX12_findGroups_103 rfl ?_
      refine z_getR (M := M_X12_findGroups) 104 dX12_findGroups_104 f_X12_124 o_108 rfl (g_108_56 G1) ?_
      refine z_aload_n (M := M_X12_findGroups) 107 dX12_findGroups_107 rfl ?_
      refine z_getR (M := M_X12_findGroups) 108 dX12_findGroups_108 f_X12_43 o_108 rfl (g_108_23 G1) ?_
      refine z_iload_n (M := M_X12_findGroups) 111 dX12_findGroups_111 rfl ?_
      refine z_ialdG (M := M_X12_findGroups) 112 dX12_findGroups_112 o_118 (by omega) (by omega) (g_118 G1 (by omega)) (fun x8 ex8 ax8 bx8 => ?_)
      refine z_iload (M := M_X12_findGroups) 113 dX12_findGroups_113 rfl ?_
      refine z_iastH (M := M_X12_findGroups) 115 dX12_findGroups_115 o_145 (by omega) (by omega) (u_145 G1 (by omega) (by omega)) (R1.up rfl) (fun h2 E2 G2 R2 => ?_)
      refine z_iincN (M := M_X12_findGroups) 116 dX12_findGroups_116 (ls' := [some (mR 108), some (mI l1), some (mI (l2 + 1)), some (mI x4), some (mI x6), some (mI x6)]) (by decide) rfl (by (unfold m_32; decide)) (by omega) (by omega) rfl ?_
      refine z_goto (M := M_X12_findGroups) 119 dX12_findGroups_119 43 rfl ?_
      exact z_mask [true, true, true, false, false, false] rfl (ih.2.2 l1 (l2 + 1) h2 G2 R2 (by omega) (by omega) (by omega) (by omega) (by omega))
    · refine z_iload_n (M := M_X12_findGroups) 82 dX12_findGroups_82 rfl ?_
      refine z_goto (M := M_X12_findGroups) 83 dX12_findGroups_83 88 rfl ?_
      refine z_istore (M := M_X12_findGroups) 88 dX12_findGroups_88 (ls' := [some (mR 108), some (mI l1), some (mI l2), some (mI x4), some (mI x6), some (mI x4)]) (by decide) rfl ?_
      refine z_aload_n (M := M_X12_findGroups) 90 dX12_findGroups_90 rfl ?_
      refine z_getR (M := M_X12_findGroups) 91 dX12_findGroups_91 f_X12_124 o_108 rfl (g_108_56 G) ?_
      refine z_aload_n (M := M_X12_findGroups) 94 dX12_findGroups_94 rfl ?_
      refine z_getR (M := M_X12_findGroups) 95 dX12_findGroups_95 f_X12_40 o_108 rfl (g_108_22 G) ?_
      refine z_iload_n (M := M_X12_findGroups) 98 dX12_findGroups_98 rfl ?_
      refine z_ialdE (M := M_X12_findGroups) 99 dX12_findGroups_99 o_117 (by omega) (by omega) ex3 ?_
      refine z_iload (M := M_X12_findGroups) 100 dX12_findGroups_100 rfl ?_
      refine z_iastH (M := M_X12_findGroups) 102 dX12_findGroups_102 o_145 (by omega) (by omega) (u_145 G (by omega) (by omega)) (R.up rfl) (fun h3 E3 G3 R3 => ?_)
      refine z_aload_n (M := M_X12_findGroups) 103 dX12_findGroups_103 rfl ?_
      refine z_getR (M := M_X12_findGroups) 104 dX12_findGroups_104 f_X12_124 o_108 rfl (g_108_56 G3) ?_
      refine z_aload_n (M := M_X12_findGroups) 107 dX12_findGroups_107 rfl ?_
      refine z_getR (M := M_X12_findGroups) 108 dX12_findGroups_108 f_X12_43 o_108 rfl (g_108_23 G3) ?_
      refine z_iload_n (M := M_X12_findGroups) 111 dX12_findGroups_111 rfl ?_
      refine z_ialdG (M := M_X12_findGroups) 112 dX12_findGroups_112 o_118 (by omega) (by omega) (g_118 G3 (by omega)) (fun x9 ex9 ax9 bx9 => ?_)
      refine z_iload (M := M_X12_findGroups) 113 dX12_findGroups_113 rfl ?_
      refine z_iastH (M := M_X12_findGroups) 115 dX12_findGroups_115 o_145 (by omega) (by omega) (u_145 G3 (by omega) (by omega)) (R3.up rfl) (fun h4 E4 G4 R4 => ?_)
      refine z_iincN (M := M_X12_findGroups) 116 dX12_findGroups_116 (ls' := [some (mR 108), some (mI l1), some (mI (l2 + 1)), some (mI x4), some (mI x6), some (mI x4)]) (by decide) rfl (by (unfold m_32; decide)) (by omega) (by omega) rfl ?_
      refine z_goto (M := M_X12_findGroups) 119 dX12_findGroups_119 43 rfl ?_
      exact z_mask [true, true, true, false, false, false] rfl (ih.2.2 l1 (l2 + 1) h4 G4 R4 (by omega) (by omega) (by omega) (by omega) (by omega))
theorem a_X12_findGroups (h0 : m_H) (G0 : GI h0) (hN : NP h0) : ∀ n, q_X12_findGroups h0 n := by
  intro n
  induction n with
  | zero => unfold q_X12_findGroups; refine ⟨?_, ?_, ?_⟩ <;> (intros; omega)
  | succ n ih => exact ⟨s_X12_findGroups_14 h0 G0 hN n ih, s_X12_findGroups_35 h0 G0 hN n ih, s_X12_findGroups_43 h0 G0 hN n ih⟩
set_option maxHeartbeats 4000000 in
set_option maxRecDepth 100000 in
theorem c_X12_findGroups (h0 : m_H) (G0 : GI h0) (hN : NP h0) : m_CV M_X12_findGroups [mR 108] h0 (P_X12_findGroups h0) := by
  refine m_CV_of ⟨by decide, rfl, by simp [m_arg, m_isL, M_X12_findGroups], ⟨rfl, rfl⟩, rfl, rfl⟩ (ls := [some (mR 108), none, none, none, none, none]) rfl ?_
  have ih := a_X12_findGroups h0 G0 hN 2166
  refine z_aload_n (M := M_X12_findGroups) 0 dX12_findGroups_0 rfl ?_
  refine z_vV (M := M_X12_findGroups) 1 dX12_findGroups_1 t_X12_asIs l_X12_367 (m_rr_of rfl) (rest := []) (c_X12_asIsX h0 G0) o_108 rfl rfl rfl (Nat.le_of_ble_eq_true rfl) ⟨rfl, rfl⟩ (fun h1 qx1 => ?_)
  obtain ⟨G1, S1, fx1_0⟩ := qx1
  have R1 := (FR.rf (cs := [117, 118, 119, 120, 121, 122, 123, 145]) (ss := [(108, 21)]) (h := h0)).call S1 (by decide +kernel)
  refine z_aload_n (M := M_X12_findGroups) 4 dX12_findGroups_4 rfl ?_
  refine z_aload_n (M := M_X12_findGroups) 5 dX12_findGroups_5 rfl ?_
  refine z_vI (M := M_X12_findGroups) 6 dX12_findGroups_6 t_X12_counting l_X12_370 (m_rr_of rfl) (rest := [mR 108]) (c_X12_countingX h1 G1) o_108 rfl rfl rfl (Nat.le_of_ble_eq_true rfl) ⟨rfl, rfl⟩ (fun x2 h2 qx2 => ?_)
  obtain ⟨G2, S2, fx2_0⟩ := qx2
  have R2 := R1.call S2 (by decide +kernel)
  refine z_ok (fun ox2 _ _ => ?_)
  have ox2 := ox2.1; unfold m_ok m_32 at ox2
  refine z_vV (M := M_X12_findGroups) 9 dX12_findGroups_9 t_X12_build l_X12_354 (m_rr_of rfl) (rest := []) (c_X12_build h2 x2 G2 (NP.call hN R2 (fun _ => rfl) (fun _ => rfl) (fun _ => rfl))) o_108 rfl rfl rfl (Nat.le_of_ble_eq_true rfl) ⟨rfl, rfl⟩ (fun h3 qx3 => ?_)
  obtain ⟨G3, S3, fx3_0⟩ := qx3
  have R3 := R2.call S3 (by decide +kernel)
  refine z_iconst (M := M_X12_findGroups) 12 dX12_findGroups_12 ?_
  refine z_istore_n (M := M_X12_findGroups) 13 dX12_findGroups_13 (ls' := [some (mR 108), some (mI 0), none, none, none, none]) (by decide) rfl ?_
  exact z_mask [true, true, false, false, false, false] rfl (ih.1 0 h3 G3 R3 (by omega) (by omega) (by omega))
