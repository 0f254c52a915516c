abbrev P_X12_number (h0 : m_H) (a1 a2 : Int) : Int → m_H → Prop := fun x h' => GI h' ∧ FR [] [(108, 9), (108, 10), (108, 11), (108, 12), (108, 13), (108, 14)] h0 h' ∧ h0 108 9 ≤ h' 108 9 ∧ PIp h' ∧ Im (h' 108 14 = 0) (h0 108 14 = 0 ∧ a1 ≤ x ∧ x ≤ a2 ∧ h0 108 9 + 1 ≤ h' 108 9)
set_option maxHeartbeats 4000000 in
set_option maxRecDepth 100000 in
theorem c_X12_number (h0 : m_H) (a1 a2 : Int) (G0 : GI h0) (pa1 : 0 ≤ a1 ∧ a1 ≤ 1000) (pa2 : 0 ≤ a2 ∧ a2 ≤ 1000) (hp : PIp h0) : m_CI M_X12_number [mR 108, mJ a1, mJ a2] h0 (P_X12_number h0 a1 a2) := by
  refine m_CI_of ⟨by decide, rfl, by simp [m_arg, m_isL, M_X12_number], ⟨rfl, rfl⟩, rfl, rfl⟩ (ls := [some (mR 108), some (mJ a1), none, some (mJ a2), none, none]) rfl ?_
  have hl := hp.le
  obtain ⟨x1, ex1⟩ : ∃ y : Int, h0 108 9 = y := ⟨_, rfl⟩
  have bx1 : 0 ≤ x1 ∧ x1 ≤ 400 := ex1 ▸ g_108_9 G0
  obtain ⟨x2, ex2⟩ : ∃ y : Int, h0 108 10 = y := ⟨_, rfl⟩
  have bx2 : 0 ≤ x2 ∧ x2 ≤ 400 := ex2 ▸ g_108_10 G0
  obtain ⟨x3, ex3⟩ : ∃ y : Int, h0 108 11 = y := ⟨_, rfl⟩
  have bx3 : 0 ≤ x3 ∧ x3 ≤ 3 := ex3 ▸ g_108_11 G0
  obtain ⟨x4, ex4⟩ : ∃ y : Int, h0 108 8 = y := ⟨_, rfl⟩
  have bx4 : 0 ≤ x4 ∧ x4 ≤ 400 := ex4 ▸ g_108_8 G0
  obtain ⟨x5, ex5⟩ : ∃ y : Int, h0 108 14 = y := ⟨_, rfl⟩
  have bx5 : 0 ≤ x5 ∧ x5 ≤ 1 := ex5 ▸ g_108_14 G0
  obtain ⟨x6, ex6⟩ : ∃ y : Int, h0 108 12 = y := ⟨_, rfl⟩
  refine z_aload_n (M := M_X12_number) 0 dX12_number_0 rfl ?_
  refine z_getJE (M := M_X12_number) 1 dX12_number_1 f_X12_224 o_108 rfl ex6 ?_
  refine z_l2i (M := M_X12_number) 4 dX12_number_4 ?_
  refine z_topm (fun x7 ex7 ox7 => ?_)
  unfold m_32 at ox7
  have mw := m_w_or ex7
  refine z_istore (M := M_X12_number) 5 dX12_number_5 (ls' := [some (mR 108), some (mJ a1), none, some (mJ a2), none, some (mI x7)]) (by decide) rfl ?_
  refine z_aload_n (M := M_X12_number) 7 dX12_number_7 rfl ?_
  refine z_aload_n (M := M_X12_number) 8 dX12_number_8 rfl ?_
  refine z_getIE (M := M_X12_number) 9 dX12_number_9 f_X12_234 o_108 (by decide) ex3 ?_
  refine z_iconst (M := M_X12_number) 12 dX12_number_12 ?_
  refine z_icmp_ne (M := M_X12_number) 13 dX12_number_13 32 rfl (fun c8 => ?_) (fun c8 => ?_)
  · refine z_iconst (M := M_X12_number) 32 dX12_number_32 ?_
    have w9 : h0 108 9 = x1 := ex1
    have w10 : h0 108 10 = x2 := ex2
    have w11 : h0 108 11 = x3 := ex3
    have w12 : h0 108 8 = x4 := ex4
    refine z_vV (M := M_X12_number) 33 dX12_number_33 t_X12_must l_X12_247 (m_rr_of rfl) (rest := []) (c_X12_must h0 0 G0 ⟨by omega, by omega⟩ hp) o_108 rfl rfl rfl (Nat.le_of_ble_eq_true rfl) ⟨rfl, rfl⟩ (fun h1 qx13 => ?_)
    obtain ⟨G1, S1, fx13_0, fx13_1, fx13_2⟩ := qx13
    have R1 := (FR.rf (cs := []) (ss := [(108, 9), (108, 10), (108, 11), (108, 12), (108, 13), (108, 14)]) (h := h0)).call S1 (by decide +kernel)
    obtain ⟨x14, ex14⟩ : ∃ y : Int, h1 108 9 = y := ⟨_, rfl⟩
    have bx14 : 0 ≤ x14 ∧ x14 ≤ 400 := ex14 ▸ g_108_9 G1
    obtain ⟨x15, ex15⟩ : ∃ y : Int, h1 108 10 = y := ⟨_, rfl⟩
    have bx15 : 0 ≤ x15 ∧ x15 ≤ 400 := ex15 ▸ g_108_10 G1
    obtain ⟨x16, ex16⟩ : ∃ y : Int, h1 108 11 = y := ⟨_, rfl⟩
    have bx16 : 0 ≤ x16 ∧ x16 ≤ 3 := ex16 ▸ g_108_11 G1
    obtain ⟨x17, ex17⟩ : ∃ y : Int, h1 108 14 = y := ⟨_, rfl⟩
    have bx17 : 0 ≤ x17 ∧ x17 ≤ 1 := ex17 ▸ g_108_14 G1
    have w18 : h1 108 9 = x14 := ex14
    have w19 : h1 108 10 = x15 := ex15
    have w20 : h1 108 11 = x16 := ex16
    have w21 : h1 108 8 = x4 := ((S1 108 8 rfl).trans ex4)
    have w22 : h1 108 14 = x17 := ex17
    have l23 := fx13_1.le
    have nbx13 : x17 ≠ 0 := fun q => by have q2 := fx13_2 (by omega); omega
    refine z_iload (M := M_X12_number) 36 dX12_number_36 rfl ?_
    have w24 : h1 108 9 = x14 := ex14
    have w25 : h1 108 10 = x15 := ex15
    have w26 : h1 108 11 = x16 := ex16
    have w27 : h1 108 8 = x4 := ((S1 108 8 rfl).trans ex4)
    have w28 : h1 108 14 = x17 := ex17
    exact z_retI (M := M_X12_number) 38 dX12_number_38 rfl ⟨G1, R1, by omega, fx13_1, fun q => by have ufx13_2 := fx13_2 (by omega); have ul := hp.lt (by omega); omega⟩
  · refine z_aload_n (M := M_X12_number) 16 dX12_number_16 rfl ?_
    refine z_getJE (M := M_X12_number) 17 dX12_number_17 f_X12_224 o_108 rfl ex6 ?_
    refine z_lload_n (M := M_X12_number) 20 dX12_number_20 rfl ?_
    refine z_lload_n (M := M_X12_number) 21 dX12_number_21 rfl ?_
    refine z_sI (M := M_X12_number) 22 dX12_number_22 t_X12_in l_X12_143 (m_rr_of rfl) (rest := [mR 108]) (c_X12_in h0 x6 a1 a2 G0) rfl rfl (Nat.le_of_ble_eq_true rfl) ⟨rfl, rfl⟩ (fun x29 h2 qx29 => ?_)
    obtain ⟨rfl, ⟨rfl, cx29⟩ | ⟨rfl, cx29⟩⟩ := qx29
    · refine z_if_eq_F (M := M_X12_number) 25 dX12_number_25 32 rfl (by omega) ?_
      refine z_iconst (M := M_X12_number) 28 dX12_number_28 ?_
      refine z_goto (M := M_X12_number) 29 dX12_number_29 33 rfl ?_
      have w30 : h0 108 9 = x1 := ex1
      have w31 : h0 108 10 = x2 := ex2
      have w32 : h0 108 11 = x3 := ex3
      have w33 : h0 108 8 = x4 := ex4
      refine z_vV (M := M_X12_number) 33 dX12_number_33 t_X12_must l_X12_247 (m_rr_of rfl) (rest := []) (c_X12_must h0 1 G0 ⟨by omega, by omega⟩ hp) o_108 rfl rfl rfl (Nat.le_of_ble_eq_true rfl) ⟨rfl, rfl⟩ (fun h3 qx34 => ?_)
      obtain ⟨G3, S3, fx34_0, fx34_1, fx34_2⟩ := qx34
      have R3 := (FR.rf (cs := []) (ss := [(108, 9), (108, 10), (108, 11), (108, 12), (108, 13), (108, 14)]) (h := h0)).call S3 (by decide +kernel)
      obtain ⟨x35, ex35⟩ : ∃ y : Int, h3 108 9 = y := ⟨_, rfl⟩
      have bx35 : 0 ≤ x35 ∧ x35 ≤ 400 := ex35 ▸ g_108_9 G3
      obtain ⟨x36, ex36⟩ : ∃ y : Int, h3 108 10 = y := ⟨_, rfl⟩
      have bx36 : 0 ≤ x36 ∧ x36 ≤ 400 := ex36 ▸ g_108_10 G3
      obtain ⟨x37, ex37⟩ : ∃ y : Int, h3 108 11 = y := ⟨_, rfl⟩
      have bx37 : 0 ≤ x37 ∧ x37 ≤ 3 := ex37 ▸ g_108_11 G3
      obtain ⟨x38, ex38⟩ : ∃ y : Int, h3 108 14 = y := ⟨_, rfl⟩
      have bx38 : 0 ≤ x38 ∧ x38 ≤ 1 := ex38 ▸ g_108_14 G3
      have w39 : h3 108 9 = x35 := ex35
      have w40 : h3 108 10 = x36 := ex36
      have w41 : h3 108 11 = x37 := ex37
      have w42 : h3 108 8 = x4 := ((S3 108 8 rfl).trans ex4)
      have w43 : h3 108 14 = x38 := ex38
      have l44 := fx34_1.le
      refine z_iload (M := M_X12_number) 36 dX12_number_36 rfl ?_
      have w45 : h3 108 9 = x35 := ex35
      have w46 : h3 108 10 = x36 := ex36
      have w47 : h3 108 11 = x37 := ex37
      have w48 : h3 108 8 = x4 := ((S3 108 8 rfl).trans ex4)
      have w49 : h3 108 14 = x38 := ex38
      exact z_retI (M := M_X12_number) 38 dX12_number_38 rfl ⟨G3, R3, by omega, fx34_1, fun q => by have ufx34_2 := fx34_2 (by omega); have ul := hp.lt (by omega); omega⟩
    · refine z_if_eq_T (M := M_X12_number) 25 dX12_number_25 32 rfl (by omega) ?_
      refine z_iconst (M := M_X12_number) 32 dX12_number_32 ?_
      have w50 : h0 108 9 = x1 := ex1
      have w51 : h0 108 10 = x2 := ex2
      have w52 : h0 108 11 = x3 := ex3
      have w53 : h0 108 8 = x4 := ex4
      refine z_vV (M := M_X12_number) 33 dX12_number_33 t_X12_must l_X12_247 (m_rr_of rfl) (rest := []) (c_X12_must h0 0 G0 ⟨by omega, by omega⟩ hp) o_108 rfl rfl rfl (Nat.le_of_ble_eq_true rfl) ⟨rfl, rfl⟩ (fun h4 qx54 => ?_)
      obtain ⟨G4, S4, fx54_0, fx54_1, fx54_2⟩ := qx54
      have R4 := (FR.rf (cs := []) (ss := [(108, 9), (108, 10), (108, 11), (108, 12), (108, 13), (108, 14)]) (h := h0)).call S4 (by decide +kernel)
      obtain ⟨x55, ex55⟩ : ∃ y : Int, h4 108 9 = y := ⟨_, rfl⟩
      have bx55 : 0 ≤ x55 ∧ x55 ≤ 400 := ex55 ▸ g_108_9 G4
      obtain ⟨x56, ex56⟩ : ∃ y : Int, h4 108 10 = y := ⟨_, rfl⟩
      have bx56 : 0 ≤ x56 ∧ x56 ≤ 400 := ex56 ▸ g_108_10 G4
      obtain ⟨x57, ex57⟩ : ∃ y : Int, h4 108 11 = y := ⟨_, rfl⟩
      have bx57 : 0 ≤ x57 ∧ x57 ≤ 3 := ex57 ▸ g_108_11 G4
      obtain ⟨x58, ex58⟩ : ∃ y : Int, h4 108 14 = y := ⟨_, rfl⟩
      have bx58 : 0 ≤ x58 ∧ x58 ≤ 1 := ex58 ▸ g_108_14 G4
      have w59 : h4 108 9 = x55 := ex55
      have w60 : h4 108 10 = x56 := ex56
      have w61 : h4 108 11 = x57 := ex57
      have w62 : h4 108 8 = x4 := ((S4 108 8 rfl).trans ex4)
      have w63 : h4 108 14 = x58 := ex58
      have l64 := fx54_1.le
      have nbx54 : x58 ≠ 0 := fun q => by have q2 := fx54_2 (by omega); omega
      refine z_iload (M := M_X12_number) 36 dX12_number_36 rfl ?_
      have w65 : h4 108 9 = x55 := ex55
      have w66 : h4 108 10 = x56 := ex56
      have w67 : h4 108 11 = x57 := ex57
      have w68 : h4 108 8 = x4 := ((S4 108 8 rfl).trans ex4)
      have w69 : h4 108 14 = x58 := ex58
      exact z_retI (M := M_X12_number) 38 dX12_number_38 rfl ⟨G4, R4, by omega, fx54_1, fun q => by have ufx54_2 := fx54_2 (by omega); have ul := hp.lt (by omega); omega⟩
abbrev P_X12_isDrafted (h0 : m_H) (a1 a2 : Int) : Int → m_H → Prop := fun x h' => GI h' ∧ FR [] [] h0 h' ∧ 0 ≤ x ∧ x ≤ 1
def q_X12_isDrafted (h0 : m_H) (a1 a2 : Int) (n : Nat) : Prop := (∀ (l3 l4 : Int) (h : m_H), GI h → FR [] [] h0 h → 0 ≤ l3 → l3 ≤ 1 → 0 ≤ l4 → l4 ≤ 200 → (-2147483648) ≤ a1 → a1 ≤ 2147483647 → (-2147483648) ≤ a2 → a2 ≤ 2147483647 → 2 * (200 - l4) + (1) ≤ (n : Int) → m_Z oF M_X12_isDrafted 10 [some (mR 108), some (mI a1), some (mI a2), some (mI l3), some (mI l4)] [] h (m_QI (P_X12_isDrafted h0 a1 a2)))
set_option maxHeartbeats 4000000 in
set_option maxRecDepth 100000 in
theorem s_X12_isDrafted_10 (h0 : m_H) (a1 a2 : Int) (G0 : GI h0) (n : Nat) (ih : q_X12_isDrafted h0 a1 a2 n) : ∀ (l3 l4 : Int) (h : m_H), GI h → FR [] [] h0 h → 0 ≤ l3 → l3 ≤ 1 → 0 ≤ l4 → l4 ≤ 200 → (-2147483648) ≤ a1 → a1 ≤ 2147483647 → (-2147483648) ≤ a2 → a2 ≤ 2147483647 → 2 * (200 - l4) + (1) ≤ ((n + 1 : Nat) : Int) → m_Z oF M_X12_isDrafted 10 [some (mR 108), some (mI a1), some (mI a2), some (mI l3), some (mI l4)] [] h (m_QI (P_X12_isDrafted h0 a1 a2)) := by
  intro l3 l4 h G R v0 v1 v2 v3 v4 v5 v6 v7 hr
  refine z_iload (M := M_X12_isDrafted) 10 dX12_isDrafted_10 rfl ?_
  refine z_aload_n (M := M_X12_isDrafted) 12 dX12_isDrafted_12 rfl ?_
  refine z_getIG (M := M_X12_isDrafted) 13 dX12_isDrafted_13 f_X12_251 o_108 (by decide) (g_108_16 G) (fun x1 ex1 ax1 bx1 => ?_)
  refine z_icmp_ge (M := M_X12_isDrafted) 16 dX12_isDrafted_16 78 rfl (fun c2 => ?_) (fun c2 => ?_)
  · refine z_iload_n (M := M_X12_isDrafted) 78 dX12_isDrafted_78 rfl ?_
    exact z_retZ (M := M_X12_isDrafted) 79 dX12_isDrafted_79 rfl (by omega) ⟨G, R, by omega, by omega⟩
  · refine z_iload_n (M := M_X12_isDrafted) 19 dX12_isDrafted_19 rfl ?_
    refine z_if_ne (M := M_X12_isDrafted) 20 dX12_isDrafted_20 66 rfl (fun c3 => ?_) (fun c3 => ?_)
    · refine z_iconst (M := M_X12_isDrafted) 66 dX12_isDrafted_66 ?_
      refine z_goto (M := M_X12_isDrafted) 67 dX12_isDrafted_67 71 rfl ?_
      refine z_istore_n (M := M_X12_isDrafted) 71 dX12_isDrafted_71 (ls' := [some (mR 108), some (mI a1), some (mI a2), some (mI 1), some (mI l4)]) (by decide) rfl ?_
      refine z_iincN (M := M_X12_isDrafted) 72 dX12_isDrafted_72 (ls' := [some (mR 108), some (mI a1), some (mI a2), some (mI 1), some (mI (l4 + 1))]) (by decide) rfl (by (unfold m_32; decide)) (by omega) (by omega) rfl ?_
      refine z_goto (M := M_X12_isDrafted) 75 dX12_isDrafted_75 10 rfl ?_
      exact z_mask [true, true, true, true, true] rfl (ih 1 (l4 + 1) h G R (by omega) (by omega) (by omega) (by omega) (by omega) (by omega) (by omega) (by omega) (by omega))
    · refine z_aload_n (M := M_X12_isDrafted) 23 dX12_isDrafted_23 rfl ?_
      refine z_getR (M := M_X12_isDrafted) 24 dX12_isDrafted_24 f_X12_30 o_108 rfl (g_108_15 G) ?_
      refine z_iconst (M := M_X12_isDrafted) 27 dX12_isDrafted_27 ?_
      refine z_iload (M := M_X12_isDrafted) 28 dX12_isDrafted_28 rfl ?_
      refine z_imulN (M := M_X12_isDrafted) 30 dX12_isDrafted_30 (by omega) (by omega) ?_
      refine z_ialdV (M := M_X12_isDrafted) 31 dX12_isDrafted_31 o_114 (by omega) (by omega) (fun x4 ex4 => ?_)
      refine z_ok (fun ox4 _ _ => ?_)
      have ox4 := ox4.1; unfold m_ok m_32 at ox4
      refine z_iconst (M := M_X12_isDrafted) 32 dX12_isDrafted_32 ?_
      refine z_icmp_ne (M := M_X12_isDrafted) 33 dX12_isDrafted_33 70 rfl (fun c5 => ?_) (fun c5 => ?_)
      · refine z_iconst (M := M_X12_isDrafted) 70 dX12_isDrafted_70 ?_
        refine z_istore_n (M := M_X12_isDrafted) 71 dX12_isDrafted_71 (ls' := [some (mR 108), some (mI a1), some (mI a2), some (mI 0), some (mI l4)]) (by decide) rfl ?_
        refine z_iincN (M := M_X12_isDrafted) 72 dX12_isDrafted_72 (ls' := [some (mR 108), some (mI a1), some (mI a2), some (mI 0), some (mI (l4 + 1))]) (by decide) rfl (by (unfold m_32; decide)) (by omega) (by omega) rfl ?_
        refine z_goto (M := M_X12_isDrafted) 75 dX12_isDrafted_75 10 rfl ?_
        exact z_mask [true, true, true, true, true] rfl (ih 0 (l4 + 1) h G R (by omega) (by omega) (by omega) (by omega) (by omega) (by omega) (by omega) (by omega) (by omega))
      · refine z_aload_n (M := M_X12_isDrafted) 36 dX12_isDrafted_36 rfl ?_
        refine z_getR (M := M_X12_isDrafted) 37 dX12_isDrafted_37 f_X12_30 o_108 rfl (g_108_15 G) ?_
        refine z_iconst (M := M_X12_isDrafted) 40 dX12_isDrafted_40 ?_
        refine z_iload (M := M_X12_isDrafted) 41 dX12_isDrafted_41 rfl ?_
        refine z_imulN (M := M_X12_isDrafted) 43 dX12_isDrafted_43 (by omega) (by omega) ?_
        refine z_iconst (M := M_X12_isDrafted) 44 dX12_isDrafted_44 ?_
        refine z_iaddN (M := M_X12_isDrafted) 45 dX12_isDrafted_45 (by omega) (by omega) ?_
        refine z_ialdV (M := M_X12_isDrafted) 46 dX12_isDrafted_46 o_114 (by omega) (by omega) (fun x6 ex6 => ?_)
        refine z_ok (fun ox6 _ _ => ?_)
        have ox6 := ox6.1; unfold m_ok m_32 at ox6
        refine z_iload_n (M := M_X12_isDrafted) 47 dX12_isDrafted_47 rfl ?_
        refine z_icmp_ne (M := M_X12_isDrafted) 48 dX12_isDrafted_48 70 rfl (fun c7 => ?_) (fun c7 => ?_)
        · refine z_iconst (M := M_X12_isDrafted) 70 dX12_isDrafted_70 ?_
          refine z_istore_n (M := M_X12_isDrafted) 71 dX12_isDrafted_71 (ls' := [some (mR 108), some (mI a1), some (mI a2), some (mI 0), some (mI l4)]) (by decide) rfl ?_
          refine z_iincN (M := M_X12_isDrafted) 72 dX12_isDrafted_72 (ls' := [some (mR 108), some (mI a1), some (mI a2), some (mI 0), some (mI (l4 + 1))]) (by decide) rfl (by (unfold m_32; decide)) (by omega) (by omega) rfl ?_
          refine z_goto (M := M_X12_isDrafted) 75 dX12_isDrafted_75 10 rfl ?_
          exact z_mask [true, true, true, true, true] rfl (ih 0 (l4 + 1) h G R (by omega) (by omega) (by omega) (by omega) (by omega) (by omega) (by omega) (by omega) (by omega))
        · refine z_aload_n (M := M_X12_isDrafted) 51 dX12_isDrafted_51 rfl ?_
          refine z_getR (M := M_X12_isDrafted) 52 dX12_isDrafted_52 f_X12_30 o_108 rfl (g_108_15 G) ?_
          refine z_iconst (M := M_X12_isDrafted) 55 dX12_isDrafted_55 ?_
          refine z_iload (M := M_X12_isDrafted) 56 dX12_isDrafted_56 rfl ?_
          refine z_imulN (M := M_X12_isDrafted) 58 dX12_isDrafted_58 (by omega) (by omega) ?_
          refine z_iconst (M := M_X12_isDrafted) 59 dX12_isDrafted_59 ?_
          refine z_iaddN (M := M_X12_isDrafted) 60 dX12_isDrafted_60 (by omega) (by omega) ?_
          refine z_ialdV (M := M_X12_isDrafted) 61 dX12_isDrafted_61 o_114 (by omega) (by omega) (fun x8 ex8 => ?_)
          refine z_ok (fun ox8 _ _ => ?_)
          have ox8 := ox8.1; unfold m_ok m_32 at ox8
          refine z_iload_n (M := M_X12_isDrafted) 62 dX12_isDrafted_62 rfl ?_
          refine z_icmp_ne (M := M_X12_isDrafted) 63 dX12_isDrafted_63 70 rfl (fun c9 => ?_) (fun c9 => ?_)
          · refine z_iconst (M := M_X12_isDrafted) 70 dX12_isDrafted_70 ?_
            refine z_istore_n (M := M_X12_isDrafted) 71 dX12_isDrafted_71 (ls' := [some (mR 108), some (mI a1), some (mI a2), some (mI 0), some (mI l4)]) (by decide) rfl ?_
            refine z_iincN (M := M_X12_isDrafted) 72 dX12_isDrafted_72 (ls' := [some (mR 108), some (mI a1), some (mI a2), some (mI 0), some (mI (l4 + 1))]) (by decide) rfl (by (unfold m_32; decide)) (by omega) (by omega) rfl ?_
            refine z_goto (M := M_X12_isDrafted) 75 dX12_isDrafted_75 10 rfl ?_
            exact z_mask [true, true, true, true, true] rfl (ih 0 (l4 + 1) h G R (by omega) (by omega) (by omega) (by omega) (by omega) (by omega) (by omega) (by omega) (by omega))
          · refine z_iconst (M := M_X12_isDrafted) 66 dX12_isDrafted_66 ?_
            refine z_goto (M := M_X12_isDrafted) 67 dX12_isDrafted_67 71 rfl ?_
            refine z_istore_n (M := M_X12_isDrafted) 71 dX12_isDrafted_71 (ls' := [some (mR 108), some (mI a1), some (mI a2), some (mI 1), some (mI l4)]) (by decide) rfl ?_
            refine z_iincN (M := M_X12_isDrafted) 72 dX12_isDrafted_72 (ls' := [some (mR 108), some (mI a1), some (mI a2), some (mI 1), some (mI (l4 + 1))]) (by decide) rfl (by (unfold m_32; decide)) (by omega) (by omega) rfl ?_
            refine z_goto (M := M_X12_isDrafted) 75 dX12_isDrafted_75 10 rfl ?_
            exact z_mask [true, true, true, true, true] rfl (ih 1 (l4 + 1) h G R (by omega) (by omega) (by omega) (by omega) (by omega) (by omega) (by omega) (by omega) (by omega))
theorem a_X12_isDrafted (h0 : m_H) (a1 a2 : Int) (G0 : GI h0) : ∀ n, q_X12_isDrafted h0 a1 a2 n := by
  intro n
  induction n with
  | zero => unfold q_X12_isDrafted; intros; omega
  | succ n ih => exact s_X12_isDrafted_10 h0 a1 a2 G0 n ih
set_option maxHeartbeats 4000000 in
set_option maxRecDepth 100000 in
theorem c_X12_isDrafted (h0 : m_H) (a1 a2 : Int) (G0 : GI h0) : m_CI M_X12_isDrafted [mR 108, mI a1, mI a2] h0 (P_X12_isDrafted h0 a1 a2) := by
  refine m_CI_of ⟨by decide, rfl, by simp [m_arg, m_isL, M_X12_isDrafted], ⟨rfl, rfl⟩, rfl, rfl⟩ (ls := [some (mR 108), some (mI a1), some (mI a2), none, none]) rfl ?_
  have ih := a_X12_isDrafted h0 a1 a2 G0 408
  refine z_ok (fun _ _ ok => ?_)
  have oa1 : m_32 a1 := ok 1 _ rfl
  unfold m_32 at oa1
  have oa2 : m_32 a2 := ok 2 _ rfl
  unfold m_32 at oa2
  refine z_aload_n (M := M_X12_isDrafted) 0 dX12_isDrafted_0 rfl ?_
  refine z_iload_n (M := M_X12_isDrafted) 1 dX12_isDrafted_1 rfl ?_
  refine z_iload_n (M := M_X12_isDrafted) 2 dX12_isDrafted_2 rfl ?_
  refine z_vI (M := M_X12_isDrafted) 3 dX12_isDrafted_3 t_X12_isShorter l_X12_172 (m_rr_of rfl) (rest := []) (c_X12_isShorter h0 a1 a2 G0) o_108 rfl rfl rfl (Nat.le_of_ble_eq_true rfl) ⟨rfl, rfl⟩ (fun x1 h1 qx1 => ?_)
  obtain ⟨G1, S1, ax1, bx1⟩ := qx1
  have R1 := (FR.rf (cs := []) (ss := []) (h := h0)).call S1 (by decide +kernel)
  refine z_istore_n (M := M_X12_isDrafted) 6 dX12_isDrafted_6 (ls' := [some (mR 108), some (mI a1), some (mI a2), some (mI x1), none]) (by decide) rfl ?_
  refine z_iconst (M := M_X12_isDrafted) 7 dX12_isDrafted_7 ?_
  refine z_istore (M := M_X12_isDrafted) 8 dX12_isDrafted_8 (ls' := [some (mR 108), some (mI a1), some (mI a2), some (mI x1), some (mI 0)]) (by decide) rfl ?_
  exact z_mask [true, true, true, true, true] rfl (ih x1 0 h1 G1 R1 (by omega) (by omega) (by omega) (by omega) (by omega) (by omega) (by omega) (by omega) (by omega))
abbrev P_X12_act (h0 : m_H) (a1 a2 a3 a4 a5 : Int) : m_H → Prop := fun h' => GI h' ∧ FR [114] [(108, 16)] h0 h' ∧ actQ h0 h' a1 a2 a3 a4 a5
set_option maxHeartbeats 4000000 in
set_option maxRecDepth 100000 in
theorem c_X12_act (h0 : m_H) (a1 a2 a3 a4 a5 : Int) (G0 : GI h0) (hn : h0 108 14 = 1 ∨ h0 108 16 ≤ 199) : m_CV M_X12_act [mR 108, mI a1, mI a2, mI a3, mI a4, mI a5] h0 (P_X12_act h0 a1 a2 a3 a4 a5) := by
  refine m_CV_of ⟨by decide, rfl, by simp [m_arg, m_isL, M_X12_act], ⟨rfl, rfl⟩, rfl, rfl⟩ (ls := [some (mR 108), some (mI a1), some (mI a2), some (mI a3), some (mI a4), some (mI a5), none]) rfl ?_
  refine z_ok (fun _ _ ok => ?_)
  have oa1 : m_32 a1 := ok 1 _ rfl
  unfold m_32 at oa1
  have oa2 : m_32 a2 := ok 2 _ rfl
  unfold m_32 at oa2
  have oa3 : m_32 a3 := ok 3 _ rfl
  unfold m_32 at oa3
  have oa4 : m_32 a4 := ok 4 _ rfl
  unfold m_32 at oa4
  have oa5 : m_32 a5 := ok 5 _ rfl
  unfold m_32 at oa5
  obtain ⟨x1, ex1⟩ : ∃ y : Int, h0 108 14 = y := ⟨_, rfl⟩
  have bx1 : 0 ≤ x1 ∧ x1 ≤ 1 := ex1 ▸ g_108_14 G0
  obtain ⟨x2, ex2⟩ : ∃ y : Int, h0 108 16 = y := ⟨_, rfl⟩
  have bx2 : 0 ≤ x2 ∧ x2 ≤ 200 := ex2 ▸ g_108_16 G0
  refine z_aload_n (M := M_X12_act) 0 dX12_act_0 rfl ?_
  refine z_getIE (M := M_X12_act) 1 dX12_act_1 f_X12_214 o_108 (by decide) ex1 ?_
  refine z_if_eq (M := M_X12_act) 4 dX12_act_4 8 rfl (fun c3 => ?_) (fun c3 => ?_)
  · refine z_iconst (M := M_X12_act) 8 dX12_act_8 ?_
    refine z_aload_n (M := M_X12_act) 9 dX12_act_9 rfl ?_
    refine z_getIE (M := M_X12_act) 10 dX12_act_10 f_X12_251 o_108 (by decide) ex2 ?_
    refine z_imulN (M := M_X12_act) 13 dX12_act_13 (by omega) (by omega) ?_
    refine z_istore (M := M_X12_act) 14 dX12_act_14 (ls' := [some (mR 108), some (mI a1), some (mI a2), some (mI a3), some (mI a4), some (mI a5), some (mI (5 * x2))]) (by decide) rfl ?_
    refine z_aload_n (M := M_X12_act) 16 dX12_act_16 rfl ?_
    refine z_getR (M := M_X12_act) 17 dX12_act_17 f_X12_30 o_108 rfl (g_108_15 G0) ?_
    refine z_iload (M := M_X12_act) 20 dX12_act_20 rfl ?_
    refine z_iload_n (M := M_X12_act) 22 dX12_act_22 rfl ?_
    refine z_iastH (M := M_X12_act) 23 dX12_act_23 o_114 (by omega) (by omega) (u_114 G0) ((FR.rf (cs := [114]) (ss := [(108, 16)]) (h := h0)).up rfl) (fun h1 E1 G1 R1 => ?_)
    refine z_aload_n (M := M_X12_act) 24 dX12_act_24 rfl ?_
    refine z_getR (M := M_X12_act) 25 dX12_act_25 f_X12_30 o_108 rfl (g_108_15 G1) ?_
    refine z_iload (M := M_X12_act) 28 dX12_act_28 rfl ?_
    refine z_iconst (M := M_X12_act) 30 dX12_act_30 ?_
    refine z_iaddN (M := M_X12_act) 31 dX12_act_31 (by omega) (by omega) ?_
    refine z_iload_n (M := M_X12_act) 32 dX12_act_32 rfl ?_
    refine z_iastH (M := M_X12_act) 33 dX12_act_33 o_114 (by omega) (by omega) (u_114 G1) (R1.up rfl) (fun h2 E2 G2 R2 => ?_)
    refine z_aload_n (M := M_X12_act) 34 dX12_act_34 rfl ?_
    refine z_getR (M := M_X12_act) 35 dX12_act_35 f_X12_30 o_108 rfl (g_108_15 G2) ?_
    refine z_iload (M := M_X12_act) 38 dX12_act_38 rfl ?_
    refine z_iconst (M := M_X12_act) 40 dX12_act_40 ?_
    refine z_iaddN (M := M_X12_act) 41 dX12_act_41 (by omega) (by omega) ?_
    refine z_iload_n (M := M_X12_act) 42 dX12_act_42 rfl ?_
    refine z_iastH (M := M_X12_act) 43 dX12_act_43 o_114 (by omega) (by omega) (u_114 G2) (R2.up rfl) (fun h3 E3 G3 R3 => ?_)
    refine z_aload_n (M := M_X12_act) 44 dX12_act_44 rfl ?_
    refine z_getR (M := M_X12_act) 45 dX12_act_45 f_X12_30 o_108 rfl (g_108_15 G3) ?_
    refine z_iload (M := M_X12_act) 48 dX12_act_48 rfl ?_
    refine z_iconst (M := M_X12_act) 50 dX12_act_50 ?_
    refine z_iaddN (M := M_X12_act) 51 dX12_act_51 (by omega) (by omega) ?_
    refine z_iload (M := M_X12_act) 52 dX12_act_52 rfl ?_
    refine z_iastH (M := M_X12_act) 54 dX12_act_54 o_114 (by omega) (by omega) (u_114 G3) (R3.up rfl) (fun h4 E4 G4 R4 => ?_)
    refine z_aload_n (M := M_X12_act) 55 dX12_act_55 rfl ?_
    refine z_getR (M := M_X12_act) 56 dX12_act_56 f_X12_30 o_108 rfl (g_108_15 G4) ?_
    refine z_iload (M := M_X12_act) 59 dX12_act_59 rfl ?_
    refine z_iconst (M := M_X12_act) 61 dX12_act_61 ?_
    refine z_iaddN (M := M_X12_act) 62 dX12_act_62 (by omega) (by omega) ?_
    refine z_iload (M := M_X12_act) 63 dX12_act_63 rfl ?_
    refine z_iastH (M := M_X12_act) 65 dX12_act_65 o_114 (by omega) (by omega) (u_114 G4) (R4.up rfl) (fun h5 E5 G5 R5 => ?_)
    refine z_aload_n (M := M_X12_act) 66 dX12_act_66 rfl ?_
    refine z_dup (M := M_X12_act) 67 dX12_act_67 rfl ?_
    refine z_getIE (M := M_X12_act) 68 dX12_act_68 f_X12_251 o_108 (by decide) ((upN E5 (fun q => absurd q.1 (by decide))).trans ((upN E4 (fun q => absurd q.1 (by decide))).trans ((upN E3 (fun q => absurd q.1 (by decide))).trans ((upN E2 (fun q => absurd q.1 (by decide))).trans ((upN E1 (fun q => absurd q.1 (by decide))).trans ex2))))) ?_
    refine z_iconst (M := M_X12_act) 71 dX12_act_71 ?_
    refine z_iaddN (M := M_X12_act) 72 dX12_act_72 (by omega) (by omega) ?_
    refine z_putIH (M := M_X12_act) 73 dX12_act_73 p_X12_251 o_108 rfl (u_108_16 G5 (by omega) (by omega)) (R5.up rfl) (fun h6 E6 G6 R6 => ?_)
    exact z_retV (M := M_X12_act) 76 dX12_act_76 rfl ⟨G6, R6, actQ_of (by omega) ex2 (by omega) E1 E2 E3 E4 E5 E6⟩
  · exact z_retV (M := M_X12_act) 7 dX12_act_7 rfl ⟨G0, (FR.rf (cs := [114]) (ss := [(108, 16)]) (h := h0)), Or.inl ⟨fun q => by omega, rfl⟩⟩
abbrev P_X12_begin (h0 : m_H) : m_H → Prop := fun h' => GI h' ∧ FR [] [(108, 9), (108, 10), (108, 11), (108, 12), (108, 13), (108, 14)] h0 h' ∧ PIp h' ∧ h' 108 14 = 0
set_option maxHeartbeats 4000000 in
set_option maxRecDepth 100000 in
theorem c_X12_begin (h0 : m_H) (G0 : GI h0) : m_CV M_X12_begin [mR 108] h0 (P_X12_begin h0) := by
  refine m_CV_of ⟨by decide, rfl, by simp [m_arg, m_isL, M_X12_begin], ⟨rfl, rfl⟩, rfl, rfl⟩ (ls := [some (mR 108)]) rfl ?_
  obtain ⟨x1, ex1⟩ : ∃ y : Int, h0 108 8 = y := ⟨_, rfl⟩
  have bx1 : 0 ≤ x1 ∧ x1 ≤ 400 := ex1 ▸ g_108_8 G0
  refine z_aload_n (M := M_X12_begin) 0 dX12_begin_0 rfl ?_
  refine z_iconst (M := M_X12_begin) 1 dX12_begin_1 ?_
  refine z_putIH (M := M_X12_begin) 2 dX12_begin_2 p_X12_211 o_108 rfl (u_108_10 G0 (by omega) (by omega)) ((FR.rf (cs := []) (ss := [(108, 9), (108, 10), (108, 11), (108, 12), (108, 13), (108, 14)]) (h := h0)).up rfl) (fun h1 E1 G1 R1 => ?_)
  refine z_aload_n (M := M_X12_begin) 5 dX12_begin_5 rfl ?_
  refine z_iconst (M := M_X12_begin) 6 dX12_begin_6 ?_
  refine z_putZH (M := M_X12_begin) 7 dX12_begin_7 p_X12_214 o_108 rfl (by omega) (u_108_14 G1 (by omega) (by omega)) (R1.up rfl) (fun h2 E2 G2 R2 => ?_)
  refine z_aload_n (M := M_X12_begin) 10 dX12_begin_10 rfl ?_
  refine z_iconst (M := M_X12_begin) 11 dX12_begin_11 ?_
  refine z_putIH (M := M_X12_begin) 12 dX12_begin_12 p_X12_26 o_108 rfl (u_108_13 G2) (R2.up rfl) (fun h3 E3 G3 R3 => ?_)
  refine z_aload_n (M := M_X12_begin) 15 dX12_begin_15 rfl ?_
  have w2 : h3 108 10 = 0 := ((upN E3 (fun q => absurd q.2 (by decide))).trans ((upN E2 (fun q => absurd q.2 (by decide))).trans (upE E1)))
  have w3 : h3 108 8 = x1 := ((upN E3 (fun q => absurd q.2 (by decide))).trans ((upN E2 (fun q => absurd q.2 (by decide))).trans ((upN E1 (fun q => absurd q.2 (by decide))).trans ex1)))
  refine z_vV (M := M_X12_begin) 16 dX12_begin_16 t_X12_next l_X12_218 (m_rr_of rfl) (rest := []) (c_X12_next h3 G3 (by omega)) o_108 rfl rfl rfl (Nat.le_of_ble_eq_true rfl) ⟨rfl, rfl⟩ (fun h4 qx4 => ?_)
  obtain ⟨G4, S4, fx4_0, fx4_1⟩ := qx4
  have R4 := R3.call S4 (by decide +kernel)
  obtain ⟨x5, ex5⟩ : ∃ y : Int, h4 108 9 = y := ⟨_, rfl⟩
  have bx5 : 0 ≤ x5 ∧ x5 ≤ 400 := ex5 ▸ g_108_9 G4
  obtain ⟨x6, ex6⟩ : ∃ y : Int, h4 108 10 = y := ⟨_, rfl⟩
  have bx6 : 0 ≤ x6 ∧ x6 ≤ 400 := ex6 ▸ g_108_10 G4
  obtain ⟨x7, ex7⟩ : ∃ y : Int, h4 108 11 = y := ⟨_, rfl⟩
  have bx7 : 0 ≤ x7 ∧ x7 ≤ 3 := ex7 ▸ g_108_11 G4
  have w8 : h4 108 9 = x5 := ex5
  have w9 : h4 108 10 = x6 := ex6
  have w10 : h4 108 11 = x7 := ex7
  have w11 : h4 108 8 = x1 := ((S4 108 8 rfl).trans ((upN E3 (fun q => absurd q.2 (by decide))).trans ((upN E2 (fun q => absurd q.2 (by decide))).trans ((upN E1 (fun q => absurd q.2 (by decide))).trans ex1))))
  have l12 := fx4_1.le
  have w13 : h4 108 9 = x5 := ex5
  have w14 : h4 108 10 = x6 := ex6
  have w15 : h4 108 11 = x7 := ex7
  have w16 : h4 108 8 = x1 := ((S4 108 8 rfl).trans ((upN E3 (fun q => absurd q.2 (by decide))).trans ((upN E2 (fun q => absurd q.2 (by decide))).trans ((upN E1 (fun q => absurd q.2 (by decide))).trans ex1))))
  have w17 : h4 108 14 = 0 := ((S4 108 14 rfl).trans ((upN E3 (fun q => absurd q.2 (by decide))).trans (upE E2)))
  exact z_retV (M := M_X12_begin) 19 dX12_begin_19 rfl ⟨G4, R4, fx4_1, by omega⟩
abbrev P_X12_readWeeks (h0 : m_H) : m_H → Prop := fun h' => GI h' ∧ FR [114] [(108, 9), (108, 10), (108, 11), (108, 12), (108, 13), (108, 14), (108, 16)] h0 h' ∧ h0 108 9 ≤ h' 108 9 ∧ PIp h' ∧ 2 * h' 108 16 ≤ h' 108 9 ∧ AI h' ∧ Im (h' 108 14 = 0) (h0 108 14 = 0)
set_option maxHeartbeats 4000000 in
set_option maxRecDepth 100000 in
theorem c_X12_readWeeks (h0 : m_H) (G0 : GI h0) (hp : PIp h0) (hn : 2 * h0 108 16 ≤ h0 108 9) (hs : h0 108 11 ≠ 0) (A0 : AI h0) : m_CV M_X12_readWeeks [mR 108] h0 (P_X12_readWeeks h0) := by
  refine m_CV_of ⟨by decide, rfl, by simp [m_arg, m_isL, M_X12_readWeeks], ⟨rfl, rfl⟩, rfl, rfl⟩ (ls := [some (mR 108), none, none]) rfl ?_
  have hl := hp.le
  obtain ⟨x1, ex1⟩ : ∃ y : Int, h0 108 9 = y := ⟨_, rfl⟩
  have bx1 : 0 ≤ x1 ∧ x1 ≤ 400 := ex1 ▸ g_108_9 G0
  obtain ⟨x2, ex2⟩ : ∃ y : Int, h0 108 10 = y := ⟨_, rfl⟩
  have bx2 : 0 ≤ x2 ∧ x2 ≤ 400 := ex2 ▸ g_108_10 G0
  obtain ⟨x3, ex3⟩ : ∃ y : Int, h0 108 11 = y := ⟨_, rfl⟩
  have bx3 : 0 ≤ x3 ∧ x3 ≤ 3 := ex3 ▸ g_108_11 G0
  obtain ⟨x4, ex4⟩ : ∃ y : Int, h0 108 8 = y := ⟨_, rfl⟩
  have bx4 : 0 ≤ x4 ∧ x4 ≤ 400 := ex4 ▸ g_108_8 G0
  obtain ⟨x5, ex5⟩ : ∃ y : Int, h0 108 14 = y := ⟨_, rfl⟩
  have bx5 : 0 ≤ x5 ∧ x5 ≤ 1 := ex5 ▸ g_108_14 G0
  obtain ⟨x6, ex6⟩ : ∃ y : Int, h0 108 16 = y := ⟨_, rfl⟩
  have bx6 : 0 ≤ x6 ∧ x6 ≤ 200 := ex6 ▸ g_108_16 G0
  obtain ⟨x7, ex7⟩ : ∃ y : Int, h0 108 17 = y := ⟨_, rfl⟩
  have bx7 : 0 ≤ x7 ∧ x7 ≤ 24 := ex7 ▸ g_108_17 G0
  obtain ⟨x8, ex8⟩ : ∃ y : Int, h0 108 18 = y := ⟨_, rfl⟩
  have bx8 : 0 ≤ x8 ∧ x8 ≤ 6 := ex8 ▸ g_108_18 G0
  have w9 : h0 108 9 = x1 := ex1
  have w10 : h0 108 10 = x2 := ex2
  have w11 : h0 108 11 = x3 := ex3
  have l12 := hp.lt (by omega)
  refine z_aload_n (M := M_X12_readWeeks) 0 dX12_readWeeks_0 rfl ?_
  have w13 : h0 108 10 = x2 := ex2
  have w14 : h0 108 8 = x4 := ex4
  refine z_vV (M := M_X12_readWeeks) 1 dX12_readWeeks_1 t_X12_next l_X12_218 (m_rr_of rfl) (rest := []) (c_X12_next h0 G0 (by omega)) o_108 rfl rfl rfl (Nat.le_of_ble_eq_true rfl) ⟨rfl, rfl⟩ (fun h1 qx15 => ?_)
  obtain ⟨G1, S1, fx15_0, fx15_1⟩ := qx15
  have R1 := (FR.rf (cs := [114]) (ss := [(108, 9), (108, 10), (108, 11), (108, 12), (108, 13), (108, 14), (108, 16)]) (h := h0)).call S1 (by decide +kernel)
  have A1 := A0.fr S1 (fun _ => rfl) rfl rfl rfl rfl rfl
  obtain ⟨x16, ex16⟩ : ∃ y : Int, h1 108 9 = y := ⟨_, rfl⟩
  have bx16 : 0 ≤ x16 ∧ x16 ≤ 400 := ex16 ▸ g_108_9 G1
  obtain ⟨x17, ex17⟩ : ∃ y : Int, h1 108 10 = y := ⟨_, rfl⟩
  have bx17 : 0 ≤ x17 ∧ x17 ≤ 400 := ex17 ▸ g_108_10 G1
  obtain ⟨x18, ex18⟩ : ∃ y : Int, h1 108 11 = y := ⟨_, rfl⟩
  have bx18 : 0 ≤ x18 ∧ x18 ≤ 3 := ex18 ▸ g_108_11 G1
  have w19 : h1 108 9 = x16 := ex16
  have w20 : h1 108 10 = x17 := ex17
  have w21 : h1 108 11 = x18 := ex18
  have w22 : h1 108 8 = x4 := ((S1 108 8 rfl).trans ex4)
  have l23 := fx15_1.le
  refine z_aload_n (M := M_X12_readWeeks) 4 dX12_readWeeks_4 rfl ?_
  refine z_lconst (M := M_X12_readWeeks) 5 dX12_readWeeks_5 (v := 0) ?_
  refine z_ldc2 (M := M_X12_readWeeks) 6 dX12_readWeeks_6 k_X12_154 ?_
  have w24 : h1 108 9 = x16 := ex16
  have w25 : h1 108 10 = x17 := ex17
  have w26 : h1 108 11 = x18 := ex18
  have w27 : h1 108 8 = x4 := ((S1 108 8 rfl).trans ex4)
  have w28 : h1 108 14 = x5 := ((S1 108 14 rfl).trans ex5)
  refine z_vI (M := M_X12_readWeeks) 9 dX12_readWeeks_9 t_X12_number l_X12_254 (m_rr_of rfl) (rest := []) (c_X12_number h1 0 31 G1 ⟨by omega, by omega⟩ ⟨by omega, by omega⟩ fx15_1) o_108 rfl rfl rfl (Nat.le_of_ble_eq_true rfl) ⟨rfl, rfl⟩ (fun x29 h2 qx29 => ?_)
  obtain ⟨G2, S2, fx29_0, fx29_1, fx29_2⟩ := qx29
  have R2 := R1.call S2 (by decide +kernel)
  have A2 := A1.fr S2 (fun _ => rfl) rfl rfl rfl rfl rfl
  refine z_ok (fun ox29 _ _ => ?_)
  have ox29 := ox29.1; unfold m_ok m_32 at ox29
  obtain ⟨x30, ex30⟩ : ∃ y : Int, h2 108 9 = y := ⟨_, rfl⟩
  have bx30 : 0 ≤ x30 ∧ x30 ≤ 400 := ex30 ▸ g_108_9 G2
  obtain ⟨x31, ex31⟩ : ∃ y : Int, h2 108 10 = y := ⟨_, rfl⟩
  have bx31 : 0 ≤ x31 ∧ x31 ≤ 400 := ex31 ▸ g_108_10 G2
  obtain ⟨x32, ex32⟩ : ∃ y : Int, h2 108 11 = y := ⟨_, rfl⟩
  have bx32 : 0 ≤ x32 ∧ x32 ≤ 3 := ex32 ▸ g_108_11 G2
  obtain ⟨x33, ex33⟩ : ∃ y : Int, h2 108 14 = y := ⟨_, rfl⟩
  have bx33 : 0 ≤ x33 ∧ x33 ≤ 1 := ex33 ▸ g_108_14 G2
  have w34 : h2 108 9 = x30 := ex30
  have w35 : h2 108 10 = x31 := ex31
  have w36 : h2 108 11 = x32 := ex32
  have w37 : h2 108 8 = x4 := ((S2 108 8 rfl).trans ((S1 108 8 rfl).trans ex4))
  have w38 : h2 108 14 = x33 := ex33
  have l39 := fx29_1.le
  refine z_istore_n (M := M_X12_readWeeks) 12 dX12_readWeeks_12 (ls' := [some (mR 108), some (mI x29), none]) (by decide) rfl ?_
  refine z_iload_n (M := M_X12_readWeeks) 13 dX12_readWeeks_13 rfl ?_
  refine z_istore_n (M := M_X12_readWeeks) 14 dX12_readWeeks_14 (ls' := [some (mR 108), some (mI x29), some (mI x29)]) (by decide) rfl ?_
  refine z_aload_n (M := M_X12_readWeeks) 15 dX12_readWeeks_15 rfl ?_
  refine z_getIE (M := M_X12_readWeeks) 16 dX12_readWeeks_16 f_X12_214 o_108 (by decide) ex33 ?_
  refine z_if_ne (M := M_X12_readWeeks) 19 dX12_readWeeks_19 46 rfl (fun c40 => ?_) (fun c40 => ?_)
  · refine z_aload_n (M := M_X12_readWeeks) 46 dX12_readWeeks_46 rfl ?_
    refine z_aload_n (M := M_X12_readWeeks) 47 dX12_readWeeks_47 rfl ?_
    refine z_ldc2 (M := M_X12_readWeeks) 48 dX12_readWeeks_48 k_X12_264 ?_
    refine z_vI (M := M_X12_readWeeks) 51 dX12_readWeeks_51 t_X12_isWord l_X12_260 (m_rr_of rfl) (rest := [mR 108]) (c_X12_isWord h2 89 G2) o_108 rfl rfl rfl (Nat.le_of_ble_eq_true rfl) ⟨rfl, rfl⟩ (fun x41 h3 qx41 => ?_)
    obtain ⟨rfl, ⟨rfl, cx41⟩ | ⟨rfl, cx41⟩⟩ := qx41
    · have w42 : h2 108 9 = x30 := ex30
      have w43 : h2 108 10 = x31 := ex31
      have w44 : h2 108 11 = x32 := ex32
      have w45 : h2 108 8 = x4 := ((S2 108 8 rfl).trans ((S1 108 8 rfl).trans ex4))
      refine z_vV (M := M_X12_readWeeks) 54 dX12_readWeeks_54 t_X12_must l_X12_247 (m_rr_of rfl) (rest := []) (c_X12_must h2 1 G2 ⟨by omega, by omega⟩ fx29_1) o_108 rfl rfl rfl (Nat.le_of_ble_eq_true rfl) ⟨rfl, rfl⟩ (fun h4 qx46 => ?_)
      obtain ⟨G4, S4, fx46_0, fx46_1, fx46_2⟩ := qx46
      have R4 := R2.call S4 (by decide +kernel)
      have A4 := A2.fr S4 (fun _ => rfl) rfl rfl rfl rfl rfl
      obtain ⟨x47, ex47⟩ : ∃ y : Int, h4 108 9 = y := ⟨_, rfl⟩
      have bx47 : 0 ≤ x47 ∧ x47 ≤ 400 := ex47 ▸ g_108_9 G4
      obtain ⟨x48, ex48⟩ : ∃ y : Int, h4 108 10 = y := ⟨_, rfl⟩
      have bx48 : 0 ≤ x48 ∧ x48 ≤ 400 := ex48 ▸ g_108_10 G4
      obtain ⟨x49, ex49⟩ : ∃ y : Int, h4 108 11 = y := ⟨_, rfl⟩
      have bx49 : 0 ≤ x49 ∧ x49 ≤ 3 := ex49 ▸ g_108_11 G4
      obtain ⟨x50, ex50⟩ : ∃ y : Int, h4 108 14 = y := ⟨_, rfl⟩
      have bx50 : 0 ≤ x50 ∧ x50 ≤ 1 := ex50 ▸ g_108_14 G4
      have w51 : h4 108 9 = x47 := ex47
      have w52 : h4 108 10 = x48 := ex48
      have w53 : h4 108 11 = x49 := ex49
      have w54 : h4 108 8 = x4 := ((S4 108 8 rfl).trans ((S2 108 8 rfl).trans ((S1 108 8 rfl).trans ex4)))
      have w55 : h4 108 14 = x50 := ex50
      have l56 := fx46_1.le
      refine z_aload_n (M := M_X12_readWeeks) 57 dX12_readWeeks_57 rfl ?_
      refine z_getIE (M := M_X12_readWeeks) 58 dX12_readWeeks_58 f_X12_214 o_108 (by decide) ex50 ?_
      refine z_if_ne (M := M_X12_readWeeks) 61 dX12_readWeeks_61 90 rfl (fun c57 => ?_) (fun c57 => ?_)
      · refine z_aload_n (M := M_X12_readWeeks) 90 dX12_readWeeks_90 rfl ?_
        refine z_getIE (M := M_X12_readWeeks) 91 dX12_readWeeks_91 f_X12_214 o_108 (by decide) ex50 ?_
        refine z_if_ne_T (M := M_X12_readWeeks) 94 dX12_readWeeks_94 113 rfl (by omega) ?_
        have w58 : h4 108 9 = x47 := ex47
        have w59 : h4 108 10 = x48 := ex48
        have w60 : h4 108 11 = x49 := ex49
        have w61 : h4 108 8 = x4 := ((S4 108 8 rfl).trans ((S2 108 8 rfl).trans ((S1 108 8 rfl).trans ex4)))
        have w62 : h4 108 16 = x6 := ((S4 108 16 rfl).trans ((S2 108 16 rfl).trans ((S1 108 16 rfl).trans ex6)))
        have w63 : h4 108 14 = x50 := ex50
        exact z_retV (M := M_X12_readWeeks) 113 dX12_readWeeks_113 rfl ⟨G4, R4, by omega, fx46_1, by omega, A4, fun q => by have ufx46_2 := fx46_2 (by omega); have ufx29_2 := fx29_2 (by omega); omega⟩
      · have ufx46_2 := fx46_2 (by omega)
        have ufx29_2 := fx29_2 (by omega)
        refine z_aload_n (M := M_X12_readWeeks) 64 dX12_readWeeks_64 rfl ?_
        refine z_ldc2 (M := M_X12_readWeeks) 65 dX12_readWeeks_65 k_X12_266 ?_
        refine z_vI (M := M_X12_readWeeks) 68 dX12_readWeeks_68 t_X12_isWord l_X12_260 (m_rr_of rfl) (rest := []) (c_X12_isWord h4 485571737 G4) o_108 rfl rfl rfl (Nat.le_of_ble_eq_true rfl) ⟨rfl, rfl⟩ (fun x64 h5 qx64 => ?_)
        obtain ⟨rfl, ⟨rfl, cx64⟩ | ⟨rfl, cx64⟩⟩ := qx64
        · refine z_if_eq_F (M := M_X12_readWeeks) 71 dX12_readWeeks_71 90 rfl (by omega) ?_
          refine z_aload_n (M := M_X12_readWeeks) 74 dX12_readWeeks_74 rfl ?_
          have w65 : h4 108 9 = x47 := ex47
          have w66 : h4 108 10 = x48 := ex48
          have w67 : h4 108 11 = x49 := ex49
          have l68 := fx46_1.lt (by omega)
          have w69 : h4 108 10 = x48 := ex48
          have w70 : h4 108 8 = x4 := ((S4 108 8 rfl).trans ((S2 108 8 rfl).trans ((S1 108 8 rfl).trans ex4)))
          refine z_vV (M := M_X12_readWeeks) 75 dX12_readWeeks_75 t_X12_next l_X12_218 (m_rr_of rfl) (rest := []) (c_X12_next h4 G4 (by omega)) o_108 rfl rfl rfl (Nat.le_of_ble_eq_true rfl) ⟨rfl, rfl⟩ (fun h6 qx71 => ?_)
          obtain ⟨G6, S6, fx71_0, fx71_1⟩ := qx71
          have R6 := R4.call S6 (by decide +kernel)
          have A6 := A4.fr S6 (fun _ => rfl) rfl rfl rfl rfl rfl
          obtain ⟨x72, ex72⟩ : ∃ y : Int, h6 108 9 = y := ⟨_, rfl⟩
          have bx72 : 0 ≤ x72 ∧ x72 ≤ 400 := ex72 ▸ g_108_9 G6
          obtain ⟨x73, ex73⟩ : ∃ y : Int, h6 108 10 = y := ⟨_, rfl⟩
          have bx73 : 0 ≤ x73 ∧ x73 ≤ 400 := ex73 ▸ g_108_10 G6
          obtain ⟨x74, ex74⟩ : ∃ y : Int, h6 108 11 = y := ⟨_, rfl⟩
          have bx74 : 0 ≤ x74 ∧ x74 ≤ 3 := ex74 ▸ g_108_11 G6
          have w75 : h6 108 9 = x72 := ex72
          have w76 : h6 108 10 = x73 := ex73
          have w77 : h6 108 11 = x74 := ex74
          have w78 : h6 108 8 = x4 := ((S6 108 8 rfl).trans ((S4 108 8 rfl).trans ((S2 108 8 rfl).trans ((S1 108 8 rfl).trans ex4))))
          have l79 := fx71_1.le
          refine z_aload_n (M := M_X12_readWeeks) 78 dX12_readWeeks_78 rfl ?_
          refine z_iconst (M := M_X12_readWeeks) 79 dX12_readWeeks_79 ?_
          refine z_iload_n (M := M_X12_readWeeks) 80 dX12_readWeeks_80 rfl ?_
          refine z_iload_n (M := M_X12_readWeeks) 81 dX12_readWeeks_81 rfl ?_
          refine z_iconst (M := M_X12_readWeeks) 82 dX12_readWeeks_82 ?_
          refine z_iconst (M := M_X12_readWeeks) 83 dX12_readWeeks_83 ?_
          have w80 : h6 108 14 = x50 := ((S6 108 14 rfl).trans ex50)
          have w81 : h6 108 16 = x6 := ((S6 108 16 rfl).trans ((S4 108 16 rfl).trans ((S2 108 16 rfl).trans ((S1 108 16 rfl).trans ex6))))
          have w82 : h6 108 9 = x72 := ex72
          have w83 : h6 108 8 = x4 := ((S6 108 8 rfl).trans ((S4 108 8 rfl).trans ((S2 108 8 rfl).trans ((S1 108 8 rfl).trans ex4))))
          have w84 : h6 108 10 = x73 := ex73
          have w85 : h6 108 17 = x7 := ((S6 108 17 rfl).trans ((S4 108 17 rfl).trans ((S2 108 17 rfl).trans ((S1 108 17 rfl).trans ex7))))
          have w86 : h6 108 18 = x8 := ((S6 108 18 rfl).trans ((S4 108 18 rfl).trans ((S2 108 18 rfl).trans ((S1 108 18 rfl).trans ex8))))
          refine z_vV (M := M_X12_readWeeks) 84 dX12_readWeeks_84 t_X12_act l_X12_268 (m_rr_of rfl) (rest := []) (c_X12_act h6 0 x29 x29 (-1) 0 G6 (by by_cases hb : x50 = 0; ( exact Or.inr (by omega)); (exact Or.inl (by omega)))) o_108 rfl rfl rfl (Nat.le_of_ble_eq_true rfl) ⟨rfl, rfl⟩ (fun h7 qx87 => ?_)
          obtain ⟨G7, S7, fx87_0⟩ := qx87
          have R7 := R6.call S7 (by decide +kernel)
          have P7 := fx71_1.fr S7 rfl rfl rfl rfl
          have A7 := AI_act A6 (by omega) fx87_0 (by omega) (fun hb => by  unfold okA; omega)
          have w88 : h7 108 9 = x72 := ((S7 108 9 rfl).trans ex72)
          have nx87 : 2 * h7 108 16 ≤ h7 108 9 := by rcases actQ_n fx87_0 with ⟨q1, q2⟩ | ⟨q1, q2⟩; (omega); ( omega)
          obtain ⟨x89, ex89⟩ : ∃ y : Int, h7 108 16 = y := ⟨_, rfl⟩
          have bx89 : 0 ≤ x89 ∧ x89 ≤ 200 := ex89 ▸ g_108_16 G7
          refine z_goto (M := M_X12_readWeeks) 87 dX12_readWeeks_87 113 rfl ?_
          have w90 : h7 108 9 = x72 := ((S7 108 9 rfl).trans ex72)
          have w91 : h7 108 10 = x73 := ((S7 108 10 rfl).trans ex73)
          have w92 : h7 108 11 = x74 := ((S7 108 11 rfl).trans ex74)
          have w93 : h7 108 8 = x4 := ((S7 108 8 rfl).trans ((S6 108 8 rfl).trans ((S4 108 8 rfl).trans ((S2 108 8 rfl).trans ((S1 108 8 rfl).trans ex4)))))
          have w94 : h7 108 16 = x89 := ex89
          have w95 : h7 108 14 = x50 := ((S7 108 14 rfl).trans ((S6 108 14 rfl).trans ex50))
          exact z_retV (M := M_X12_readWeeks) 113 dX12_readWeeks_113 rfl ⟨G7, R7, by omega, P7, by omega, A7, fun q => by  omega⟩
        · refine z_if_eq_T (M := M_X12_readWeeks) 71 dX12_readWeeks_71 90 rfl (by omega) ?_
          refine z_aload_n (M := M_X12_readWeeks) 90 dX12_readWeeks_90 rfl ?_
          refine z_getIE (M := M_X12_readWeeks) 91 dX12_readWeeks_91 f_X12_214 o_108 (by decide) ex50 ?_
          refine z_if_ne_F (M := M_X12_readWeeks) 94 dX12_readWeeks_94 113 rfl (by omega) ?_
          refine z_aload_n (M := M_X12_readWeeks) 97 dX12_readWeeks_97 rfl ?_
          refine z_iconst (M := M_X12_readWeeks) 98 dX12_readWeeks_98 ?_
          refine z_iload_n (M := M_X12_readWeeks) 99 dX12_readWeeks_99 rfl ?_
          refine z_iload_n (M := M_X12_readWeeks) 100 dX12_readWeeks_100 rfl ?_
          refine z_aload_n (M := M_X12_readWeeks) 101 dX12_readWeeks_101 rfl ?_
          refine z_lconst (M := M_X12_readWeeks) 102 dX12_readWeeks_102 (v := 0) ?_
          refine z_ldc2 (M := M_X12_readWeeks) 103 dX12_readWeeks_103 k_X12_152 ?_
          have w96 : h4 108 9 = x47 := ex47
          have w97 : h4 108 10 = x48 := ex48
          have w98 : h4 108 11 = x49 := ex49
          have w99 : h4 108 8 = x4 := ((S4 108 8 rfl).trans ((S2 108 8 rfl).trans ((S1 108 8 rfl).trans ex4)))
          have w100 : h4 108 14 = x50 := ex50
          refine z_vI (M := M_X12_readWeeks) 106 dX12_readWeeks_106 t_X12_number l_X12_254 (m_rr_of rfl) (rest := [mI x29, mI x29, mI 0, mR 108]) (c_X12_number h4 0 3 G4 ⟨by omega, by omega⟩ ⟨by omega, by omega⟩ fx46_1) o_108 rfl rfl rfl (Nat.le_of_ble_eq_true rfl) ⟨rfl, rfl⟩ (fun x101 h8 qx101 => ?_)
          obtain ⟨G8, S8, fx101_0, fx101_1, fx101_2⟩ := qx101
          have R8 := R4.call S8 (by decide +kernel)
          have A8 := A4.fr S8 (fun _ => rfl) rfl rfl rfl rfl rfl
          refine z_ok (fun ox101 _ _ => ?_)
          have ox101 := ox101.1; unfold m_ok m_32 at ox101
          obtain ⟨x102, ex102⟩ : ∃ y : Int, h8 108 9 = y := ⟨_, rfl⟩
          have bx102 : 0 ≤ x102 ∧ x102 ≤ 400 := ex102 ▸ g_108_9 G8
          obtain ⟨x103, ex103⟩ : ∃ y : Int, h8 108 10 = y := ⟨_, rfl⟩
          have bx103 : 0 ≤ x103 ∧ x103 ≤ 400 := ex103 ▸ g_108_10 G8
          obtain ⟨x104, ex104⟩ : ∃ y : Int, h8 108 11 = y := ⟨_, rfl⟩
          have bx104 : 0 ≤ x104 ∧ x104 ≤ 3 := ex104 ▸ g_108_11 G8
          obtain ⟨x105, ex105⟩ : ∃ y : Int, h8 108 14 = y := ⟨_, rfl⟩
          have bx105 : 0 ≤ x105 ∧ x105 ≤ 1 := ex105 ▸ g_108_14 G8
          have w106 : h8 108 9 = x102 := ex102
          have w107 : h8 108 10 = x103 := ex103
          have w108 : h8 108 11 = x104 := ex104
          have w109 : h8 108 8 = x4 := ((S8 108 8 rfl).trans ((S4 108 8 rfl).trans ((S2 108 8 rfl).trans ((S1 108 8 rfl).trans ex4))))
          have w110 : h8 108 14 = x105 := ex105
          have l111 := fx101_1.le
          refine z_iconst (M := M_X12_readWeeks) 109 dX12_readWeeks_109 ?_
          have w112 : h8 108 14 = x105 := ex105
          have w113 : h8 108 16 = x6 := ((S8 108 16 rfl).trans ((S4 108 16 rfl).trans ((S2 108 16 rfl).trans ((S1 108 16 rfl).trans ex6))))
          have w114 : h8 108 9 = x102 := ex102
          have w115 : h8 108 8 = x4 := ((S8 108 8 rfl).trans ((S4 108 8 rfl).trans ((S2 108 8 rfl).trans ((S1 108 8 rfl).trans ex4))))
          have w116 : h8 108 10 = x103 := ex103
          have w117 : h8 108 17 = x7 := ((S8 108 17 rfl).trans ((S4 108 17 rfl).trans ((S2 108 17 rfl).trans ((S1 108 17 rfl).trans ex7))))
          have w118 : h8 108 18 = x8 := ((S8 108 18 rfl).trans ((S4 108 18 rfl).trans ((S2 108 18 rfl).trans ((S1 108 18 rfl).trans ex8))))
          refine z_vV (M := M_X12_readWeeks) 110 dX12_readWeeks_110 t_X12_act l_X12_268 (m_rr_of rfl) (rest := []) (c_X12_act h8 0 x29 x29 x101 0 G8 (by by_cases hb : x105 = 0; (have ufx101_2 := fx101_2 (by omega); exact Or.inr (by omega)); (exact Or.inl (by omega)))) o_108 rfl rfl rfl (Nat.le_of_ble_eq_true rfl) ⟨rfl, rfl⟩ (fun h9 qx119 => ?_)
          obtain ⟨G9, S9, fx119_0⟩ := qx119
          have R9 := R8.call S9 (by decide +kernel)
          have P9 := fx101_1.fr S9 rfl rfl rfl rfl
          have A9 := AI_act A8 (by omega) fx119_0 (by omega) (fun hb => by have ufx101_2 := fx101_2 (by omega); unfold okA; omega)
          have w120 : h9 108 9 = x102 := ((S9 108 9 rfl).trans ex102)
          have nx119 : 2 * h9 108 16 ≤ h9 108 9 := by rcases actQ_n fx119_0 with ⟨q1, q2⟩ | ⟨q1, q2⟩; (omega); (have ufx101_2 := fx101_2 (by omega); omega)
          obtain ⟨x121, ex121⟩ : ∃ y : Int, h9 108 16 = y := ⟨_, rfl⟩
          have bx121 : 0 ≤ x121 ∧ x121 ≤ 200 := ex121 ▸ g_108_16 G9
          have w122 : h9 108 9 = x102 := ((S9 108 9 rfl).trans ex102)
          have w123 : h9 108 10 = x103 := ((S9 108 10 rfl).trans ex103)
          have w124 : h9 108 11 = x104 := ((S9 108 11 rfl).trans ex104)
          have w125 : h9 108 8 = x4 := ((S9 108 8 rfl).trans ((S8 108 8 rfl).trans ((S4 108 8 rfl).trans ((S2 108 8 rfl).trans ((S1 108 8 rfl).trans ex4)))))
          have w126 : h9 108 16 = x121 := ex121
          have w127 : h9 108 14 = x105 := ((S9 108 14 rfl).trans ex105)
          exact z_retV (M := M_X12_readWeeks) 113 dX12_readWeeks_113 rfl ⟨G9, R9, by omega, P9, by omega, A9, fun q => by have ufx101_2 := fx101_2 (by omega); omega⟩
    · have w128 : h2 108 9 = x30 := ex30
      have w129 : h2 108 10 = x31 := ex31
      have w130 : h2 108 11 = x32 := ex32
      have w131 : h2 108 8 = x4 := ((S2 108 8 rfl).trans ((S1 108 8 rfl).trans ex4))
      refine z_vV (M := M_X12_readWeeks) 54 dX12_readWeeks_54 t_X12_must l_X12_247 (m_rr_of rfl) (rest := []) (c_X12_must h2 0 G2 ⟨by omega, by omega⟩ fx29_1) o_108 rfl rfl rfl (Nat.le_of_ble_eq_true rfl) ⟨rfl, rfl⟩ (fun h10 qx132 => ?_)
      obtain ⟨G10, S10, fx132_0, fx132_1, fx132_2⟩ := qx132
      have R10 := R2.call S10 (by decide +kernel)
      have A10 := A2.fr S10 (fun _ => rfl) rfl rfl rfl rfl rfl
      obtain ⟨x133, ex133⟩ : ∃ y : Int, h10 108 9 = y := ⟨_, rfl⟩
      have bx133 : 0 ≤ x133 ∧ x133 ≤ 400 := ex133 ▸ g_108_9 G10
      obtain ⟨x134, ex134⟩ : ∃ y : Int, h10 108 10 = y := ⟨_, rfl⟩
      have bx134 : 0 ≤ x134 ∧ x134 ≤ 400 := ex134 ▸ g_108_10 G10
      obtain ⟨x135, ex135⟩ : ∃ y : Int, h10 108 11 = y := ⟨_, rfl⟩
      have bx135 : 0 ≤ x135 ∧ x135 ≤ 3 := ex135 ▸ g_108_11 G10
      obtain ⟨x136, ex136⟩ : ∃ y : Int, h10 108 14 = y := ⟨_, rfl⟩
      have bx136 : 0 ≤ x136 ∧ x136 ≤ 1 := ex136 ▸ g_108_14 G10
      have w137 : h10 108 9 = x133 := ex133
      have w138 : h10 108 10 = x134 := ex134
      have w139 : h10 108 11 = x135 := ex135
      have w140 : h10 108 8 = x4 := ((S10 108 8 rfl).trans ((S2 108 8 rfl).trans ((S1 108 8 rfl).trans ex4)))
      have w141 : h10 108 14 = x136 := ex136
      have l142 := fx132_1.le
      have nbx132 : x136 ≠ 0 := fun q => by have q2 := fx132_2 (by omega); omega
      refine z_aload_n (M := M_X12_readWeeks) 57 dX12_readWeeks_57 rfl ?_
      refine z_getIE (M := M_X12_readWeeks) 58 dX12_readWeeks_58 f_X12_214 o_108 (by decide) ex136 ?_
      refine z_if_ne_T (M := M_X12_readWeeks) 61 dX12_readWeeks_61 90 rfl (by omega) ?_
      refine z_aload_n (M := M_X12_readWeeks) 90 dX12_readWeeks_90 rfl ?_
      refine z_getIE (M := M_X12_readWeeks) 91 dX12_readWeeks_91 f_X12_214 o_108 (by decide) ex136 ?_
      refine z_if_ne_T (M := M_X12_readWeeks) 94 dX12_readWeeks_94 113 rfl (by omega) ?_
      have w143 : h10 108 9 = x133 := ex133
      have w144 : h10 108 10 = x134 := ex134
      have w145 : h10 108 11 = x135 := ex135
      have w146 : h10 108 8 = x4 := ((S10 108 8 rfl).trans ((S2 108 8 rfl).trans ((S1 108 8 rfl).trans ex4)))
      have w147 : h10 108 16 = x6 := ((S10 108 16 rfl).trans ((S2 108 16 rfl).trans ((S1 108 16 rfl).trans ex6)))
      have w148 : h10 108 14 = x136 := ex136
      exact z_retV (M := M_X12_readWeeks) 113 dX12_readWeeks_113 rfl ⟨G10, R10, by omega, fx132_1, by omega, A10, fun q => by have ufx132_2 := fx132_2 (by omega); have ufx29_2 := fx29_2 (by omega); omega⟩
  · have ufx29_2 := fx29_2 (by omega)
    refine z_aload_n (M := M_X12_readWeeks) 22 dX12_readWeeks_22 rfl ?_
    refine z_ldc2 (M := M_X12_readWeeks) 23 dX12_readWeeks_23 k_X12_258 ?_
    refine z_vI (M := M_X12_readWeeks) 26 dX12_readWeeks_26 t_X12_isWord l_X12_260 (m_rr_of rfl) (rest := []) (c_X12_isWord h2 655 G2) o_108 rfl rfl rfl (Nat.le_of_ble_eq_true rfl) ⟨rfl, rfl⟩ (fun x149 h11 qx149 => ?_)
    obtain ⟨rfl, ⟨rfl, cx149⟩ | ⟨rfl, cx149⟩⟩ := qx149
    · refine z_if_eq_F (M := M_X12_readWeeks) 29 dX12_readWeeks_29 46 rfl (by omega) ?_
      refine z_aload_n (M := M_X12_readWeeks) 32 dX12_readWeeks_32 rfl ?_
      have w150 : h2 108 9 = x30 := ex30
      have w151 : h2 108 10 = x31 := ex31
      have w152 : h2 108 11 = x32 := ex32
      have l153 := fx29_1.lt (by omega)
      have w154 : h2 108 10 = x31 := ex31
      have w155 : h2 108 8 = x4 := ((S2 108 8 rfl).trans ((S1 108 8 rfl).trans ex4))
      refine z_vV (M := M_X12_readWeeks) 33 dX12_readWeeks_33 t_X12_next l_X12_218 (m_rr_of rfl) (rest := []) (c_X12_next h2 G2 (by omega)) o_108 rfl rfl rfl (Nat.le_of_ble_eq_true rfl) ⟨rfl, rfl⟩ (fun h12 qx156 => ?_)
      obtain ⟨G12, S12, fx156_0, fx156_1⟩ := qx156
      have R12 := R2.call S12 (by decide +kernel)
      have A12 := A2.fr S12 (fun _ => rfl) rfl rfl rfl rfl rfl
      obtain ⟨x157, ex157⟩ : ∃ y : Int, h12 108 9 = y := ⟨_, rfl⟩
      have bx157 : 0 ≤ x157 ∧ x157 ≤ 400 := ex157 ▸ g_108_9 G12
      obtain ⟨x158, ex158⟩ : ∃ y : Int, h12 108 10 = y := ⟨_, rfl⟩
      have bx158 : 0 ≤ x158 ∧ x158 ≤ 400 := ex158 ▸ g_108_10 G12
      obtain ⟨x159, ex159⟩ : ∃ y : Int, h12 108 11 = y := ⟨_, rfl⟩
      have bx159 : 0 ≤ x159 ∧ x159 ≤ 3 := ex159 ▸ g_108_11 G12
      have w160 : h12 108 9 = x157 := ex157
      have w161 : h12 108 10 = x158 := ex158
      have w162 : h12 108 11 = x159 := ex159
      have w163 : h12 108 8 = x4 := ((S12 108 8 rfl).trans ((S2 108 8 rfl).trans ((S1 108 8 rfl).trans ex4)))
      have l164 := fx156_1.le
      refine z_aload_n (M := M_X12_readWeeks) 36 dX12_readWeeks_36 rfl ?_
      refine z_iload_n (M := M_X12_readWeeks) 37 dX12_readWeeks_37 rfl ?_
      refine z_i2l (M := M_X12_readWeeks) 38 dX12_readWeeks_38 ?_
      refine z_ldc2 (M := M_X12_readWeeks) 39 dX12_readWeeks_39 k_X12_154 ?_
      have w165 : h12 108 9 = x157 := ex157
      have w166 : h12 108 10 = x158 := ex158
      have w167 : h12 108 11 = x159 := ex159
      have w168 : h12 108 8 = x4 := ((S12 108 8 rfl).trans ((S2 108 8 rfl).trans ((S1 108 8 rfl).trans ex4)))
      have w169 : h12 108 14 = x33 := ((S12 108 14 rfl).trans ex33)
      refine z_vI (M := M_X12_readWeeks) 42 dX12_readWeeks_42 t_X12_number l_X12_254 (m_rr_of rfl) (rest := []) (c_X12_number h12 x29 31 G12 ⟨by omega, by omega⟩ ⟨by omega, by omega⟩ fx156_1) o_108 rfl rfl rfl (Nat.le_of_ble_eq_true rfl) ⟨rfl, rfl⟩ (fun x170 h13 qx170 => ?_)
      obtain ⟨G13, S13, fx170_0, fx170_1, fx170_2⟩ := qx170
      have R13 := R12.call S13 (by decide +kernel)
      have A13 := A12.fr S13 (fun _ => rfl) rfl rfl rfl rfl rfl
      refine z_ok (fun ox170 _ _ => ?_)
      have ox170 := ox170.1; unfold m_ok m_32 at ox170
      obtain ⟨x171, ex171⟩ : ∃ y : Int, h13 108 9 = y := ⟨_, rfl⟩
      have bx171 : 0 ≤ x171 ∧ x171 ≤ 400 := ex171 ▸ g_108_9 G13
      obtain ⟨x172, ex172⟩ : ∃ y : Int, h13 108 10 = y := ⟨_, rfl⟩
      have bx172 : 0 ≤ x172 ∧ x172 ≤ 400 := ex172 ▸ g_108_10 G13
      obtain ⟨x173, ex173⟩ : ∃ y : Int, h13 108 11 = y := ⟨_, rfl⟩
      have bx173 : 0 ≤ x173 ∧ x173 ≤ 3 := ex173 ▸ g_108_11 G13
      obtain ⟨x174, ex174⟩ : ∃ y : Int, h13 108 14 = y := ⟨_, rfl⟩
      have bx174 : 0 ≤ x174 ∧ x174 ≤ 1 := ex174 ▸ g_108_14 G13
      have w175 : h13 108 9 = x171 := ex171
      have w176 : h13 108 10 = x172 := ex172
      have w177 : h13 108 11 = x173 := ex173
      have w178 : h13 108 8 = x4 := ((S13 108 8 rfl).trans ((S12 108 8 rfl).trans ((S2 108 8 rfl).trans ((S1 108 8 rfl).trans ex4))))
      have w179 : h13 108 14 = x174 := ex174
      have l180 := fx170_1.le
      refine z_istore_n (M := M_X12_readWeeks) 45 dX12_readWeeks_45 (ls' := [some (mR 108), some (mI x29), some (mI x170)]) (by decide) rfl ?_
      refine z_aload_n (M := M_X12_readWeeks) 46 dX12_readWeeks_46 rfl ?_
      refine z_aload_n (M := M_X12_readWeeks) 47 dX12_readWeeks_47 rfl ?_
      refine z_ldc2 (M := M_X12_readWeeks) 48 dX12_readWeeks_48 k_X12_264 ?_
      refine z_vI (M := M_X12_readWeeks) 51 dX12_readWeeks_51 t_X12_isWord l_X12_260 (m_rr_of rfl) (rest := [mR 108]) (c_X12_isWord h13 89 G13) o_108 rfl rfl rfl (Nat.le_of_ble_eq_true rfl) ⟨rfl, rfl⟩ (fun x181 h14 qx181 => ?_)
      obtain ⟨rfl, ⟨rfl, cx181⟩ | ⟨rfl, cx181⟩⟩ := qx181
      · have w182 : h13 108 9 = x171 := ex171
        have w183 : h13 108 10 = x172 := ex172
        have w184 : h13 108 11 = x173 := ex173
        have w185 : h13 108 8 = x4 := ((S13 108 8 rfl).trans ((S12 108 8 rfl).trans ((S2 108 8 rfl).trans ((S1 108 8 rfl).trans ex4))))
        refine z_vV (M := M_X12_readWeeks) 54 dX12_readWeeks_54 t_X12_must l_X12_247 (m_rr_of rfl) (rest := []) (c_X12_must h13 1 G13 ⟨by omega, by omega⟩ fx170_1) o_108 rfl rfl rfl (Nat.le_of_ble_eq_true rfl) ⟨rfl, rfl⟩ (fun h15 qx186 => ?_)
        obtain ⟨G15, S15, fx186_0, fx186_1, fx186_2⟩ := qx186
        have R15 := R13.call S15 (by decide +kernel)
        have A15 := A13.fr S15 (fun _ => rfl) rfl rfl rfl rfl rfl
        obtain ⟨x187, ex187⟩ : ∃ y : Int, h15 108 9 = y := ⟨_, rfl⟩
        have bx187 : 0 ≤ x187 ∧ x187 ≤ 400 := ex187 ▸ g_108_9 G15
        obtain ⟨x188, ex188⟩ : ∃ y : Int, h15 108 10 = y := ⟨_, rfl⟩
        have bx188 : 0 ≤ x188 ∧ x188 ≤ 400 := ex188 ▸ g_108_10 G15
        obtain ⟨x189, ex189⟩ : ∃ y : Int, h15 108 11 = y := ⟨_, rfl⟩
        have bx189 : 0 ≤ x189 ∧ x189 ≤ 3 := ex189 ▸ g_108_11 G15
        obtain ⟨x190, ex190⟩ : ∃ y : Int, h15 108 14 = y := ⟨_, rfl⟩
        have bx190 : 0 ≤ x190 ∧ x190 ≤ 1 := ex190 ▸ g_108_14 G15
        have w191 : h15 108 9 = x187 := ex187
        have w192 : h15 108 10 = x188 := ex188
        have w193 : h15 108 11 = x189 := ex189
        have w194 : h15 108 8 = x4 := ((S15 108 8 rfl).trans ((S13 108 8 rfl).trans ((S12 108 8 rfl).trans ((S2 108 8 rfl).trans ((S1 108 8 rfl).trans ex4)))))
        have w195 : h15 108 14 = x190 := ex190
        have l196 := fx186_1.le
        refine z_aload_n (M := M_X12_readWeeks) 57 dX12_readWeeks_57 rfl ?_
        refine z_getIE (M := M_X12_readWeeks) 58 dX12_readWeeks_58 f_X12_214 o_108 (by decide) ex190 ?_
        refine z_if_ne (M := M_X12_readWeeks) 61 dX12_readWeeks_61 90 rfl (fun c197 => ?_) (fun c197 => ?_)
        · refine z_aload_n (M := M_X12_readWeeks) 90 dX12_readWeeks_90 rfl ?_
          refine z_getIE (M := M_X12_readWeeks) 91 dX12_readWeeks_91 f_X12_214 o_108 (by decide) ex190 ?_
          refine z_if_ne_T (M := M_X12_readWeeks) 94 dX12_readWeeks_94 113 rfl (by omega) ?_
          have w198 : h15 108 9 = x187 := ex187
          have w199 : h15 108 10 = x188 := ex188
          have w200 : h15 108 11 = x189 := ex189
          have w201 : h15 108 8 = x4 := ((S15 108 8 rfl).trans ((S13 108 8 rfl).trans ((S12 108 8 rfl).trans ((S2 108 8 rfl).trans ((S1 108 8 rfl).trans ex4)))))
          have w202 : h15 108 16 = x6 := ((S15 108 16 rfl).trans ((S13 108 16 rfl).trans ((S12 108 16 rfl).trans ((S2 108 16 rfl).trans ((S1 108 16 rfl).trans ex6)))))
          have w203 : h15 108 14 = x190 := ex190
          exact z_retV (M := M_X12_readWeeks) 113 dX12_readWeeks_113 rfl ⟨G15, R15, by omega, fx186_1, by omega, A15, fun q => by have ufx186_2 := fx186_2 (by omega); have ufx170_2 := fx170_2 (by omega); omega⟩
        · have ufx186_2 := fx186_2 (by omega)
          have ufx170_2 := fx170_2 (by omega)
          refine z_aload_n (M := M_X12_readWeeks) 64 dX12_readWeeks_64 rfl ?_
          refine z_ldc2 (M := M_X12_readWeeks) 65 dX12_readWeeks_65 k_X12_266 ?_
          refine z_vI (M := M_X12_readWeeks) 68 dX12_readWeeks_68 t_X12_isWord l_X12_260 (m_rr_of rfl) (rest := []) (c_X12_isWord h15 485571737 G15) o_108 rfl rfl rfl (Nat.le_of_ble_eq_true rfl) ⟨rfl, rfl⟩ (fun x204 h16 qx204 => ?_)
          obtain ⟨rfl, ⟨rfl, cx204⟩ | ⟨rfl, cx204⟩⟩ := qx204
          · refine z_if_eq_F (M := M_X12_readWeeks) 71 dX12_readWeeks_71 90 rfl (by omega) ?_
            refine z_aload_n (M := M_X12_readWeeks) 74 dX12_readWeeks_74 rfl ?_
            have w205 : h15 108 9 = x187 := ex187
            have w206 : h15 108 10 = x188 := ex188
            have w207 : h15 108 11 = x189 := ex189
            have l208 := fx186_1.lt (by omega)
            have w209 : h15 108 10 = x188 := ex188
            have w210 : h15 108 8 = x4 := ((S15 108 8 rfl).trans ((S13 108 8 rfl).trans ((S12 108 8 rfl).trans ((S2 108 8 rfl).trans ((S1 108 8 rfl).trans ex4)))))
            refine z_vV (M := M_X12_readWeeks) 75 dX12_readWeeks_75 t_X12_next l_X12_218 (m_rr_of rfl) (rest := []) (c_X12_next h15 G15 (by omega)) o_108 rfl rfl rfl (Nat.le_of_ble_eq_true rfl) ⟨rfl, rfl⟩ (fun h17 qx211 => ?_)
            obtain ⟨G17, S17, fx211_0, fx211_1⟩ := qx211
            have R17 := R15.call S17 (by decide +kernel)
            have A17 := A15.fr S17 (fun _ => rfl) rfl rfl rfl rfl rfl
            obtain ⟨x212, ex212⟩ : ∃ y : Int, h17 108 9 = y := ⟨_, rfl⟩
            have bx212 : 0 ≤ x212 ∧ x212 ≤ 400 := ex212 ▸ g_108_9 G17
            obtain ⟨x213, ex213⟩ : ∃ y : Int, h17 108 10 = y := ⟨_, rfl⟩
            have bx213 : 0 ≤ x213 ∧ x213 ≤ 400 := ex213 ▸ g_108_10 G17
            obtain ⟨x214, ex214⟩ : ∃ y : Int, h17 108 11 = y := ⟨_, rfl⟩
            have bx214 : 0 ≤ x214 ∧ x214 ≤ 3 := ex214 ▸ g_108_11 G17
            have w215 : h17 108 9 = x212 := ex212
            have w216 : h17 108 10 = x213 := ex213
            have w217 : h17 108 11 = x214 := ex214
            have w218 : h17 108 8 = x4 := ((S17 108 8 rfl).trans ((S15 108 8 rfl).trans ((S13 108 8 rfl).trans ((S12 108 8 rfl).trans ((S2 108 8 rfl).trans ((S1 108 8 rfl).trans ex4))))))
            have l219 := fx211_1.le
            refine z_aload_n (M := M_X12_readWeeks) 78 dX12_readWeeks_78 rfl ?_
            refine z_iconst (M := M_X12_readWeeks) 79 dX12_readWeeks_79 ?_
            refine z_iload_n (M := M_X12_readWeeks) 80 dX12_readWeeks_80 rfl ?_
            refine z_iload_n (M := M_X12_readWeeks) 81 dX12_readWeeks_81 rfl ?_
            refine z_iconst (M := M_X12_readWeeks) 82 dX12_readWeeks_82 ?_
            refine z_iconst (M := M_X12_readWeeks) 83 dX12_readWeeks_83 ?_
            have w220 : h17 108 14 = x190 := ((S17 108 14 rfl).trans ex190)
            have w221 : h17 108 16 = x6 := ((S17 108 16 rfl).trans ((S15 108 16 rfl).trans ((S13 108 16 rfl).trans ((S12 108 16 rfl).trans ((S2 108 16 rfl).trans ((S1 108 16 rfl).trans ex6))))))
            have w222 : h17 108 9 = x212 := ex212
            have w223 : h17 108 8 = x4 := ((S17 108 8 rfl).trans ((S15 108 8 rfl).trans ((S13 108 8 rfl).trans ((S12 108 8 rfl).trans ((S2 108 8 rfl).trans ((S1 108 8 rfl).trans ex4))))))
            have w224 : h17 108 10 = x213 := ex213
            have w225 : h17 108 17 = x7 := ((S17 108 17 rfl).trans ((S15 108 17 rfl).trans ((S13 108 17 rfl).trans ((S12 108 17 rfl).trans ((S2 108 17 rfl).trans ((S1 108 17 rfl).trans ex7))))))
            have w226 : h17 108 18 = x8 := ((S17 108 18 rfl).trans ((S15 108 18 rfl).trans ((S13 108 18 rfl).trans ((S12 108 18 rfl).trans ((S2 108 18 rfl).trans ((S1 108 18 rfl).trans ex8))))))
            refine z_vV (M := M_X12_readWeeks) 84 dX12_readWeeks_84 t_X12_act l_X12_268 (m_rr_of rfl) (rest := []) (c_X12_act h17 0 x29 x170 (-1) 0 G17 (by by_cases hb : x190 = 0; ( exact Or.inr (by omega)); (exact Or.inl (by omega)))) o_108 rfl rfl rfl (Nat.le_of_ble_eq_true rfl) ⟨rfl, rfl⟩ (fun h18 qx227 => ?_)
            obtain ⟨G18, S18, fx227_0⟩ := qx227
            have R18 := R17.call S18 (by decide +kernel)
            have P18 := fx211_1.fr S18 rfl rfl rfl rfl
            have A18 := AI_act A17 (by omega) fx227_0 (by omega) (fun hb => by  unfold okA; omega)
            have w228 : h18 108 9 = x212 := ((S18 108 9 rfl).trans ex212)
            have nx227 : 2 * h18 108 16 ≤ h18 108 9 := by rcases actQ_n fx227_0 with ⟨q1, q2⟩ | ⟨q1, q2⟩; (omega); ( omega)
            obtain ⟨x229, ex229⟩ : ∃ y : Int, h18 108 16 = y := ⟨_, rfl⟩
            have bx229 : 0 ≤ x229 ∧ x229 ≤ 200 := ex229 ▸ g_108_16 G18
            refine z_goto (M := M_X12_readWeeks) 87 dX12_readWeeks_87 113 rfl ?_
            have w230 : h18 108 9 = x212 := ((S18 108 9 rfl).trans ex212)
            have w231 : h18 108 10 = x213 := ((S18 108 10 rfl).trans ex213)
            have w232 : h18 108 11 = x214 := ((S18 108 11 rfl).trans ex214)
            have w233 : h18 108 8 = x4 := ((S18 108 8 rfl).trans ((S17 108 8 rfl).trans ((S15 108 8 rfl).trans ((S13 108 8 rfl).trans ((S12 108 8 rfl).trans ((S2 108 8 rfl).trans ((S1 108 8 rfl).trans ex4)))))))
            have w234 : h18 108 16 = x229 := ex229
            have w235 : h18 108 14 = x190 := ((S18 108 14 rfl).trans ((S17 108 14 rfl).trans ex190))
            exact z_retV (M := M_X12_readWeeks) 113 dX12_readWeeks_113 rfl ⟨G18, R18, by omega, P18, by omega, A18, fun q => by  omega⟩
          · refine z_if_eq_T (M := M_X12_readWeeks) 71 dX12_readWeeks_71 90 rfl (by omega) ?_
            refine z_aload_n (M := M_X12_readWeeks) 90 dX12_readWeeks_90 rfl ?_
            refine z_getIE (M := M_X12_readWeeks) 91 dX12_readWeeks_91 f_X12_214 o_108 (by decide) ex190 ?_
            refine z_if_ne_F (M := M_X12_readWeeks) 94 dX12_readWeeks_94 113 rfl (by omega) ?_
            refine z_aload_n (M := M_X12_readWeeks) 97 dX12_readWeeks_97 rfl ?_
            refine z_iconst (M := M_X12_readWeeks) 98 dX12_readWeeks_98 ?_
            refine z_iload_n (M := M_X12_readWeeks) 99 dX12_readWeeks_99 rfl ?_
            refine z_iload_n (M := M_X12_readWeeks) 100 dX12_readWeeks_100 rfl ?_
            refine z_aload_n (M := M_X12_readWeeks) 101 dX12_readWeeks_101 rfl ?_
            refine z_lconst (M := M_X12_readWeeks) 102 dX12_readWeeks_102 (v := 0) ?_
            refine z_ldc2 (M := M_X12_readWeeks) 103 dX12_readWeeks_103 k_X12_152 ?_
            have w236 : h15 108 9 = x187 := ex187
            have w237 : h15 108 10 = x188 := ex188
            have w238 : h15 108 11 = x189 := ex189
            have w239 : h15 108 8 = x4 := ((S15 108 8 rfl).trans ((S13 108 8 rfl).trans ((S12 108 8 rfl).trans ((S2 108 8 rfl).trans ((S1 108 8 rfl).trans ex4)))))
            have w240 : h15 108 14 = x190 := ex190
            refine z_vI (M := M_X12_readWeeks) 106 dX12_readWeeks_106 t_X12_number l_X12_254 (m_rr_of rfl) (rest := [mI x170, mI x29, mI 0, mR 108]) (c_X12_number h15 0 3 G15 ⟨by omega, by omega⟩ ⟨by omega, by omega⟩ fx186_1) o_108 rfl rfl rfl (Nat.le_of_ble_eq_true rfl) ⟨rfl, rfl⟩ (fun x241 h19 qx241 => ?_)
            obtain ⟨G19, S19, fx241_0, fx241_1, fx241_2⟩ := qx241
            have R19 := R15.call S19 (by decide +kernel)
            have A19 := A15.fr S19 (fun _ => rfl) rfl rfl rfl rfl rfl
            refine z_ok (fun ox241 _ _ => ?_)
            have ox241 := ox241.1; unfold m_ok m_32 at ox241
            obtain ⟨x242, ex242⟩ : ∃ y : Int, h19 108 9 = y := ⟨_, rfl⟩
            have bx242 : 0 ≤ x242 ∧ x242 ≤ 400 := ex242 ▸ g_108_9 G19
            obtain ⟨x243, ex243⟩ : ∃ y : Int, h19 108 10 = y := ⟨_, rfl⟩
            have bx243 : 0 ≤ x243 ∧ x243 ≤ 400 := ex243 ▸ g_108_10 G19
            obtain ⟨x244, ex244⟩ : ∃ y : Int, h19 108 11 = y := ⟨_, rfl⟩
            have bx244 : 0 ≤ x244 ∧ x244 ≤ 3 := ex244 ▸ g_108_11 G19
            obtain ⟨x245, ex245⟩ : ∃ y : Int, h19 108 14 = y := ⟨_, rfl⟩
            have bx245 : 0 ≤ x245 ∧ x245 ≤ 1 := ex245 ▸ g_108_14 G19
            have w246 : h19 108 9 = x242 := ex242
            have w247 : h19 108 10 = x243 := ex243
            have w248 : h19 108 11 = x244 := ex244
            have w249 : h19 108 8 = x4 := ((S19 108 8 rfl).trans ((S15 108 8 rfl).trans ((S13 108 8 rfl).trans ((S12 108 8 rfl).trans ((S2 108 8 rfl).trans ((S1 108 8 rfl).trans ex4))))))
            have w250 : h19 108 14 = x245 := ex245
            have l251 := fx241_1.le
            refine z_iconst (M := M_X12_readWeeks) 109 dX12_readWeeks_109 ?_
            have w252 : h19 108 14 = x245 := ex245
            have w253 : h19 108 16 = x6 := ((S19 108 16 rfl).trans ((S15 108 16 rfl).trans ((S13 108 16 rfl).trans ((S12 108 16 rfl).trans ((S2 108 16 rfl).trans ((S1 108 16 rfl).trans ex6))))))
            have w254 : h19 108 9 = x242 := ex242
            have w255 : h19 108 8 = x4 := ((S19 108 8 rfl).trans ((S15 108 8 rfl).trans ((S13 108 8 rfl).trans ((S12 108 8 rfl).trans ((S2 108 8 rfl).trans ((S1 108 8 rfl).trans ex4))))))
            have w256 : h19 108 10 = x243 := ex243
            have w257 : h19 108 17 = x7 := ((S19 108 17 rfl).trans ((S15 108 17 rfl).trans ((S13 108 17 rfl).trans ((S12 108 17 rfl).trans ((S2 108 17 rfl).trans ((S1 108 17 rfl).trans ex7))))))
            have w258 : h19 108 18 = x8 := ((S19 108 18 rfl).trans ((S15 108 18 rfl).trans ((S13 108 18 rfl).trans ((S12 108 18 rfl).trans ((S2 108 18 rfl).trans ((S1 108 18 rfl).trans ex8))))))
            refine z_vV (M := M_X12_readWeeks) 110 dX12_readWeeks_110 t_X12_act l_X12_268 (m_rr_of rfl) (rest := []) (c_X12_act h19 0 x29 x170 x241 0 G19 (by by_cases hb : x245 = 0; (have ufx241_2 := fx241_2 (by omega); exact Or.inr (by omega)); (exact Or.inl (by omega)))) o_108 rfl rfl rfl (Nat.le_of_ble_eq_true rfl) ⟨rfl, rfl⟩ (fun h20 qx259 => ?_)
            obtain ⟨G20, S20, fx259_0⟩ := qx259
            have R20 := R19.call S20 (by decide +kernel)
            have P20 := fx241_1.fr S20 rfl rfl rfl rfl
            have A20 := AI_act A19 (by omega) fx259_0 (by omega) (fun hb => by have ufx241_2 := fx241_2 (by omega); unfold okA; omega)
            have w260 : h20 108 9 = x242 := ((S20 108 9 rfl).trans ex242)
            have nx259 : 2 * h20 108 16 ≤ h20 108 9 := by rcases actQ_n fx259_0 with ⟨q1, q2⟩ | ⟨q1, q2⟩; (omega); (have ufx241_2 := fx241_2 (by omega); omega)
            obtain ⟨x261, ex261⟩ : ∃ y : Int, h20 108 16 = y := ⟨_, rfl⟩
            have bx261 : 0 ≤ x261 ∧ x261 ≤ 200 := ex261 ▸ g_108_16 G20
            have w262 : h20 108 9 = x242 := ((S20 108 9 rfl).trans ex242)
            have w263 : h20 108 10 = x243 := ((S20 108 10 rfl).trans ex243)
            have w264 : h20 108 11 = x244 := ((S20 108 11 rfl).trans ex244)
            have w265 : h20 108 8 = x4 := ((S20 108 8 rfl).trans ((S19 108 8 rfl).trans ((S15 108 8 rfl).trans ((S13 108 8 rfl).trans ((S12 108 8 rfl).trans ((S2 108 8 rfl).trans ((S1 108 8 rfl).trans ex4)))))))
            have w266 : h20 108 16 = x261 := ex261
            have w267 : h20 108 14 = x245 := ((S20 108 14 rfl).trans ex245)
            exact z_retV (M := M_X12_readWeeks) 113 dX12_readWeeks_113 rfl ⟨G20, R20, by omega, P20, by omega, A20, fun q => by have ufx241_2 := fx241_2 (by omega); omega⟩
      · have w268 : h13 108 9 = x171 := ex171
        have w269 : h13 108 10 = x172 := ex172
        have w270 : h13 108 11 = x173 := ex173
        have w271 : h13 108 8 = x4 := ((S13 108 8 rfl).trans ((S12 108 8 rfl).trans ((S2 108 8 rfl).trans ((S1 108 8 rfl).trans ex4))))
        refine z_vV (M := M_X12_readWeeks) 54 dX12_readWeeks_54 t_X12_must l_X12_247 (m_rr_of rfl) (rest := []) (c_X12_must h13 0 G13 ⟨by omega, by omega⟩ fx170_1) o_108 rfl rfl rfl (Nat.le_of_ble_eq_true rfl) ⟨rfl, rfl⟩ (fun h21 qx272 => ?_)
        obtain ⟨G21, S21, fx272_0, fx272_1, fx272_2⟩ := qx272
        have R21 := R13.call S21 (by decide +kernel)
        have A21 := A13.fr S21 (fun _ => rfl) rfl rfl rfl rfl rfl
        obtain ⟨x273, ex273⟩ : ∃ y : Int, h21 108 9 = y := ⟨_, rfl⟩
        have bx273 : 0 ≤ x273 ∧ x273 ≤ 400 := ex273 ▸ g_108_9 G21
        obtain ⟨x274, ex274⟩ : ∃ y : Int, h21 108 10 = y := ⟨_, rfl⟩
        have bx274 : 0 ≤ x274 ∧ x274 ≤ 400 := ex274 ▸ g_108_10 G21
        obtain ⟨x275, ex275⟩ : ∃ y : Int, h21 108 11 = y := ⟨_, rfl⟩
        have bx275 : 0 ≤ x275 ∧ x275 ≤ 3 := ex275 ▸ g_108_11 G21
        obtain ⟨x276, ex276⟩ : ∃ y : Int, h21 108 14 = y := ⟨_, rfl⟩
        have bx276 : 0 ≤ x276 ∧ x276 ≤ 1 := ex276 ▸ g_108_14 G21
        have w277 : h21 108 9 = x273 := ex273
        have w278 : h21 108 10 = x274 := ex274
        have w279 : h21 108 11 = x275 := ex275
        have w280 : h21 108 8 = x4 := ((S21 108 8 rfl).trans ((S13 108 8 rfl).trans ((S12 108 8 rfl).trans ((S2 108 8 rfl).trans ((S1 108 8 rfl).trans ex4)))))
        have w281 : h21 108 14 = x276 := ex276
        have l282 := fx272_1.le
        have nbx272 : x276 ≠ 0 := fun q => by have q2 := fx272_2 (by omega); omega
        refine z_aload_n (M := M_X12_readWeeks) 57 dX12_readWeeks_57 rfl ?_
        refine z_getIE (M := M_X12_readWeeks) 58 dX12_readWeeks_58 f_X12_214 o_108 (by decide) ex276 ?_
        refine z_if_ne_T (M := M_X12_readWeeks) 61 dX12_readWeeks_61 90 rfl (by omega) ?_
        refine z_aload_n (M := M_X12_readWeeks) 90 dX12_readWeeks_90 rfl ?_
        refine z_getIE (M := M_X12_readWeeks) 91 dX12_readWeeks_91 f_X12_214 o_108 (by decide) ex276 ?_
        refine z_if_ne_T (M := M_X12_readWeeks) 94 dX12_readWeeks_94 113 rfl (by omega) ?_
        have w283 : h21 108 9 = x273 := ex273
        have w284 : h21 108 10 = x274 := ex274
        have w285 : h21 108 11 = x275 := ex275
        have w286 : h21 108 8 = x4 := ((S21 108 8 rfl).trans ((S13 108 8 rfl).trans ((S12 108 8 rfl).trans ((S2 108 8 rfl).trans ((S1 108 8 rfl).trans ex4)))))
        have w287 : h21 108 16 = x6 := ((S21 108 16 rfl).trans ((S13 108 16 rfl).trans ((S12 108 16 rfl).trans ((S2 108 16 rfl).trans ((S1 108 16 rfl).trans ex6)))))
        have w288 : h21 108 14 = x276 := ex276
        exact z_retV (M := M_X12_readWeeks) 113 dX12_readWeeks_113 rfl ⟨G21, R21, by omega, fx272_1, by omega, A21, fun q => by have ufx272_2 := fx272_2 (by omega); have ufx170_2 := fx170_2 (by omega); omega⟩
    · refine z_if_eq_T (M := M_X12_readWeeks) 29 dX12_readWeeks_29 46 rfl (by omega) ?_
      refine z_aload_n (M := M_X12_readWeeks) 46 dX12_readWeeks_46 rfl ?_
      refine z_aload_n (M := M_X12_readWeeks) 47 dX12_readWeeks_47 rfl ?_
      refine z_ldc2 (M := M_X12_readWeeks) 48 dX12_readWeeks_48 k_X12_264 ?_
      refine z_vI (M := M_X12_readWeeks) 51 dX12_readWeeks_51 t_X12_isWord l_X12_260 (m_rr_of rfl) (rest := [mR 108]) (c_X12_isWord h2 89 G2) o_108 rfl rfl rfl (Nat.le_of_ble_eq_true rfl) ⟨rfl, rfl⟩ (fun x289 h22 qx289 => ?_)
      obtain ⟨rfl, ⟨rfl, cx289⟩ | ⟨rfl, cx289⟩⟩ := qx289
      · have w290 : h2 108 9 = x30 := ex30
        have w291 : h2 108 10 = x31 := ex31
        have w292 : h2 108 11 = x32 := ex32
        have w293 : h2 108 8 = x4 := ((S2 108 8 rfl).trans ((S1 108 8 rfl).trans ex4))
        refine z_vV (M := M_X12_readWeeks) 54 dX12_readWeeks_54 t_X12_must l_X12_247 (m_rr_of rfl) (rest := []) (c_X12_must h2 1 G2 ⟨by omega, by omega⟩ fx29_1) o_108 rfl rfl rfl (Nat.le_of_ble_eq_true rfl) ⟨rfl, rfl⟩ (fun h23 qx294 => ?_)
        obtain ⟨G23, S23, fx294_0, fx294_1, fx294_2⟩ := qx294
        have R23 := R2.call S23 (by decide +kernel)
        have A23 := A2.fr S23 (fun _ => rfl) rfl rfl rfl rfl rfl
        obtain ⟨x295, ex295⟩ : ∃ y : Int, h23 108 9 = y := ⟨_, rfl⟩
        have bx295 : 0 ≤ x295 ∧ x295 ≤ 400 := ex295 ▸ g_108_9 G23
        obtain ⟨x296, ex296⟩ : ∃ y : Int, h23 108 10 = y := ⟨_, rfl⟩
        have bx296 : 0 ≤ x296 ∧ x296 ≤ 400 := ex296 ▸ g_108_10 G23
        obtain ⟨x297, ex297⟩ : ∃ y : Int, h23 108 11 = y := ⟨_, rfl⟩
        have bx297 : 0 ≤ x297 ∧ x297 ≤ 3 := ex297 ▸ g_108_11 G23
        obtain ⟨x298, ex298⟩ : ∃ y : Int, h23 108 14 = y := ⟨_, rfl⟩
        have bx298 : 0 ≤ x298 ∧ x298 ≤ 1 := ex298 ▸ g_108_14 G23
        have w299 : h23 108 9 = x295 := ex295
        have w300 : h23 108 10 = x296 := ex296
        have w301 : h23 108 11 = x297 := ex297
        have w302 : h23 108 8 = x4 := ((S23 108 8 rfl).trans ((S2 108 8 rfl).trans ((S1 108 8 rfl).trans ex4)))
        have w303 : h23 108 14 = x298 := ex298
        have l304 := fx294_1.le
        refine z_aload_n (M := M_X12_readWeeks) 57 dX12_readWeeks_57 rfl ?_
        refine z_getIE (M := M_X12_readWeeks) 58 dX12_readWeeks_58 f_X12_214 o_108 (by decide) ex298 ?_
        refine z_if_ne (M := M_X12_readWeeks) 61 dX12_readWeeks_61 90 rfl (fun c305 => ?_) (fun c305 => ?_)
        · refine z_aload_n (M := M_X12_readWeeks) 90 dX12_readWeeks_90 rfl ?_
          refine z_getIE (M := M_X12_readWeeks) 91 dX12_readWeeks_91 f_X12_214 o_108 (by decide) ex298 ?_
          refine z_if_ne_T (M := M_X12_readWeeks) 94 dX12_readWeeks_94 113 rfl (by omega) ?_
          have w306 : h23 108 9 = x295 := ex295
          have w307 : h23 108 10 = x296 := ex296
          have w308 : h23 108 11 = x297 := ex297
          have w309 : h23 108 8 = x4 := ((S23 108 8 rfl).trans ((S2 108 8 rfl).trans ((S1 108 8 rfl).trans ex4)))
          have w310 : h23 108 16 = x6 := ((S23 108 16 rfl).trans ((S2 108 16 rfl).trans ((S1 108 16 rfl).trans ex6)))
          have w311 : h23 108 14 = x298 := ex298
          exact z_retV (M := M_X12_readWeeks) 113 dX12_readWeeks_113 rfl ⟨G23, R23, by omega, fx294_1, by omega, A23, fun q => by have ufx294_2 := fx294_2 (by omega); omega⟩
        · have ufx294_2 := fx294_2 (by omega)
          refine z_aload_n (M := M_X12_readWeeks) 64 dX12_readWeeks_64 rfl ?_
          refine z_ldc2 (M := M_X12_readWeeks) 65 dX12_readWeeks_65 k_X12_266 ?_
          refine z_vI (M := M_X12_readWeeks) 68 dX12_readWeeks_68 t_X12_isWord l_X12_260 (m_rr_of rfl) (rest := []) (c_X12_isWord h23 485571737 G23) o_108 rfl rfl rfl (Nat.le_of_ble_eq_true rfl) ⟨rfl, rfl⟩ (fun x312 h24 qx312 => ?_)
          obtain ⟨rfl, ⟨rfl, cx312⟩ | ⟨rfl, cx312⟩⟩ := qx312
          · refine z_if_eq_F (M := M_X12_readWeeks) 71 dX12_readWeeks_71 90 rfl (by omega) ?_
            refine z_aload_n (M := M_X12_readWeeks) 74 dX12_readWeeks_74 rfl ?_
            have w313 : h23 108 9 = x295 := ex295
            have w314 : h23 108 10 = x296 := ex296
            have w315 : h23 108 11 = x297 := ex297
            have l316 := fx294_1.lt (by omega)
            have w317 : h23 108 10 = x296 := ex296
            have w318 : h23 108 8 = x4 := ((S23 108 8 rfl).trans ((S2 108 8 rfl).trans ((S1 108 8 rfl).trans ex4)))
            refine z_vV (M := M_X12_readWeeks) 75 dX12_readWeeks_75 t_X12_next l_X12_218 (m_rr_of rfl) (rest := []) (c_X12_next h23 G23 (by omega)) o_108 rfl rfl rfl (Nat.le_of_ble_eq_true rfl) ⟨rfl, rfl⟩ (fun h25 qx319 => ?_)
            obtain ⟨G25, S25, fx319_0, fx319_1⟩ := qx319
            have R25 := R23.call S25 (by decide +kernel)
            have A25 := A23.fr S25 (fun _ => rfl) rfl rfl rfl rfl rfl
            obtain ⟨x320, ex320⟩ : ∃ y : Int, h25 108 9 = y := ⟨_, rfl⟩
            have bx320 : 0 ≤ x320 ∧ x320 ≤ 400 := ex320 ▸ g_108_9 G25
            obtain ⟨x321, ex321⟩ : ∃ y : Int, h25 108 10 = y := ⟨_, rfl⟩
            have bx321 : 0 ≤ x321 ∧ x321 ≤ 400 := ex321 ▸ g_108_10 G25
            obtain ⟨x322, ex322⟩ : ∃ y : Int, h25 108 11 = y := ⟨_, rfl⟩
            have bx322 : 0 ≤ x322 ∧ x322 ≤ 3 := ex322 ▸ g_108_11 G25
            have w323 : h25 108 9 = x320 := ex320
            have w324 : h25 108 10 = x321 := ex321
            have w325 : h25 108 11 = x322 := ex322
            have w326 : h25 108 8 = x4 := ((S25 108 8 rfl).trans ((S23 108 8 rfl).trans ((S2 108 8 rfl).trans ((S1 108 8 rfl).trans ex4))))
            have l327 := fx319_1.le
            refine z_aload_n (M := M_X12_readWeeks) 78 dX12_readWeeks_78 rfl ?_
            refine z_iconst (M := M_X12_readWeeks) 79 dX12_readWeeks_79 ?_
            refine z_iload_n (M := M_X12_readWeeks) 80 dX12_readWeeks_80 rfl ?_
            refine z_iload_n (M := M_X12_readWeeks) 81 dX12_readWeeks_81 rfl ?_
            refine z_iconst (M := M_X12_readWeeks) 82 dX12_readWeeks_82 ?_
            refine z_iconst (M := M_X12_readWeeks) 83 dX12_readWeeks_83 ?_
            have w328 : h25 108 14 = x298 := ((S25 108 14 rfl).trans ex298)
            have w329 : h25 108 16 = x6 := ((S25 108 16 rfl).trans ((S23 108 16 rfl).trans ((S2 108 16 rfl).trans ((S1 108 16 rfl).trans ex6))))
            have w330 : h25 108 9 = x320 := ex320
            have w331 : h25 108 8 = x4 := ((S25 108 8 rfl).trans ((S23 108 8 rfl).trans ((S2 108 8 rfl).trans ((S1 108 8 rfl).trans ex4))))
            have w332 : h25 108 10 = x321 := ex321
            have w333 : h25 108 17 = x7 := ((S25 108 17 rfl).trans ((S23 108 17 rfl).trans ((S2 108 17 rfl).trans ((S1 108 17 rfl).trans ex7))))
            have w334 : h25 108 18 = x8 := ((S25 108 18 rfl).trans ((S23 108 18 rfl).trans ((S2 108 18 rfl).trans ((S1 108 18 rfl).trans ex8))))
            refine z_vV (M := M_X12_readWeeks) 84 dX12_readWeeks_84 t_X12_act l_X12_268 (m_rr_of rfl) (rest := []) (c_X12_act h25 0 x29 x29 (-1) 0 G25 (by by_cases hb : x298 = 0; ( exact Or.inr (by omega)); (exact Or.inl (by omega)))) o_108 rfl rfl rfl (Nat.le_of_ble_eq_true rfl) ⟨rfl, rfl⟩ (fun h26 qx335 => ?_)
            obtain ⟨G26, S26, fx335_0⟩ := qx335
            have R26 := R25.call S26 (by decide +kernel)
            have P26 := fx319_1.fr S26 rfl rfl rfl rfl
            have A26 := AI_act A25 (by omega) fx335_0 (by omega) (fun hb => by  unfold okA; omega)
            have w336 : h26 108 9 = x320 := ((S26 108 9 rfl).trans ex320)
            have nx335 : 2 * h26 108 16 ≤ h26 108 9 := by rcases actQ_n fx335_0 with ⟨q1, q2⟩ | ⟨q1, q2⟩; (omega); ( omega)
            obtain ⟨x337, ex337⟩ : ∃ y : Int, h26 108 16 = y := ⟨_, rfl⟩
            have bx337 : 0 ≤ x337 ∧ x337 ≤ 200 := ex337 ▸ g_108_16 G26
            refine z_goto (M := M_X12_readWeeks) 87 dX12_readWeeks_87 113 rfl ?_
            have w338 : h26 108 9 = x320 := ((S26 108 9 rfl).trans ex320)
            have w339 : h26 108 10 = x321 := ((S26 108 10 rfl).trans ex321)
            have w340 : h26 108 11 = x322 := ((S26 108 11 rfl).trans ex322)
            have w341 : h26 108 8 = x4 := ((S26 108 8 rfl).trans ((S25 108 8 rfl).trans ((S23 108 8 rfl).trans ((S2 108 8 rfl).trans ((S1 108 8 rfl).trans ex4)))))
            have w342 : h26 108 16 = x337 := ex337
            have w343 : h26 108 14 = x298 := ((S26 108 14 rfl).trans ((S25 108 14 rfl).trans ex298))
            exact z_retV (M := M_X12_readWeeks) 113 dX12_readWeeks_113 rfl ⟨G26, R26, by omega, P26, by omega, A26, fun q => by  omega⟩
          · refine z_if_eq_T (M := M_X12_readWeeks) 71 dX12_readWeeks_71 90 rfl (by omega) ?_
            refine z_aload_n (M := M_X12_readWeeks) 90 dX12_readWeeks_90 rfl ?_
            refine z_getIE (M := M_X12_readWeeks) 91 dX12_readWeeks_91 f_X12_214 o_108 (by decide) ex298 ?_
            refine z_if_ne_F (M := M_X12_readWeeks) 94 dX12_readWeeks_94 113 rfl (by omega) ?_
            refine z_aload_n (M := M_X12_readWeeks) 97 dX12_readWeeks_97 rfl ?_
            refine z_iconst (M := M_X12_readWeeks) 98 dX12_readWeeks_98 ?_
            refine z_iload_n (M := M_X12_readWeeks) 99 dX12_readWeeks_99 rfl ?_
            refine z_iload_n (M := M_X12_readWeeks) 100 dX12_readWeeks_100 rfl ?_
            refine z_aload_n (M := M_X12_readWeeks) 101 dX12_readWeeks_101 rfl ?_
            refine z_lconst (M := M_X12_readWeeks) 102 dX12_readWeeks_102 (v := 0) ?_
            refine z_ldc2 (M := M_X12_readWeeks) 103 dX12_readWeeks_103 k_X12_152 ?_
            have w344 : h23 108 9 = x295 := ex295
            have w345 : h23 108 10 = x296 := ex296
            have w346 : h23 108 11 = x297 := ex297
            have w347 : h23 108 8 = x4 := ((S23 108 8 rfl).trans ((S2 108 8 rfl).trans ((S1 108 8 rfl).trans ex4)))
            have w348 : h23 108 14 = x298 := ex298
            refine z_vI (M := M_X12_readWeeks) 106 dX12_readWeeks_106 t_X12_number l_X12_254 (m_rr_of rfl) (rest := [mI x29, mI x29, mI 0, mR 108]) (c_X12_number h23 0 3 G23 ⟨by omega, by omega⟩ ⟨by omega, by omega⟩ fx294_1) o_108 rfl rfl rfl (Nat.le_of_ble_eq_true rfl) ⟨rfl, rfl⟩ (fun x349 h27 qx349 => ?_)
            obtain ⟨G27, S27, fx349_0, fx349_1, fx349_2⟩ := qx349
            have R27 := R23.call S27 (by decide +kernel)
            have A27 := A23.fr S27 (fun _ => rfl) rfl rfl rfl rfl rfl
            refine z_ok (fun ox349 _ _ => ?_)
            have ox349 := ox349.1; unfold m_ok m_32 at ox349
            obtain ⟨x350, ex350⟩ : ∃ y : Int, h27 108 9 = y := ⟨_, rfl⟩
            have bx350 : 0 ≤ x350 ∧ x350 ≤ 400 := ex350 ▸ g_108_9 G27
            obtain ⟨x351, ex351⟩ : ∃ y : Int, h27 108 10 = y := ⟨_, rfl⟩
            have bx351 : 0 ≤ x351 ∧ x351 ≤ 400 := ex351 ▸ g_108_10 G27
            obtain ⟨x352, ex352⟩ : ∃ y : Int, h27 108 11 = y := ⟨_, rfl⟩
            have bx352 : 0 ≤ x352 ∧ x352 ≤ 3 := ex352 ▸ g_108_11 G27
            obtain ⟨x353, ex353⟩ : ∃ y : Int, h27 108 14 = y := ⟨_, rfl⟩
            have bx353 : 0 ≤ x353 ∧ x353 ≤ 1 := ex353 ▸ g_108_14 G27
            have w354 : h27 108 9 = x350 := ex350
            have w355 : h27 108 10 = x351 := ex351
            have w356 : h27 108 11 = x352 := ex352
            have w357 : h27 108 8 = x4 := ((S27 108 8 rfl).trans ((S23 108 8 rfl).trans ((S2 108 8 rfl).trans ((S1 108 8 rfl).trans ex4))))
            have w358 : h27 108 14 = x353 := ex353
            have l359 := fx349_1.le
            refine z_iconst (M := M_X12_readWeeks) 109 dX12_readWeeks_109 ?_
            have w360 : h27 108 14 = x353 := ex353
            have w361 : h27 108 16 = x6 := ((S27 108 16 rfl).trans ((S23 108 16 rfl).trans ((S2 108 16 rfl).trans ((S1 108 16 rfl).trans ex6))))
            have w362 : h27 108 9 = x350 := ex350
            have w363 : h27 108 8 = x4 := ((S27 108 8 rfl).trans ((S23 108 8 rfl).trans ((S2 108 8 rfl).trans ((S1 108 8 rfl).trans ex4))))
            have w364 : h27 108 10 = x351 := ex351
            have w365 : h27 108 17 = x7 := ((S27 108 17 rfl).trans ((S23 108 17 rfl).trans ((S2 108 17 rfl).trans ((S1 108 17 rfl).trans ex7))))
            have w366 : h27 108 18 = x8 := ((S27 108 18 rfl).trans ((S23 108 18 rfl).trans ((S2 108 18 rfl).trans ((S1 108 18 rfl).trans ex8))))
            refine z_vV (M := M_X12_readWeeks) 110 dX12_readWeeks_110 t_X12_act l_X12_268 (m_rr_of rfl) (rest := []) (c_X12_act h27 0 x29 x29 x349 0 G27 (by by_cases hb : x353 = 0; (have ufx349_2 := fx349_2 (by omega); exact Or.inr (by omega)); (exact Or.inl (by omega)))) o_108 rfl rfl rfl (Nat.le_of_ble_eq_true rfl) ⟨rfl, rfl⟩ (fun h28 qx367 => ?_)
            obtain ⟨G28, S28, fx367_0⟩ := qx367
            have R28 := R27.call S28 (by decide +kernel)
            have P28 := fx349_1.fr S28 rfl rfl rfl rfl
            have A28 := AI_act A27 (by omega) fx367_0 (by omega) (fun hb => by have ufx349_2 := fx349_2 (by omega); unfold okA; omega)
            have w368 : h28 108 9 = x350 := ((S28 108 9 rfl).trans ex350)
            have nx367 : 2 * h28 108 16 ≤ h28 108 9 := by rcases actQ_n fx367_0 with ⟨q1, q2⟩ | ⟨q1, q2⟩; (omega); (have ufx349_2 := fx349_2 (by omega); omega)
            obtain ⟨x369, ex369⟩ : ∃ y : Int, h28 108 16 = y := ⟨_, rfl⟩
            have bx369 : 0 ≤ x369 ∧ x369 ≤ 200 := ex369 ▸ g_108_16 G28
            have w370 : h28 108 9 = x350 := ((S28 108 9 rfl).trans ex350)
            have w371 : h28 108 10 = x351 := ((S28 108 10 rfl).trans ex351)
            have w372 : h28 108 11 = x352 := ((S28 108 11 rfl).trans ex352)
            have w373 : h28 108 8 = x4 := ((S28 108 8 rfl).trans ((S27 108 8 rfl).trans ((S23 108 8 rfl).trans ((S2 108 8 rfl).trans ((S1 108 8 rfl).trans ex4)))))
            have w374 : h28 108 16 = x369 := ex369
            have w375 : h28 108 14 = x353 := ((S28 108 14 rfl).trans ex353)
            exact z_retV (M := M_X12_readWeeks) 113 dX12_readWeeks_113 rfl ⟨G28, R28, by omega, P28, by omega, A28, fun q => by have ufx349_2 := fx349_2 (by omega); omega⟩
      · have w376 : h2 108 9 = x30 := ex30
        have w377 : h2 108 10 = x31 := ex31
        have w378 : h2 108 11 = x32 := ex32
        have w379 : h2 108 8 = x4 := ((S2 108 8 rfl).trans ((S1 108 8 rfl).trans ex4))
        refine z_vV (M := M_X12_readWeeks) 54 dX12_readWeeks_54 t_X12_must l_X12_247 (m_rr_of rfl) (rest := []) (c_X12_must h2 0 G2 ⟨by omega, by omega⟩ fx29_1) o_108 rfl rfl rfl (Nat.le_of_ble_eq_true rfl) ⟨rfl, rfl⟩ (fun h29 qx380 => ?_)
        obtain ⟨G29, S29, fx380_0, fx380_1, fx380_2⟩ := qx380
        have R29 := R2.call S29 (by decide +kernel)
        have A29 := A2.fr S29 (fun _ => rfl) rfl rfl rfl rfl rfl
        obtain ⟨x381, ex381⟩ : ∃ y : Int, h29 108 9 = y := ⟨_, rfl⟩
        have bx381 : 0 ≤ x381 ∧ x381 ≤ 400 := ex381 ▸ g_108_9 G29
        obtain ⟨x382, ex382⟩ : ∃ y : Int, h29 108 10 = y := ⟨_, rfl⟩
        have bx382 : 0 ≤ x382 ∧ x382 ≤ 400 := ex382 ▸ g_108_10 G29
        obtain ⟨x383, ex383⟩ : ∃ y : Int, h29 108 11 = y := ⟨_, rfl⟩
        have bx383 : 0 ≤ x383 ∧ x383 ≤ 3 := ex383 ▸ g_108_11 G29
        obtain ⟨x384, ex384⟩ : ∃ y : Int, h29 108 14 = y := ⟨_, rfl⟩
        have bx384 : 0 ≤ x384 ∧ x384 ≤ 1 := ex384 ▸ g_108_14 G29
        have w385 : h29 108 9 = x381 := ex381
        have w386 : h29 108 10 = x382 := ex382
        have w387 : h29 108 11 = x383 := ex383
        have w388 : h29 108 8 = x4 := ((S29 108 8 rfl).trans ((S2 108 8 rfl).trans ((S1 108 8 rfl).trans ex4)))
        have w389 : h29 108 14 = x384 := ex384
        have l390 := fx380_1.le
        have nbx380 : x384 ≠ 0 := fun q => by have q2 := fx380_2 (by omega); omega
        refine z_aload_n (M := M_X12_readWeeks) 57 dX12_readWeeks_57 rfl ?_
        refine z_getIE (M := M_X12_readWeeks) 58 dX12_readWeeks_58 f_X12_214 o_108 (by decide) ex384 ?_
        refine z_if_ne_T (M := M_X12_readWeeks) 61 dX12_readWeeks_61 90 rfl (by omega) ?_
        refine z_aload_n (M := M_X12_readWeeks) 90 dX12_readWeeks_90 rfl ?_
        refine z_getIE (M := M_X12_readWeeks) 91 dX12_readWeeks_91 f_X12_214 o_108 (by decide) ex384 ?_
        refine z_if_ne_T (M := M_X12_readWeeks) 94 dX12_readWeeks_94 113 rfl (by omega) ?_
        have w391 : h29 108 9 = x381 := ex381
        have w392 : h29 108 10 = x382 := ex382
        have w393 : h29 108 11 = x383 := ex383
        have w394 : h29 108 8 = x4 := ((S29 108 8 rfl).trans ((S2 108 8 rfl).trans ((S1 108 8 rfl).trans ex4)))
        have w395 : h29 108 16 = x6 := ((S29 108 16 rfl).trans ((S2 108 16 rfl).trans ((S1 108 16 rfl).trans ex6)))
        have w396 : h29 108 14 = x384 := ex384
        exact z_retV (M := M_X12_readWeeks) 113 dX12_readWeeks_113 rfl ⟨G29, R29, by omega, fx380_1, by omega, A29, fun q => by have ufx380_2 := fx380_2 (by omega); omega⟩
abbrev P_X12_readShorter (h0 : m_H) : m_H → Prop := fun h' => GI h' ∧ FR [114] [(108, 9), (108, 10), (108, 11), (108, 12), (108, 13), (108, 14), (108, 16), (108, 18)] h0 h' ∧ h0 108 9 ≤ h' 108 9 ∧ PIp h' ∧ 2 * h' 108 16 ≤ h' 108 9 ∧ AI h' ∧ Im (h' 108 14 = 0) (h0 108 14 = 0)
set_option maxHeartbeats 4000000 in
set_option maxRecDepth 100000 in
theorem c_X12_readShorter (h0 : m_H) (G0 : GI h0) (hp : PIp h0) (hn : 2 * h0 108 16 ≤ h0 108 9) (hs : h0 108 11 ≠ 0) (A0 : AI h0) : m_CV M_X12_readShorter [mR 108] h0 (P_X12_readShorter h0) := by
  refine m_CV_of ⟨by decide, rfl, by simp [m_arg, m_isL, M_X12_readShorter], ⟨rfl, rfl⟩, rfl, rfl⟩ (ls := [some (mR 108), none, none, none]) rfl ?_
  have hl := hp.le
  obtain ⟨x1, ex1⟩ : ∃ y : Int, h0 108 9 = y := ⟨_, rfl⟩
  have bx1 : 0 ≤ x1 ∧ x1 ≤ 400 := ex1 ▸ g_108_9 G0
  obtain ⟨x2, ex2⟩ : ∃ y : Int, h0 108 10 = y := ⟨_, rfl⟩
  have bx2 : 0 ≤ x2 ∧ x2 ≤ 400 := ex2 ▸ g_108_10 G0
  obtain ⟨x3, ex3⟩ : ∃ y : Int, h0 108 11 = y := ⟨_, rfl⟩
  have bx3 : 0 ≤ x3 ∧ x3 ≤ 3 := ex3 ▸ g_108_11 G0
  obtain ⟨x4, ex4⟩ : ∃ y : Int, h0 108 8 = y := ⟨_, rfl⟩
  have bx4 : 0 ≤ x4 ∧ x4 ≤ 400 := ex4 ▸ g_108_8 G0
  obtain ⟨x5, ex5⟩ : ∃ y : Int, h0 108 14 = y := ⟨_, rfl⟩
  have bx5 : 0 ≤ x5 ∧ x5 ≤ 1 := ex5 ▸ g_108_14 G0
  obtain ⟨x6, ex6⟩ : ∃ y : Int, h0 108 16 = y := ⟨_, rfl⟩
  have bx6 : 0 ≤ x6 ∧ x6 ≤ 200 := ex6 ▸ g_108_16 G0
  obtain ⟨x7, ex7⟩ : ∃ y : Int, h0 108 17 = y := ⟨_, rfl⟩
  have bx7 : 0 ≤ x7 ∧ x7 ≤ 24 := ex7 ▸ g_108_17 G0
  obtain ⟨x8, ex8⟩ : ∃ y : Int, h0 108 18 = y := ⟨_, rfl⟩
  have bx8 : 0 ≤ x8 ∧ x8 ≤ 6 := ex8 ▸ g_108_18 G0
  have w9 : h0 108 9 = x1 := ex1
  have w10 : h0 108 10 = x2 := ex2
  have w11 : h0 108 11 = x3 := ex3
  have l12 := hp.lt (by omega)
  refine z_aload_n (M := M_X12_readShorter) 0 dX12_readShorter_0 rfl ?_
  refine z_getIE (M := M_X12_readShorter) 1 dX12_readShorter_1 f_X12_221 o_108 (by decide) ex1 ?_
  refine z_istore_n (M := M_X12_readShorter) 4 dX12_readShorter_4 (ls' := [some (mR 108), some (mI x1), none, none]) (by decide) rfl ?_
  refine z_aload_n (M := M_X12_readShorter) 5 dX12_readShorter_5 rfl ?_
  have w13 : h0 108 10 = x2 := ex2
  have w14 : h0 108 8 = x4 := ex4
  refine z_vV (M := M_X12_readShorter) 6 dX12_readShorter_6 t_X12_next l_X12_218 (m_rr_of rfl) (rest := []) (c_X12_next h0 G0 (by omega)) o_108 rfl rfl rfl (Nat.le_of_ble_eq_true rfl) ⟨rfl, rfl⟩ (fun h1 qx15 => ?_)
  obtain ⟨G1, S1, fx15_0, fx15_1⟩ := qx15
  have R1 := (FR.rf (cs := [114]) (ss := [(108, 9), (108, 10), (108, 11), (108, 12), (108, 13), (108, 14), (108, 16), (108, 18)]) (h := h0)).call S1 (by decide +kernel)
  have A1 := A0.fr S1 (fun _ => rfl) rfl rfl rfl rfl rfl
  obtain ⟨x16, ex16⟩ : ∃ y : Int, h1 108 9 = y := ⟨_, rfl⟩
  have bx16 : 0 ≤ x16 ∧ x16 ≤ 400 := ex16 ▸ g_108_9 G1
  obtain ⟨x17, ex17⟩ : ∃ y : Int, h1 108 10 = y := ⟨_, rfl⟩
  have bx17 : 0 ≤ x17 ∧ x17 ≤ 400 := ex17 ▸ g_108_10 G1
  obtain ⟨x18, ex18⟩ : ∃ y : Int, h1 108 11 = y := ⟨_, rfl⟩
  have bx18 : 0 ≤ x18 ∧ x18 ≤ 3 := ex18 ▸ g_108_11 G1
  have w19 : h1 108 9 = x16 := ex16
  have w20 : h1 108 10 = x17 := ex17
  have w21 : h1 108 11 = x18 := ex18
  have w22 : h1 108 8 = x4 := ((S1 108 8 rfl).trans ex4)
  have l23 := fx15_1.le
  refine z_aload_n (M := M_X12_readShorter) 9 dX12_readShorter_9 rfl ?_
  refine z_lconst (M := M_X12_readShorter) 10 dX12_readShorter_10 (v := 0) ?_
  refine z_ldc2 (M := M_X12_readShorter) 11 dX12_readShorter_11 k_X12_152 ?_
  have w24 : h1 108 9 = x16 := ex16
  have w25 : h1 108 10 = x17 := ex17
  have w26 : h1 108 11 = x18 := ex18
  have w27 : h1 108 8 = x4 := ((S1 108 8 rfl).trans ex4)
  have w28 : h1 108 14 = x5 := ((S1 108 14 rfl).trans ex5)
  refine z_vI (M := M_X12_readShorter) 14 dX12_readShorter_14 t_X12_number l_X12_254 (m_rr_of rfl) (rest := []) (c_X12_number h1 0 3 G1 ⟨by omega, by omega⟩ ⟨by omega, by omega⟩ fx15_1) o_108 rfl rfl rfl (Nat.le_of_ble_eq_true rfl) ⟨rfl, rfl⟩ (fun x29 h2 qx29 => ?_)
  obtain ⟨G2, S2, fx29_0, fx29_1, fx29_2⟩ := qx29
  have R2 := R1.call S2 (by decide +kernel)
  have A2 := A1.fr S2 (fun _ => rfl) rfl rfl rfl rfl rfl
  refine z_ok (fun ox29 _ _ => ?_)
  have ox29 := ox29.1; unfold m_ok m_32 at ox29
  obtain ⟨x30, ex30⟩ : ∃ y : Int, h2 108 9 = y := ⟨_, rfl⟩
  have bx30 : 0 ≤ x30 ∧ x30 ≤ 400 := ex30 ▸ g_108_9 G2
  obtain ⟨x31, ex31⟩ : ∃ y : Int, h2 108 10 = y := ⟨_, rfl⟩
  have bx31 : 0 ≤ x31 ∧ x31 ≤ 400 := ex31 ▸ g_108_10 G2
  obtain ⟨x32, ex32⟩ : ∃ y : Int, h2 108 11 = y := ⟨_, rfl⟩
  have bx32 : 0 ≤ x32 ∧ x32 ≤ 3 := ex32 ▸ g_108_11 G2
  obtain ⟨x33, ex33⟩ : ∃ y : Int, h2 108 14 = y := ⟨_, rfl⟩
  have bx33 : 0 ≤ x33 ∧ x33 ≤ 1 := ex33 ▸ g_108_14 G2
  have w34 : h2 108 9 = x30 := ex30
  have w35 : h2 108 10 = x31 := ex31
  have w36 : h2 108 11 = x32 := ex32
  have w37 : h2 108 8 = x4 := ((S2 108 8 rfl).trans ((S1 108 8 rfl).trans ex4))
  have w38 : h2 108 14 = x33 := ex33
  have l39 := fx29_1.le
  refine z_istore_n (M := M_X12_readShorter) 17 dX12_readShorter_17 (ls' := [some (mR 108), some (mI x1), some (mI x29), none]) (by decide) rfl ?_
  refine z_aload_n (M := M_X12_readShorter) 18 dX12_readShorter_18 rfl ?_
  refine z_aload_n (M := M_X12_readShorter) 19 dX12_readShorter_19 rfl ?_
  refine z_ldc2 (M := M_X12_readShorter) 20 dX12_readShorter_20 k_X12_272 ?_
  refine z_vI (M := M_X12_readShorter) 23 dX12_readShorter_23 t_X12_isWord l_X12_260 (m_rr_of rfl) (rest := [mR 108]) (c_X12_isWord h2 2273783 G2) o_108 rfl rfl rfl (Nat.le_of_ble_eq_true rfl) ⟨rfl, rfl⟩ (fun x40 h3 qx40 => ?_)
  obtain ⟨rfl, ⟨rfl, cx40⟩ | ⟨rfl, cx40⟩⟩ := qx40
  · have w41 : h2 108 9 = x30 := ex30
    have w42 : h2 108 10 = x31 := ex31
    have w43 : h2 108 11 = x32 := ex32
    have w44 : h2 108 8 = x4 := ((S2 108 8 rfl).trans ((S1 108 8 rfl).trans ex4))
    refine z_vV (M := M_X12_readShorter) 26 dX12_readShorter_26 t_X12_must l_X12_247 (m_rr_of rfl) (rest := []) (c_X12_must h2 1 G2 ⟨by omega, by omega⟩ fx29_1) o_108 rfl rfl rfl (Nat.le_of_ble_eq_true rfl) ⟨rfl, rfl⟩ (fun h4 qx45 => ?_)
    obtain ⟨G4, S4, fx45_0, fx45_1, fx45_2⟩ := qx45
    have R4 := R2.call S4 (by decide +kernel)
    have A4 := A2.fr S4 (fun _ => rfl) rfl rfl rfl rfl rfl
    obtain ⟨x46, ex46⟩ : ∃ y : Int, h4 108 9 = y := ⟨_, rfl⟩
    have bx46 : 0 ≤ x46 ∧ x46 ≤ 400 := ex46 ▸ g_108_9 G4
    obtain ⟨x47, ex47⟩ : ∃ y : Int, h4 108 10 = y := ⟨_, rfl⟩
    have bx47 : 0 ≤ x47 ∧ x47 ≤ 400 := ex47 ▸ g_108_10 G4
    obtain ⟨x48, ex48⟩ : ∃ y : Int, h4 108 11 = y := ⟨_, rfl⟩
    have bx48 : 0 ≤ x48 ∧ x48 ≤ 3 := ex48 ▸ g_108_11 G4
    obtain ⟨x49, ex49⟩ : ∃ y : Int, h4 108 14 = y := ⟨_, rfl⟩
    have bx49 : 0 ≤ x49 ∧ x49 ≤ 1 := ex49 ▸ g_108_14 G4
    have w50 : h4 108 9 = x46 := ex46
    have w51 : h4 108 10 = x47 := ex47
    have w52 : h4 108 11 = x48 := ex48
    have w53 : h4 108 8 = x4 := ((S4 108 8 rfl).trans ((S2 108 8 rfl).trans ((S1 108 8 rfl).trans ex4)))
    have w54 : h4 108 14 = x49 := ex49
    have l55 := fx45_1.le
    refine z_aload_n (M := M_X12_readShorter) 29 dX12_readShorter_29 rfl ?_
    refine z_getJV (M := M_X12_readShorter) 30 dX12_readShorter_30 f_X12_224 o_108 rfl (fun x56 ex56 => ?_)
    refine z_l2i (M := M_X12_readShorter) 33 dX12_readShorter_33 ?_
    refine z_topm (fun x57 ex57 ox57 => ?_)
    unfold m_32 at ox57
    have mw := m_w_or ex57
    refine z_istore_n (M := M_X12_readShorter) 34 dX12_readShorter_34 (ls' := [some (mR 108), some (mI x1), some (mI x29), some (mI x57)]) (by decide) rfl ?_
    refine z_aload_n (M := M_X12_readShorter) 35 dX12_readShorter_35 rfl ?_
    refine z_aload_n (M := M_X12_readShorter) 36 dX12_readShorter_36 rfl ?_
    refine z_getIE (M := M_X12_readShorter) 37 dX12_readShorter_37 f_X12_234 o_108 (by decide) ex48 ?_
    refine z_iconst (M := M_X12_readShorter) 40 dX12_readShorter_40 ?_
    refine z_icmp_ne (M := M_X12_readShorter) 41 dX12_readShorter_41 67 rfl (fun c58 => ?_) (fun c58 => ?_)
    · refine z_iconst (M := M_X12_readShorter) 67 dX12_readShorter_67 ?_
      have w59 : h4 108 9 = x46 := ex46
      have w60 : h4 108 10 = x47 := ex47
      have w61 : h4 108 11 = x48 := ex48
      have w62 : h4 108 8 = x4 := ((S4 108 8 rfl).trans ((S2 108 8 rfl).trans ((S1 108 8 rfl).trans ex4)))
      refine z_vV (M := M_X12_readShorter) 68 dX12_readShorter_68 t_X12_must l_X12_247 (m_rr_of rfl) (rest := []) (c_X12_must h4 0 G4 ⟨by omega, by omega⟩ fx45_1) o_108 rfl rfl rfl (Nat.le_of_ble_eq_true rfl) ⟨rfl, rfl⟩ (fun h5 qx63 => ?_)
      obtain ⟨G5, S5, fx63_0, fx63_1, fx63_2⟩ := qx63
      have R5 := R4.call S5 (by decide +kernel)
      have A5 := A4.fr S5 (fun _ => rfl) rfl rfl rfl rfl rfl
      obtain ⟨x64, ex64⟩ : ∃ y : Int, h5 108 9 = y := ⟨_, rfl⟩
      have bx64 : 0 ≤ x64 ∧ x64 ≤ 400 := ex64 ▸ g_108_9 G5
      obtain ⟨x65, ex65⟩ : ∃ y : Int, h5 108 10 = y := ⟨_, rfl⟩
      have bx65 : 0 ≤ x65 ∧ x65 ≤ 400 := ex65 ▸ g_108_10 G5
      obtain ⟨x66, ex66⟩ : ∃ y : Int, h5 108 11 = y := ⟨_, rfl⟩
      have bx66 : 0 ≤ x66 ∧ x66 ≤ 3 := ex66 ▸ g_108_11 G5
      obtain ⟨x67, ex67⟩ : ∃ y : Int, h5 108 14 = y := ⟨_, rfl⟩
      have bx67 : 0 ≤ x67 ∧ x67 ≤ 1 := ex67 ▸ g_108_14 G5
      have w68 : h5 108 9 = x64 := ex64
      have w69 : h5 108 10 = x65 := ex65
      have w70 : h5 108 11 = x66 := ex66
      have w71 : h5 108 8 = x4 := ((S5 108 8 rfl).trans ((S4 108 8 rfl).trans ((S2 108 8 rfl).trans ((S1 108 8 rfl).trans ex4))))
      have w72 : h5 108 14 = x67 := ex67
      have l73 := fx63_1.le
      have nbx63 : x67 ≠ 0 := fun q => by have q2 := fx63_2 (by omega); omega
      refine z_aload_n (M := M_X12_readShorter) 71 dX12_readShorter_71 rfl ?_
      refine z_getIE (M := M_X12_readShorter) 72 dX12_readShorter_72 f_X12_214 o_108 (by decide) ex67 ?_
      refine z_if_ne_T (M := M_X12_readShorter) 75 dX12_readShorter_75 87 rfl (by omega) ?_
      have w74 : h5 108 9 = x64 := ex64
      have w75 : h5 108 10 = x65 := ex65
      have w76 : h5 108 11 = x66 := ex66
      have w77 : h5 108 8 = x4 := ((S5 108 8 rfl).trans ((S4 108 8 rfl).trans ((S2 108 8 rfl).trans ((S1 108 8 rfl).trans ex4))))
      have w78 : h5 108 16 = x6 := ((S5 108 16 rfl).trans ((S4 108 16 rfl).trans ((S2 108 16 rfl).trans ((S1 108 16 rfl).trans ex6))))
      have w79 : h5 108 14 = x67 := ex67
      exact z_retV (M := M_X12_readShorter) 87 dX12_readShorter_87 rfl ⟨G5, R5, by omega, fx63_1, by omega, A5, fun q => by have ufx63_2 := fx63_2 (by omega); have ufx45_2 := fx45_2 (by omega); have ufx29_2 := fx29_2 (by omega); omega⟩
    · refine z_aload_n (M := M_X12_readShorter) 44 dX12_readShorter_44 rfl ?_
      refine z_getJE (M := M_X12_readShorter) 45 dX12_readShorter_45 f_X12_224 o_108 rfl ex56 ?_
      refine z_lconst (M := M_X12_readShorter) 48 dX12_readShorter_48 (v := 0) ?_
      refine z_ldc2 (M := M_X12_readShorter) 49 dX12_readShorter_49 k_X12_152 ?_
      refine z_sI (M := M_X12_readShorter) 52 dX12_readShorter_52 t_X12_in l_X12_143 (m_rr_of rfl) (rest := [mR 108]) (c_X12_in h4 x56 0 3 G4) rfl rfl (Nat.le_of_ble_eq_true rfl) ⟨rfl, rfl⟩ (fun x80 h6 qx80 => ?_)
      obtain ⟨rfl, ⟨rfl, cx80⟩ | ⟨rfl, cx80⟩⟩ := qx80
      · refine z_if_eq_F (M := M_X12_readShorter) 55 dX12_readShorter_55 67 rfl (by omega) ?_
        refine z_iload_n (M := M_X12_readShorter) 58 dX12_readShorter_58 rfl ?_
        refine z_iload_n (M := M_X12_readShorter) 59 dX12_readShorter_59 rfl ?_
        refine z_icmp_eq (M := M_X12_readShorter) 60 dX12_readShorter_60 67 rfl (fun c81 => ?_) (fun c81 => ?_)
        · refine z_iconst (M := M_X12_readShorter) 67 dX12_readShorter_67 ?_
          have w82 : h4 108 9 = x46 := ex46
          have w83 : h4 108 10 = x47 := ex47
          have w84 : h4 108 11 = x48 := ex48
          have w85 : h4 108 8 = x4 := ((S4 108 8 rfl).trans ((S2 108 8 rfl).trans ((S1 108 8 rfl).trans ex4)))
          refine z_vV (M := M_X12_readShorter) 68 dX12_readShorter_68 t_X12_must l_X12_247 (m_rr_of rfl) (rest := []) (c_X12_must h4 0 G4 ⟨by omega, by omega⟩ fx45_1) o_108 rfl rfl rfl (Nat.le_of_ble_eq_true rfl) ⟨rfl, rfl⟩ (fun h7 qx86 => ?_)
          obtain ⟨G7, S7, fx86_0, fx86_1, fx86_2⟩ := qx86
          have R7 := R4.call S7 (by decide +kernel)
          have A7 := A4.fr S7 (fun _ => rfl) rfl rfl rfl rfl rfl
          obtain ⟨x87, ex87⟩ : ∃ y : Int, h7 108 9 = y := ⟨_, rfl⟩
          have bx87 : 0 ≤ x87 ∧ x87 ≤ 400 := ex87 ▸ g_108_9 G7
          obtain ⟨x88, ex88⟩ : ∃ y : Int, h7 108 10 = y := ⟨_, rfl⟩
          have bx88 : 0 ≤ x88 ∧ x88 ≤ 400 := ex88 ▸ g_108_10 G7
          obtain ⟨x89, ex89⟩ : ∃ y : Int, h7 108 11 = y := ⟨_, rfl⟩
          have bx89 : 0 ≤ x89 ∧ x89 ≤ 3 := ex89 ▸ g_108_11 G7
          obtain ⟨x90, ex90⟩ : ∃ y : Int, h7 108 14 = y := ⟨_, rfl⟩
          have bx90 : 0 ≤ x90 ∧ x90 ≤ 1 := ex90 ▸ g_108_14 G7
          have w91 : h7 108 9 = x87 := ex87
          have w92 : h7 108 10 = x88 := ex88
          have w93 : h7 108 11 = x89 := ex89
          have w94 : h7 108 8 = x4 := ((S7 108 8 rfl).trans ((S4 108 8 rfl).trans ((S2 108 8 rfl).trans ((S1 108 8 rfl).trans ex4))))
          have w95 : h7 108 14 = x90 := ex90
          have l96 := fx86_1.le
          have nbx86 : x90 ≠ 0 := fun q => by have q2 := fx86_2 (by omega); omega
          refine z_aload_n (M := M_X12_readShorter) 71 dX12_readShorter_71 rfl ?_
          refine z_getIE (M := M_X12_readShorter) 72 dX12_readShorter_72 f_X12_214 o_108 (by decide) ex90 ?_
          refine z_if_ne_T (M := M_X12_readShorter) 75 dX12_readShorter_75 87 rfl (by omega) ?_
          have w97 : h7 108 9 = x87 := ex87
          have w98 : h7 108 10 = x88 := ex88
          have w99 : h7 108 11 = x89 := ex89
          have w100 : h7 108 8 = x4 := ((S7 108 8 rfl).trans ((S4 108 8 rfl).trans ((S2 108 8 rfl).trans ((S1 108 8 rfl).trans ex4))))
          have w101 : h7 108 16 = x6 := ((S7 108 16 rfl).trans ((S4 108 16 rfl).trans ((S2 108 16 rfl).trans ((S1 108 16 rfl).trans ex6))))
          have w102 : h7 108 14 = x90 := ex90
          exact z_retV (M := M_X12_readShorter) 87 dX12_readShorter_87 rfl ⟨G7, R7, by omega, fx86_1, by omega, A7, fun q => by have ufx86_2 := fx86_2 (by omega); have ufx45_2 := fx45_2 (by omega); have ufx29_2 := fx29_2 (by omega); omega⟩
        · refine z_iconst (M := M_X12_readShorter) 63 dX12_readShorter_63 ?_
          refine z_goto (M := M_X12_readShorter) 64 dX12_readShorter_64 68 rfl ?_
          have w103 : h4 108 9 = x46 := ex46
          have w104 : h4 108 10 = x47 := ex47
          have w105 : h4 108 11 = x48 := ex48
          have w106 : h4 108 8 = x4 := ((S4 108 8 rfl).trans ((S2 108 8 rfl).trans ((S1 108 8 rfl).trans ex4)))
          refine z_vV (M := M_X12_readShorter) 68 dX12_readShorter_68 t_X12_must l_X12_247 (m_rr_of rfl) (rest := []) (c_X12_must h4 1 G4 ⟨by omega, by omega⟩ fx45_1) o_108 rfl rfl rfl (Nat.le_of_ble_eq_true rfl) ⟨rfl, rfl⟩ (fun h8 qx107 => ?_)
          obtain ⟨G8, S8, fx107_0, fx107_1, fx107_2⟩ := qx107
          have R8 := R4.call S8 (by decide +kernel)
          have A8 := A4.fr S8 (fun _ => rfl) rfl rfl rfl rfl rfl
          obtain ⟨x108, ex108⟩ : ∃ y : Int, h8 108 9 = y := ⟨_, rfl⟩
          have bx108 : 0 ≤ x108 ∧ x108 ≤ 400 := ex108 ▸ g_108_9 G8
          obtain ⟨x109, ex109⟩ : ∃ y : Int, h8 108 10 = y := ⟨_, rfl⟩
          have bx109 : 0 ≤ x109 ∧ x109 ≤ 400 := ex109 ▸ g_108_10 G8
          obtain ⟨x110, ex110⟩ : ∃ y : Int, h8 108 11 = y := ⟨_, rfl⟩
          have bx110 : 0 ≤ x110 ∧ x110 ≤ 3 := ex110 ▸ g_108_11 G8
          obtain ⟨x111, ex111⟩ : ∃ y : Int, h8 108 14 = y := ⟨_, rfl⟩
          have bx111 : 0 ≤ x111 ∧ x111 ≤ 1 := ex111 ▸ g_108_14 G8
          have w112 : h8 108 9 = x108 := ex108
          have w113 : h8 108 10 = x109 := ex109
          have w114 : h8 108 11 = x110 := ex110
          have w115 : h8 108 8 = x4 := ((S8 108 8 rfl).trans ((S4 108 8 rfl).trans ((S2 108 8 rfl).trans ((S1 108 8 rfl).trans ex4))))
          have w116 : h8 108 14 = x111 := ex111
          have l117 := fx107_1.le
          refine z_aload_n (M := M_X12_readShorter) 71 dX12_readShorter_71 rfl ?_
          refine z_getIE (M := M_X12_readShorter) 72 dX12_readShorter_72 f_X12_214 o_108 (by decide) ex111 ?_
          refine z_if_ne (M := M_X12_readShorter) 75 dX12_readShorter_75 87 rfl (fun c118 => ?_) (fun c118 => ?_)
          · have w119 : h8 108 9 = x108 := ex108
            have w120 : h8 108 10 = x109 := ex109
            have w121 : h8 108 11 = x110 := ex110
            have w122 : h8 108 8 = x4 := ((S8 108 8 rfl).trans ((S4 108 8 rfl).trans ((S2 108 8 rfl).trans ((S1 108 8 rfl).trans ex4))))
            have w123 : h8 108 16 = x6 := ((S8 108 16 rfl).trans ((S4 108 16 rfl).trans ((S2 108 16 rfl).trans ((S1 108 16 rfl).trans ex6))))
            have w124 : h8 108 14 = x111 := ex111
            exact z_retV (M := M_X12_readShorter) 87 dX12_readShorter_87 rfl ⟨G8, R8, by omega, fx107_1, by omega, A8, fun q => by have ufx107_2 := fx107_2 (by omega); have ufx45_2 := fx45_2 (by omega); have ufx29_2 := fx29_2 (by omega); omega⟩
          · have ufx107_2 := fx107_2 (by omega)
            have ufx45_2 := fx45_2 (by omega)
            have ufx29_2 := fx29_2 (by omega)
            refine z_aload_n (M := M_X12_readShorter) 78 dX12_readShorter_78 rfl ?_
            refine z_iload_n (M := M_X12_readShorter) 79 dX12_readShorter_79 rfl ?_
            refine z_iload_n (M := M_X12_readShorter) 80 dX12_readShorter_80 rfl ?_
            refine z_vI (M := M_X12_readShorter) 81 dX12_readShorter_81 t_X12_isDrafted l_X12_274 (m_rr_of rfl) (rest := []) (c_X12_isDrafted h8 x29 x57 G8) o_108 rfl rfl rfl (Nat.le_of_ble_eq_true rfl) ⟨rfl, rfl⟩ (fun x125 h9 qx125 => ?_)
            obtain ⟨G9, S9, ax125, bx125⟩ := qx125
            have R9 := R8.call S9 (by decide +kernel)
            have P9 := fx107_1.fr S9 rfl rfl rfl rfl
            have A9 := A8.fr S9 (fun _ => rfl) rfl rfl rfl rfl rfl
            refine z_if_eq (M := M_X12_readShorter) 84 dX12_readShorter_84 88 rfl (fun c126 => ?_) (fun c126 => ?_)
            · refine z_aload_n (M := M_X12_readShorter) 88 dX12_readShorter_88 rfl ?_
              refine z_getR (M := M_X12_readShorter) 89 dX12_readShorter_89 f_X12_13 o_108 rfl (g_108_3 G9) ?_
              refine z_iconst (M := M_X12_readShorter) 92 dX12_readShorter_92 ?_
              refine z_ialdG (M := M_X12_readShorter) 93 dX12_readShorter_93 o_110 (by omega) (by omega) (gw_1 G9) (fun x127 ex127 ax127 bx127 => ?_)
              refine z_aload_n (M := M_X12_readShorter) 94 dX12_readShorter_94 rfl ?_
              refine z_getIE (M := M_X12_readShorter) 95 dX12_readShorter_95 f_X12_277 o_108 (by decide) ((S9 108 18 rfl).trans ((S8 108 18 rfl).trans ((S4 108 18 rfl).trans ((S2 108 18 rfl).trans ((S1 108 18 rfl).trans ex8))))) ?_
              refine z_iaddN (M := M_X12_readShorter) 98 dX12_readShorter_98 (by omega) (by omega) ?_
              refine z_bipush (M := M_X12_readShorter) 99 dX12_readShorter_99 ?_
              refine z_icmp_ne (M := M_X12_readShorter) 101 dX12_readShorter_101 115 rfl (fun c128 => ?_) (fun c128 => ?_)
              · refine z_aload_n (M := M_X12_readShorter) 115 dX12_readShorter_115 rfl ?_
                refine z_dup (M := M_X12_readShorter) 116 dX12_readShorter_116 rfl ?_
                refine z_getIE (M := M_X12_readShorter) 117 dX12_readShorter_117 f_X12_277 o_108 (by decide) ((S9 108 18 rfl).trans ((S8 108 18 rfl).trans ((S4 108 18 rfl).trans ((S2 108 18 rfl).trans ((S1 108 18 rfl).trans ex8))))) ?_
                refine z_iconst (M := M_X12_readShorter) 120 dX12_readShorter_120 ?_
                refine z_iaddN (M := M_X12_readShorter) 121 dX12_readShorter_121 (by omega) (by omega) ?_
                have w129 : h9 108 16 = x6 := ((S9 108 16 rfl).trans ((S8 108 16 rfl).trans ((S4 108 16 rfl).trans ((S2 108 16 rfl).trans ((S1 108 16 rfl).trans ex6)))))
                have w130 : h9 108 14 = x111 := ((S9 108 14 rfl).trans ex111)
                have w131 : h9 108 18 = x8 := ((S9 108 18 rfl).trans ((S8 108 18 rfl).trans ((S4 108 18 rfl).trans ((S2 108 18 rfl).trans ((S1 108 18 rfl).trans ex8)))))
                have w132 : h9 108 17 = x7 := ((S9 108 17 rfl).trans ((S8 108 17 rfl).trans ((S4 108 17 rfl).trans ((S2 108 17 rfl).trans ((S1 108 17 rfl).trans ex7)))))
                have w133 : h9 110 1 = x127 := ex127
                have rm134 := A9.rooms
                refine z_putIH (M := M_X12_readShorter) 122 dX12_readShorter_122 p_X12_277 o_108 rfl (u_108_18 G9 (by omega) (by omega)) (R9.up rfl) (fun h10 E10 G10 R10 => ?_)
                have P10 := P9.same (upN E10 (by decide)) (upN E10 (by decide)) (upN E10 (by decide)) (upN E10 (by decide))
                refine z_aload_n (M := M_X12_readShorter) 125 dX12_readShorter_125 rfl ?_
                refine z_iconst (M := M_X12_readShorter) 126 dX12_readShorter_126 ?_
                refine z_iload_n (M := M_X12_readShorter) 127 dX12_readShorter_127 rfl ?_
                refine z_iload_n (M := M_X12_readShorter) 128 dX12_readShorter_128 rfl ?_
                refine z_iconst (M := M_X12_readShorter) 129 dX12_readShorter_129 ?_
                refine z_iconst (M := M_X12_readShorter) 130 dX12_readShorter_130 ?_
                have w135 : h10 108 14 = x111 := ((upN E10 (fun q => absurd q.2 (by decide))).trans ((S9 108 14 rfl).trans ex111))
                have w136 : h10 108 16 = x6 := ((upN E10 (fun q => absurd q.2 (by decide))).trans ((S9 108 16 rfl).trans ((S8 108 16 rfl).trans ((S4 108 16 rfl).trans ((S2 108 16 rfl).trans ((S1 108 16 rfl).trans ex6))))))
                have w137 : h10 108 9 = x108 := ((upN E10 (fun q => absurd q.2 (by decide))).trans ((S9 108 9 rfl).trans ex108))
                have w138 : h10 108 8 = x4 := ((upN E10 (fun q => absurd q.2 (by decide))).trans ((S9 108 8 rfl).trans ((S8 108 8 rfl).trans ((S4 108 8 rfl).trans ((S2 108 8 rfl).trans ((S1 108 8 rfl).trans ex4))))))
                have w139 : h10 108 10 = x109 := ((upN E10 (fun q => absurd q.2 (by decide))).trans ((S9 108 10 rfl).trans ex109))
                have w140 : h10 108 17 = x7 := ((upN E10 (fun q => absurd q.2 (by decide))).trans ((S9 108 17 rfl).trans ((S8 108 17 rfl).trans ((S4 108 17 rfl).trans ((S2 108 17 rfl).trans ((S1 108 17 rfl).trans ex7))))))
                have w141 : h10 108 18 = (x8 + 1) := (upE E10)
                have w142 : h10 110 1 = x127 := ((upN E10 (fun q => absurd q.1 (by decide))).trans ex127)
                refine z_vV (M := M_X12_readShorter) 131 dX12_readShorter_131 t_X12_act l_X12_268 (m_rr_of rfl) (rest := []) (c_X12_act h10 1 x29 x57 0 0 G10 (by by_cases hb : x111 = 0; ( exact Or.inr (by omega)); (exact Or.inl (by omega)))) o_108 rfl rfl rfl (Nat.le_of_ble_eq_true rfl) ⟨rfl, rfl⟩ (fun h11 qx143 => ?_)
                obtain ⟨G11, S11, fx143_0⟩ := qx143
                have R11 := R10.call S11 (by decide +kernel)
                have P11 := P10.fr S11 rfl rfl rfl rfl
                have A11 := AI_act1 A9 (by omega) E10 ((S9 108 18 rfl).trans ((S8 108 18 rfl).trans ((S4 108 18 rfl).trans ((S2 108 18 rfl).trans ((S1 108 18 rfl).trans ex8))))) (by omega) (by omega) fx143_0 (by unfold okA; omega)
                have w144 : h11 108 9 = x108 := ((S11 108 9 rfl).trans ((upN E10 (fun q => absurd q.2 (by decide))).trans ((S9 108 9 rfl).trans ex108)))
                have nx143 : 2 * h11 108 16 ≤ h11 108 9 := by rcases actQ_n fx143_0 with ⟨q1, q2⟩ | ⟨q1, q2⟩; (omega); ( omega)
                obtain ⟨x145, ex145⟩ : ∃ y : Int, h11 108 16 = y := ⟨_, rfl⟩
                have bx145 : 0 ≤ x145 ∧ x145 ≤ 200 := ex145 ▸ g_108_16 G11
                have w146 : h11 108 9 = x108 := ((S11 108 9 rfl).trans ((upN E10 (fun q => absurd q.2 (by decide))).trans ((S9 108 9 rfl).trans ex108)))
                have w147 : h11 108 10 = x109 := ((S11 108 10 rfl).trans ((upN E10 (fun q => absurd q.2 (by decide))).trans ((S9 108 10 rfl).trans ex109)))
                have w148 : h11 108 11 = x110 := ((S11 108 11 rfl).trans ((upN E10 (fun q => absurd q.2 (by decide))).trans ((S9 108 11 rfl).trans ex110)))
                have w149 : h11 108 8 = x4 := ((S11 108 8 rfl).trans ((upN E10 (fun q => absurd q.2 (by decide))).trans ((S9 108 8 rfl).trans ((S8 108 8 rfl).trans ((S4 108 8 rfl).trans ((S2 108 8 rfl).trans ((S1 108 8 rfl).trans ex4)))))))
                have w150 : h11 108 16 = x145 := ex145
                have w151 : h11 108 14 = x111 := ((S11 108 14 rfl).trans ((upN E10 (fun q => absurd q.2 (by decide))).trans ((S9 108 14 rfl).trans ex111)))
                exact z_retV (M := M_X12_readShorter) 134 dX12_readShorter_134 rfl ⟨G11, R11, by omega, P11, by omega, A11, fun q => by  omega⟩
              · refine z_aload_n (M := M_X12_readShorter) 104 dX12_readShorter_104 rfl ?_
                refine z_iconst (M := M_X12_readShorter) 105 dX12_readShorter_105 ?_
                refine z_putZH (M := M_X12_readShorter) 106 dX12_readShorter_106 p_X12_214 o_108 rfl (by omega) (u_108_14 G9 (by omega) (by omega)) (R9.up rfl) (fun h12 E12 G12 R12 => ?_)
                have P12 := P9.same (upN E12 (by decide)) (upN E12 (by decide)) (upN E12 (by decide)) (upN E12 (by decide))
                have A12 := A9.same (fun j => upN E12 (fun q => absurd q.1 (by decide))) (upN E12 (by decide)) (upN E12 (by decide)) (upN E12 (by decide)) (upN E12 (by decide)) (upN E12 (by decide))
                refine z_aload_n (M := M_X12_readShorter) 109 dX12_readShorter_109 rfl ?_
                refine z_iload_n (M := M_X12_readShorter) 110 dX12_readShorter_110 rfl ?_
                refine z_putIH (M := M_X12_readShorter) 111 dX12_readShorter_111 p_X12_26 o_108 rfl (u_108_13 G12) (R12.up rfl) (fun h13 E13 G13 R13 => ?_)
                have P13 := P12.same (upN E13 (by decide)) (upN E13 (by decide)) (upN E13 (by decide)) (upN E13 (by decide))
                have A13 := A12.same (fun j => upN E13 (fun q => absurd q.1 (by decide))) (upN E13 (by decide)) (upN E13 (by decide)) (upN E13 (by decide)) (upN E13 (by decide)) (upN E13 (by decide))
                have w152 : h13 108 9 = x108 := ((upN E13 (fun q => absurd q.2 (by decide))).trans ((upN E12 (fun q => absurd q.2 (by decide))).trans ((S9 108 9 rfl).trans ex108)))
                have w153 : h13 108 10 = x109 := ((upN E13 (fun q => absurd q.2 (by decide))).trans ((upN E12 (fun q => absurd q.2 (by decide))).trans ((S9 108 10 rfl).trans ex109)))
                have w154 : h13 108 11 = x110 := ((upN E13 (fun q => absurd q.2 (by decide))).trans ((upN E12 (fun q => absurd q.2 (by decide))).trans ((S9 108 11 rfl).trans ex110)))
                have w155 : h13 108 8 = x4 := ((upN E13 (fun q => absurd q.2 (by decide))).trans ((upN E12 (fun q => absurd q.2 (by decide))).trans ((S9 108 8 rfl).trans ((S8 108 8 rfl).trans ((S4 108 8 rfl).trans ((S2 108 8 rfl).trans ((S1 108 8 rfl).trans ex4)))))))
                have w156 : h13 108 16 = x6 := ((upN E13 (fun q => absurd q.2 (by decide))).trans ((upN E12 (fun q => absurd q.2 (by decide))).trans ((S9 108 16 rfl).trans ((S8 108 16 rfl).trans ((S4 108 16 rfl).trans ((S2 108 16 rfl).trans ((S1 108 16 rfl).trans ex6)))))))
                have w157 : h13 108 14 = 1 := ((upN E13 (fun q => absurd q.2 (by decide))).trans (upE E12))
                exact z_retV (M := M_X12_readShorter) 114 dX12_readShorter_114 rfl ⟨G13, R13, by omega, P13, by omega, A13, fun q => by  omega⟩
            · have w158 : h9 108 9 = x108 := ((S9 108 9 rfl).trans ex108)
              have w159 : h9 108 10 = x109 := ((S9 108 10 rfl).trans ex109)
              have w160 : h9 108 11 = x110 := ((S9 108 11 rfl).trans ex110)
              have w161 : h9 108 8 = x4 := ((S9 108 8 rfl).trans ((S8 108 8 rfl).trans ((S4 108 8 rfl).trans ((S2 108 8 rfl).trans ((S1 108 8 rfl).trans ex4)))))
              have w162 : h9 108 16 = x6 := ((S9 108 16 rfl).trans ((S8 108 16 rfl).trans ((S4 108 16 rfl).trans ((S2 108 16 rfl).trans ((S1 108 16 rfl).trans ex6)))))
              have w163 : h9 108 14 = x111 := ((S9 108 14 rfl).trans ex111)
              exact z_retV (M := M_X12_readShorter) 87 dX12_readShorter_87 rfl ⟨G9, R9, by omega, P9, by omega, A9, fun q => by  omega⟩
      · refine z_if_eq_T (M := M_X12_readShorter) 55 dX12_readShorter_55 67 rfl (by omega) ?_
        refine z_iconst (M := M_X12_readShorter) 67 dX12_readShorter_67 ?_
        have w164 : h4 108 9 = x46 := ex46
        have w165 : h4 108 10 = x47 := ex47
        have w166 : h4 108 11 = x48 := ex48
        have w167 : h4 108 8 = x4 := ((S4 108 8 rfl).trans ((S2 108 8 rfl).trans ((S1 108 8 rfl).trans ex4)))
        refine z_vV (M := M_X12_readShorter) 68 dX12_readShorter_68 t_X12_must l_X12_247 (m_rr_of rfl) (rest := []) (c_X12_must h4 0 G4 ⟨by omega, by omega⟩ fx45_1) o_108 rfl rfl rfl (Nat.le_of_ble_eq_true rfl) ⟨rfl, rfl⟩ (fun h14 qx168 => ?_)
        obtain ⟨G14, S14, fx168_0, fx168_1, fx168_2⟩ := qx168
        have R14 := R4.call S14 (by decide +kernel)
        have A14 := A4.fr S14 (fun _ => rfl) rfl rfl rfl rfl rfl
        obtain ⟨x169, ex169⟩ : ∃ y : Int, h14 108 9 = y := ⟨_, rfl⟩
        have bx169 : 0 ≤ x169 ∧ x169 ≤ 400 := ex169 ▸ g_108_9 G14
        obtain ⟨x170, ex170⟩ : ∃ y : Int, h14 108 10 = y := ⟨_, rfl⟩
        have bx170 : 0 ≤ x170 ∧ x170 ≤ 400 := ex170 ▸ g_108_10 G14
        obtain ⟨x171, ex171⟩ : ∃ y : Int, h14 108 11 = y := ⟨_, rfl⟩
        have bx171 : 0 ≤ x171 ∧ x171 ≤ 3 := ex171 ▸ g_108_11 G14
        obtain ⟨x172, ex172⟩ : ∃ y : Int, h14 108 14 = y := ⟨_, rfl⟩
        have bx172 : 0 ≤ x172 ∧ x172 ≤ 1 := ex172 ▸ g_108_14 G14
        have w173 : h14 108 9 = x169 := ex169
        have w174 : h14 108 10 = x170 := ex170
        have w175 : h14 108 11 = x171 := ex171
        have w176 : h14 108 8 = x4 := ((S14 108 8 rfl).trans ((S4 108 8 rfl).trans ((S2 108 8 rfl).trans ((S1 108 8 rfl).trans ex4))))
        have w177 : h14 108 14 = x172 := ex172
        have l178 := fx168_1.le
        have nbx168 : x172 ≠ 0 := fun q => by have q2 := fx168_2 (by omega); omega
        refine z_aload_n (M := M_X12_readShorter) 71 dX12_readShorter_71 rfl ?_
        refine z_getIE (M := M_X12_readShorter) 72 dX12_readShorter_72 f_X12_214 o_108 (by decide) ex172 ?_
        refine z_if_ne_T (M := M_X12_readShorter) 75 dX12_readShorter_75 87 rfl (by omega) ?_
        have w179 : h14 108 9 = x169 := ex169
        have w180 : h14 108 10 = x170 := ex170
        have w181 : h14 108 11 = x171 := ex171
        have w182 : h14 108 8 = x4 := ((S14 108 8 rfl).trans ((S4 108 8 rfl).trans ((S2 108 8 rfl).trans ((S1 108 8 rfl).trans ex4))))
        have w183 : h14 108 16 = x6 := ((S14 108 16 rfl).trans ((S4 108 16 rfl).trans ((S2 108 16 rfl).trans ((S1 108 16 rfl).trans ex6))))
        have w184 : h14 108 14 = x172 := ex172
        exact z_retV (M := M_X12_readShorter) 87 dX12_readShorter_87 rfl ⟨G14, R14, by omega, fx168_1, by omega, A14, fun q => by have ufx168_2 := fx168_2 (by omega); have ufx45_2 := fx45_2 (by omega); have ufx29_2 := fx29_2 (by omega); omega⟩
  · have w185 : h2 108 9 = x30 := ex30
    have w186 : h2 108 10 = x31 := ex31
    have w187 : h2 108 11 = x32 := ex32
    have w188 : h2 108 8 = x4 := ((S2 108 8 rfl).trans ((S1 108 8 rfl).trans ex4))
    refine z_vV (M := M_X12_readShorter) 26 dX12_readShorter_26 t_X12_must l_X12_247 (m_rr_of rfl) (rest := []) (c_X12_must h2 0 G2 ⟨by omega, by omega⟩ fx29_1) o_108 rfl rfl rfl (Nat.le_of_ble_eq_true rfl) ⟨rfl, rfl⟩ (fun h15 qx189 => ?_)
    obtain ⟨G15, S15, fx189_0, fx189_1, fx189_2⟩ := qx189
    have R15 := R2.call S15 (by decide +kernel)
    have A15 := A2.fr S15 (fun _ => rfl) rfl rfl rfl rfl rfl
    obtain ⟨x190, ex190⟩ : ∃ y : Int, h15 108 9 = y := ⟨_, rfl⟩
    have bx190 : 0 ≤ x190 ∧ x190 ≤ 400 := ex190 ▸ g_108_9 G15
    obtain ⟨x191, ex191⟩ : ∃ y : Int, h15 108 10 = y := ⟨_, rfl⟩
    have bx191 : 0 ≤ x191 ∧ x191 ≤ 400 := ex191 ▸ g_108_10 G15
    obtain ⟨x192, ex192⟩ : ∃ y : Int, h15 108 11 = y := ⟨_, rfl⟩
    have bx192 : 0 ≤ x192 ∧ x192 ≤ 3 := ex192 ▸ g_108_11 G15
    obtain ⟨x193, ex193⟩ : ∃ y : Int, h15 108 14 = y := ⟨_, rfl⟩
    have bx193 : 0 ≤ x193 ∧ x193 ≤ 1 := ex193 ▸ g_108_14 G15
    have w194 : h15 108 9 = x190 := ex190
    have w195 : h15 108 10 = x191 := ex191
    have w196 : h15 108 11 = x192 := ex192
    have w197 : h15 108 8 = x4 := ((S15 108 8 rfl).trans ((S2 108 8 rfl).trans ((S1 108 8 rfl).trans ex4)))
    have w198 : h15 108 14 = x193 := ex193
    have l199 := fx189_1.le
    have nbx189 : x193 ≠ 0 := fun q => by have q2 := fx189_2 (by omega); omega
    refine z_aload_n (M := M_X12_readShorter) 29 dX12_readShorter_29 rfl ?_
    refine z_getJV (M := M_X12_readShorter) 30 dX12_readShorter_30 f_X12_224 o_108 rfl (fun x200 ex200 => ?_)
    refine z_l2i (M := M_X12_readShorter) 33 dX12_readShorter_33 ?_
    refine z_topm (fun x201 ex201 ox201 => ?_)
    unfold m_32 at ox201
    have mw := m_w_or ex201
    refine z_istore_n (M := M_X12_readShorter) 34 dX12_readShorter_34 (ls' := [some (mR 108), some (mI x1), some (mI x29), some (mI x201)]) (by decide) rfl ?_
    refine z_aload_n (M := M_X12_readShorter) 35 dX12_readShorter_35 rfl ?_
    refine z_aload_n (M := M_X12_readShorter) 36 dX12_readShorter_36 rfl ?_
    refine z_getIE (M := M_X12_readShorter) 37 dX12_readShorter_37 f_X12_234 o_108 (by decide) ex192 ?_
    refine z_iconst (M := M_X12_readShorter) 40 dX12_readShorter_40 ?_
    refine z_icmp_ne (M := M_X12_readShorter) 41 dX12_readShorter_41 67 rfl (fun c202 => ?_) (fun c202 => ?_)
    · refine z_iconst (M := M_X12_readShorter) 67 dX12_readShorter_67 ?_
      have w203 : h15 108 9 = x190 := ex190
      have w204 : h15 108 10 = x191 := ex191
      have w205 : h15 108 11 = x192 := ex192
      have w206 : h15 108 8 = x4 := ((S15 108 8 rfl).trans ((S2 108 8 rfl).trans ((S1 108 8 rfl).trans ex4)))
      refine z_vV (M := M_X12_readShorter) 68 dX12_readShorter_68 t_X12_must l_X12_247 (m_rr_of rfl) (rest := []) (c_X12_must h15 0 G15 ⟨by omega, by omega⟩ fx189_1) o_108 rfl rfl rfl (Nat.le_of_ble_eq_true rfl) ⟨rfl, rfl⟩ (fun h16 qx207 => ?_)
      obtain ⟨G16, S16, fx207_0, fx207_1, fx207_2⟩ := qx207
      have R16 := R15.call S16 (by decide +kernel)
      have A16 := A15.fr S16 (fun _ => rfl) rfl rfl rfl rfl rfl
      obtain ⟨x208, ex208⟩ : ∃ y : Int, h16 108 9 = y := ⟨_, rfl⟩
      have bx208 : 0 ≤ x208 ∧ x208 ≤ 400 := ex208 ▸ g_108_9 G16
      obtain ⟨x209, ex209⟩ : ∃ y : Int, h16 108 10 = y := ⟨_, rfl⟩
      have bx209 : 0 ≤ x209 ∧ x209 ≤ 400 := ex209 ▸ g_108_10 G16
      obtain ⟨x210, ex210⟩ : ∃ y : Int, h16 108 11 = y := ⟨_, rfl⟩
      have bx210 : 0 ≤ x210 ∧ x210 ≤ 3 := ex210 ▸ g_108_11 G16
      obtain ⟨x211, ex211⟩ : ∃ y : Int, h16 108 14 = y := ⟨_, rfl⟩
      have bx211 : 0 ≤ x211 ∧ x211 ≤ 1 := ex211 ▸ g_108_14 G16
      have w212 : h16 108 9 = x208 := ex208
      have w213 : h16 108 10 = x209 := ex209
      have w214 : h16 108 11 = x210 := ex210
      have w215 : h16 108 8 = x4 := ((S16 108 8 rfl).trans ((S15 108 8 rfl).trans ((S2 108 8 rfl).trans ((S1 108 8 rfl).trans ex4))))
      have w216 : h16 108 14 = x211 := ex211
      have l217 := fx207_1.le
      have nbx207 : x211 ≠ 0 := fun q => by have q2 := fx207_2 (by omega); omega
      refine z_aload_n (M := M_X12_readShorter) 71 dX12_readShorter_71 rfl ?_
      refine z_getIE (M := M_X12_readShorter) 72 dX12_readShorter_72 f_X12_214 o_108 (by decide) ex211 ?_
      refine z_if_ne_T (M := M_X12_readShorter) 75 dX12_readShorter_75 87 rfl (by omega) ?_
      have w218 : h16 108 9 = x208 := ex208
      have w219 : h16 108 10 = x209 := ex209
      have w220 : h16 108 11 = x210 := ex210
      have w221 : h16 108 8 = x4 := ((S16 108 8 rfl).trans ((S15 108 8 rfl).trans ((S2 108 8 rfl).trans ((S1 108 8 rfl).trans ex4))))
      have w222 : h16 108 16 = x6 := ((S16 108 16 rfl).trans ((S15 108 16 rfl).trans ((S2 108 16 rfl).trans ((S1 108 16 rfl).trans ex6))))
      have w223 : h16 108 14 = x211 := ex211
      exact z_retV (M := M_X12_readShorter) 87 dX12_readShorter_87 rfl ⟨G16, R16, by omega, fx207_1, by omega, A16, fun q => by have ufx207_2 := fx207_2 (by omega); have ufx189_2 := fx189_2 (by omega); have ufx29_2 := fx29_2 (by omega); omega⟩
    · refine z_aload_n (M := M_X12_readShorter) 44 dX12_readShorter_44 rfl ?_
      refine z_getJE (M := M_X12_readShorter) 45 dX12_readShorter_45 f_X12_224 o_108 rfl ex200 ?_
      refine z_lconst (M := M_X12_readShorter) 48 dX12_readShorter_48 (v := 0) ?_
      refine z_ldc2 (M := M_X12_readShorter) 49 dX12_readShorter_49 k_X12_152 ?_
      refine z_sI (M := M_X12_readShorter) 52 dX12_readShorter_52 t_X12_in l_X12_143 (m_rr_of rfl) (rest := [mR 108]) (c_X12_in h15 x200 0 3 G15) rfl rfl (Nat.le_of_ble_eq_true rfl) ⟨rfl, rfl⟩ (fun x224 h17 qx224 => ?_)
      obtain ⟨rfl, ⟨rfl, cx224⟩ | ⟨rfl, cx224⟩⟩ := qx224
      · refine z_if_eq_F (M := M_X12_readShorter) 55 dX12_readShorter_55 67 rfl (by omega) ?_
        refine z_iload_n (M := M_X12_readShorter) 58 dX12_readShorter_58 rfl ?_
        refine z_iload_n (M := M_X12_readShorter) 59 dX12_readShorter_59 rfl ?_
        refine z_icmp_eq (M := M_X12_readShorter) 60 dX12_readShorter_60 67 rfl (fun c225 => ?_) (fun c225 => ?_)
        · refine z_iconst (M := M_X12_readShorter) 67 dX12_readShorter_67 ?_
          have w226 : h15 108 9 = x190 := ex190
          have w227 : h15 108 10 = x191 := ex191
          have w228 : h15 108 11 = x192 := ex192
          have w229 : h15 108 8 = x4 := ((S15 108 8 rfl).trans ((S2 108 8 rfl).trans ((S1 108 8 rfl).trans ex4)))
          refine z_vV (M := M_X12_readShorter) 68 dX12_readShorter_68 t_X12_must l_X12_247 (m_rr_of rfl) (rest := []) (c_X12_must h15 0 G15 ⟨by omega, by omega⟩ fx189_1) o_108 rfl rfl rfl (Nat.le_of_ble_eq_true rfl) ⟨rfl, rfl⟩ (fun h18 qx230 => ?_)
          obtain ⟨G18, S18, fx230_0, fx230_1, fx230_2⟩ := qx230
          have R18 := R15.call S18 (by decide +kernel)
          have A18 := A15.fr S18 (fun _ => rfl) rfl rfl rfl rfl rfl
          obtain ⟨x231, ex231⟩ : ∃ y : Int, h18 108 9 = y := ⟨_, rfl⟩
          have bx231 : 0 ≤ x231 ∧ x231 ≤ 400 := ex231 ▸ g_108_9 G18
          obtain ⟨x232, ex232⟩ : ∃ y : Int, h18 108 10 = y := ⟨_, rfl⟩
          have bx232 : 0 ≤ x232 ∧ x232 ≤ 400 := ex232 ▸ g_108_10 G18
          obtain ⟨x233, ex233⟩ : ∃ y : Int, h18 108 11 = y := ⟨_, rfl⟩
          have bx233 : 0 ≤ x233 ∧ x233 ≤ 3 := ex233 ▸ g_108_11 G18
          obtain ⟨x234, ex234⟩ : ∃ y : Int, h18 108 14 = y := ⟨_, rfl⟩
          have bx234 : 0 ≤ x234 ∧ x234 ≤ 1 := ex234 ▸ g_108_14 G18
          have w235 : h18 108 9 = x231 := ex231
          have w236 : h18 108 10 = x232 := ex232
          have w237 : h18 108 11 = x233 := ex233
          have w238 : h18 108 8 = x4 := ((S18 108 8 rfl).trans ((S15 108 8 rfl).trans ((S2 108 8 rfl).trans ((S1 108 8 rfl).trans ex4))))
          have w239 : h18 108 14 = x234 := ex234
          have l240 := fx230_1.le
          have nbx230 : x234 ≠ 0 := fun q => by have q2 := fx230_2 (by omega); omega
          refine z_aload_n (M := M_X12_readShorter) 71 dX12_readShorter_71 rfl ?_
          refine z_getIE (M := M_X12_readShorter) 72 dX12_readShorter_72 f_X12_214 o_108 (by decide) ex234 ?_
          refine z_if_ne_T (M := M_X12_readShorter) 75 dX12_readShorter_75 87 rfl (by omega) ?_
          have w241 : h18 108 9 = x231 := ex231
          have w242 : h18 108 10 = x232 := ex232
          have w243 : h18 108 11 = x233 := ex233
          have w244 : h18 108 8 = x4 := ((S18 108 8 rfl).trans ((S15 108 8 rfl).trans ((S2 108 8 rfl).trans ((S1 108 8 rfl).trans ex4))))
          have w245 : h18 108 16 = x6 := ((S18 108 16 rfl).trans ((S15 108 16 rfl).trans ((S2 108 16 rfl).trans ((S1 108 16 rfl).trans ex6))))
          have w246 : h18 108 14 = x234 := ex234
          exact z_retV (M := M_X12_readShorter) 87 dX12_readShorter_87 rfl ⟨G18, R18, by omega, fx230_1, by omega, A18, fun q => by have ufx230_2 := fx230_2 (by omega); have ufx189_2 := fx189_2 (by omega); have ufx29_2 := fx29_2 (by omega); omega⟩
        · refine z_iconst (M := M_X12_readShorter) 63 dX12_readShorter_63 ?_
          refine z_goto (M := M_X12_readShorter) 64 dX12_readShorter_64 68 rfl ?_
          have w247 : h15 108 9 = x190 := ex190
          have w248 : h15 108 10 = x191 := ex191
          have w249 : h15 108 11 = x192 := ex192
          have w250 : h15 108 8 = x4 := ((S15 108 8 rfl).trans ((S2 108 8 rfl).trans ((S1 108 8 rfl).trans ex4)))
          refine z_vV (M := M_X12_readShorter) 68 dX12_readShorter_68 t_X12_must l_X12_247 (m_rr_of rfl) (rest := []) (c_X12_must h15 1 G15 ⟨by omega, by omega⟩ fx189_1) o_108 rfl rfl rfl (Nat.le_of_ble_eq_true rfl) ⟨rfl, rfl⟩ (fun h19 qx251 => ?_)
          obtain ⟨G19, S19, fx251_0, fx251_1, fx251_2⟩ := qx251
          have R19 := R15.call S19 (by decide +kernel)
          have A19 := A15.fr S19 (fun _ => rfl) rfl rfl rfl rfl rfl
          obtain ⟨x252, ex252⟩ : ∃ y : Int, h19 108 9 = y := ⟨_, rfl⟩
          have bx252 : 0 ≤ x252 ∧ x252 ≤ 400 := ex252 ▸ g_108_9 G19
          obtain ⟨x253, ex253⟩ : ∃ y : Int, h19 108 10 = y := ⟨_, rfl⟩
          have bx253 : 0 ≤ x253 ∧ x253 ≤ 400 := ex253 ▸ g_108_10 G19
          obtain ⟨x254, ex254⟩ : ∃ y : Int, h19 108 11 = y := ⟨_, rfl⟩
          have bx254 : 0 ≤ x254 ∧ x254 ≤ 3 := ex254 ▸ g_108_11 G19
          obtain ⟨x255, ex255⟩ : ∃ y : Int, h19 108 14 = y := ⟨_, rfl⟩
          have bx255 : 0 ≤ x255 ∧ x255 ≤ 1 := ex255 ▸ g_108_14 G19
          have w256 : h19 108 9 = x252 := ex252
          have w257 : h19 108 10 = x253 := ex253
          have w258 : h19 108 11 = x254 := ex254
          have w259 : h19 108 8 = x4 := ((S19 108 8 rfl).trans ((S15 108 8 rfl).trans ((S2 108 8 rfl).trans ((S1 108 8 rfl).trans ex4))))
          have w260 : h19 108 14 = x255 := ex255
          have l261 := fx251_1.le
          refine z_aload_n (M := M_X12_readShorter) 71 dX12_readShorter_71 rfl ?_
          refine z_getIE (M := M_X12_readShorter) 72 dX12_readShorter_72 f_X12_214 o_108 (by decide) ex255 ?_
          refine z_if_ne (M := M_X12_readShorter) 75 dX12_readShorter_75 87 rfl (fun c262 => ?_) (fun c262 => ?_)
          · have w263 : h19 108 9 = x252 := ex252
            have w264 : h19 108 10 = x253 := ex253
            have w265 : h19 108 11 = x254 := ex254
            have w266 : h19 108 8 = x4 := ((S19 108 8 rfl).trans ((S15 108 8 rfl).trans ((S2 108 8 rfl).trans ((S1 108 8 rfl).trans ex4))))
            have w267 : h19 108 16 = x6 := ((S19 108 16 rfl).trans ((S15 108 16 rfl).trans ((S2 108 16 rfl).trans ((S1 108 16 rfl).trans ex6))))
            have w268 : h19 108 14 = x255 := ex255
            exact z_retV (M := M_X12_readShorter) 87 dX12_readShorter_87 rfl ⟨G19, R19, by omega, fx251_1, by omega, A19, fun q => by have ufx251_2 := fx251_2 (by omega); have ufx189_2 := fx189_2 (by omega); have ufx29_2 := fx29_2 (by omega); omega⟩
          · have ufx251_2 := fx251_2 (by omega)
            have ufx189_2 := fx189_2 (by omega)
            have ufx29_2 := fx29_2 (by omega)
            refine z_aload_n (M := M_X12_readShorter) 78 dX12_readShorter_78 rfl ?_
            refine z_iload_n (M := M_X12_readShorter) 79 dX12_readShorter_79 rfl ?_
            refine z_iload_n (M := M_X12_readShorter) 80 dX12_readShorter_80 rfl ?_
            refine z_vI (M := M_X12_readShorter) 81 dX12_readShorter_81 t_X12_isDrafted l_X12_274 (m_rr_of rfl) (rest := []) (c_X12_isDrafted h19 x29 x201 G19) o_108 rfl rfl rfl (Nat.le_of_ble_eq_true rfl) ⟨rfl, rfl⟩ (fun x269 h20 qx269 => ?_)
            obtain ⟨G20, S20, ax269, bx269⟩ := qx269
            have R20 := R19.call S20 (by decide +kernel)
            have P20 := fx251_1.fr S20 rfl rfl rfl rfl
            have A20 := A19.fr S20 (fun _ => rfl) rfl rfl rfl rfl rfl
            refine z_if_eq (M := M_X12_readShorter) 84 dX12_readShorter_84 88 rfl (fun c270 => ?_) (fun c270 => ?_)
            · refine z_aload_n (M := M_X12_readShorter) 88 dX12_readShorter_88 rfl ?_
              refine z_getR (M := M_X12_readShorter) 89 dX12_readShorter_89 f_X12_13 o_108 rfl (g_108_3 G20) ?_
              refine z_iconst (M := M_X12_readShorter) 92 dX12_readShorter_92 ?_
              refine z_ialdG (M := M_X12_readShorter) 93 dX12_readShorter_93 o_110 (by omega) (by omega) (gw_1 G20) (fun x271 ex271 ax271 bx271 => ?_)
              refine z_aload_n (M := M_X12_readShorter) 94 dX12_readShorter_94 rfl ?_
              refine z_getIE (M := M_X12_readShorter) 95 dX12_readShorter_95 f_X12_277 o_108 (by decide) ((S20 108 18 rfl).trans ((S19 108 18 rfl).trans ((S15 108 18 rfl).trans ((S2 108 18 rfl).trans ((S1 108 18 rfl).trans ex8))))) ?_
              refine z_iaddN (M := M_X12_readShorter) 98 dX12_readShorter_98 (by omega) (by omega) ?_
              refine z_bipush (M := M_X12_readShorter) 99 dX12_readShorter_99 ?_
              refine z_icmp_ne (M := M_X12_readShorter) 101 dX12_readShorter_101 115 rfl (fun c272 => ?_) (fun c272 => ?_)
              · refine z_aload_n (M := M_X12_readShorter) 115 dX12_readShorter_115 rfl ?_
                refine z_dup (M := M_X12_readShorter) 116 dX12_readShorter_116 rfl ?_
                refine z_getIE (M := M_X12_readShorter) 117 dX12_readShorter_117 f_X12_277 o_108 (by decide) ((S20 108 18 rfl).trans ((S19 108 18 rfl).trans ((S15 108 18 rfl).trans ((S2 108 18 rfl).trans ((S1 108 18 rfl).trans ex8))))) ?_
                refine z_iconst (M := M_X12_readShorter) 120 dX12_readShorter_120 ?_
                refine z_iaddN (M := M_X12_readShorter) 121 dX12_readShorter_121 (by omega) (by omega) ?_
                have w273 : h20 108 16 = x6 := ((S20 108 16 rfl).trans ((S19 108 16 rfl).trans ((S15 108 16 rfl).trans ((S2 108 16 rfl).trans ((S1 108 16 rfl).trans ex6)))))
                have w274 : h20 108 14 = x255 := ((S20 108 14 rfl).trans ex255)
                have w275 : h20 108 18 = x8 := ((S20 108 18 rfl).trans ((S19 108 18 rfl).trans ((S15 108 18 rfl).trans ((S2 108 18 rfl).trans ((S1 108 18 rfl).trans ex8)))))
                have w276 : h20 108 17 = x7 := ((S20 108 17 rfl).trans ((S19 108 17 rfl).trans ((S15 108 17 rfl).trans ((S2 108 17 rfl).trans ((S1 108 17 rfl).trans ex7)))))
                have w277 : h20 110 1 = x271 := ex271
                have rm278 := A20.rooms
                refine z_putIH (M := M_X12_readShorter) 122 dX12_readShorter_122 p_X12_277 o_108 rfl (u_108_18 G20 (by omega) (by omega)) (R20.up rfl) (fun h21 E21 G21 R21 => ?_)
                have P21 := P20.same (upN E21 (by decide)) (upN E21 (by decide)) (upN E21 (by decide)) (upN E21 (by decide))
                refine z_aload_n (M := M_X12_readShorter) 125 dX12_readShorter_125 rfl ?_
                refine z_iconst (M := M_X12_readShorter) 126 dX12_readShorter_126 ?_
                refine z_iload_n (M := M_X12_readShorter) 127 dX12_readShorter_127 rfl ?_
                refine z_iload_n (M := M_X12_readShorter) 128 dX12_readShorter_128 rfl ?_
                refine z_iconst (M := M_X12_readShorter) 129 dX12_readShorter_129 ?_
                refine z_iconst (M := M_X12_readShorter) 130 dX12_readShorter_130 ?_
                have w279 : h21 108 14 = x255 := ((upN E21 (fun q => absurd q.2 (by decide))).trans ((S20 108 14 rfl).trans ex255))
                have w280 : h21 108 16 = x6 := ((upN E21 (fun q => absurd q.2 (by decide))).trans ((S20 108 16 rfl).trans ((S19 108 16 rfl).trans ((S15 108 16 rfl).trans ((S2 108 16 rfl).trans ((S1 108 16 rfl).trans ex6))))))
                have w281 : h21 108 9 = x252 := ((upN E21 (fun q => absurd q.2 (by decide))).trans ((S20 108 9 rfl).trans ex252))
                have w282 : h21 108 8 = x4 := ((upN E21 (fun q => absurd q.2 (by decide))).trans ((S20 108 8 rfl).trans ((S19 108 8 rfl).trans ((S15 108 8 rfl).trans ((S2 108 8 rfl).trans ((S1 108 8 rfl).trans ex4))))))
                have w283 : h21 108 10 = x253 := ((upN E21 (fun q => absurd q.2 (by decide))).trans ((S20 108 10 rfl).trans ex253))
                have w284 : h21 108 17 = x7 := ((upN E21 (fun q => absurd q.2 (by decide))).trans ((S20 108 17 rfl).trans ((S19 108 17 rfl).trans ((S15 108 17 rfl).trans ((S2 108 17 rfl).trans ((S1 108 17 rfl).trans ex7))))))
                have w285 : h21 108 18 = (x8 + 1) := (upE E21)
                have w286 : h21 110 1 = x271 := ((upN E21 (fun q => absurd q.1 (by decide))).trans ex271)
                refine z_vV (M := M_X12_readShorter) 131 dX12_readShorter_131 t_X12_act l_X12_268 (m_rr_of rfl) (rest := []) (c_X12_act h21 1 x29 x201 0 0 G21 (by by_cases hb : x255 = 0; ( exact Or.inr (by omega)); (exact Or.inl (by omega)))) o_108 rfl rfl rfl (Nat.le_of_ble_eq_true rfl) ⟨rfl, rfl⟩ (fun h22 qx287 => ?_)
                obtain ⟨G22, S22, fx287_0⟩ := qx287
                have R22 := R21.call S22 (by decide +kernel)
                have P22 := P21.fr S22 rfl rfl rfl rfl
                have A22 := AI_act1 A20 (by omega) E21 ((S20 108 18 rfl).trans ((S19 108 18 rfl).trans ((S15 108 18 rfl).trans ((S2 108 18 rfl).trans ((S1 108 18 rfl).trans ex8))))) (by omega) (by omega) fx287_0 (by unfold okA; omega)
                have w288 : h22 108 9 = x252 := ((S22 108 9 rfl).trans ((upN E21 (fun q => absurd q.2 (by decide))).trans ((S20 108 9 rfl).trans ex252)))
                have nx287 : 2 * h22 108 16 ≤ h22 108 9 := by rcases actQ_n fx287_0 with ⟨q1, q2⟩ | ⟨q1, q2⟩; (omega); ( omega)
                obtain ⟨x289, ex289⟩ : ∃ y : Int, h22 108 16 = y := ⟨_, rfl⟩
                have bx289 : 0 ≤ x289 ∧ x289 ≤ 200 := ex289 ▸ g_108_16 G22
                have w290 : h22 108 9 = x252 := ((S22 108 9 rfl).trans ((upN E21 (fun q => absurd q.2 (by decide))).trans ((S20 108 9 rfl).trans ex252)))
                have w291 : h22 108 10 = x253 := ((S22 108 10 rfl).trans ((upN E21 (fun q => absurd q.2 (by decide))).trans ((S20 108 10 rfl).trans ex253)))
                have w292 : h22 108 11 = x254 := ((S22 108 11 rfl).trans ((upN E21 (fun q => absurd q.2 (by decide))).trans ((S20 108 11 rfl).trans ex254)))
                have w293 : h22 108 8 = x4 := ((S22 108 8 rfl).trans ((upN E21 (fun q => absurd q.2 (by decide))).trans ((S20 108 8 rfl).trans ((S19 108 8 rfl).trans ((S15 108 8 rfl).trans ((S2 108 8 rfl).trans ((S1 108 8 rfl).trans ex4)))))))
                have w294 : h22 108 16 = x289 := ex289
                have w295 : h22 108 14 = x255 := ((S22 108 14 rfl).trans ((upN E21 (fun q => absurd q.2 (by decide))).trans ((S20 108 14 rfl).trans ex255)))
                exact z_retV (M := M_X12_readShorter) 134 dX12_readShorter_134 rfl ⟨G22, R22, by omega, P22, by omega, A22, fun q => by  omega⟩
              · refine z_aload_n (M := M_X12_readShorter) 104 dX12_readShorter_104 rfl ?_
                refine z_iconst (M := M_X12_readShorter) 105 dX12_readShorter_105 ?_
                refine z_putZH (M := M_X12_readShorter) 106 dX12_readShorter_106 p_X12_214 o_108 rfl (by omega) (u_108_14 G20 (by omega) (by omega)) (R20.up rfl) (fun h23 E23 G23 R23 => ?_)
                have P23 := P20.same (upN E23 (by decide)) (upN E23 (by decide)) (upN E23 (by decide)) (upN E23 (by decide))
                have A23 := A20.same (fun j => upN E23 (fun q => absurd q.1 (by decide))) (upN E23 (by decide)) (upN E23 (by decide)) (upN E23 (by decide)) (upN E23 (by decide)) (upN E23 (by decide))
                refine z_aload_n (M := M_X12_readShorter) 109 dX12_readShorter_109 rfl ?_
                refine z_iload_n (M := M_X12_readShorter) 110 dX12_readShorter_110 rfl ?_
                refine z_putIH (M := M_X12_readShorter) 111 dX12_readShorter_111 p_X12_26 o_108 rfl (u_108_13 G23) (R23.up rfl) (fun h24 E24 G24 R24 => ?_)
                have P24 := P23.same (upN E24 (by decide)) (upN E24 (by decide)) (upN E24 (by decide)) (upN E24 (by decide))
                have A24 := A23.same (fun j => upN E24 (fun q => absurd q.1 (by decide))) (upN E24 (by decide)) (upN E24 (by decide)) (upN E24 (by decide)) (upN E24 (by decide)) (upN E24 (by decide))
                have w296 : h24 108 9 = x252 := ((upN E24 (fun q => absurd q.2 (by decide))).trans ((upN E23 (fun q => absurd q.2 (by decide))).trans ((S20 108 9 rfl).trans ex252)))
                have w297 : h24 108 10 = x253 := ((upN E24 (fun q => absurd q.2 (by decide))).trans ((upN E23 (fun q => absurd q.2 (by decide))).trans ((S20 108 10 rfl).trans ex253)))
                have w298 : h24 108 11 = x254 := ((upN E24 (fun q => absurd q.2 (by decide))).trans ((upN E23 (fun q => absurd q.2 (by decide))).trans ((S20 108 11 rfl).trans ex254)))
                have w299 : h24 108 8 = x4 := ((upN E24 (fun q => absurd q.2 (by decide))).trans ((upN E23 (fun q => absurd q.2 (by decide))).trans ((S20 108 8 rfl).trans ((S19 108 8 rfl).trans ((S15 108 8 rfl).trans ((S2 108 8 rfl).trans ((S1 108 8 rfl).trans ex4)))))))
                have w300 : h24 108 16 = x6 := ((upN E24 (fun q => absurd q.2 (by decide))).trans ((upN E23 (fun q => absurd q.2 (by decide))).trans ((S20 108 16 rfl).trans ((S19 108 16 rfl).trans ((S15 108 16 rfl).trans ((S2 108 16 rfl).trans ((S1 108 16 rfl).trans ex6)))))))
                have w301 : h24 108 14 = 1 := ((upN E24 (fun q => absurd q.2 (by decide))).trans (upE E23))
                exact z_retV (M := M_X12_readShorter) 114 dX12_readShorter_114 rfl ⟨G24, R24, by omega, P24, by omega, A24, fun q => by  omega⟩
            · have w302 : h20 108 9 = x252 := ((S20 108 9 rfl).trans ex252)
              have w303 : h20 108 10 = x253 := ((S20 108 10 rfl).trans ex253)
              have w304 : h20 108 11 = x254 := ((S20 108 11 rfl).trans ex254)
              have w305 : h20 108 8 = x4 := ((S20 108 8 rfl).trans ((S19 108 8 rfl).trans ((S15 108 8 rfl).trans ((S2 108 8 rfl).trans ((S1 108 8 rfl).trans ex4)))))
              have w306 : h20 108 16 = x6 := ((S20 108 16 rfl).trans ((S19 108 16 rfl).trans ((S15 108 16 rfl).trans ((S2 108 16 rfl).trans ((S1 108 16 rfl).trans ex6)))))
              have w307 : h20 108 14 = x255 := ((S20 108 14 rfl).trans ex255)
              exact z_retV (M := M_X12_readShorter) 87 dX12_readShorter_87 rfl ⟨G20, R20, by omega, P20, by omega, A20, fun q => by  omega⟩
      · refine z_if_eq_T (M := M_X12_readShorter) 55 dX12_readShorter_55 67 rfl (by omega) ?_
        refine z_iconst (M := M_X12_readShorter) 67 dX12_readShorter_67 ?_
        have w308 : h15 108 9 = x190 := ex190
        have w309 : h15 108 10 = x191 := ex191
        have w310 : h15 108 11 = x192 := ex192
        have w311 : h15 108 8 = x4 := ((S15 108 8 rfl).trans ((S2 108 8 rfl).trans ((S1 108 8 rfl).trans ex4)))
        refine z_vV (M := M_X12_readShorter) 68 dX12_readShorter_68 t_X12_must l_X12_247 (m_rr_of rfl) (rest := []) (c_X12_must h15 0 G15 ⟨by omega, by omega⟩ fx189_1) o_108 rfl rfl rfl (Nat.le_of_ble_eq_true rfl) ⟨rfl, rfl⟩ (fun h25 qx312 => ?_)
        obtain ⟨G25, S25, fx312_0, fx312_1, fx312_2⟩ := qx312
        have R25 := R15.call S25 (by decide +kernel)
        have A25 := A15.fr S25 (fun _ => rfl) rfl rfl rfl rfl rfl
        obtain ⟨x313, ex313⟩ : ∃ y : Int, h25 108 9 = y := ⟨_, rfl⟩
        have bx313 : 0 ≤ x313 ∧ x313 ≤ 400 := ex313 ▸ g_108_9 G25
        obtain ⟨x314, ex314⟩ : ∃ y : Int, h25 108 10 = y := ⟨_, rfl⟩
        have bx314 : 0 ≤ x314 ∧ x314 ≤ 400 := ex314 ▸ g_108_10 G25
        obtain ⟨x315, ex315⟩ : ∃ y : Int, h25 108 11 = y := ⟨_, rfl⟩
        have bx315 : 0 ≤ x315 ∧ x315 ≤ 3 := ex315 ▸ g_108_11 G25
        obtain ⟨x316, ex316⟩ : ∃ y : Int, h25 108 14 = y := ⟨_, rfl⟩
        have bx316 : 0 ≤ x316 ∧ x316 ≤ 1 := ex316 ▸ g_108_14 G25
        have w317 : h25 108 9 = x313 := ex313
        have w318 : h25 108 10 = x314 := ex314
        have w319 : h25 108 11 = x315 := ex315
        have w320 : h25 108 8 = x4 := ((S25 108 8 rfl).trans ((S15 108 8 rfl).trans ((S2 108 8 rfl).trans ((S1 108 8 rfl).trans ex4))))
        have w321 : h25 108 14 = x316 := ex316
        have l322 := fx312_1.le
        have nbx312 : x316 ≠ 0 := fun q => by have q2 := fx312_2 (by omega); omega
        refine z_aload_n (M := M_X12_readShorter) 71 dX12_readShorter_71 rfl ?_
        refine z_getIE (M := M_X12_readShorter) 72 dX12_readShorter_72 f_X12_214 o_108 (by decide) ex316 ?_
        refine z_if_ne_T (M := M_X12_readShorter) 75 dX12_readShorter_75 87 rfl (by omega) ?_
        have w323 : h25 108 9 = x313 := ex313
        have w324 : h25 108 10 = x314 := ex314
        have w325 : h25 108 11 = x315 := ex315
        have w326 : h25 108 8 = x4 := ((S25 108 8 rfl).trans ((S15 108 8 rfl).trans ((S2 108 8 rfl).trans ((S1 108 8 rfl).trans ex4))))
        have w327 : h25 108 16 = x6 := ((S25 108 16 rfl).trans ((S15 108 16 rfl).trans ((S2 108 16 rfl).trans ((S1 108 16 rfl).trans ex6))))
        have w328 : h25 108 14 = x316 := ex316
        exact z_retV (M := M_X12_readShorter) 87 dX12_readShorter_87 rfl ⟨G25, R25, by omega, fx312_1, by omega, A25, fun q => by have ufx312_2 := fx312_2 (by omega); have ufx189_2 := fx189_2 (by omega); have ufx29_2 := fx29_2 (by omega); omega⟩
abbrev P_X12_readMeasure (h0 : m_H) (a1 : Int) : m_H → Prop := fun h' => GI h' ∧ FR [114] [(108, 9), (108, 10), (108, 11), (108, 12), (108, 13), (108, 14), (108, 16), (108, 17)] h0 h' ∧ h0 108 9 ≤ h' 108 9 ∧ PIp h' ∧ 2 * h' 108 16 ≤ h' 108 9 ∧ AI h' ∧ Im (h' 108 14 = 0) (h0 108 14 = 0)
set_option maxHeartbeats 4000000 in
set_option maxRecDepth 100000 in
theorem c_X12_readMeasure (h0 : m_H) (a1 : Int) (G0 : GI h0) (ha : h0 108 14 ≠ 0 ∨ (0 ≤ a1 ∧ a1 ≤ 5)) (hp : PIp h0) (hn : 2 * h0 108 16 ≤ h0 108 9) (A0 : AI h0) : m_CV M_X12_readMeasure [mR 108, mI a1] h0 (P_X12_readMeasure h0 a1) := by
  refine m_CV_of ⟨by decide, rfl, by simp [m_arg, m_isL, M_X12_readMeasure], ⟨rfl, rfl⟩, rfl, rfl⟩ (ls := [some (mR 108), some (mI a1), none, none, none]) rfl ?_
  refine z_ok (fun _ _ ok => ?_)
  have oa1 : m_32 a1 := ok 1 _ rfl
  unfold m_32 at oa1
  have hl := hp.le
  obtain ⟨x1, ex1⟩ : ∃ y : Int, h0 108 9 = y := ⟨_, rfl⟩
  have bx1 : 0 ≤ x1 ∧ x1 ≤ 400 := ex1 ▸ g_108_9 G0
  obtain ⟨x2, ex2⟩ : ∃ y : Int, h0 108 10 = y := ⟨_, rfl⟩
  have bx2 : 0 ≤ x2 ∧ x2 ≤ 400 := ex2 ▸ g_108_10 G0
  obtain ⟨x3, ex3⟩ : ∃ y : Int, h0 108 11 = y := ⟨_, rfl⟩
  have bx3 : 0 ≤ x3 ∧ x3 ≤ 3 := ex3 ▸ g_108_11 G0
  obtain ⟨x4, ex4⟩ : ∃ y : Int, h0 108 8 = y := ⟨_, rfl⟩
  have bx4 : 0 ≤ x4 ∧ x4 ≤ 400 := ex4 ▸ g_108_8 G0
  obtain ⟨x5, ex5⟩ : ∃ y : Int, h0 108 14 = y := ⟨_, rfl⟩
  have bx5 : 0 ≤ x5 ∧ x5 ≤ 1 := ex5 ▸ g_108_14 G0
  obtain ⟨x6, ex6⟩ : ∃ y : Int, h0 108 16 = y := ⟨_, rfl⟩
  have bx6 : 0 ≤ x6 ∧ x6 ≤ 200 := ex6 ▸ g_108_16 G0
  obtain ⟨x7, ex7⟩ : ∃ y : Int, h0 108 17 = y := ⟨_, rfl⟩
  have bx7 : 0 ≤ x7 ∧ x7 ≤ 24 := ex7 ▸ g_108_17 G0
  obtain ⟨x8, ex8⟩ : ∃ y : Int, h0 108 18 = y := ⟨_, rfl⟩
  have bx8 : 0 ≤ x8 ∧ x8 ≤ 6 := ex8 ▸ g_108_18 G0
  refine z_aload_n (M := M_X12_readMeasure) 0 dX12_readMeasure_0 rfl ?_
  refine z_aload_n (M := M_X12_readMeasure) 1 dX12_readMeasure_1 rfl ?_
  refine z_ldc2 (M := M_X12_readMeasure) 2 dX12_readMeasure_2 k_X12_280 ?_
  refine z_vI (M := M_X12_readMeasure) 5 dX12_readMeasure_5 t_X12_isWord l_X12_260 (m_rr_of rfl) (rest := [mR 108]) (c_X12_isWord h0 302 G0) o_108 rfl rfl rfl (Nat.le_of_ble_eq_true rfl) ⟨rfl, rfl⟩ (fun x9 h1 qx9 => ?_)
  obtain ⟨rfl, ⟨rfl, cx9⟩ | ⟨rfl, cx9⟩⟩ := qx9
  · refine z_if_eq_F (M := M_X12_readMeasure) 8 dX12_readMeasure_8 31 rfl (by omega) ?_
    refine z_aload_n (M := M_X12_readMeasure) 11 dX12_readMeasure_11 rfl ?_
    refine z_getR (M := M_X12_readMeasure) 12 dX12_readMeasure_12 f_X12_13 o_108 rfl (g_108_3 G0) ?_
    refine z_iconst (M := M_X12_readMeasure) 15 dX12_readMeasure_15 ?_
    refine z_ialdG (M := M_X12_readMeasure) 16 dX12_readMeasure_16 o_110 (by omega) (by omega) (gw_0 G0) (fun x10 ex10 ax10 bx10 => ?_)
    refine z_aload_n (M := M_X12_readMeasure) 17 dX12_readMeasure_17 rfl ?_
    refine z_getIE (M := M_X12_readMeasure) 18 dX12_readMeasure_18 f_X12_282 o_108 (by decide) ex7 ?_
    refine z_iaddN (M := M_X12_readMeasure) 21 dX12_readMeasure_21 (by omega) (by omega) ?_
    refine z_bipush (M := M_X12_readMeasure) 22 dX12_readMeasure_22 ?_
    refine z_icmp_ge (M := M_X12_readMeasure) 24 dX12_readMeasure_24 31 rfl (fun c11 => ?_) (fun c11 => ?_)
    · refine z_iconst (M := M_X12_readMeasure) 31 dX12_readMeasure_31 ?_
      have w12 : h0 108 9 = x1 := ex1
      have w13 : h0 108 10 = x2 := ex2
      have w14 : h0 108 11 = x3 := ex3
      have w15 : h0 108 8 = x4 := ex4
      refine z_vV (M := M_X12_readMeasure) 32 dX12_readMeasure_32 t_X12_must l_X12_247 (m_rr_of rfl) (rest := []) (c_X12_must h0 0 G0 ⟨by omega, by omega⟩ hp) o_108 rfl rfl rfl (Nat.le_of_ble_eq_true rfl) ⟨rfl, rfl⟩ (fun h2 qx16 => ?_)
      obtain ⟨G2, S2, fx16_0, fx16_1, fx16_2⟩ := qx16
      have R2 := (FR.rf (cs := [114]) (ss := [(108, 9), (108, 10), (108, 11), (108, 12), (108, 13), (108, 14), (108, 16), (108, 17)]) (h := h0)).call S2 (by decide +kernel)
      have A2 := A0.fr S2 (fun _ => rfl) rfl rfl rfl rfl rfl
      obtain ⟨x17, ex17⟩ : ∃ y : Int, h2 108 9 = y := ⟨_, rfl⟩
      have bx17 : 0 ≤ x17 ∧ x17 ≤ 400 := ex17 ▸ g_108_9 G2
      obtain ⟨x18, ex18⟩ : ∃ y : Int, h2 108 10 = y := ⟨_, rfl⟩
      have bx18 : 0 ≤ x18 ∧ x18 ≤ 400 := ex18 ▸ g_108_10 G2
      obtain ⟨x19, ex19⟩ : ∃ y : Int, h2 108 11 = y := ⟨_, rfl⟩
      have bx19 : 0 ≤ x19 ∧ x19 ≤ 3 := ex19 ▸ g_108_11 G2
      obtain ⟨x20, ex20⟩ : ∃ y : Int, h2 108 14 = y := ⟨_, rfl⟩
      have bx20 : 0 ≤ x20 ∧ x20 ≤ 1 := ex20 ▸ g_108_14 G2
      have w21 : h2 108 9 = x17 := ex17
      have w22 : h2 108 10 = x18 := ex18
      have w23 : h2 108 11 = x19 := ex19
      have w24 : h2 108 8 = x4 := ((S2 108 8 rfl).trans ex4)
      have w25 : h2 108 14 = x20 := ex20
      have l26 := fx16_1.le
      have nbx16 : x20 ≠ 0 := fun q => by have q2 := fx16_2 (by omega); omega
      refine z_aload_n (M := M_X12_readMeasure) 35 dX12_readMeasure_35 rfl ?_
      refine z_lconst (M := M_X12_readMeasure) 36 dX12_readMeasure_36 (v := 0) ?_
      refine z_ldc2 (M := M_X12_readMeasure) 37 dX12_readMeasure_37 k_X12_154 ?_
      have w27 : h2 108 9 = x17 := ex17
      have w28 : h2 108 10 = x18 := ex18
      have w29 : h2 108 11 = x19 := ex19
      have w30 : h2 108 8 = x4 := ((S2 108 8 rfl).trans ex4)
      have w31 : h2 108 14 = x20 := ex20
      refine z_vI (M := M_X12_readMeasure) 40 dX12_readMeasure_40 t_X12_number l_X12_254 (m_rr_of rfl) (rest := []) (c_X12_number h2 0 31 G2 ⟨by omega, by omega⟩ ⟨by omega, by omega⟩ fx16_1) o_108 rfl rfl rfl (Nat.le_of_ble_eq_true rfl) ⟨rfl, rfl⟩ (fun x32 h3 qx32 => ?_)
      obtain ⟨G3, S3, fx32_0, fx32_1, fx32_2⟩ := qx32
      have R3 := R2.call S3 (by decide +kernel)
      have A3 := A2.fr S3 (fun _ => rfl) rfl rfl rfl rfl rfl
      refine z_ok (fun ox32 _ _ => ?_)
      have ox32 := ox32.1; unfold m_ok m_32 at ox32
      obtain ⟨x33, ex33⟩ : ∃ y : Int, h3 108 9 = y := ⟨_, rfl⟩
      have bx33 : 0 ≤ x33 ∧ x33 ≤ 400 := ex33 ▸ g_108_9 G3
      obtain ⟨x34, ex34⟩ : ∃ y : Int, h3 108 10 = y := ⟨_, rfl⟩
      have bx34 : 0 ≤ x34 ∧ x34 ≤ 400 := ex34 ▸ g_108_10 G3
      obtain ⟨x35, ex35⟩ : ∃ y : Int, h3 108 11 = y := ⟨_, rfl⟩
      have bx35 : 0 ≤ x35 ∧ x35 ≤ 3 := ex35 ▸ g_108_11 G3
      obtain ⟨x36, ex36⟩ : ∃ y : Int, h3 108 14 = y := ⟨_, rfl⟩
      have bx36 : 0 ≤ x36 ∧ x36 ≤ 1 := ex36 ▸ g_108_14 G3
      have w37 : h3 108 9 = x33 := ex33
      have w38 : h3 108 10 = x34 := ex34
      have w39 : h3 108 11 = x35 := ex35
      have w40 : h3 108 8 = x4 := ((S3 108 8 rfl).trans ((S2 108 8 rfl).trans ex4))
      have w41 : h3 108 14 = x36 := ex36
      have l42 := fx32_1.le
      refine z_istore_n (M := M_X12_readMeasure) 43 dX12_readMeasure_43 (ls' := [some (mR 108), some (mI a1), some (mI x32), none, none]) (by decide) rfl ?_
      refine z_aload_n (M := M_X12_readMeasure) 44 dX12_readMeasure_44 rfl ?_
      refine z_aload_n (M := M_X12_readMeasure) 45 dX12_readMeasure_45 rfl ?_
      refine z_ldc2 (M := M_X12_readMeasure) 46 dX12_readMeasure_46 k_X12_285 ?_
      refine z_vI (M := M_X12_readMeasure) 49 dX12_readMeasure_49 t_X12_isWord l_X12_260 (m_rr_of rfl) (rest := [mR 108]) (c_X12_isWord h3 307 G3) o_108 rfl rfl rfl (Nat.le_of_ble_eq_true rfl) ⟨rfl, rfl⟩ (fun x43 h4 qx43 => ?_)
      obtain ⟨rfl, ⟨rfl, cx43⟩ | ⟨rfl, cx43⟩⟩ := qx43
      · have w44 : h3 108 9 = x33 := ex33
        have w45 : h3 108 10 = x34 := ex34
        have w46 : h3 108 11 = x35 := ex35
        have w47 : h3 108 8 = x4 := ((S3 108 8 rfl).trans ((S2 108 8 rfl).trans ex4))
        refine z_vV (M := M_X12_readMeasure) 52 dX12_readMeasure_52 t_X12_must l_X12_247 (m_rr_of rfl) (rest := []) (c_X12_must h3 1 G3 ⟨by omega, by omega⟩ fx32_1) o_108 rfl rfl rfl (Nat.le_of_ble_eq_true rfl) ⟨rfl, rfl⟩ (fun h5 qx48 => ?_)
        obtain ⟨G5, S5, fx48_0, fx48_1, fx48_2⟩ := qx48
        have R5 := R3.call S5 (by decide +kernel)
        have A5 := A3.fr S5 (fun _ => rfl) rfl rfl rfl rfl rfl
        obtain ⟨x49, ex49⟩ : ∃ y : Int, h5 108 9 = y := ⟨_, rfl⟩
        have bx49 : 0 ≤ x49 ∧ x49 ≤ 400 := ex49 ▸ g_108_9 G5
        obtain ⟨x50, ex50⟩ : ∃ y : Int, h5 108 10 = y := ⟨_, rfl⟩
        have bx50 : 0 ≤ x50 ∧ x50 ≤ 400 := ex50 ▸ g_108_10 G5
        obtain ⟨x51, ex51⟩ : ∃ y : Int, h5 108 11 = y := ⟨_, rfl⟩
        have bx51 : 0 ≤ x51 ∧ x51 ≤ 3 := ex51 ▸ g_108_11 G5
        obtain ⟨x52, ex52⟩ : ∃ y : Int, h5 108 14 = y := ⟨_, rfl⟩
        have bx52 : 0 ≤ x52 ∧ x52 ≤ 1 := ex52 ▸ g_108_14 G5
        have w53 : h5 108 9 = x49 := ex49
        have w54 : h5 108 10 = x50 := ex50
        have w55 : h5 108 11 = x51 := ex51
        have w56 : h5 108 8 = x4 := ((S5 108 8 rfl).trans ((S3 108 8 rfl).trans ((S2 108 8 rfl).trans ex4)))
        have w57 : h5 108 14 = x52 := ex52
        have l58 := fx48_1.le
        refine z_aload_n (M := M_X12_readMeasure) 55 dX12_readMeasure_55 rfl ?_
        refine z_lconst (M := M_X12_readMeasure) 56 dX12_readMeasure_56 (v := 1) ?_
        refine z_ldc2 (M := M_X12_readMeasure) 57 dX12_readMeasure_57 k_X12_180 ?_
        have w59 : h5 108 9 = x49 := ex49
        have w60 : h5 108 10 = x50 := ex50
        have w61 : h5 108 11 = x51 := ex51
        have w62 : h5 108 8 = x4 := ((S5 108 8 rfl).trans ((S3 108 8 rfl).trans ((S2 108 8 rfl).trans ex4)))
        have w63 : h5 108 14 = x52 := ex52
        refine z_vI (M := M_X12_readMeasure) 60 dX12_readMeasure_60 t_X12_number l_X12_254 (m_rr_of rfl) (rest := []) (c_X12_number h5 1 99 G5 ⟨by omega, by omega⟩ ⟨by omega, by omega⟩ fx48_1) o_108 rfl rfl rfl (Nat.le_of_ble_eq_true rfl) ⟨rfl, rfl⟩ (fun x64 h6 qx64 => ?_)
        obtain ⟨G6, S6, fx64_0, fx64_1, fx64_2⟩ := qx64
        have R6 := R5.call S6 (by decide +kernel)
        have A6 := A5.fr S6 (fun _ => rfl) rfl rfl rfl rfl rfl
        refine z_ok (fun ox64 _ _ => ?_)
        have ox64 := ox64.1; unfold m_ok m_32 at ox64
        obtain ⟨x65, ex65⟩ : ∃ y : Int, h6 108 9 = y := ⟨_, rfl⟩
        have bx65 : 0 ≤ x65 ∧ x65 ≤ 400 := ex65 ▸ g_108_9 G6
        obtain ⟨x66, ex66⟩ : ∃ y : Int, h6 108 10 = y := ⟨_, rfl⟩
        have bx66 : 0 ≤ x66 ∧ x66 ≤ 400 := ex66 ▸ g_108_10 G6
        obtain ⟨x67, ex67⟩ : ∃ y : Int, h6 108 11 = y := ⟨_, rfl⟩
        have bx67 : 0 ≤ x67 ∧ x67 ≤ 3 := ex67 ▸ g_108_11 G6
        obtain ⟨x68, ex68⟩ : ∃ y : Int, h6 108 14 = y := ⟨_, rfl⟩
        have bx68 : 0 ≤ x68 ∧ x68 ≤ 1 := ex68 ▸ g_108_14 G6
        have w69 : h6 108 9 = x65 := ex65
        have w70 : h6 108 10 = x66 := ex66
        have w71 : h6 108 11 = x67 := ex67
        have w72 : h6 108 8 = x4 := ((S6 108 8 rfl).trans ((S5 108 8 rfl).trans ((S3 108 8 rfl).trans ((S2 108 8 rfl).trans ex4))))
        have w73 : h6 108 14 = x68 := ex68
        have l74 := fx64_1.le
        refine z_istore_n (M := M_X12_readMeasure) 63 dX12_readMeasure_63 (ls' := [some (mR 108), some (mI a1), some (mI x32), some (mI x64), none]) (by decide) rfl ?_
        refine z_iconst (M := M_X12_readMeasure) 64 dX12_readMeasure_64 ?_
        refine z_istore (M := M_X12_readMeasure) 65 dX12_readMeasure_65 (ls' := [some (mR 108), some (mI a1), some (mI x32), some (mI x64), some (mI 0)]) (by decide) rfl ?_
        refine z_aload_n (M := M_X12_readMeasure) 67 dX12_readMeasure_67 rfl ?_
        refine z_getIE (M := M_X12_readMeasure) 68 dX12_readMeasure_68 f_X12_214 o_108 (by decide) ex68 ?_
        refine z_if_ne (M := M_X12_readMeasure) 71 dX12_readMeasure_71 134 rfl (fun c75 => ?_) (fun c75 => ?_)
        · refine z_aload_n (M := M_X12_readMeasure) 134 dX12_readMeasure_134 rfl ?_
          refine z_iconst (M := M_X12_readMeasure) 135 dX12_readMeasure_135 ?_
          refine z_iload_n (M := M_X12_readMeasure) 136 dX12_readMeasure_136 rfl ?_
          refine z_iload_n (M := M_X12_readMeasure) 137 dX12_readMeasure_137 rfl ?_
          refine z_iload_n (M := M_X12_readMeasure) 138 dX12_readMeasure_138 rfl ?_
          refine z_iload (M := M_X12_readMeasure) 139 dX12_readMeasure_139 rfl ?_
          have w76 : h6 108 14 = x68 := ex68
          have w77 : h6 108 16 = x6 := ((S6 108 16 rfl).trans ((S5 108 16 rfl).trans ((S3 108 16 rfl).trans ((S2 108 16 rfl).trans ex6))))
          have w78 : h6 108 9 = x65 := ex65
          have w79 : h6 108 8 = x4 := ((S6 108 8 rfl).trans ((S5 108 8 rfl).trans ((S3 108 8 rfl).trans ((S2 108 8 rfl).trans ex4))))
          have w80 : h6 108 10 = x66 := ex66
          have w81 : h6 108 17 = x7 := ((S6 108 17 rfl).trans ((S5 108 17 rfl).trans ((S3 108 17 rfl).trans ((S2 108 17 rfl).trans ex7))))
          have w82 : h6 108 18 = x8 := ((S6 108 18 rfl).trans ((S5 108 18 rfl).trans ((S3 108 18 rfl).trans ((S2 108 18 rfl).trans ex8))))
          have w83 : h6 110 0 = x10 := ((S6 110 0 rfl).trans ((S5 110 0 rfl).trans ((S3 110 0 rfl).trans ((S2 110 0 rfl).trans ex10))))
          refine z_vV (M := M_X12_readMeasure) 141 dX12_readMeasure_141 t_X12_act l_X12_268 (m_rr_of rfl) (rest := []) (c_X12_act h6 3 a1 x32 x64 0 G6 (by by_cases hb : x68 = 0; (have ufx64_2 := fx64_2 (by omega); have ufx48_2 := fx48_2 (by omega); have ufx32_2 := fx32_2 (by omega); have ufx16_2 := fx16_2 (by omega); exact Or.inr (by omega)); (exact Or.inl (by omega)))) o_108 rfl rfl rfl (Nat.le_of_ble_eq_true rfl) ⟨rfl, rfl⟩ (fun h7 qx84 => ?_)
          obtain ⟨G7, S7, fx84_0⟩ := qx84
          have R7 := R6.call S7 (by decide +kernel)
          have P7 := fx64_1.fr S7 rfl rfl rfl rfl
          have A7 := actQ_bad fx84_0 (by omega) A6
          have w85 : h7 108 9 = x65 := ((S7 108 9 rfl).trans ex65)
          have nx84 : 2 * h7 108 16 ≤ h7 108 9 := by rcases actQ_n fx84_0 with ⟨q1, q2⟩ | ⟨q1, q2⟩; (omega); (have ufx64_2 := fx64_2 (by omega); have ufx48_2 := fx48_2 (by omega); have ufx32_2 := fx32_2 (by omega); have ufx16_2 := fx16_2 (by omega); omega)
          obtain ⟨x86, ex86⟩ : ∃ y : Int, h7 108 16 = y := ⟨_, rfl⟩
          have bx86 : 0 ≤ x86 ∧ x86 ≤ 200 := ex86 ▸ g_108_16 G7
          have w87 : h7 108 9 = x65 := ((S7 108 9 rfl).trans ex65)
          have w88 : h7 108 10 = x66 := ((S7 108 10 rfl).trans ex66)
          have w89 : h7 108 11 = x67 := ((S7 108 11 rfl).trans ex67)
          have w90 : h7 108 8 = x4 := ((S7 108 8 rfl).trans ((S6 108 8 rfl).trans ((S5 108 8 rfl).trans ((S3 108 8 rfl).trans ((S2 108 8 rfl).trans ex4)))))
          have w91 : h7 108 16 = x86 := ex86
          have w92 : h7 108 14 = x68 := ((S7 108 14 rfl).trans ex68)
          exact z_retV (M := M_X12_readMeasure) 144 dX12_readMeasure_144 rfl ⟨G7, R7, by omega, P7, by omega, A7, fun q => by have ufx64_2 := fx64_2 (by omega); have ufx48_2 := fx48_2 (by omega); have ufx32_2 := fx32_2 (by omega); have ufx16_2 := fx16_2 (by omega); omega⟩
        · have ufx64_2 := fx64_2 (by omega)
          have ufx48_2 := fx48_2 (by omega)
          have ufx32_2 := fx32_2 (by omega)
          have ufx16_2 := fx16_2 (by omega)
          refine z_aload_n (M := M_X12_readMeasure) 74 dX12_readMeasure_74 rfl ?_
          refine z_ldc2 (M := M_X12_readMeasure) 75 dX12_readMeasure_75 k_X12_287 ?_
          refine z_vI (M := M_X12_readMeasure) 78 dX12_readMeasure_78 t_X12_isWord l_X12_260 (m_rr_of rfl) (rest := []) (c_X12_isWord h6 24395141 G6) o_108 rfl rfl rfl (Nat.le_of_ble_eq_true rfl) ⟨rfl, rfl⟩ (fun x93 h8 qx93 => ?_)
          obtain ⟨rfl, ⟨rfl, cx93⟩ | ⟨rfl, cx93⟩⟩ := qx93
          · refine z_if_eq_F (M := M_X12_readMeasure) 81 dX12_readMeasure_81 88 rfl (by omega) ?_
            refine z_iconst (M := M_X12_readMeasure) 84 dX12_readMeasure_84 ?_
            refine z_goto (M := M_X12_readMeasure) 85 dX12_readMeasure_85 103 rfl ?_
            refine z_istore (M := M_X12_readMeasure) 103 dX12_readMeasure_103 (ls' := [some (mR 108), some (mI a1), some (mI x32), some (mI x64), some (mI 1)]) (by decide) rfl ?_
            refine z_iload (M := M_X12_readMeasure) 105 dX12_readMeasure_105 rfl ?_
            refine z_if_gt_T (M := M_X12_readMeasure) 107 dX12_readMeasure_107 120 rfl (by omega) ?_
            refine z_aload_n (M := M_X12_readMeasure) 120 dX12_readMeasure_120 rfl ?_
            have w94 : h6 108 9 = x65 := ex65
            have w95 : h6 108 10 = x66 := ex66
            have w96 : h6 108 11 = x67 := ex67
            have l97 := fx64_1.lt (by omega)
            have w98 : h6 108 10 = x66 := ex66
            have w99 : h6 108 8 = x4 := ((S6 108 8 rfl).trans ((S5 108 8 rfl).trans ((S3 108 8 rfl).trans ((S2 108 8 rfl).trans ex4))))
            refine z_vV (M := M_X12_readMeasure) 121 dX12_readMeasure_121 t_X12_next l_X12_218 (m_rr_of rfl) (rest := []) (c_X12_next h6 G6 (by omega)) o_108 rfl rfl rfl (Nat.le_of_ble_eq_true rfl) ⟨rfl, rfl⟩ (fun h9 qx100 => ?_)
            obtain ⟨G9, S9, fx100_0, fx100_1⟩ := qx100
            have R9 := R6.call S9 (by decide +kernel)
            have A9 := A6.fr S9 (fun _ => rfl) rfl rfl rfl rfl rfl
            obtain ⟨x101, ex101⟩ : ∃ y : Int, h9 108 9 = y := ⟨_, rfl⟩
            have bx101 : 0 ≤ x101 ∧ x101 ≤ 400 := ex101 ▸ g_108_9 G9
            obtain ⟨x102, ex102⟩ : ∃ y : Int, h9 108 10 = y := ⟨_, rfl⟩
            have bx102 : 0 ≤ x102 ∧ x102 ≤ 400 := ex102 ▸ g_108_10 G9
            obtain ⟨x103, ex103⟩ : ∃ y : Int, h9 108 11 = y := ⟨_, rfl⟩
            have bx103 : 0 ≤ x103 ∧ x103 ≤ 3 := ex103 ▸ g_108_11 G9
            have w104 : h9 108 9 = x101 := ex101
            have w105 : h9 108 10 = x102 := ex102
            have w106 : h9 108 11 = x103 := ex103
            have w107 : h9 108 8 = x4 := ((S9 108 8 rfl).trans ((S6 108 8 rfl).trans ((S5 108 8 rfl).trans ((S3 108 8 rfl).trans ((S2 108 8 rfl).trans ex4)))))
            have l108 := fx100_1.le
            refine z_aload_n (M := M_X12_readMeasure) 124 dX12_readMeasure_124 rfl ?_
            refine z_dup (M := M_X12_readMeasure) 125 dX12_readMeasure_125 rfl ?_
            refine z_getIE (M := M_X12_readMeasure) 126 dX12_readMeasure_126 f_X12_282 o_108 (by decide) ((S9 108 17 rfl).trans ((S6 108 17 rfl).trans ((S5 108 17 rfl).trans ((S3 108 17 rfl).trans ((S2 108 17 rfl).trans ex7))))) ?_
            refine z_iconst (M := M_X12_readMeasure) 129 dX12_readMeasure_129 ?_
            refine z_iaddN (M := M_X12_readMeasure) 130 dX12_readMeasure_130 (by omega) (by omega) ?_
            have w109 : h9 108 16 = x6 := ((S9 108 16 rfl).trans ((S6 108 16 rfl).trans ((S5 108 16 rfl).trans ((S3 108 16 rfl).trans ((S2 108 16 rfl).trans ex6)))))
            have w110 : h9 108 14 = x68 := ((S9 108 14 rfl).trans ex68)
            have w111 : h9 108 18 = x8 := ((S9 108 18 rfl).trans ((S6 108 18 rfl).trans ((S5 108 18 rfl).trans ((S3 108 18 rfl).trans ((S2 108 18 rfl).trans ex8)))))
            have w112 : h9 108 17 = x7 := ((S9 108 17 rfl).trans ((S6 108 17 rfl).trans ((S5 108 17 rfl).trans ((S3 108 17 rfl).trans ((S2 108 17 rfl).trans ex7)))))
            have w113 : h9 110 0 = x10 := ((S9 110 0 rfl).trans ((S6 110 0 rfl).trans ((S5 110 0 rfl).trans ((S3 110 0 rfl).trans ((S2 110 0 rfl).trans ex10)))))
            have rm114 := A9.rooms
            refine z_putIH (M := M_X12_readMeasure) 131 dX12_readMeasure_131 p_X12_282 o_108 rfl (u_108_17 G9 (by omega) (by omega)) (R9.up rfl) (fun h10 E10 G10 R10 => ?_)
            have P10 := fx100_1.same (upN E10 (by decide)) (upN E10 (by decide)) (upN E10 (by decide)) (upN E10 (by decide))
            refine z_aload_n (M := M_X12_readMeasure) 134 dX12_readMeasure_134 rfl ?_
            refine z_iconst (M := M_X12_readMeasure) 135 dX12_readMeasure_135 ?_
            refine z_iload_n (M := M_X12_readMeasure) 136 dX12_readMeasure_136 rfl ?_
            refine z_iload_n (M := M_X12_readMeasure) 137 dX12_readMeasure_137 rfl ?_
            refine z_iload_n (M := M_X12_readMeasure) 138 dX12_readMeasure_138 rfl ?_
            refine z_iload (M := M_X12_readMeasure) 139 dX12_readMeasure_139 rfl ?_
            have w115 : h10 108 14 = x68 := ((upN E10 (fun q => absurd q.2 (by decide))).trans ((S9 108 14 rfl).trans ex68))
            have w116 : h10 108 16 = x6 := ((upN E10 (fun q => absurd q.2 (by decide))).trans ((S9 108 16 rfl).trans ((S6 108 16 rfl).trans ((S5 108 16 rfl).trans ((S3 108 16 rfl).trans ((S2 108 16 rfl).trans ex6))))))
            have w117 : h10 108 9 = x101 := ((upN E10 (fun q => absurd q.2 (by decide))).trans ex101)
            have w118 : h10 108 8 = x4 := ((upN E10 (fun q => absurd q.2 (by decide))).trans ((S9 108 8 rfl).trans ((S6 108 8 rfl).trans ((S5 108 8 rfl).trans ((S3 108 8 rfl).trans ((S2 108 8 rfl).trans ex4))))))
            have w119 : h10 108 10 = x102 := ((upN E10 (fun q => absurd q.2 (by decide))).trans ex102)
            have w120 : h10 108 17 = (x7 + 1) := (upE E10)
            have w121 : h10 108 18 = x8 := ((upN E10 (fun q => absurd q.2 (by decide))).trans ((S9 108 18 rfl).trans ((S6 108 18 rfl).trans ((S5 108 18 rfl).trans ((S3 108 18 rfl).trans ((S2 108 18 rfl).trans ex8))))))
            have w122 : h10 110 0 = x10 := ((upN E10 (fun q => absurd q.1 (by decide))).trans ((S9 110 0 rfl).trans ((S6 110 0 rfl).trans ((S5 110 0 rfl).trans ((S3 110 0 rfl).trans ((S2 110 0 rfl).trans ex10))))))
            refine z_vV (M := M_X12_readMeasure) 141 dX12_readMeasure_141 t_X12_act l_X12_268 (m_rr_of rfl) (rest := []) (c_X12_act h10 3 a1 x32 x64 1 G10 (by by_cases hb : x68 = 0; ( exact Or.inr (by omega)); (exact Or.inl (by omega)))) o_108 rfl rfl rfl (Nat.le_of_ble_eq_true rfl) ⟨rfl, rfl⟩ (fun h11 qx123 => ?_)
            obtain ⟨G11, S11, fx123_0⟩ := qx123
            have R11 := R10.call S11 (by decide +kernel)
            have P11 := P10.fr S11 rfl rfl rfl rfl
            have A11 := AI_act3 A9 (by omega) E10 ((S9 108 17 rfl).trans ((S6 108 17 rfl).trans ((S5 108 17 rfl).trans ((S3 108 17 rfl).trans ((S2 108 17 rfl).trans ex7))))) (by omega) (by omega) fx123_0 (by unfold okA; omega)
            have w124 : h11 108 9 = x101 := ((S11 108 9 rfl).trans ((upN E10 (fun q => absurd q.2 (by decide))).trans ex101))
            have nx123 : 2 * h11 108 16 ≤ h11 108 9 := by rcases actQ_n fx123_0 with ⟨q1, q2⟩ | ⟨q1, q2⟩; (omega); ( omega)
            obtain ⟨x125, ex125⟩ : ∃ y : Int, h11 108 16 = y := ⟨_, rfl⟩
            have bx125 : 0 ≤ x125 ∧ x125 ≤ 200 := ex125 ▸ g_108_16 G11
            have w126 : h11 108 9 = x101 := ((S11 108 9 rfl).trans ((upN E10 (fun q => absurd q.2 (by decide))).trans ex101))
            have w127 : h11 108 10 = x102 := ((S11 108 10 rfl).trans ((upN E10 (fun q => absurd q.2 (by decide))).trans ex102))
            have w128 : h11 108 11 = x103 := ((S11 108 11 rfl).trans ((upN E10 (fun q => absurd q.2 (by decide))).trans ex103))
            have w129 : h11 108 8 = x4 := ((S11 108 8 rfl).trans ((upN E10 (fun q => absurd q.2 (by decide))).trans ((S9 108 8 rfl).trans ((S6 108 8 rfl).trans ((S5 108 8 rfl).trans ((S3 108 8 rfl).trans ((S2 108 8 rfl).trans ex4)))))))
            have w130 : h11 108 16 = x125 := ex125
            have w131 : h11 108 14 = x68 := ((S11 108 14 rfl).trans ((upN E10 (fun q => absurd q.2 (by decide))).trans ((S9 108 14 rfl).trans ex68)))
            exact z_retV (M := M_X12_readMeasure) 144 dX12_readMeasure_144 rfl ⟨G11, R11, by omega, P11, by omega, A11, fun q => by  omega⟩
          · refine z_if_eq_T (M := M_X12_readMeasure) 81 dX12_readMeasure_81 88 rfl (by omega) ?_
            refine z_aload_n (M := M_X12_readMeasure) 88 dX12_readMeasure_88 rfl ?_
            refine z_ldc2 (M := M_X12_readMeasure) 89 dX12_readMeasure_89 k_X12_289 ?_
            refine z_vI (M := M_X12_readMeasure) 92 dX12_readMeasure_92 t_X12_isWord l_X12_260 (m_rr_of rfl) (rest := []) (c_X12_isWord h6 263558 G6) o_108 rfl rfl rfl (Nat.le_of_ble_eq_true rfl) ⟨rfl, rfl⟩ (fun x132 h12 qx132 => ?_)
            obtain ⟨rfl, ⟨rfl, cx132⟩ | ⟨rfl, cx132⟩⟩ := qx132
            · refine z_if_eq_F (M := M_X12_readMeasure) 95 dX12_readMeasure_95 102 rfl (by omega) ?_
              refine z_iconst (M := M_X12_readMeasure) 98 dX12_readMeasure_98 ?_
              refine z_goto (M := M_X12_readMeasure) 99 dX12_readMeasure_99 103 rfl ?_
              refine z_istore (M := M_X12_readMeasure) 103 dX12_readMeasure_103 (ls' := [some (mR 108), some (mI a1), some (mI x32), some (mI x64), some (mI 2)]) (by decide) rfl ?_
              refine z_iload (M := M_X12_readMeasure) 105 dX12_readMeasure_105 rfl ?_
              refine z_if_gt_T (M := M_X12_readMeasure) 107 dX12_readMeasure_107 120 rfl (by omega) ?_
              refine z_aload_n (M := M_X12_readMeasure) 120 dX12_readMeasure_120 rfl ?_
              have w133 : h6 108 9 = x65 := ex65
              have w134 : h6 108 10 = x66 := ex66
              have w135 : h6 108 11 = x67 := ex67
              have l136 := fx64_1.lt (by omega)
              have w137 : h6 108 10 = x66 := ex66
              have w138 : h6 108 8 = x4 := ((S6 108 8 rfl).trans ((S5 108 8 rfl).trans ((S3 108 8 rfl).trans ((S2 108 8 rfl).trans ex4))))
              refine z_vV (M := M_X12_readMeasure) 121 dX12_readMeasure_121 t_X12_next l_X12_218 (m_rr_of rfl) (rest := []) (c_X12_next h6 G6 (by omega)) o_108 rfl rfl rfl (Nat.le_of_ble_eq_true rfl) ⟨rfl, rfl⟩ (fun h13 qx139 => ?_)
              obtain ⟨G13, S13, fx139_0, fx139_1⟩ := qx139
              have R13 := R6.call S13 (by decide +kernel)
              have A13 := A6.fr S13 (fun _ => rfl) rfl rfl rfl rfl rfl
              obtain ⟨x140, ex140⟩ : ∃ y : Int, h13 108 9 = y := ⟨_, rfl⟩
              have bx140 : 0 ≤ x140 ∧ x140 ≤ 400 := ex140 ▸ g_108_9 G13
              obtain ⟨x141, ex141⟩ : ∃ y : Int, h13 108 10 = y := ⟨_, rfl⟩
              have bx141 : 0 ≤ x141 ∧ x141 ≤ 400 := ex141 ▸ g_108_10 G13
              obtain ⟨x142, ex142⟩ : ∃ y : Int, h13 108 11 = y := ⟨_, rfl⟩
              have bx142 : 0 ≤ x142 ∧ x142 ≤ 3 := ex142 ▸ g_108_11 G13
              have w143 : h13 108 9 = x140 := ex140
              have w144 : h13 108 10 = x141 := ex141
              have w145 : h13 108 11 = x142 := ex142
              have w146 : h13 108 8 = x4 := ((S13 108 8 rfl).trans ((S6 108 8 rfl).trans ((S5 108 8 rfl).trans ((S3 108 8 rfl).trans ((S2 108 8 rfl).trans ex4)))))
              have l147 := fx139_1.le
              refine z_aload_n (M := M_X12_readMeasure) 124 dX12_readMeasure_124 rfl ?_
              refine z_dup (M := M_X12_readMeasure) 125 dX12_readMeasure_125 rfl ?_
              refine z_getIE (M := M_X12_readMeasure) 126 dX12_readMeasure_126 f_X12_282 o_108 (by decide) ((S13 108 17 rfl).trans ((S6 108 17 rfl).trans ((S5 108 17 rfl).trans ((S3 108 17 rfl).trans ((S2 108 17 rfl).trans ex7))))) ?_
              refine z_iconst (M := M_X12_readMeasure) 129 dX12_readMeasure_129 ?_
              refine z_iaddN (M := M_X12_readMeasure) 130 dX12_readMeasure_130 (by omega) (by omega) ?_
              have w148 : h13 108 16 = x6 := ((S13 108 16 rfl).trans ((S6 108 16 rfl).trans ((S5 108 16 rfl).trans ((S3 108 16 rfl).trans ((S2 108 16 rfl).trans ex6)))))
              have w149 : h13 108 14 = x68 := ((S13 108 14 rfl).trans ex68)
              have w150 : h13 108 18 = x8 := ((S13 108 18 rfl).trans ((S6 108 18 rfl).trans ((S5 108 18 rfl).trans ((S3 108 18 rfl).trans ((S2 108 18 rfl).trans ex8)))))
              have w151 : h13 108 17 = x7 := ((S13 108 17 rfl).trans ((S6 108 17 rfl).trans ((S5 108 17 rfl).trans ((S3 108 17 rfl).trans ((S2 108 17 rfl).trans ex7)))))
              have w152 : h13 110 0 = x10 := ((S13 110 0 rfl).trans ((S6 110 0 rfl).trans ((S5 110 0 rfl).trans ((S3 110 0 rfl).trans ((S2 110 0 rfl).trans ex10)))))
              have rm153 := A13.rooms
              refine z_putIH (M := M_X12_readMeasure) 131 dX12_readMeasure_131 p_X12_282 o_108 rfl (u_108_17 G13 (by omega) (by omega)) (R13.up rfl) (fun h14 E14 G14 R14 => ?_)
              have P14 := fx139_1.same (upN E14 (by decide)) (upN E14 (by decide)) (upN E14 (by decide)) (upN E14 (by decide))
              refine z_aload_n (M := M_X12_readMeasure) 134 dX12_readMeasure_134 rfl ?_
              refine z_iconst (M := M_X12_readMeasure) 135 dX12_readMeasure_135 ?_
              refine z_iload_n (M := M_X12_readMeasure) 136 dX12_readMeasure_136 rfl ?_
              refine z_iload_n (M := M_X12_readMeasure) 137 dX12_readMeasure_137 rfl ?_
              refine z_iload_n (M := M_X12_readMeasure) 138 dX12_readMeasure_138 rfl ?_
              refine z_iload (M := M_X12_readMeasure) 139 dX12_readMeasure_139 rfl ?_
              have w154 : h14 108 14 = x68 := ((upN E14 (fun q => absurd q.2 (by decide))).trans ((S13 108 14 rfl).trans ex68))
              have w155 : h14 108 16 = x6 := ((upN E14 (fun q => absurd q.2 (by decide))).trans ((S13 108 16 rfl).trans ((S6 108 16 rfl).trans ((S5 108 16 rfl).trans ((S3 108 16 rfl).trans ((S2 108 16 rfl).trans ex6))))))
              have w156 : h14 108 9 = x140 := ((upN E14 (fun q => absurd q.2 (by decide))).trans ex140)
              have w157 : h14 108 8 = x4 := ((upN E14 (fun q => absurd q.2 (by decide))).trans ((S13 108 8 rfl).trans ((S6 108 8 rfl).trans ((S5 108 8 rfl).trans ((S3 108 8 rfl).trans ((S2 108 8 rfl).trans ex4))))))
              have w158 : h14 108 10 = x141 := ((upN E14 (fun q => absurd q.2 (by decide))).trans ex141)
              have w159 : h14 108 17 = (x7 + 1) := (upE E14)
              have w160 : h14 108 18 = x8 := ((upN E14 (fun q => absurd q.2 (by decide))).trans ((S13 108 18 rfl).trans ((S6 108 18 rfl).trans ((S5 108 18 rfl).trans ((S3 108 18 rfl).trans ((S2 108 18 rfl).trans ex8))))))
              have w161 : h14 110 0 = x10 := ((upN E14 (fun q => absurd q.1 (by decide))).trans ((S13 110 0 rfl).trans ((S6 110 0 rfl).trans ((S5 110 0 rfl).trans ((S3 110 0 rfl).trans ((S2 110 0 rfl).trans ex10))))))
              refine z_vV (M := M_X12_readMeasure) 141 dX12_readMeasure_141 t_X12_act l_X12_268 (m_rr_of rfl) (rest := []) (c_X12_act h14 3 a1 x32 x64 2 G14 (by by_cases hb : x68 = 0; ( exact Or.inr (by omega)); (exact Or.inl (by omega)))) o_108 rfl rfl rfl (Nat.le_of_ble_eq_true rfl) ⟨rfl, rfl⟩ (fun h15 qx162 => ?_)
              obtain ⟨G15, S15, fx162_0⟩ := qx162
              have R15 := R14.call S15 (by decide +kernel)
              have P15 := P14.fr S15 rfl rfl rfl rfl
              have A15 := AI_act3 A13 (by omega) E14 ((S13 108 17 rfl).trans ((S6 108 17 rfl).trans ((S5 108 17 rfl).trans ((S3 108 17 rfl).trans ((S2 108 17 rfl).trans ex7))))) (by omega) (by omega) fx162_0 (by unfold okA; omega)
              have w163 : h15 108 9 = x140 := ((S15 108 9 rfl).trans ((upN E14 (fun q => absurd q.2 (by decide))).trans ex140))
              have nx162 : 2 * h15 108 16 ≤ h15 108 9 := by rcases actQ_n fx162_0 with ⟨q1, q2⟩ | ⟨q1, q2⟩; (omega); ( omega)
              obtain ⟨x164, ex164⟩ : ∃ y : Int, h15 108 16 = y := ⟨_, rfl⟩
              have bx164 : 0 ≤ x164 ∧ x164 ≤ 200 := ex164 ▸ g_108_16 G15
              have w165 : h15 108 9 = x140 := ((S15 108 9 rfl).trans ((upN E14 (fun q => absurd q.2 (by decide))).trans ex140))
              have w166 : h15 108 10 = x141 := ((S15 108 10 rfl).trans ((upN E14 (fun q => absurd q.2 (by decide))).trans ex141))
              have w167 : h15 108 11 = x142 := ((S15 108 11 rfl).trans ((upN E14 (fun q => absurd q.2 (by decide))).trans ex142))
              have w168 : h15 108 8 = x4 := ((S15 108 8 rfl).trans ((upN E14 (fun q => absurd q.2 (by decide))).trans ((S13 108 8 rfl).trans ((S6 108 8 rfl).trans ((S5 108 8 rfl).trans ((S3 108 8 rfl).trans ((S2 108 8 rfl).trans ex4)))))))
              have w169 : h15 108 16 = x164 := ex164
              have w170 : h15 108 14 = x68 := ((S15 108 14 rfl).trans ((upN E14 (fun q => absurd q.2 (by decide))).trans ((S13 108 14 rfl).trans ex68)))
              exact z_retV (M := M_X12_readMeasure) 144 dX12_readMeasure_144 rfl ⟨G15, R15, by omega, P15, by omega, A15, fun q => by  omega⟩
            · refine z_if_eq_T (M := M_X12_readMeasure) 95 dX12_readMeasure_95 102 rfl (by omega) ?_
              refine z_iconst (M := M_X12_readMeasure) 102 dX12_readMeasure_102 ?_
              refine z_istore (M := M_X12_readMeasure) 103 dX12_readMeasure_103 (ls' := [some (mR 108), some (mI a1), some (mI x32), some (mI x64), some (mI 0)]) (by decide) rfl ?_
              refine z_iload (M := M_X12_readMeasure) 105 dX12_readMeasure_105 rfl ?_
              refine z_if_gt_F (M := M_X12_readMeasure) 107 dX12_readMeasure_107 120 rfl (by omega) ?_
              refine z_aload_n (M := M_X12_readMeasure) 110 dX12_readMeasure_110 rfl ?_
              refine z_ldc2 (M := M_X12_readMeasure) 111 dX12_readMeasure_111 k_X12_291 ?_
              refine z_vI (M := M_X12_readMeasure) 114 dX12_readMeasure_114 t_X12_isWord l_X12_260 (m_rr_of rfl) (rest := []) (c_X12_isWord h6 6030452 G6) o_108 rfl rfl rfl (Nat.le_of_ble_eq_true rfl) ⟨rfl, rfl⟩ (fun x171 h16 qx171 => ?_)
              obtain ⟨rfl, ⟨rfl, cx171⟩ | ⟨rfl, cx171⟩⟩ := qx171
              · refine z_if_eq_F (M := M_X12_readMeasure) 117 dX12_readMeasure_117 124 rfl (by omega) ?_
                refine z_aload_n (M := M_X12_readMeasure) 120 dX12_readMeasure_120 rfl ?_
                have w172 : h6 108 9 = x65 := ex65
                have w173 : h6 108 10 = x66 := ex66
                have w174 : h6 108 11 = x67 := ex67
                have l175 := fx64_1.lt (by omega)
                have w176 : h6 108 10 = x66 := ex66
                have w177 : h6 108 8 = x4 := ((S6 108 8 rfl).trans ((S5 108 8 rfl).trans ((S3 108 8 rfl).trans ((S2 108 8 rfl).trans ex4))))
                refine z_vV (M := M_X12_readMeasure) 121 dX12_readMeasure_121 t_X12_next l_X12_218 (m_rr_of rfl) (rest := []) (c_X12_next h6 G6 (by omega)) o_108 rfl rfl rfl (Nat.le_of_ble_eq_true rfl) ⟨rfl, rfl⟩ (fun h17 qx178 => ?_)
                obtain ⟨G17, S17, fx178_0, fx178_1⟩ := qx178
                have R17 := R6.call S17 (by decide +kernel)
                have A17 := A6.fr S17 (fun _ => rfl) rfl rfl rfl rfl rfl
                obtain ⟨x179, ex179⟩ : ∃ y : Int, h17 108 9 = y := ⟨_, rfl⟩
                have bx179 : 0 ≤ x179 ∧ x179 ≤ 400 := ex179 ▸ g_108_9 G17
                obtain ⟨x180, ex180⟩ : ∃ y : Int, h17 108 10 = y := ⟨_, rfl⟩
                have bx180 : 0 ≤ x180 ∧ x180 ≤ 400 := ex180 ▸ g_108_10 G17
                obtain ⟨x181, ex181⟩ : ∃ y : Int, h17 108 11 = y := ⟨_, rfl⟩
                have bx181 : 0 ≤ x181 ∧ x181 ≤ 3 := ex181 ▸ g_108_11 G17
                have w182 : h17 108 9 = x179 := ex179
                have w183 : h17 108 10 = x180 := ex180
                have w184 : h17 108 11 = x181 := ex181
                have w185 : h17 108 8 = x4 := ((S17 108 8 rfl).trans ((S6 108 8 rfl).trans ((S5 108 8 rfl).trans ((S3 108 8 rfl).trans ((S2 108 8 rfl).trans ex4)))))
                have l186 := fx178_1.le
                refine z_aload_n (M := M_X12_readMeasure) 124 dX12_readMeasure_124 rfl ?_
                refine z_dup (M := M_X12_readMeasure) 125 dX12_readMeasure_125 rfl ?_
                refine z_getIE (M := M_X12_readMeasure) 126 dX12_readMeasure_126 f_X12_282 o_108 (by decide) ((S17 108 17 rfl).trans ((S6 108 17 rfl).trans ((S5 108 17 rfl).trans ((S3 108 17 rfl).trans ((S2 108 17 rfl).trans ex7))))) ?_
                refine z_iconst (M := M_X12_readMeasure) 129 dX12_readMeasure_129 ?_
                refine z_iaddN (M := M_X12_readMeasure) 130 dX12_readMeasure_130 (by omega) (by omega) ?_
                have w187 : h17 108 16 = x6 := ((S17 108 16 rfl).trans ((S6 108 16 rfl).trans ((S5 108 16 rfl).trans ((S3 108 16 rfl).trans ((S2 108 16 rfl).trans ex6)))))
                have w188 : h17 108 14 = x68 := ((S17 108 14 rfl).trans ex68)
                have w189 : h17 108 18 = x8 := ((S17 108 18 rfl).trans ((S6 108 18 rfl).trans ((S5 108 18 rfl).trans ((S3 108 18 rfl).trans ((S2 108 18 rfl).trans ex8)))))
                have w190 : h17 108 17 = x7 := ((S17 108 17 rfl).trans ((S6 108 17 rfl).trans ((S5 108 17 rfl).trans ((S3 108 17 rfl).trans ((S2 108 17 rfl).trans ex7)))))
                have w191 : h17 110 0 = x10 := ((S17 110 0 rfl).trans ((S6 110 0 rfl).trans ((S5 110 0 rfl).trans ((S3 110 0 rfl).trans ((S2 110 0 rfl).trans ex10)))))
                have rm192 := A17.rooms
                refine z_putIH (M := M_X12_readMeasure) 131 dX12_readMeasure_131 p_X12_282 o_108 rfl (u_108_17 G17 (by omega) (by omega)) (R17.up rfl) (fun h18 E18 G18 R18 => ?_)
                have P18 := fx178_1.same (upN E18 (by decide)) (upN E18 (by decide)) (upN E18 (by decide)) (upN E18 (by decide))
                refine z_aload_n (M := M_X12_readMeasure) 134 dX12_readMeasure_134 rfl ?_
                refine z_iconst (M := M_X12_readMeasure) 135 dX12_readMeasure_135 ?_
                refine z_iload_n (M := M_X12_readMeasure) 136 dX12_readMeasure_136 rfl ?_
                refine z_iload_n (M := M_X12_readMeasure) 137 dX12_readMeasure_137 rfl ?_
                refine z_iload_n (M := M_X12_readMeasure) 138 dX12_readMeasure_138 rfl ?_
                refine z_iload (M := M_X12_readMeasure) 139 dX12_readMeasure_139 rfl ?_
                have w193 : h18 108 14 = x68 := ((upN E18 (fun q => absurd q.2 (by decide))).trans ((S17 108 14 rfl).trans ex68))
                have w194 : h18 108 16 = x6 := ((upN E18 (fun q => absurd q.2 (by decide))).trans ((S17 108 16 rfl).trans ((S6 108 16 rfl).trans ((S5 108 16 rfl).trans ((S3 108 16 rfl).trans ((S2 108 16 rfl).trans ex6))))))
                have w195 : h18 108 9 = x179 := ((upN E18 (fun q => absurd q.2 (by decide))).trans ex179)
                have w196 : h18 108 8 = x4 := ((upN E18 (fun q => absurd q.2 (by decide))).trans ((S17 108 8 rfl).trans ((S6 108 8 rfl).trans ((S5 108 8 rfl).trans ((S3 108 8 rfl).trans ((S2 108 8 rfl).trans ex4))))))
                have w197 : h18 108 10 = x180 := ((upN E18 (fun q => absurd q.2 (by decide))).trans ex180)
                have w198 : h18 108 17 = (x7 + 1) := (upE E18)
                have w199 : h18 108 18 = x8 := ((upN E18 (fun q => absurd q.2 (by decide))).trans ((S17 108 18 rfl).trans ((S6 108 18 rfl).trans ((S5 108 18 rfl).trans ((S3 108 18 rfl).trans ((S2 108 18 rfl).trans ex8))))))
                have w200 : h18 110 0 = x10 := ((upN E18 (fun q => absurd q.1 (by decide))).trans ((S17 110 0 rfl).trans ((S6 110 0 rfl).trans ((S5 110 0 rfl).trans ((S3 110 0 rfl).trans ((S2 110 0 rfl).trans ex10))))))
                refine z_vV (M := M_X12_readMeasure) 141 dX12_readMeasure_141 t_X12_act l_X12_268 (m_rr_of rfl) (rest := []) (c_X12_act h18 3 a1 x32 x64 0 G18 (by by_cases hb : x68 = 0; ( exact Or.inr (by omega)); (exact Or.inl (by omega)))) o_108 rfl rfl rfl (Nat.le_of_ble_eq_true rfl) ⟨rfl, rfl⟩ (fun h19 qx201 => ?_)
                obtain ⟨G19, S19, fx201_0⟩ := qx201
                have R19 := R18.call S19 (by decide +kernel)
                have P19 := P18.fr S19 rfl rfl rfl rfl
                have A19 := AI_act3 A17 (by omega) E18 ((S17 108 17 rfl).trans ((S6 108 17 rfl).trans ((S5 108 17 rfl).trans ((S3 108 17 rfl).trans ((S2 108 17 rfl).trans ex7))))) (by omega) (by omega) fx201_0 (by unfold okA; omega)
                have w202 : h19 108 9 = x179 := ((S19 108 9 rfl).trans ((upN E18 (fun q => absurd q.2 (by decide))).trans ex179))
                have nx201 : 2 * h19 108 16 ≤ h19 108 9 := by rcases actQ_n fx201_0 with ⟨q1, q2⟩ | ⟨q1, q2⟩; (omega); ( omega)
                obtain ⟨x203, ex203⟩ : ∃ y : Int, h19 108 16 = y := ⟨_, rfl⟩
                have bx203 : 0 ≤ x203 ∧ x203 ≤ 200 := ex203 ▸ g_108_16 G19
                have w204 : h19 108 9 = x179 := ((S19 108 9 rfl).trans ((upN E18 (fun q => absurd q.2 (by decide))).trans ex179))
                have w205 : h19 108 10 = x180 := ((S19 108 10 rfl).trans ((upN E18 (fun q => absurd q.2 (by decide))).trans ex180))
                have w206 : h19 108 11 = x181 := ((S19 108 11 rfl).trans ((upN E18 (fun q => absurd q.2 (by decide))).trans ex181))
                have w207 : h19 108 8 = x4 := ((S19 108 8 rfl).trans ((upN E18 (fun q => absurd q.2 (by decide))).trans ((S17 108 8 rfl).trans ((S6 108 8 rfl).trans ((S5 108 8 rfl).trans ((S3 108 8 rfl).trans ((S2 108 8 rfl).trans ex4)))))))
                have w208 : h19 108 16 = x203 := ex203
                have w209 : h19 108 14 = x68 := ((S19 108 14 rfl).trans ((upN E18 (fun q => absurd q.2 (by decide))).trans ((S17 108 14 rfl).trans ex68)))
                exact z_retV (M := M_X12_readMeasure) 144 dX12_readMeasure_144 rfl ⟨G19, R19, by omega, P19, by omega, A19, fun q => by  omega⟩
              · refine z_if_eq_T (M := M_X12_readMeasure) 117 dX12_readMeasure_117 124 rfl (by omega) ?_
                refine z_aload_n (M := M_X12_readMeasure) 124 dX12_readMeasure_124 rfl ?_
                refine z_dup (M := M_X12_readMeasure) 125 dX12_readMeasure_125 rfl ?_
                refine z_getIE (M := M_X12_readMeasure) 126 dX12_readMeasure_126 f_X12_282 o_108 (by decide) ((S6 108 17 rfl).trans ((S5 108 17 rfl).trans ((S3 108 17 rfl).trans ((S2 108 17 rfl).trans ex7)))) ?_
                refine z_iconst (M := M_X12_readMeasure) 129 dX12_readMeasure_129 ?_
                refine z_iaddN (M := M_X12_readMeasure) 130 dX12_readMeasure_130 (by omega) (by omega) ?_
                have w210 : h6 108 16 = x6 := ((S6 108 16 rfl).trans ((S5 108 16 rfl).trans ((S3 108 16 rfl).trans ((S2 108 16 rfl).trans ex6))))
                have w211 : h6 108 14 = x68 := ex68
                have w212 : h6 108 18 = x8 := ((S6 108 18 rfl).trans ((S5 108 18 rfl).trans ((S3 108 18 rfl).trans ((S2 108 18 rfl).trans ex8))))
                have w213 : h6 108 17 = x7 := ((S6 108 17 rfl).trans ((S5 108 17 rfl).trans ((S3 108 17 rfl).trans ((S2 108 17 rfl).trans ex7))))
                have w214 : h6 110 0 = x10 := ((S6 110 0 rfl).trans ((S5 110 0 rfl).trans ((S3 110 0 rfl).trans ((S2 110 0 rfl).trans ex10))))
                have rm215 := A6.rooms
                refine z_putIH (M := M_X12_readMeasure) 131 dX12_readMeasure_131 p_X12_282 o_108 rfl (u_108_17 G6 (by omega) (by omega)) (R6.up rfl) (fun h20 E20 G20 R20 => ?_)
                have P20 := fx64_1.same (upN E20 (by decide)) (upN E20 (by decide)) (upN E20 (by decide)) (upN E20 (by decide))
                refine z_aload_n (M := M_X12_readMeasure) 134 dX12_readMeasure_134 rfl ?_
                refine z_iconst (M := M_X12_readMeasure) 135 dX12_readMeasure_135 ?_
                refine z_iload_n (M := M_X12_readMeasure) 136 dX12_readMeasure_136 rfl ?_
                refine z_iload_n (M := M_X12_readMeasure) 137 dX12_readMeasure_137 rfl ?_
                refine z_iload_n (M := M_X12_readMeasure) 138 dX12_readMeasure_138 rfl ?_
                refine z_iload (M := M_X12_readMeasure) 139 dX12_readMeasure_139 rfl ?_
                have w216 : h20 108 14 = x68 := ((upN E20 (fun q => absurd q.2 (by decide))).trans ex68)
                have w217 : h20 108 16 = x6 := ((upN E20 (fun q => absurd q.2 (by decide))).trans ((S6 108 16 rfl).trans ((S5 108 16 rfl).trans ((S3 108 16 rfl).trans ((S2 108 16 rfl).trans ex6)))))
                have w218 : h20 108 9 = x65 := ((upN E20 (fun q => absurd q.2 (by decide))).trans ex65)
                have w219 : h20 108 8 = x4 := ((upN E20 (fun q => absurd q.2 (by decide))).trans ((S6 108 8 rfl).trans ((S5 108 8 rfl).trans ((S3 108 8 rfl).trans ((S2 108 8 rfl).trans ex4)))))
                have w220 : h20 108 10 = x66 := ((upN E20 (fun q => absurd q.2 (by decide))).trans ex66)
                have w221 : h20 108 17 = (x7 + 1) := (upE E20)
                have w222 : h20 108 18 = x8 := ((upN E20 (fun q => absurd q.2 (by decide))).trans ((S6 108 18 rfl).trans ((S5 108 18 rfl).trans ((S3 108 18 rfl).trans ((S2 108 18 rfl).trans ex8)))))
                have w223 : h20 110 0 = x10 := ((upN E20 (fun q => absurd q.1 (by decide))).trans ((S6 110 0 rfl).trans ((S5 110 0 rfl).trans ((S3 110 0 rfl).trans ((S2 110 0 rfl).trans ex10)))))
                refine z_vV (M := M_X12_readMeasure) 141 dX12_readMeasure_141 t_X12_act l_X12_268 (m_rr_of rfl) (rest := []) (c_X12_act h20 3 a1 x32 x64 0 G20 (by by_cases hb : x68 = 0; ( exact Or.inr (by omega)); (exact Or.inl (by omega)))) o_108 rfl rfl rfl (Nat.le_of_ble_eq_true rfl) ⟨rfl, rfl⟩ (fun h21 qx224 => ?_)
                obtain ⟨G21, S21, fx224_0⟩ := qx224
                have R21 := R20.call S21 (by decide +kernel)
                have P21 := P20.fr S21 rfl rfl rfl rfl
                have A21 := AI_act3 A6 (by omega) E20 ((S6 108 17 rfl).trans ((S5 108 17 rfl).trans ((S3 108 17 rfl).trans ((S2 108 17 rfl).trans ex7)))) (by omega) (by omega) fx224_0 (by unfold okA; omega)
                have w225 : h21 108 9 = x65 := ((S21 108 9 rfl).trans ((upN E20 (fun q => absurd q.2 (by decide))).trans ex65))
                have nx224 : 2 * h21 108 16 ≤ h21 108 9 := by rcases actQ_n fx224_0 with ⟨q1, q2⟩ | ⟨q1, q2⟩; (omega); ( omega)
                obtain ⟨x226, ex226⟩ : ∃ y : Int, h21 108 16 = y := ⟨_, rfl⟩
                have bx226 : 0 ≤ x226 ∧ x226 ≤ 200 := ex226 ▸ g_108_16 G21
                have w227 : h21 108 9 = x65 := ((S21 108 9 rfl).trans ((upN E20 (fun q => absurd q.2 (by decide))).trans ex65))
                have w228 : h21 108 10 = x66 := ((S21 108 10 rfl).trans ((upN E20 (fun q => absurd q.2 (by decide))).trans ex66))
                have w229 : h21 108 11 = x67 := ((S21 108 11 rfl).trans ((upN E20 (fun q => absurd q.2 (by decide))).trans ex67))
                have w230 : h21 108 8 = x4 := ((S21 108 8 rfl).trans ((upN E20 (fun q => absurd q.2 (by decide))).trans ((S6 108 8 rfl).trans ((S5 108 8 rfl).trans ((S3 108 8 rfl).trans ((S2 108 8 rfl).trans ex4))))))
                have w231 : h21 108 16 = x226 := ex226
                have w232 : h21 108 14 = x68 := ((S21 108 14 rfl).trans ((upN E20 (fun q => absurd q.2 (by decide))).trans ex68))
                exact z_retV (M := M_X12_readMeasure) 144 dX12_readMeasure_144 rfl ⟨G21, R21, by omega, P21, by omega, A21, fun q => by  omega⟩
      · have w233 : h3 108 9 = x33 := ex33
        have w234 : h3 108 10 = x34 := ex34
        have w235 : h3 108 11 = x35 := ex35
        have w236 : h3 108 8 = x4 := ((S3 108 8 rfl).trans ((S2 108 8 rfl).trans ex4))
        refine z_vV (M := M_X12_readMeasure) 52 dX12_readMeasure_52 t_X12_must l_X12_247 (m_rr_of rfl) (rest := []) (c_X12_must h3 0 G3 ⟨by omega, by omega⟩ fx32_1) o_108 rfl rfl rfl (Nat.le_of_ble_eq_true rfl) ⟨rfl, rfl⟩ (fun h22 qx237 => ?_)
        obtain ⟨G22, S22, fx237_0, fx237_1, fx237_2⟩ := qx237
        have R22 := R3.call S22 (by decide +kernel)
        have A22 := A3.fr S22 (fun _ => rfl) rfl rfl rfl rfl rfl
        obtain ⟨x238, ex238⟩ : ∃ y : Int, h22 108 9 = y := ⟨_, rfl⟩
        have bx238 : 0 ≤ x238 ∧ x238 ≤ 400 := ex238 ▸ g_108_9 G22
        obtain ⟨x239, ex239⟩ : ∃ y : Int, h22 108 10 = y := ⟨_, rfl⟩
        have bx239 : 0 ≤ x239 ∧ x239 ≤ 400 := ex239 ▸ g_108_10 G22
        obtain ⟨x240, ex240⟩ : ∃ y : Int, h22 108 11 = y := ⟨_, rfl⟩
        have bx240 : 0 ≤ x240 ∧ x240 ≤ 3 := ex240 ▸ g_108_11 G22
        obtain ⟨x241, ex241⟩ : ∃ y : Int, h22 108 14 = y := ⟨_, rfl⟩
        have bx241 : 0 ≤ x241 ∧ x241 ≤ 1 := ex241 ▸ g_108_14 G22
        have w242 : h22 108 9 = x238 := ex238
        have w243 : h22 108 10 = x239 := ex239
        have w244 : h22 108 11 = x240 := ex240
        have w245 : h22 108 8 = x4 := ((S22 108 8 rfl).trans ((S3 108 8 rfl).trans ((S2 108 8 rfl).trans ex4)))
        have w246 : h22 108 14 = x241 := ex241
        have l247 := fx237_1.le
        have nbx237 : x241 ≠ 0 := fun q => by have q2 := fx237_2 (by omega); omega
        refine z_aload_n (M := M_X12_readMeasure) 55 dX12_readMeasure_55 rfl ?_
        refine z_lconst (M := M_X12_readMeasure) 56 dX12_readMeasure_56 (v := 1) ?_
        refine z_ldc2 (M := M_X12_readMeasure) 57 dX12_readMeasure_57 k_X12_180 ?_
        have w248 : h22 108 9 = x238 := ex238
        have w249 : h22 108 10 = x239 := ex239
        have w250 : h22 108 11 = x240 := ex240
        have w251 : h22 108 8 = x4 := ((S22 108 8 rfl).trans ((S3 108 8 rfl).trans ((S2 108 8 rfl).trans ex4)))
        have w252 : h22 108 14 = x241 := ex241
        refine z_vI (M := M_X12_readMeasure) 60 dX12_readMeasure_60 t_X12_number l_X12_254 (m_rr_of rfl) (rest := []) (c_X12_number h22 1 99 G22 ⟨by omega, by omega⟩ ⟨by omega, by omega⟩ fx237_1) o_108 rfl rfl rfl (Nat.le_of_ble_eq_true rfl) ⟨rfl, rfl⟩ (fun x253 h23 qx253 => ?_)
        obtain ⟨G23, S23, fx253_0, fx253_1, fx253_2⟩ := qx253
        have R23 := R22.call S23 (by decide +kernel)
        have A23 := A22.fr S23 (fun _ => rfl) rfl rfl rfl rfl rfl
        refine z_ok (fun ox253 _ _ => ?_)
        have ox253 := ox253.1; unfold m_ok m_32 at ox253
        obtain ⟨x254, ex254⟩ : ∃ y : Int, h23 108 9 = y := ⟨_, rfl⟩
        have bx254 : 0 ≤ x254 ∧ x254 ≤ 400 := ex254 ▸ g_108_9 G23
        obtain ⟨x255, ex255⟩ : ∃ y : Int, h23 108 10 = y := ⟨_, rfl⟩
        have bx255 : 0 ≤ x255 ∧ x255 ≤ 400 := ex255 ▸ g_108_10 G23
        obtain ⟨x256, ex256⟩ : ∃ y : Int, h23 108 11 = y := ⟨_, rfl⟩
        have bx256 : 0 ≤ x256 ∧ x256 ≤ 3 := ex256 ▸ g_108_11 G23
        obtain ⟨x257, ex257⟩ : ∃ y : Int, h23 108 14 = y := ⟨_, rfl⟩
        have bx257 : 0 ≤ x257 ∧ x257 ≤ 1 := ex257 ▸ g_108_14 G23
        have w258 : h23 108 9 = x254 := ex254
        have w259 : h23 108 10 = x255 := ex255
        have w260 : h23 108 11 = x256 := ex256
        have w261 : h23 108 8 = x4 := ((S23 108 8 rfl).trans ((S22 108 8 rfl).trans ((S3 108 8 rfl).trans ((S2 108 8 rfl).trans ex4))))
        have w262 : h23 108 14 = x257 := ex257
        have l263 := fx253_1.le
        refine z_istore_n (M := M_X12_readMeasure) 63 dX12_readMeasure_63 (ls' := [some (mR 108), some (mI a1), some (mI x32), some (mI x253), none]) (by decide) rfl ?_
        refine z_iconst (M := M_X12_readMeasure) 64 dX12_readMeasure_64 ?_
        refine z_istore (M := M_X12_readMeasure) 65 dX12_readMeasure_65 (ls' := [some (mR 108), some (mI a1), some (mI x32), some (mI x253), some (mI 0)]) (by decide) rfl ?_
        refine z_aload_n (M := M_X12_readMeasure) 67 dX12_readMeasure_67 rfl ?_
        refine z_getIE (M := M_X12_readMeasure) 68 dX12_readMeasure_68 f_X12_214 o_108 (by decide) ex257 ?_
        refine z_if_ne (M := M_X12_readMeasure) 71 dX12_readMeasure_71 134 rfl (fun c264 => ?_) (fun c264 => ?_)
        · refine z_aload_n (M := M_X12_readMeasure) 134 dX12_readMeasure_134 rfl ?_
          refine z_iconst (M := M_X12_readMeasure) 135 dX12_readMeasure_135 ?_
          refine z_iload_n (M := M_X12_readMeasure) 136 dX12_readMeasure_136 rfl ?_
          refine z_iload_n (M := M_X12_readMeasure) 137 dX12_readMeasure_137 rfl ?_
          refine z_iload_n (M := M_X12_readMeasure) 138 dX12_readMeasure_138 rfl ?_
          refine z_iload (M := M_X12_readMeasure) 139 dX12_readMeasure_139 rfl ?_
          have w265 : h23 108 14 = x257 := ex257
          have w266 : h23 108 16 = x6 := ((S23 108 16 rfl).trans ((S22 108 16 rfl).trans ((S3 108 16 rfl).trans ((S2 108 16 rfl).trans ex6))))
          have w267 : h23 108 9 = x254 := ex254
          have w268 : h23 108 8 = x4 := ((S23 108 8 rfl).trans ((S22 108 8 rfl).trans ((S3 108 8 rfl).trans ((S2 108 8 rfl).trans ex4))))
          have w269 : h23 108 10 = x255 := ex255
          have w270 : h23 108 17 = x7 := ((S23 108 17 rfl).trans ((S22 108 17 rfl).trans ((S3 108 17 rfl).trans ((S2 108 17 rfl).trans ex7))))
          have w271 : h23 108 18 = x8 := ((S23 108 18 rfl).trans ((S22 108 18 rfl).trans ((S3 108 18 rfl).trans ((S2 108 18 rfl).trans ex8))))
          have w272 : h23 110 0 = x10 := ((S23 110 0 rfl).trans ((S22 110 0 rfl).trans ((S3 110 0 rfl).trans ((S2 110 0 rfl).trans ex10))))
          refine z_vV (M := M_X12_readMeasure) 141 dX12_readMeasure_141 t_X12_act l_X12_268 (m_rr_of rfl) (rest := []) (c_X12_act h23 3 a1 x32 x253 0 G23 (by by_cases hb : x257 = 0; (have ufx253_2 := fx253_2 (by omega); have ufx237_2 := fx237_2 (by omega); have ufx32_2 := fx32_2 (by omega); have ufx16_2 := fx16_2 (by omega); exact Or.inr (by omega)); (exact Or.inl (by omega)))) o_108 rfl rfl rfl (Nat.le_of_ble_eq_true rfl) ⟨rfl, rfl⟩ (fun h24 qx273 => ?_)
          obtain ⟨G24, S24, fx273_0⟩ := qx273
          have R24 := R23.call S24 (by decide +kernel)
          have P24 := fx253_1.fr S24 rfl rfl rfl rfl
          have A24 := actQ_bad fx273_0 (by omega) A23
          have w274 : h24 108 9 = x254 := ((S24 108 9 rfl).trans ex254)
          have nx273 : 2 * h24 108 16 ≤ h24 108 9 := by rcases actQ_n fx273_0 with ⟨q1, q2⟩ | ⟨q1, q2⟩; (omega); (have ufx253_2 := fx253_2 (by omega); have ufx237_2 := fx237_2 (by omega); have ufx32_2 := fx32_2 (by omega); have ufx16_2 := fx16_2 (by omega); omega)
          obtain ⟨x275, ex275⟩ : ∃ y : Int, h24 108 16 = y := ⟨_, rfl⟩
          have bx275 : 0 ≤ x275 ∧ x275 ≤ 200 := ex275 ▸ g_108_16 G24
          have w276 : h24 108 9 = x254 := ((S24 108 9 rfl).trans ex254)
          have w277 : h24 108 10 = x255 := ((S24 108 10 rfl).trans ex255)
          have w278 : h24 108 11 = x256 := ((S24 108 11 rfl).trans ex256)
          have w279 : h24 108 8 = x4 := ((S24 108 8 rfl).trans ((S23 108 8 rfl).trans ((S22 108 8 rfl).trans ((S3 108 8 rfl).trans ((S2 108 8 rfl).trans ex4)))))
          have w280 : h24 108 16 = x275 := ex275
          have w281 : h24 108 14 = x257 := ((S24 108 14 rfl).trans ex257)
          exact z_retV (M := M_X12_readMeasure) 144 dX12_readMeasure_144 rfl ⟨G24, R24, by omega, P24, by omega, A24, fun q => by have ufx253_2 := fx253_2 (by omega); have ufx237_2 := fx237_2 (by omega); have ufx32_2 := fx32_2 (by omega); have ufx16_2 := fx16_2 (by omega); omega⟩
        · have ufx253_2 := fx253_2 (by omega)
          have ufx237_2 := fx237_2 (by omega)
          have ufx32_2 := fx32_2 (by omega)
          have ufx16_2 := fx16_2 (by omega)
          refine z_aload_n (M := M_X12_readMeasure) 74 dX12_readMeasure_74 rfl ?_
          refine z_ldc2 (M := M_X12_readMeasure) 75 dX12_readMeasure_75 k_X12_287 ?_
          refine z_vI (M := M_X12_readMeasure) 78 dX12_readMeasure_78 t_X12_isWord l_X12_260 (m_rr_of rfl) (rest := []) (c_X12_isWord h23 24395141 G23) o_108 rfl rfl rfl (Nat.le_of_ble_eq_true rfl) ⟨rfl, rfl⟩ (fun x282 h25 qx282 => ?_)
          obtain ⟨rfl, ⟨rfl, cx282⟩ | ⟨rfl, cx282⟩⟩ := qx282
          · refine z_if_eq_F (M := M_X12_readMeasure) 81 dX12_readMeasure_81 88 rfl (by omega) ?_
            refine z_iconst (M := M_X12_readMeasure) 84 dX12_readMeasure_84 ?_
            refine z_goto (M := M_X12_readMeasure) 85 dX12_readMeasure_85 103 rfl ?_
            refine z_istore (M := M_X12_readMeasure) 103 dX12_readMeasure_103 (ls' := [some (mR 108), some (mI a1), some (mI x32), some (mI x253), some (mI 1)]) (by decide) rfl ?_
            refine z_iload (M := M_X12_readMeasure) 105 dX12_readMeasure_105 rfl ?_
            refine z_if_gt_T (M := M_X12_readMeasure) 107 dX12_readMeasure_107 120 rfl (by omega) ?_
            refine z_aload_n (M := M_X12_readMeasure) 120 dX12_readMeasure_120 rfl ?_
            have w283 : h23 108 9 = x254 := ex254
            have w284 : h23 108 10 = x255 := ex255
            have w285 : h23 108 11 = x256 := ex256
            have l286 := fx253_1.lt (by omega)
            have w287 : h23 108 10 = x255 := ex255
            have w288 : h23 108 8 = x4 := ((S23 108 8 rfl).trans ((S22 108 8 rfl).trans ((S3 108 8 rfl).trans ((S2 108 8 rfl).trans ex4))))
            refine z_vV (M := M_X12_readMeasure) 121 dX12_readMeasure_121 t_X12_next l_X12_218 (m_rr_of rfl) (rest := []) (c_X12_next h23 G23 (by omega)) o_108 rfl rfl rfl (Nat.le_of_ble_eq_true rfl) ⟨rfl, rfl⟩ (fun h26 qx289 => ?_)
            obtain ⟨G26, S26, fx289_0, fx289_1⟩ := qx289
            have R26 := R23.call S26 (by decide +kernel)
            have A26 := A23.fr S26 (fun _ => rfl) rfl rfl rfl rfl rfl
            obtain ⟨x290, ex290⟩ : ∃ y : Int, h26 108 9 = y := ⟨_, rfl⟩
            have bx290 : 0 ≤ x290 ∧ x290 ≤ 400 := ex290 ▸ g_108_9 G26
            obtain ⟨x291, ex291⟩ : ∃ y : Int, h26 108 10 = y := ⟨_, rfl⟩
            have bx291 : 0 ≤ x291 ∧ x291 ≤ 400 := ex291 ▸ g_108_10 G26
            obtain ⟨x292, ex292⟩ : ∃ y : Int, h26 108 11 = y := ⟨_, rfl⟩
            have bx292 : 0 ≤ x292 ∧ x292 ≤ 3 := ex292 ▸ g_108_11 G26
            have w293 : h26 108 9 = x290 := ex290
            have w294 : h26 108 10 = x291 := ex291
            have w295 : h26 108 11 = x292 := ex292
            have w296 : h26 108 8 = x4 := ((S26 108 8 rfl).trans ((S23 108 8 rfl).trans ((S22 108 8 rfl).trans ((S3 108 8 rfl).trans ((S2 108 8 rfl).trans ex4)))))
            have l297 := fx289_1.le
            refine z_aload_n (M := M_X12_readMeasure) 124 dX12_readMeasure_124 rfl ?_
            refine z_dup (M := M_X12_readMeasure) 125 dX12_readMeasure_125 rfl ?_
            refine z_getIE (M := M_X12_readMeasure) 126 dX12_readMeasure_126 f_X12_282 o_108 (by decide) ((S26 108 17 rfl).trans ((S23 108 17 rfl).trans ((S22 108 17 rfl).trans ((S3 108 17 rfl).trans ((S2 108 17 rfl).trans ex7))))) ?_
            refine z_iconst (M := M_X12_readMeasure) 129 dX12_readMeasure_129 ?_
            refine z_iaddN (M := M_X12_readMeasure) 130 dX12_readMeasure_130 (by omega) (by omega) ?_
            have w298 : h26 108 16 = x6 := ((S26 108 16 rfl).trans ((S23 108 16 rfl).trans ((S22 108 16 rfl).trans ((S3 108 16 rfl).trans ((S2 108 16 rfl).trans ex6)))))
            have w299 : h26 108 14 = x257 := ((S26 108 14 rfl).trans ex257)
            have w300 : h26 108 18 = x8 := ((S26 108 18 rfl).trans ((S23 108 18 rfl).trans ((S22 108 18 rfl).trans ((S3 108 18 rfl).trans ((S2 108 18 rfl).trans ex8)))))
            have w301 : h26 108 17 = x7 := ((S26 108 17 rfl).trans ((S23 108 17 rfl).trans ((S22 108 17 rfl).trans ((S3 108 17 rfl).trans ((S2 108 17 rfl).trans ex7)))))
            have w302 : h26 110 0 = x10 := ((S26 110 0 rfl).trans ((S23 110 0 rfl).trans ((S22 110 0 rfl).trans ((S3 110 0 rfl).trans ((S2 110 0 rfl).trans ex10)))))
            have rm303 := A26.rooms
            refine z_putIH (M := M_X12_readMeasure) 131 dX12_readMeasure_131 p_X12_282 o_108 rfl (u_108_17 G26 (by omega) (by omega)) (R26.up rfl) (fun h27 E27 G27 R27 => ?_)
            have P27 := fx289_1.same (upN E27 (by decide)) (upN E27 (by decide)) (upN E27 (by decide)) (upN E27 (by decide))
            refine z_aload_n (M := M_X12_readMeasure) 134 dX12_readMeasure_134 rfl ?_
            refine z_iconst (M := M_X12_readMeasure) 135 dX12_readMeasure_135 ?_
            refine z_iload_n (M := M_X12_readMeasure) 136 dX12_readMeasure_136 rfl ?_
            refine z_iload_n (M := M_X12_readMeasure) 137 dX12_readMeasure_137 rfl ?_
            refine z_iload_n (M := M_X12_readMeasure) 138 dX12_readMeasure_138 rfl ?_
            refine z_iload (M := M_X12_readMeasure) 139 dX12_readMeasure_139 rfl ?_
            have w304 : h27 108 14 = x257 := ((upN E27 (fun q => absurd q.2 (by decide))).trans ((S26 108 14 rfl).trans ex257))
            have w305 : h27 108 16 = x6 := ((upN E27 (fun q => absurd q.2 (by decide))).trans ((S26 108 16 rfl).trans ((S23 108 16 rfl).trans ((S22 108 16 rfl).trans ((S3 108 16 rfl).trans ((S2 108 16 rfl).trans ex6))))))
            have w306 : h27 108 9 = x290 := ((upN E27 (fun q => absurd q.2 (by decide))).trans ex290)
            have w307 : h27 108 8 = x4 := ((upN E27 (fun q => absurd q.2 (by decide))).trans ((S26 108 8 rfl).trans ((S23 108 8 rfl).trans ((S22 108 8 rfl).trans ((S3 108 8 rfl).trans ((S2 108 8 rfl).trans ex4))))))
            have w308 : h27 108 10 = x291 := ((upN E27 (fun q => absurd q.2 (by decide))).trans ex291)
            have w309 : h27 108 17 = (x7 + 1) := (upE E27)
            have w310 : h27 108 18 = x8 := ((upN E27 (fun q => absurd q.2 (by decide))).trans ((S26 108 18 rfl).trans ((S23 108 18 rfl).trans ((S22 108 18 rfl).trans ((S3 108 18 rfl).trans ((S2 108 18 rfl).trans ex8))))))
            have w311 : h27 110 0 = x10 := ((upN E27 (fun q => absurd q.1 (by decide))).trans ((S26 110 0 rfl).trans ((S23 110 0 rfl).trans ((S22 110 0 rfl).trans ((S3 110 0 rfl).trans ((S2 110 0 rfl).trans ex10))))))
            refine z_vV (M := M_X12_readMeasure) 141 dX12_readMeasure_141 t_X12_act l_X12_268 (m_rr_of rfl) (rest := []) (c_X12_act h27 3 a1 x32 x253 1 G27 (by by_cases hb : x257 = 0; ( exact Or.inr (by omega)); (exact Or.inl (by omega)))) o_108 rfl rfl rfl (Nat.le_of_ble_eq_true rfl) ⟨rfl, rfl⟩ (fun h28 qx312 => ?_)
            obtain ⟨G28, S28, fx312_0⟩ := qx312
            have R28 := R27.call S28 (by decide +kernel)
            have P28 := P27.fr S28 rfl rfl rfl rfl
            have A28 := AI_act3 A26 (by omega) E27 ((S26 108 17 rfl).trans ((S23 108 17 rfl).trans ((S22 108 17 rfl).trans ((S3 108 17 rfl).trans ((S2 108 17 rfl).trans ex7))))) (by omega) (by omega) fx312_0 (by unfold okA; omega)
            have w313 : h28 108 9 = x290 := ((S28 108 9 rfl).trans ((upN E27 (fun q => absurd q.2 (by decide))).trans ex290))
            have nx312 : 2 * h28 108 16 ≤ h28 108 9 := by rcases actQ_n fx312_0 with ⟨q1, q2⟩ | ⟨q1, q2⟩; (omega); ( omega)
            obtain ⟨x314, ex314⟩ : ∃ y : Int, h28 108 16 = y := ⟨_, rfl⟩
            have bx314 : 0 ≤ x314 ∧ x314 ≤ 200 := ex314 ▸ g_108_16 G28
            have w315 : h28 108 9 = x290 := ((S28 108 9 rfl).trans ((upN E27 (fun q => absurd q.2 (by decide))).trans ex290))
            have w316 : h28 108 10 = x291 := ((S28 108 10 rfl).trans ((upN E27 (fun q => absurd q.2 (by decide))).trans ex291))
            have w317 : h28 108 11 = x292 := ((S28 108 11 rfl).trans ((upN E27 (fun q => absurd q.2 (by decide))).trans ex292))
            have w318 : h28 108 8 = x4 := ((S28 108 8 rfl).trans ((upN E27 (fun q => absurd q.2 (by decide))).trans ((S26 108 8 rfl).trans ((S23 108 8 rfl).trans ((S22 108 8 rfl).trans ((S3 108 8 rfl).trans ((S2 108 8 rfl).trans ex4)))))))
            have w319 : h28 108 16 = x314 := ex314
            have w320 : h28 108 14 = x257 := ((S28 108 14 rfl).trans ((upN E27 (fun q => absurd q.2 (by decide))).trans ((S26 108 14 rfl).trans ex257)))
            exact z_retV (M := M_X12_readMeasure) 144 dX12_readMeasure_144 rfl ⟨G28, R28, by omega, P28, by omega, A28, fun q => by  omega⟩
          · refine z_if_eq_T (M := M_X12_readMeasure) 81 dX12_readMeasure_81 88 rfl (by omega) ?_
            refine z_aload_n (M := M_X12_readMeasure) 88 dX12_readMeasure_88 rfl ?_
            refine z_ldc2 (M := M_X12_readMeasure) 89 dX12_readMeasure_89 k_X12_289 ?_
            refine z_vI (M := M_X12_readMeasure) 92 dX12_readMeasure_92 t_X12_isWord l_X12_260 (m_rr_of rfl) (rest := []) (c_X12_isWord h23 263558 G23) o_108 rfl rfl rfl (Nat.le_of_ble_eq_true rfl) ⟨rfl, rfl⟩ (fun x321 h29 qx321 => ?_)
            obtain ⟨rfl, ⟨rfl, cx321⟩ | ⟨rfl, cx321⟩⟩ := qx321
            · refine z_if_eq_F (M := M_X12_readMeasure) 95 dX12_readMeasure_95 102 rfl (by omega) ?_
              refine z_iconst (M := M_X12_readMeasure) 98 dX12_readMeasure_98 ?_
              refine z_goto (M := M_X12_readMeasure) 99 dX12_readMeasure_99 103 rfl ?_
              refine z_istore (M := M_X12_readMeasure) 103 dX12_readMeasure_103 (ls' := [some (mR 108), some (mI a1), some (mI x32), some (mI x253), some (mI 2)]) (by decide) rfl ?_
              refine z_iload (M := M_X12_readMeasure) 105 dX12_readMeasure_105 rfl ?_
              refine z_if_gt_T (M := M_X12_readMeasure) 107 dX12_readMeasure_107 120 rfl (by omega) ?_
              refine z_aload_n (M := M_X12_readMeasure) 120 dX12_readMeasure_120 rfl ?_
              have w322 : h23 108 9 = x254 := ex254
              have w323 : h23 108 10 = x255 := ex255
              have w324 : h23 108 11 = x256 := ex256
              have l325 := fx253_1.lt (by omega)
              have w326 : h23 108 10 = x255 := ex255
              have w327 : h23 108 8 = x4 := ((S23 108 8 rfl).trans ((S22 108 8 rfl).trans ((S3 108 8 rfl).trans ((S2 108 8 rfl).trans ex4))))
              refine z_vV (M := M_X12_readMeasure) 121 dX12_readMeasure_121 t_X12_next l_X12_218 (m_rr_of rfl) (rest := []) (c_X12_next h23 G23 (by omega)) o_108 rfl rfl rfl (Nat.le_of_ble_eq_true rfl) ⟨rfl, rfl⟩ (fun h30 qx328 => ?_)
              obtain ⟨G30, S30, fx328_0, fx328_1⟩ := qx328
              have R30 := R23.call S30 (by decide +kernel)
              have A30 := A23.fr S30 (fun _ => rfl) rfl rfl rfl rfl rfl
              obtain ⟨x329, ex329⟩ : ∃ y : Int, h30 108 9 = y := ⟨_, rfl⟩
              have bx329 : 0 ≤ x329 ∧ x329 ≤ 400 := ex329 ▸ g_108_9 G30
              obtain ⟨x330, ex330⟩ : ∃ y : Int, h30 108 10 = y := ⟨_, rfl⟩
              have bx330 : 0 ≤ x330 ∧ x330 ≤ 400 := ex330 ▸ g_108_10 G30
              obtain ⟨x331, ex331⟩ : ∃ y : Int, h30 108 11 = y := ⟨_, rfl⟩
              have bx331 : 0 ≤ x331 ∧ x331 ≤ 3 := ex331 ▸ g_108_11 G30
              have w332 : h30 108 9 = x329 := ex329
              have w333 : h30 108 10 = x330 := ex330
              have w334 : h30 108 11 = x331 := ex331
              have w335 : h30 108 8 = x4 := ((S30 108 8 rfl).trans ((S23 108 8 rfl).trans ((S22 108 8 rfl).trans ((S3 108 8 rfl).trans ((S2 108 8 rfl).trans ex4)))))
              have l336 := fx328_1.le
              refine z_aload_n (M := M_X12_readMeasure) 124 dX12_readMeasure_124 rfl ?_
              refine z_dup (M := M_X12_readMeasure) 125 dX12_readMeasure_125 rfl ?_
              refine z_getIE (M := M_X12_readMeasure) 126 dX12_readMeasure_126 f_X12_282 o_108 (by decide) ((S30 108 17 rfl).trans ((S23 108 17 rfl).trans ((S22 108 17 rfl).trans ((S3 108 17 rfl).trans ((S2 108 17 rfl).trans ex7))))) ?_
              refine z_iconst (M := M_X12_readMeasure) 129 dX12_readMeasure_129 ?_
              refine z_iaddN (M := M_X12_readMeasure) 130 dX12_readMeasure_130 (by omega) (by omega) ?_
              have w337 : h30 108 16 = x6 := ((S30 108 16 rfl).trans ((S23 108 16 rfl).trans ((S22 108 16 rfl).trans ((S3 108 16 rfl).trans ((S2 108 16 rfl).trans ex6)))))
              have w338 : h30 108 14 = x257 := ((S30 108 14 rfl).trans ex257)
              have w339 : h30 108 18 = x8 := ((S30 108 18 rfl).trans ((S23 108 18 rfl).trans ((S22 108 18 rfl).trans ((S3 108 18 rfl).trans ((S2 108 18 rfl).trans ex8)))))
              have w340 : h30 108 17 = x7 := ((S30 108 17 rfl).trans ((S23 108 17 rfl).trans ((S22 108 17 rfl).trans ((S3 108 17 rfl).trans ((S2 108 17 rfl).trans ex7)))))
              have w341 : h30 110 0 = x10 := ((S30 110 0 rfl).trans ((S23 110 0 rfl).trans ((S22 110 0 rfl).trans ((S3 110 0 rfl).trans ((S2 110 0 rfl).trans ex10)))))
              have rm342 := A30.rooms
              refine z_putIH (M := M_X12_readMeasure) 131 dX12_readMeasure_131 p_X12_282 o_108 rfl (u_108_17 G30 (by omega) (by omega)) (R30.up rfl) (fun h31 E31 G31 R31 => ?_)
              have P31 := fx328_1.same (upN E31 (by decide)) (upN E31 (by decide)) (upN E31 (by decide)) (upN E31 (by decide))
              refine z_aload_n (M := M_X12_readMeasure) 134 dX12_readMeasure_134 rfl ?_
              refine z_iconst (M := M_X12_readMeasure) 135 dX12_readMeasure_135 ?_
              refine z_iload_n (M := M_X12_readMeasure) 136 dX12_readMeasure_136 rfl ?_
              refine z_iload_n (M := M_X12_readMeasure) 137 dX12_readMeasure_137 rfl ?_
              refine z_iload_n (M := M_X12_readMeasure) 138 dX12_readMeasure_138 rfl ?_
              refine z_iload (M := M_X12_readMeasure) 139 dX12_readMeasure_139 rfl ?_
              have w343 : h31 108 14 = x257 := ((upN E31 (fun q => absurd q.2 (by decide))).trans ((S30 108 14 rfl).trans ex257))
              have w344 : h31 108 16 = x6 := ((upN E31 (fun q => absurd q.2 (by decide))).trans ((S30 108 16 rfl).trans ((S23 108 16 rfl).trans ((S22 108 16 rfl).trans ((S3 108 16 rfl).trans ((S2 108 16 rfl).trans ex6))))))
              have w345 : h31 108 9 = x329 := ((upN E31 (fun q => absurd q.2 (by decide))).trans ex329)
              have w346 : h31 108 8 = x4 := ((upN E31 (fun q => absurd q.2 (by decide))).trans ((S30 108 8 rfl).trans ((S23 108 8 rfl).trans ((S22 108 8 rfl).trans ((S3 108 8 rfl).trans ((S2 108 8 rfl).trans ex4))))))
              have w347 : h31 108 10 = x330 := ((upN E31 (fun q => absurd q.2 (by decide))).trans ex330)
              have w348 : h31 108 17 = (x7 + 1) := (upE E31)
              have w349 : h31 108 18 = x8 := ((upN E31 (fun q => absurd q.2 (by decide))).trans ((S30 108 18 rfl).trans ((S23 108 18 rfl).trans ((S22 108 18 rfl).trans ((S3 108 18 rfl).trans ((S2 108 18 rfl).trans ex8))))))
              have w350 : h31 110 0 = x10 := ((upN E31 (fun q => absurd q.1 (by decide))).trans ((S30 110 0 rfl).trans ((S23 110 0 rfl).trans ((S22 110 0 rfl).trans ((S3 110 0 rfl).trans ((S2 110 0 rfl).trans ex10))))))
              refine z_vV (M := M_X12_readMeasure) 141 dX12_readMeasure_141 t_X12_act l_X12_268 (m_rr_of rfl) (rest := []) (c_X12_act h31 3 a1 x32 x253 2 G31 (by by_cases hb : x257 = 0; ( exact Or.inr (by omega)); (exact Or.inl (by omega)))) o_108 rfl rfl rfl (Nat.le_of_ble_eq_true rfl) ⟨rfl, rfl⟩ (fun h32 qx351 => ?_)
              obtain ⟨G32, S32, fx351_0⟩ := qx351
              have R32 := R31.call S32 (by decide +kernel)
              have P32 := P31.fr S32 rfl rfl rfl rfl
              have A32 := AI_act3 A30 (by omega) E31 ((S30 108 17 rfl).trans ((S23 108 17 rfl).trans ((S22 108 17 rfl).trans ((S3 108 17 rfl).trans ((S2 108 17 rfl).trans ex7))))) (by omega) (by omega) fx351_0 (by unfold okA; omega)
              have w352 : h32 108 9 = x329 := ((S32 108 9 rfl).trans ((upN E31 (fun q => absurd q.2 (by decide))).trans ex329))
              have nx351 : 2 * h32 108 16 ≤ h32 108 9 := by rcases actQ_n fx351_0 with ⟨q1, q2⟩ | ⟨q1, q2⟩; (omega); ( omega)
              obtain ⟨x353, ex353⟩ : ∃ y : Int, h32 108 16 = y := ⟨_, rfl⟩
              have bx353 : 0 ≤ x353 ∧ x353 ≤ 200 := ex353 ▸ g_108_16 G32
              have w354 : h32 108 9 = x329 := ((S32 108 9 rfl).trans ((upN E31 (fun q => absurd q.2 (by decide))).trans ex329))
              have w355 : h32 108 10 = x330 := ((S32 108 10 rfl).trans ((upN E31 (fun q => absurd q.2 (by decide))).trans ex330))
              have w356 : h32 108 11 = x331 := ((S32 108 11 rfl).trans ((upN E31 (fun q => absurd q.2 (by decide))).trans ex331))
              have w357 : h32 108 8 = x4 := ((S32 108 8 rfl).trans ((upN E31 (fun q => absurd q.2 (by decide))).trans ((S30 108 8 rfl).trans ((S23 108 8 rfl).trans ((S22 108 8 rfl).trans ((S3 108 8 rfl).trans ((S2 108 8 rfl).trans ex4)))))))
              have w358 : h32 108 16 = x353 := ex353
              have w359 : h32 108 14 = x257 := ((S32 108 14 rfl).trans ((upN E31 (fun q => absurd q.2 (by decide))).trans ((S30 108 14 rfl).trans ex257)))
              exact z_retV (M := M_X12_readMeasure) 144 dX12_readMeasure_144 rfl ⟨G32, R32, by omega, P32, by omega, A32, fun q => by  omega⟩
            · refine z_if_eq_T (M := M_X12_readMeasure) 95 dX12_readMeasure_95 102 rfl (by omega) ?_
              refine z_iconst (M := M_X12_readMeasure) 102 dX12_readMeasure_102 ?_
              refine z_istore (M := M_X12_readMeasure) 103 dX12_readMeasure_103 (ls' := [some (mR 108), some (mI a1), some (mI x32), some (mI x253), some (mI 0)]) (by decide) rfl ?_
              refine z_iload (M := M_X12_readMeasure) 105 dX12_readMeasure_105 rfl ?_
              refine z_if_gt_F (M := M_X12_readMeasure) 107 dX12_readMeasure_107 120 rfl (by omega) ?_
              refine z_aload_n (M := M_X12_readMeasure) 110 dX12_readMeasure_110 rfl ?_
              refine z_ldc2 (M := M_X12_readMeasure) 111 dX12_readMeasure_111 k_X12_291 ?_
              refine z_vI (M := M_X12_readMeasure) 114 dX12_readMeasure_114 t_X12_isWord l_X12_260 (m_rr_of rfl) (rest := []) (c_X12_isWord h23 6030452 G23) o_108 rfl rfl rfl (Nat.le_of_ble_eq_true rfl) ⟨rfl, rfl⟩ (fun x360 h33 qx360 => ?_)
              obtain ⟨rfl, ⟨rfl, cx360⟩ | ⟨rfl, cx360⟩⟩ := qx360
              · refine z_if_eq_F (M := M_X12_readMeasure) 117 dX12_readMeasure_117 124 rfl (by omega) ?_
                refine z_aload_n (M := M_X12_readMeasure) 120 dX12_readMeasure_120 rfl ?_
                have w361 : h23 108 9 = x254 := ex254
                have w362 : h23 108 10 = x255 := ex255
                have w363 : h23 108 11 = x256 := ex256
                have l364 := fx253_1.lt (by omega)
                have w365 : h23 108 10 = x255 := ex255
                have w366 : h23 108 8 = x4 := ((S23 108 8 rfl).trans ((S22 108 8 rfl).trans ((S3 108 8 rfl).trans ((S2 108 8 rfl).trans ex4))))
                refine z_vV (M := M_X12_readMeasure) 121 dX12_readMeasure_121 t_X12_next l_X12_218 (m_rr_of rfl) (rest := []) (c_X12_next h23 G23 (by omega)) o_108 rfl rfl rfl (Nat.le_of_ble_eq_true rfl) ⟨rfl, rfl⟩ (fun h34 qx367 => ?_)
                obtain ⟨G34, S34, fx367_0, fx367_1⟩ := qx367
                have R34 := R23.call S34 (by decide +kernel)
                have A34 := A23.fr S34 (fun _ => rfl) rfl rfl rfl rfl rfl
                obtain ⟨x368, ex368⟩ : ∃ y : Int, h34 108 9 = y := ⟨_, rfl⟩
                have bx368 : 0 ≤ x368 ∧ x368 ≤ 400 := ex368 ▸ g_108_9 G34
                obtain ⟨x369, ex369⟩ : ∃ y : Int, h34 108 10 = y := ⟨_, rfl⟩
                have bx369 : 0 ≤ x369 ∧ x369 ≤ 400 := ex369 ▸ g_108_10 G34
                obtain ⟨x370, ex370⟩ : ∃ y : Int, h34 108 11 = y := ⟨_, rfl⟩
                have bx370 : 0 ≤ x370 ∧ x370 ≤ 3 := ex370 ▸ g_108_11 G34
                have w371 : h34 108 9 = x368 := ex368
                have w372 : h34 108 10 = x369 := ex369
                have w373 : h34 108 11 = x370 := ex370
                have w374 : h34 108 8 = x4 := ((S34 108 8 rfl).trans ((S23 108 8 rfl).trans ((S22 108 8 rfl).trans ((S3 108 8 rfl).trans ((S2 108 8 rfl).trans ex4)))))
                have l375 := fx367_1.le
                refine z_aload_n (M := M_X12_readMeasure) 124 dX12_readMeasure_124 rfl ?_
                refine z_dup (M := M_X12_readMeasure) 125 dX12_readMeasure_125 rfl ?_
                refine z_getIE (M := M_X12_readMeasure) 126 dX12_readMeasure_126 f_X12_282 o_108 (by decide) ((S34 108 17 rfl).trans ((S23 108 17 rfl).trans ((S22 108 17 rfl).trans ((S3 108 17 rfl).trans ((S2 108 17 rfl).trans ex7))))) ?_
                refine z_iconst (M := M_X12_readMeasure) 129 dX12_readMeasure_129 ?_
                refine z_iaddN (M := M_X12_readMeasure) 130 dX12_readMeasure_130 (by omega) (by omega) ?_
                have w376 : h34 108 16 = x6 := ((S34 108 16 rfl).trans ((S23 108 16 rfl).trans ((S22 108 16 rfl).trans ((S3 108 16 rfl).trans ((S2 108 16 rfl).trans ex6)))))
                have w377 : h34 108 14 = x257 := ((S34 108 14 rfl).trans ex257)
                have w378 : h34 108 18 = x8 := ((S34 108 18 rfl).trans ((S23 108 18 rfl).trans ((S22 108 18 rfl).trans ((S3 108 18 rfl).trans ((S2 108 18 rfl).trans ex8)))))
                have w379 : h34 108 17 = x7 := ((S34 108 17 rfl).trans ((S23 108 17 rfl).trans ((S22 108 17 rfl).trans ((S3 108 17 rfl).trans ((S2 108 17 rfl).trans ex7)))))
                have w380 : h34 110 0 = x10 := ((S34 110 0 rfl).trans ((S23 110 0 rfl).trans ((S22 110 0 rfl).trans ((S3 110 0 rfl).trans ((S2 110 0 rfl).trans ex10)))))
                have rm381 := A34.rooms
                refine z_putIH (M := M_X12_readMeasure) 131 dX12_readMeasure_131 p_X12_282 o_108 rfl (u_108_17 G34 (by omega) (by omega)) (R34.up rfl) (fun h35 E35 G35 R35 => ?_)
                have P35 := fx367_1.same (upN E35 (by decide)) (upN E35 (by decide)) (upN E35 (by decide)) (upN E35 (by decide))
                refine z_aload_n (M := M_X12_readMeasure) 134 dX12_readMeasure_134 rfl ?_
                refine z_iconst (M := M_X12_readMeasure) 135 dX12_readMeasure_135 ?_
                refine z_iload_n (M := M_X12_readMeasure) 136 dX12_readMeasure_136 rfl ?_
                refine z_iload_n (M := M_X12_readMeasure) 137 dX12_readMeasure_137 rfl ?_
                refine z_iload_n (M := M_X12_readMeasure) 138 dX12_readMeasure_138 rfl ?_
                refine z_iload (M := M_X12_readMeasure) 139 dX12_readMeasure_139 rfl ?_
                have w382 : h35 108 14 = x257 := ((upN E35 (fun q => absurd q.2 (by decide))).trans ((S34 108 14 rfl).trans ex257))
                have w383 : h35 108 16 = x6 := ((upN E35 (fun q => absurd q.2 (by decide))).trans ((S34 108 16 rfl).trans ((S23 108 16 rfl).trans ((S22 108 16 rfl).trans ((S3 108 16 rfl).trans ((S2 108 16 rfl).trans ex6))))))
                have w384 : h35 108 9 = x368 := ((upN E35 (fun q => absurd q.2 (by decide))).trans ex368)
                have w385 : h35 108 8 = x4 := ((upN E35 (fun q => absurd q.2 (by decide))).trans ((S34 108 8 rfl).trans ((S23 108 8 rfl).trans ((S22 108 8 rfl).trans ((S3 108 8 rfl).trans ((S2 108 8 rfl).trans ex4))))))
                have w386 : h35 108 10 = x369 := ((upN E35 (fun q => absurd q.2 (by decide))).trans ex369)
                have w387 : h35 108 17 = (x7 + 1) := (upE E35)
                have w388 : h35 108 18 = x8 := ((upN E35 (fun q => absurd q.2 (by decide))).trans ((S34 108 18 rfl).trans ((S23 108 18 rfl).trans ((S22 108 18 rfl).trans ((S3 108 18 rfl).trans ((S2 108 18 rfl).trans ex8))))))
                have w389 : h35 110 0 = x10 := ((upN E35 (fun q => absurd q.1 (by decide))).trans ((S34 110 0 rfl).trans ((S23 110 0 rfl).trans ((S22 110 0 rfl).trans ((S3 110 0 rfl).trans ((S2 110 0 rfl).trans ex10))))))
                refine z_vV (M := M_X12_readMeasure) 141 dX12_readMeasure_141 t_X12_act l_X12_268 (m_rr_of rfl) (rest := []) (c_X12_act h35 3 a1 x32 x253 0 G35 (by by_cases hb : x257 = 0; ( exact Or.inr (by omega)); (exact Or.inl (by omega)))) o_108 rfl rfl rfl (Nat.le_of_ble_eq_true rfl) ⟨rfl, rfl⟩ (fun h36 qx390 => ?_)
                obtain ⟨G36, S36, fx390_0⟩ := qx390
                have R36 := R35.call S36 (by decide +kernel)
                have P36 := P35.fr S36 rfl rfl rfl rfl
                have A36 := AI_act3 A34 (by omega) E35 ((S34 108 17 rfl).trans ((S23 108 17 rfl).trans ((S22 108 17 rfl).trans ((S3 108 17 rfl).trans ((S2 108 17 rfl).trans ex7))))) (by omega) (by omega) fx390_0 (by unfold okA; omega)
                have w391 : h36 108 9 = x368 := ((S36 108 9 rfl).trans ((upN E35 (fun q => absurd q.2 (by decide))).trans ex368))
                have nx390 : 2 * h36 108 16 ≤ h36 108 9 := by rcases actQ_n fx390_0 with ⟨q1, q2⟩ | ⟨q1, q2⟩; (omega); ( omega)
                obtain ⟨x392, ex392⟩ : ∃ y : Int, h36 108 16 = y := ⟨_, rfl⟩
                have bx392 : 0 ≤ x392 ∧ x392 ≤ 200 := ex392 ▸ g_108_16 G36
                have w393 : h36 108 9 = x368 := ((S36 108 9 rfl).trans ((upN E35 (fun q => absurd q.2 (by decide))).trans ex368))
                have w394 : h36 108 10 = x369 := ((S36 108 10 rfl).trans ((upN E35 (fun q => absurd q.2 (by decide))).trans ex369))
                have w395 : h36 108 11 = x370 := ((S36 108 11 rfl).trans ((upN E35 (fun q => absurd q.2 (by decide))).trans ex370))
                have w396 : h36 108 8 = x4 := ((S36 108 8 rfl).trans ((upN E35 (fun q => absurd q.2 (by decide))).trans ((S34 108 8 rfl).trans ((S23 108 8 rfl).trans ((S22 108 8 rfl).trans ((S3 108 8 rfl).trans ((S2 108 8 rfl).trans ex4)))))))
                have w397 : h36 108 16 = x392 := ex392
                have w398 : h36 108 14 = x257 := ((S36 108 14 rfl).trans ((upN E35 (fun q => absurd q.2 (by decide))).trans ((S34 108 14 rfl).trans ex257)))
                exact z_retV (M := M_X12_readMeasure) 144 dX12_readMeasure_144 rfl ⟨G36, R36, by omega, P36, by omega, A36, fun q => by  omega⟩
              · refine z_if_eq_T (M := M_X12_readMeasure) 117 dX12_readMeasure_117 124 rfl (by omega) ?_
                refine z_aload_n (M := M_X12_readMeasure) 124 dX12_readMeasure_124 rfl ?_
                refine z_dup (M := M_X12_readMeasure) 125 dX12_readMeasure_125 rfl ?_
                refine z_getIE (M := M_X12_readMeasure) 126 dX12_readMeasure_126 f_X12_282 o_108 (by decide) ((S23 108 17 rfl).trans ((S22 108 17 rfl).trans ((S3 108 17 rfl).trans ((S2 108 17 rfl).trans ex7)))) ?_
                refine z_iconst (M := M_X12_readMeasure) 129 dX12_readMeasure_129 ?_
                refine z_iaddN (M := M_X12_readMeasure) 130 dX12_readMeasure_130 (by omega) (by omega) ?_
                have w399 : h23 108 16 = x6 := ((S23 108 16 rfl).trans ((S22 108 16 rfl).trans ((S3 108 16 rfl).trans ((S2 108 16 rfl).trans ex6))))
                have w400 : h23 108 14 = x257 := ex257
                have w401 : h23 108 18 = x8 := ((S23 108 18 rfl).trans ((S22 108 18 rfl).trans ((S3 108 18 rfl).trans ((S2 108 18 rfl).trans ex8))))
                have w402 : h23 108 17 = x7 := ((S23 108 17 rfl).trans ((S22 108 17 rfl).trans ((S3 108 17 rfl).trans ((S2 108 17 rfl).trans ex7))))
                have w403 : h23 110 0 = x10 := ((S23 110 0 rfl).trans ((S22 110 0 rfl).trans ((S3 110 0 rfl).trans ((S2 110 0 rfl).trans ex10))))
                have rm404 := A23.rooms
                refine z_putIH (M := M_X12_readMeasure) 131 dX12_readMeasure_131 p_X12_282 o_108 rfl (u_108_17 G23 (by omega) (by omega)) (R23.up rfl) (fun h37 E37 G37 R37 => ?_)
                have P37 := fx253_1.same (upN E37 (by decide)) (upN E37 (by decide)) (upN E37 (by decide)) (upN E37 (by decide))
                refine z_aload_n (M := M_X12_readMeasure) 134 dX12_readMeasure_134 rfl ?_
                refine z_iconst (M := M_X12_readMeasure) 135 dX12_readMeasure_135 ?_
                refine z_iload_n (M := M_X12_readMeasure) 136 dX12_readMeasure_136 rfl ?_
                refine z_iload_n (M := M_X12_readMeasure) 137 dX12_readMeasure_137 rfl ?_
                refine z_iload_n (M := M_X12_readMeasure) 138 dX12_readMeasure_138 rfl ?_
                refine z_iload (M := M_X12_readMeasure) 139 dX12_readMeasure_139 rfl ?_
                have w405 : h37 108 14 = x257 := ((upN E37 (fun q => absurd q.2 (by decide))).trans ex257)
                have w406 : h37 108 16 = x6 := ((upN E37 (fun q => absurd q.2 (by decide))).trans ((S23 108 16 rfl).trans ((S22 108 16 rfl).trans ((S3 108 16 rfl).trans ((S2 108 16 rfl).trans ex6)))))
                have w407 : h37 108 9 = x254 := ((upN E37 (fun q => absurd q.2 (by decide))).trans ex254)
                have w408 : h37 108 8 = x4 := ((upN E37 (fun q => absurd q.2 (by decide))).trans ((S23 108 8 rfl).trans ((S22 108 8 rfl).trans ((S3 108 8 rfl).trans ((S2 108 8 rfl).trans ex4)))))
                have w409 : h37 108 10 = x255 := ((upN E37 (fun q => absurd q.2 (by decide))).trans ex255)
                have w410 : h37 108 17 = (x7 + 1) := (upE E37)
                have w411 : h37 108 18 = x8 := ((upN E37 (fun q => absurd q.2 (by decide))).trans ((S23 108 18 rfl).trans ((S22 108 18 rfl).trans ((S3 108 18 rfl).trans ((S2 108 18 rfl).trans ex8)))))
                have w412 : h37 110 0 = x10 := ((upN E37 (fun q => absurd q.1 (by decide))).trans ((S23 110 0 rfl).trans ((S22 110 0 rfl).trans ((S3 110 0 rfl).trans ((S2 110 0 rfl).trans ex10)))))
                refine z_vV (M := M_X12_readMeasure) 141 dX12_readMeasure_141 t_X12_act l_X12_268 (m_rr_of rfl) (rest := []) (c_X12_act h37 3 a1 x32 x253 0 G37 (by by_cases hb : x257 = 0; ( exact Or.inr (by omega)); (exact Or.inl (by omega)))) o_108 rfl rfl rfl (Nat.le_of_ble_eq_true rfl) ⟨rfl, rfl⟩ (fun h38 qx413 => ?_)
                obtain ⟨G38, S38, fx413_0⟩ := qx413
                have R38 := R37.call S38 (by decide +kernel)
                have P38 := P37.fr S38 rfl rfl rfl rfl
                have A38 := AI_act3 A23 (by omega) E37 ((S23 108 17 rfl).trans ((S22 108 17 rfl).trans ((S3 108 17 rfl).trans ((S2 108 17 rfl).trans ex7)))) (by omega) (by omega) fx413_0 (by unfold okA; omega)
                have w414 : h38 108 9 = x254 := ((S38 108 9 rfl).trans ((upN E37 (fun q => absurd q.2 (by decide))).trans ex254))
                have nx413 : 2 * h38 108 16 ≤ h38 108 9 := by rcases actQ_n fx413_0 with ⟨q1, q2⟩ | ⟨q1, q2⟩; (omega); ( omega)
                obtain ⟨x415, ex415⟩ : ∃ y : Int, h38 108 16 = y := ⟨_, rfl⟩
                have bx415 : 0 ≤ x415 ∧ x415 ≤ 200 := ex415 ▸ g_108_16 G38
                have w416 : h38 108 9 = x254 := ((S38 108 9 rfl).trans ((upN E37 (fun q => absurd q.2 (by decide))).trans ex254))
                have w417 : h38 108 10 = x255 := ((S38 108 10 rfl).trans ((upN E37 (fun q => absurd q.2 (by decide))).trans ex255))
                have w418 : h38 108 11 = x256 := ((S38 108 11 rfl).trans ((upN E37 (fun q => absurd q.2 (by decide))).trans ex256))
                have w419 : h38 108 8 = x4 := ((S38 108 8 rfl).trans ((upN E37 (fun q => absurd q.2 (by decide))).trans ((S23 108 8 rfl).trans ((S22 108 8 rfl).trans ((S3 108 8 rfl).trans ((S2 108 8 rfl).trans ex4))))))
                have w420 : h38 108 16 = x415 := ex415
                have w421 : h38 108 14 = x257 := ((S38 108 14 rfl).trans ((upN E37 (fun q => absurd q.2 (by decide))).trans ex257))
                exact z_retV (M := M_X12_readMeasure) 144 dX12_readMeasure_144 rfl ⟨G38, R38, by omega, P38, by omega, A38, fun q => by  omega⟩
    · refine z_iconst (M := M_X12_readMeasure) 27 dX12_readMeasure_27 ?_
      refine z_goto (M := M_X12_readMeasure) 28 dX12_readMeasure_28 32 rfl ?_
      have w422 : h0 108 9 = x1 := ex1
      have w423 : h0 108 10 = x2 := ex2
      have w424 : h0 108 11 = x3 := ex3
      have w425 : h0 108 8 = x4 := ex4
      refine z_vV (M := M_X12_readMeasure) 32 dX12_readMeasure_32 t_X12_must l_X12_247 (m_rr_of rfl) (rest := []) (c_X12_must h0 1 G0 ⟨by omega, by omega⟩ hp) o_108 rfl rfl rfl (Nat.le_of_ble_eq_true rfl) ⟨rfl, rfl⟩ (fun h39 qx426 => ?_)
      obtain ⟨G39, S39, fx426_0, fx426_1, fx426_2⟩ := qx426
      have R39 := (FR.rf (cs := [114]) (ss := [(108, 9), (108, 10), (108, 11), (108, 12), (108, 13), (108, 14), (108, 16), (108, 17)]) (h := h0)).call S39 (by decide +kernel)
      have A39 := A0.fr S39 (fun _ => rfl) rfl rfl rfl rfl rfl
      obtain ⟨x427, ex427⟩ : ∃ y : Int, h39 108 9 = y := ⟨_, rfl⟩
      have bx427 : 0 ≤ x427 ∧ x427 ≤ 400 := ex427 ▸ g_108_9 G39
      obtain ⟨x428, ex428⟩ : ∃ y : Int, h39 108 10 = y := ⟨_, rfl⟩
      have bx428 : 0 ≤ x428 ∧ x428 ≤ 400 := ex428 ▸ g_108_10 G39
      obtain ⟨x429, ex429⟩ : ∃ y : Int, h39 108 11 = y := ⟨_, rfl⟩
      have bx429 : 0 ≤ x429 ∧ x429 ≤ 3 := ex429 ▸ g_108_11 G39
      obtain ⟨x430, ex430⟩ : ∃ y : Int, h39 108 14 = y := ⟨_, rfl⟩
      have bx430 : 0 ≤ x430 ∧ x430 ≤ 1 := ex430 ▸ g_108_14 G39
      have w431 : h39 108 9 = x427 := ex427
      have w432 : h39 108 10 = x428 := ex428
      have w433 : h39 108 11 = x429 := ex429
      have w434 : h39 108 8 = x4 := ((S39 108 8 rfl).trans ex4)
      have w435 : h39 108 14 = x430 := ex430
      have l436 := fx426_1.le
      refine z_aload_n (M := M_X12_readMeasure) 35 dX12_readMeasure_35 rfl ?_
      refine z_lconst (M := M_X12_readMeasure) 36 dX12_readMeasure_36 (v := 0) ?_
      refine z_ldc2 (M := M_X12_readMeasure) 37 dX12_readMeasure_37 k_X12_154 ?_
      have w437 : h39 108 9 = x427 := ex427
      have w438 : h39 108 10 = x428 := ex428
      have w439 : h39 108 11 = x429 := ex429
      have w440 : h39 108 8 = x4 := ((S39 108 8 rfl).trans ex4)
      have w441 : h39 108 14 = x430 := ex430
      refine z_vI (M := M_X12_readMeasure) 40 dX12_readMeasure_40 t_X12_number l_X12_254 (m_rr_of rfl) (rest := []) (c_X12_number h39 0 31 G39 ⟨by omega, by omega⟩ ⟨by omega, by omega⟩ fx426_1) o_108 rfl rfl rfl (Nat.le_of_ble_eq_true rfl) ⟨rfl, rfl⟩ (fun x442 h40 qx442 => ?_)
      obtain ⟨G40, S40, fx442_0, fx442_1, fx442_2⟩ := qx442
      have R40 := R39.call S40 (by decide +kernel)
      have A40 := A39.fr S40 (fun _ => rfl) rfl rfl rfl rfl rfl
      refine z_ok (fun ox442 _ _ => ?_)
      have ox442 := ox442.1; unfold m_ok m_32 at ox442
      obtain ⟨x443, ex443⟩ : ∃ y : Int, h40 108 9 = y := ⟨_, rfl⟩
      have bx443 : 0 ≤ x443 ∧ x443 ≤ 400 := ex443 ▸ g_108_9 G40
      obtain ⟨x444, ex444⟩ : ∃ y : Int, h40 108 10 = y := ⟨_, rfl⟩
      have bx444 : 0 ≤ x444 ∧ x444 ≤ 400 := ex444 ▸ g_108_10 G40
      obtain ⟨x445, ex445⟩ : ∃ y : Int, h40 108 11 = y := ⟨_, rfl⟩
      have bx445 : 0 ≤ x445 ∧ x445 ≤ 3 := ex445 ▸ g_108_11 G40
      obtain ⟨x446, ex446⟩ : ∃ y : Int, h40 108 14 = y := ⟨_, rfl⟩
      have bx446 : 0 ≤ x446 ∧ x446 ≤ 1 := ex446 ▸ g_108_14 G40
      have w447 : h40 108 9 = x443 := ex443
      have w448 : h40 108 10 = x444 := ex444
      have w449 : h40 108 11 = x445 := ex445
      have w450 : h40 108 8 = x4 := ((S40 108 8 rfl).trans ((S39 108 8 rfl).trans ex4))
      have w451 : h40 108 14 = x446 := ex446
      have l452 := fx442_1.le
      refine z_istore_n (M := M_X12_readMeasure) 43 dX12_readMeasure_43 (ls' := [some (mR 108), some (mI a1), some (mI x442), none, none]) (by decide) rfl ?_
      refine z_aload_n (M := M_X12_readMeasure) 44 dX12_readMeasure_44 rfl ?_
      refine z_aload_n (M := M_X12_readMeasure) 45 dX12_readMeasure_45 rfl ?_
      refine z_ldc2 (M := M_X12_readMeasure) 46 dX12_readMeasure_46 k_X12_285 ?_
      refine z_vI (M := M_X12_readMeasure) 49 dX12_readMeasure_49 t_X12_isWord l_X12_260 (m_rr_of rfl) (rest := [mR 108]) (c_X12_isWord h40 307 G40) o_108 rfl rfl rfl (Nat.le_of_ble_eq_true rfl) ⟨rfl, rfl⟩ (fun x453 h41 qx453 => ?_)
      obtain ⟨rfl, ⟨rfl, cx453⟩ | ⟨rfl, cx453⟩⟩ := qx453
      · have w454 : h40 108 9 = x443 := ex443
        have w455 : h40 108 10 = x444 := ex444
        have w456 : h40 108 11 = x445 := ex445
        have w457 : h40 108 8 = x4 := ((S40 108 8 rfl).trans ((S39 108 8 rfl).trans ex4))
        refine z_vV (M := M_X12_readMeasure) 52 dX12_readMeasure_52 t_X12_must l_X12_247 (m_rr_of rfl) (rest := []) (c_X12_must h40 1 G40 ⟨by omega, by omega⟩ fx442_1) o_108 rfl rfl rfl (Nat.le_of_ble_eq_true rfl) ⟨rfl, rfl⟩ (fun h42 qx458 => ?_)
        obtain ⟨G42, S42, fx458_0, fx458_1, fx458_2⟩ := qx458
        have R42 := R40.call S42 (by decide +kernel)
        have A42 := A40.fr S42 (fun _ => rfl) rfl rfl rfl rfl rfl
        obtain ⟨x459, ex459⟩ : ∃ y : Int, h42 108 9 = y := ⟨_, rfl⟩
        have bx459 : 0 ≤ x459 ∧ x459 ≤ 400 := ex459 ▸ g_108_9 G42
        obtain ⟨x460, ex460⟩ : ∃ y : Int, h42 108 10 = y := ⟨_, rfl⟩
        have bx460 : 0 ≤ x460 ∧ x460 ≤ 400 := ex460 ▸ g_108_10 G42
        obtain ⟨x461, ex461⟩ : ∃ y : Int, h42 108 11 = y := ⟨_, rfl⟩
        have bx461 : 0 ≤ x461 ∧ x461 ≤ 3 := ex461 ▸ g_108_11 G42
        obtain ⟨x462, ex462⟩ : ∃ y : Int, h42 108 14 = y := ⟨_, rfl⟩
        have bx462 : 0 ≤ x462 ∧ x462 ≤ 1 := ex462 ▸ g_108_14 G42
        have w463 : h42 108 9 = x459 := ex459
        have w464 : h42 108 10 = x460 := ex460
        have w465 : h42 108 11 = x461 := ex461
        have w466 : h42 108 8 = x4 := ((S42 108 8 rfl).trans ((S40 108 8 rfl).trans ((S39 108 8 rfl).trans ex4)))
        have w467 : h42 108 14 = x462 := ex462
        have l468 := fx458_1.le
        refine z_aload_n (M := M_X12_readMeasure) 55 dX12_readMeasure_55 rfl ?_
        refine z_lconst (M := M_X12_readMeasure) 56 dX12_readMeasure_56 (v := 1) ?_
        refine z_ldc2 (M := M_X12_readMeasure) 57 dX12_readMeasure_57 k_X12_180 ?_
        have w469 : h42 108 9 = x459 := ex459
        have w470 : h42 108 10 = x460 := ex460
        have w471 : h42 108 11 = x461 := ex461
        have w472 : h42 108 8 = x4 := ((S42 108 8 rfl).trans ((S40 108 8 rfl).trans ((S39 108 8 rfl).trans ex4)))
        have w473 : h42 108 14 = x462 := ex462
        refine z_vI (M := M_X12_readMeasure) 60 dX12_readMeasure_60 t_X12_number l_X12_254 (m_rr_of rfl) (rest := []) (c_X12_number h42 1 99 G42 ⟨by omega, by omega⟩ ⟨by omega, by omega⟩ fx458_1) o_108 rfl rfl rfl (Nat.le_of_ble_eq_true rfl) ⟨rfl, rfl⟩ (fun x474 h43 qx474 => ?_)
        obtain ⟨G43, S43, fx474_0, fx474_1, fx474_2⟩ := qx474
        have R43 := R42.call S43 (by decide +kernel)
        have A43 := A42.fr S43 (fun _ => rfl) rfl rfl rfl rfl rfl
        refine z_ok (fun ox474 _ _ => ?_)
        have ox474 := ox474.1; unfold m_ok m_32 at ox474
        obtain ⟨x475, ex475⟩ : ∃ y : Int, h43 108 9 = y := ⟨_, rfl⟩
        have bx475 : 0 ≤ x475 ∧ x475 ≤ 400 := ex475 ▸ g_108_9 G43
        obtain ⟨x476, ex476⟩ : ∃ y : Int, h43 108 10 = y := ⟨_, rfl⟩
        have bx476 : 0 ≤ x476 ∧ x476 ≤ 400 := ex476 ▸ g_108_10 G43
        obtain ⟨x477, ex477⟩ : ∃ y : Int, h43 108 11 = y := ⟨_, rfl⟩
        have bx477 : 0 ≤ x477 ∧ x477 ≤ 3 := ex477 ▸ g_108_11 G43
        obtain ⟨x478, ex478⟩ : ∃ y : Int, h43 108 14 = y := ⟨_, rfl⟩
        have bx478 : 0 ≤ x478 ∧ x478 ≤ 1 := ex478 ▸ g_108_14 G43
        have w479 : h43 108 9 = x475 := ex475
        have w480 : h43 108 10 = x476 := ex476
        have w481 : h43 108 11 = x477 := ex477
        have w482 : h43 108 8 = x4 := ((S43 108 8 rfl).trans ((S42 108 8 rfl).trans ((S40 108 8 rfl).trans ((S39 108 8 rfl).trans ex4))))
        have w483 : h43 108 14 = x478 := ex478
        have l484 := fx474_1.le
        refine z_istore_n (M := M_X12_readMeasure) 63 dX12_readMeasure_63 (ls' := [some (mR 108), some (mI a1), some (mI x442), some (mI x474), none]) (by decide) rfl ?_
        refine z_iconst (M := M_X12_readMeasure) 64 dX12_readMeasure_64 ?_
        refine z_istore (M := M_X12_readMeasure) 65 dX12_readMeasure_65 (ls' := [some (mR 108), some (mI a1), some (mI x442), some (mI x474), some (mI 0)]) (by decide) rfl ?_
        refine z_aload_n (M := M_X12_readMeasure) 67 dX12_readMeasure_67 rfl ?_
        refine z_getIE (M := M_X12_readMeasure) 68 dX12_readMeasure_68 f_X12_214 o_108 (by decide) ex478 ?_
        refine z_if_ne (M := M_X12_readMeasure) 71 dX12_readMeasure_71 134 rfl (fun c485 => ?_) (fun c485 => ?_)
        · refine z_aload_n (M := M_X12_readMeasure) 134 dX12_readMeasure_134 rfl ?_
          refine z_iconst (M := M_X12_readMeasure) 135 dX12_readMeasure_135 ?_
          refine z_iload_n (M := M_X12_readMeasure) 136 dX12_readMeasure_136 rfl ?_
          refine z_iload_n (M := M_X12_readMeasure) 137 dX12_readMeasure_137 rfl ?_
          refine z_iload_n (M := M_X12_readMeasure) 138 dX12_readMeasure_138 rfl ?_
          refine z_iload (M := M_X12_readMeasure) 139 dX12_readMeasure_139 rfl ?_
          have w486 : h43 108 14 = x478 := ex478
          have w487 : h43 108 16 = x6 := ((S43 108 16 rfl).trans ((S42 108 16 rfl).trans ((S40 108 16 rfl).trans ((S39 108 16 rfl).trans ex6))))
          have w488 : h43 108 9 = x475 := ex475
          have w489 : h43 108 8 = x4 := ((S43 108 8 rfl).trans ((S42 108 8 rfl).trans ((S40 108 8 rfl).trans ((S39 108 8 rfl).trans ex4))))
          have w490 : h43 108 10 = x476 := ex476
          have w491 : h43 108 17 = x7 := ((S43 108 17 rfl).trans ((S42 108 17 rfl).trans ((S40 108 17 rfl).trans ((S39 108 17 rfl).trans ex7))))
          have w492 : h43 108 18 = x8 := ((S43 108 18 rfl).trans ((S42 108 18 rfl).trans ((S40 108 18 rfl).trans ((S39 108 18 rfl).trans ex8))))
          have w493 : h43 110 0 = x10 := ((S43 110 0 rfl).trans ((S42 110 0 rfl).trans ((S40 110 0 rfl).trans ((S39 110 0 rfl).trans ex10))))
          refine z_vV (M := M_X12_readMeasure) 141 dX12_readMeasure_141 t_X12_act l_X12_268 (m_rr_of rfl) (rest := []) (c_X12_act h43 3 a1 x442 x474 0 G43 (by by_cases hb : x478 = 0; (have ufx474_2 := fx474_2 (by omega); have ufx458_2 := fx458_2 (by omega); have ufx442_2 := fx442_2 (by omega); have ufx426_2 := fx426_2 (by omega); exact Or.inr (by omega)); (exact Or.inl (by omega)))) o_108 rfl rfl rfl (Nat.le_of_ble_eq_true rfl) ⟨rfl, rfl⟩ (fun h44 qx494 => ?_)
          obtain ⟨G44, S44, fx494_0⟩ := qx494
          have R44 := R43.call S44 (by decide +kernel)
          have P44 := fx474_1.fr S44 rfl rfl rfl rfl
          have A44 := actQ_bad fx494_0 (by omega) A43
          have w495 : h44 108 9 = x475 := ((S44 108 9 rfl).trans ex475)
          have nx494 : 2 * h44 108 16 ≤ h44 108 9 := by rcases actQ_n fx494_0 with ⟨q1, q2⟩ | ⟨q1, q2⟩; (omega); (have ufx474_2 := fx474_2 (by omega); have ufx458_2 := fx458_2 (by omega); have ufx442_2 := fx442_2 (by omega); have ufx426_2 := fx426_2 (by omega); omega)
          obtain ⟨x496, ex496⟩ : ∃ y : Int, h44 108 16 = y := ⟨_, rfl⟩
          have bx496 : 0 ≤ x496 ∧ x496 ≤ 200 := ex496 ▸ g_108_16 G44
          have w497 : h44 108 9 = x475 := ((S44 108 9 rfl).trans ex475)
          have w498 : h44 108 10 = x476 := ((S44 108 10 rfl).trans ex476)
          have w499 : h44 108 11 = x477 := ((S44 108 11 rfl).trans ex477)
          have w500 : h44 108 8 = x4 := ((S44 108 8 rfl).trans ((S43 108 8 rfl).trans ((S42 108 8 rfl).trans ((S40 108 8 rfl).trans ((S39 108 8 rfl).trans ex4)))))
          have w501 : h44 108 16 = x496 := ex496
          have w502 : h44 108 14 = x478 := ((S44 108 14 rfl).trans ex478)
          exact z_retV (M := M_X12_readMeasure) 144 dX12_readMeasure_144 rfl ⟨G44, R44, by omega, P44, by omega, A44, fun q => by have ufx474_2 := fx474_2 (by omega); have ufx458_2 := fx458_2 (by omega); have ufx442_2 := fx442_2 (by omega); have ufx426_2 := fx426_2 (by omega); omega⟩
        · have ufx474_2 := fx474_2 (by omega)
          have ufx458_2 := fx458_2 (by omega)
          have ufx442_2 := fx442_2 (by omega)
          have ufx426_2 := fx426_2 (by omega)
          refine z_aload_n (M := M_X12_readMeasure) 74 dX12_readMeasure_74 rfl ?_
          refine z_ldc2 (M := M_X12_readMeasure) 75 dX12_readMeasure_75 k_X12_287 ?_
          refine z_vI (M := M_X12_readMeasure) 78 dX12_readMeasure_78 t_X12_isWord l_X12_260 (m_rr_of rfl) (rest := []) (c_X12_isWord h43 24395141 G43) o_108 rfl rfl rfl (Nat.le_of_ble_eq_true rfl) ⟨rfl, rfl⟩ (fun x503 h45 qx503 => ?_)
          obtain ⟨rfl, ⟨rfl, cx503⟩ | ⟨rfl, cx503⟩⟩ := qx503
          · refine z_if_eq_F (M := M_X12_readMeasure) 81 dX12_readMeasure_81 88 rfl (by omega) ?_
            refine z_iconst (M := M_X12_readMeasure) 84 dX12_readMeasure_84 ?_
            refine z_goto (M := M_X12_readMeasure) 85 dX12_readMeasure_85 103 rfl ?_
            refine z_istore (M := M_X12_readMeasure) 103 dX12_readMeasure_103 (ls' := [some (mR 108), some (mI a1), some (mI x442), some (mI x474), some (mI 1)]) (by decide) rfl ?_
            refine z_iload (M := M_X12_readMeasure) 105 dX12_readMeasure_105 rfl ?_
            refine z_if_gt_T (M := M_X12_readMeasure) 107 dX12_readMeasure_107 120 rfl (by omega) ?_
            refine z_aload_n (M := M_X12_readMeasure) 120 dX12_readMeasure_120 rfl ?_
            have w504 : h43 108 9 = x475 := ex475
            have w505 : h43 108 10 = x476 := ex476
            have w506 : h43 108 11 = x477 := ex477
            have l507 := fx474_1.lt (by omega)
            have w508 : h43 108 10 = x476 := ex476
            have w509 : h43 108 8 = x4 := ((S43 108 8 rfl).trans ((S42 108 8 rfl).trans ((S40 108 8 rfl).trans ((S39 108 8 rfl).trans ex4))))
            refine z_vV (M := M_X12_readMeasure) 121 dX12_readMeasure_121 t_X12_next l_X12_218 (m_rr_of rfl) (rest := []) (c_X12_next h43 G43 (by omega)) o_108 rfl rfl rfl (Nat.le_of_ble_eq_true rfl) ⟨rfl, rfl⟩ (fun h46 qx510 => ?_)
            obtain ⟨G46, S46, fx510_0, fx510_1⟩ := qx510
            have R46 := R43.call S46 (by decide +kernel)
            have A46 := A43.fr S46 (fun _ => rfl) rfl rfl rfl rfl rfl
            obtain ⟨x511, ex511⟩ : ∃ y : Int, h46 108 9 = y := ⟨_, rfl⟩
            have bx511 : 0 ≤ x511 ∧ x511 ≤ 400 := ex511 ▸ g_108_9 G46
            obtain ⟨x512, ex512⟩ : ∃ y : Int, h46 108 10 = y := ⟨_, rfl⟩
            have bx512 : 0 ≤ x512 ∧ x512 ≤ 400 := ex512 ▸ g_108_10 G46
            obtain ⟨x513, ex513⟩ : ∃ y : Int, h46 108 11 = y := ⟨_, rfl⟩
            have bx513 : 0 ≤ x513 ∧ x513 ≤ 3 := ex513 ▸ g_108_11 G46
            have w514 : h46 108 9 = x511 := ex511
            have w515 : h46 108 10 = x512 := ex512
            have w516 : h46 108 11 = x513 := ex513
            have w517 : h46 108 8 = x4 := ((S46 108 8 rfl).trans ((S43 108 8 rfl).trans ((S42 108 8 rfl).trans ((S40 108 8 rfl).trans ((S39 108 8 rfl).trans ex4)))))
            have l518 := fx510_1.le
            refine z_aload_n (M := M_X12_readMeasure) 124 dX12_readMeasure_124 rfl ?_
            refine z_dup (M := M_X12_readMeasure) 125 dX12_readMeasure_125 rfl ?_
            refine z_getIE (M := M_X12_readMeasure) 126 dX12_readMeasure_126 f_X12_282 o_108 (by decide) ((S46 108 17 rfl).trans ((S43 108 17 rfl).trans ((S42 108 17 rfl).trans ((S40 108 17 rfl).trans ((S39 108 17 rfl).trans ex7))))) ?_
            refine z_iconst (M := M_X12_readMeasure) 129 dX12_readMeasure_129 ?_
            refine z_iaddN (M := M_X12_readMeasure) 130 dX12_readMeasure_130 (by omega) (by omega) ?_
            have w519 : h46 108 16 = x6 := ((S46 108 16 rfl).trans ((S43 108 16 rfl).trans ((S42 108 16 rfl).trans ((S40 108 16 rfl).trans ((S39 108 16 rfl).trans ex6)))))
            have w520 : h46 108 14 = x478 := ((S46 108 14 rfl).trans ex478)
            have w521 : h46 108 18 = x8 := ((S46 108 18 rfl).trans ((S43 108 18 rfl).trans ((S42 108 18 rfl).trans ((S40 108 18 rfl).trans ((S39 108 18 rfl).trans ex8)))))
            have w522 : h46 108 17 = x7 := ((S46 108 17 rfl).trans ((S43 108 17 rfl).trans ((S42 108 17 rfl).trans ((S40 108 17 rfl).trans ((S39 108 17 rfl).trans ex7)))))
            have w523 : h46 110 0 = x10 := ((S46 110 0 rfl).trans ((S43 110 0 rfl).trans ((S42 110 0 rfl).trans ((S40 110 0 rfl).trans ((S39 110 0 rfl).trans ex10)))))
            have rm524 := A46.rooms
            refine z_putIH (M := M_X12_readMeasure) 131 dX12_readMeasure_131 p_X12_282 o_108 rfl (u_108_17 G46 (by omega) (by omega)) (R46.up rfl) (fun h47 E47 G47 R47 => ?_)
            have P47 := fx510_1.same (upN E47 (by decide)) (upN E47 (by decide)) (upN E47 (by decide)) (upN E47 (by decide))
            refine z_aload_n (M := M_X12_readMeasure) 134 dX12_readMeasure_134 rfl ?_
            refine z_iconst (M := M_X12_readMeasure) 135 dX12_readMeasure_135 ?_
            refine z_iload_n (M := M_X12_readMeasure) 136 dX12_readMeasure_136 rfl ?_
            refine z_iload_n (M := M_X12_readMeasure) 137 dX12_readMeasure_137 rfl ?_
            refine z_iload_n (M := M_X12_readMeasure) 138 dX12_readMeasure_138 rfl ?_
            refine z_iload (M := M_X12_readMeasure) 139 dX12_readMeasure_139 rfl ?_
            have w525 : h47 108 14 = x478 := ((upN E47 (fun q => absurd q.2 (by decide))).trans ((S46 108 14 rfl).trans ex478))
            have w526 : h47 108 16 = x6 := ((upN E47 (fun q => absurd q.2 (by decide))).trans ((S46 108 16 rfl).trans ((S43 108 16 rfl).trans ((S42 108 16 rfl).trans ((S40 108 16 rfl).trans ((S39 108 16 rfl).trans ex6))))))
            have w527 : h47 108 9 = x511 := ((upN E47 (fun q => absurd q.2 (by decide))).trans ex511)
            have w528 : h47 108 8 = x4 := ((upN E47 (fun q => absurd q.2 (by decide))).trans ((S46 108 8 rfl).trans ((S43 108 8 rfl).trans ((S42 108 8 rfl).trans ((S40 108 8 rfl).trans ((S39 108 8 rfl).trans ex4))))))
            have w529 : h47 108 10 = x512 := ((upN E47 (fun q => absurd q.2 (by decide))).trans ex512)
            have w530 : h47 108 17 = (x7 + 1) := (upE E47)
            have w531 : h47 108 18 = x8 := ((upN E47 (fun q => absurd q.2 (by decide))).trans ((S46 108 18 rfl).trans ((S43 108 18 rfl).trans ((S42 108 18 rfl).trans ((S40 108 18 rfl).trans ((S39 108 18 rfl).trans ex8))))))
            have w532 : h47 110 0 = x10 := ((upN E47 (fun q => absurd q.1 (by decide))).trans ((S46 110 0 rfl).trans ((S43 110 0 rfl).trans ((S42 110 0 rfl).trans ((S40 110 0 rfl).trans ((S39 110 0 rfl).trans ex10))))))
            refine z_vV (M := M_X12_readMeasure) 141 dX12_readMeasure_141 t_X12_act l_X12_268 (m_rr_of rfl) (rest := []) (c_X12_act h47 3 a1 x442 x474 1 G47 (by by_cases hb : x478 = 0; ( exact Or.inr (by omega)); (exact Or.inl (by omega)))) o_108 rfl rfl rfl (Nat.le_of_ble_eq_true rfl) ⟨rfl, rfl⟩ (fun h48 qx533 => ?_)
            obtain ⟨G48, S48, fx533_0⟩ := qx533
            have R48 := R47.call S48 (by decide +kernel)
            have P48 := P47.fr S48 rfl rfl rfl rfl
            have A48 := AI_act3 A46 (by omega) E47 ((S46 108 17 rfl).trans ((S43 108 17 rfl).trans ((S42 108 17 rfl).trans ((S40 108 17 rfl).trans ((S39 108 17 rfl).trans ex7))))) (by omega) (by omega) fx533_0 (by unfold okA; omega)
            have w534 : h48 108 9 = x511 := ((S48 108 9 rfl).trans ((upN E47 (fun q => absurd q.2 (by decide))).trans ex511))
            have nx533 : 2 * h48 108 16 ≤ h48 108 9 := by rcases actQ_n fx533_0 with ⟨q1, q2⟩ | ⟨q1, q2⟩; (omega); ( omega)
            obtain ⟨x535, ex535⟩ : ∃ y : Int, h48 108 16 = y := ⟨_, rfl⟩
            have bx535 : 0 ≤ x535 ∧ x535 ≤ 200 := ex535 ▸ g_108_16 G48
            have w536 : h48 108 9 = x511 := ((S48 108 9 rfl).trans ((upN E47 (fun q => absurd q.2 (by decide))).trans ex511))
            have w537 : h48 108 10 = x512 := ((S48 108 10 rfl).trans ((upN E47 (fun q => absurd q.2 (by decide))).trans ex512))
            have w538 : h48 108 11 = x513 := ((S48 108 11 rfl).trans ((upN E47 (fun q => absurd q.2 (by decide))).trans ex513))
            have w539 : h48 108 8 = x4 := ((S48 108 8 rfl).trans ((upN E47 (fun q => absurd q.2 (by decide))).trans ((S46 108 8 rfl).trans ((S43 108 8 rfl).trans ((S42 108 8 rfl).trans ((S40 108 8 rfl).trans ((S39 108 8 rfl).trans ex4)))))))
            have w540 : h48 108 16 = x535 := ex535
            have w541 : h48 108 14 = x478 := ((S48 108 14 rfl).trans ((upN E47 (fun q => absurd q.2 (by decide))).trans ((S46 108 14 rfl).trans ex478)))
            exact z_retV (M := M_X12_readMeasure) 144 dX12_readMeasure_144 rfl ⟨G48, R48, by omega, P48, by omega, A48, fun q => by  omega⟩
          · refine z_if_eq_T (M := M_X12_readMeasure) 81 dX12_readMeasure_81 88 rfl (by omega) ?_
            refine z_aload_n (M := M_X12_readMeasure) 88 dX12_readMeasure_88 rfl ?_
            refine z_ldc2 (M := M_X12_readMeasure) 89 dX12_readMeasure_89 k_X12_289 ?_
            refine z_vI (M := M_X12_readMeasure) 92 dX12_readMeasure_92 t_X12_isWord l_X12_260 (m_rr_of rfl) (rest := []) (c_X12_isWord h43 263558 G43) o_108 rfl rfl rfl (Nat.le_of_ble_eq_true rfl) ⟨rfl, rfl⟩ (fun x542 h49 qx542 => ?_)
            obtain ⟨rfl, ⟨rfl, cx542⟩ | ⟨rfl, cx542⟩⟩ := qx542
            · refine z_if_eq_F (M := M_X12_readMeasure) 95 dX12_readMeasure_95 102 rfl (by omega) ?_
              refine z_iconst (M := M_X12_readMeasure) 98 dX12_readMeasure_98 ?_
              refine z_goto (M := M_X12_readMeasure) 99 dX12_readMeasure_99 103 rfl ?_
              refine z_istore (M := M_X12_readMeasure) 103 dX12_readMeasure_103 (ls' := [some (mR 108), some (mI a1), some (mI x442), some (mI x474), some (mI 2)]) (by decide) rfl ?_
              refine z_iload (M := M_X12_readMeasure) 105 dX12_readMeasure_105 rfl ?_
              refine z_if_gt_T (M := M_X12_readMeasure) 107 dX12_readMeasure_107 120 rfl (by omega) ?_
              refine z_aload_n (M := M_X12_readMeasure) 120 dX12_readMeasure_120 rfl ?_
              have w543 : h43 108 9 = x475 := ex475
              have w544 : h43 108 10 = x476 := ex476
              have w545 : h43 108 11 = x477 := ex477
              have l546 := fx474_1.lt (by omega)
              have w547 : h43 108 10 = x476 := ex476
              have w548 : h43 108 8 = x4 := ((S43 108 8 rfl).trans ((S42 108 8 rfl).trans ((S40 108 8 rfl).trans ((S39 108 8 rfl).trans ex4))))
              refine z_vV (M := M_X12_readMeasure) 121 dX12_readMeasure_121 t_X12_next l_X12_218 (m_rr_of rfl) (rest := []) (c_X12_next h43 G43 (by omega)) o_108 rfl rfl rfl (Nat.le_of_ble_eq_true rfl) ⟨rfl, rfl⟩ (fun h50 qx549 => ?_)
              obtain ⟨G50, S50, fx549_0, fx549_1⟩ := qx549
              have R50 := R43.call S50 (by decide +kernel)
              have A50 := A43.fr S50 (fun _ => rfl) rfl rfl rfl rfl rfl
              obtain ⟨x550, ex550⟩ : ∃ y : Int, h50 108 9 = y := ⟨_, rfl⟩
              have bx550 : 0 ≤ x550 ∧ x550 ≤ 400 := ex550 ▸ g_108_9 G50
              obtain ⟨x551, ex551⟩ : ∃ y : Int, h50 108 10 = y := ⟨_, rfl⟩
              have bx551 : 0 ≤ x551 ∧ x551 ≤ 400 := ex551 ▸ g_108_10 G50
              obtain ⟨x552, ex552⟩ : ∃ y : Int, h50 108 11 = y := ⟨_, rfl⟩
              have bx552 : 0 ≤ x552 ∧ x552 ≤ 3 := ex552 ▸ g_108_11 G50
              have w553 : h50 108 9 = x550 := ex550
              have w554 : h50 108 10 = x551 := ex551
              have w555 : h50 108 11 = x552 := ex552
              have w556 : h50 108 8 = x4 := ((S50 108 8 rfl).trans ((S43 108 8 rfl).trans ((S42 108 8 rfl).trans ((S40 108 8 rfl).trans ((S39 108 8 rfl).trans ex4)))))
              have l557 := fx549_1.le
              refine z_aload_n (M := M_X12_readMeasure) 124 dX12_readMeasure_124 rfl ?_
              refine z_dup (M := M_X12_readMeasure) 125 dX12_readMeasure_125 rfl ?_
              refine z_getIE (M := M_X12_readMeasure) 126 dX12_readMeasure_126 f_X12_282 o_108 (by decide) ((S50 108 17 rfl).trans ((S43 108 17 rfl).trans ((S42 108 17 rfl).trans ((S40 108 17 rfl).trans ((S39 108 17 rfl).trans ex7))))) ?_
              refine z_iconst (M := M_X12_readMeasure) 129 dX12_readMeasure_129 ?_
              refine z_iaddN (M := M_X12_readMeasure) 130 dX12_readMeasure_130 (by omega) (by omega) ?_
              have w558 : h50 108 16 = x6 := ((S50 108 16 rfl).trans ((S43 108 16 rfl).trans ((S42 108 16 rfl).trans ((S40 108 16 rfl).trans ((S39 108 16 rfl).trans ex6)))))
              have w559 : h50 108 14 = x478 := ((S50 108 14 rfl).trans ex478)
              have w560 : h50 108 18 = x8 := ((S50 108 18 rfl).trans ((S43 108 18 rfl).trans ((S42 108 18 rfl).trans ((S40 108 18 rfl).trans ((S39 108 18 rfl).trans ex8)))))
              have w561 : h50 108 17 = x7 := ((S50 108 17 rfl).trans ((S43 108 17 rfl).trans ((S42 108 17 rfl).trans ((S40 108 17 rfl).trans ((S39 108 17 rfl).trans ex7)))))
              have w562 : h50 110 0 = x10 := ((S50 110 0 rfl).trans ((S43 110 0 rfl).trans ((S42 110 0 rfl).trans ((S40 110 0 rfl).trans ((S39 110 0 rfl).trans ex10)))))
              have rm563 := A50.rooms
              refine z_putIH (M := M_X12_readMeasure) 131 dX12_readMeasure_131 p_X12_282 o_108 rfl (u_108_17 G50 (by omega) (by omega)) (R50.up rfl) (fun h51 E51 G51 R51 => ?_)
              have P51 := fx549_1.same (upN E51 (by decide)) (upN E51 (by decide)) (upN E51 (by decide)) (upN E51 (by decide))
              refine z_aload_n (M := M_X12_readMeasure) 134 dX12_readMeasure_134 rfl ?_
              refine z_iconst (M := M_X12_readMeasure) 135 dX12_readMeasure_135 ?_
              refine z_iload_n (M := M_X12_readMeasure) 136 dX12_readMeasure_136 rfl ?_
              refine z_iload_n (M := M_X12_readMeasure) 137 dX12_readMeasure_137 rfl ?_
              refine z_iload_n (M := M_X12_readMeasure) 138 dX12_readMeasure_138 rfl ?_
              refine z_iload (M := M_X12_readMeasure) 139 dX12_readMeasure_139 rfl ?_
              have w564 : h51 108 14 = x478 := ((upN E51 (fun q => absurd q.2 (by decide))).trans ((S50 108 14 rfl).trans ex478))
              have w565 : h51 108 16 = x6 := ((upN E51 (fun q => absurd q.2 (by decide))).trans ((S50 108 16 rfl).trans ((S43 108 16 rfl).trans ((S42 108 16 rfl).trans ((S40 108 16 rfl).trans ((S39 108 16 rfl).trans ex6))))))
              have w566 : h51 108 9 = x550 := ((upN E51 (fun q => absurd q.2 (by decide))).trans ex550)
              have w567 : h51 108 8 = x4 := ((upN E51 (fun q => absurd q.2 (by decide))).trans ((S50 108 8 rfl).trans ((S43 108 8 rfl).trans ((S42 108 8 rfl).trans ((S40 108 8 rfl).trans ((S39 108 8 rfl).trans ex4))))))
              have w568 : h51 108 10 = x551 := ((upN E51 (fun q => absurd q.2 (by decide))).trans ex551)
              have w569 : h51 108 17 = (x7 + 1) := (upE E51)
              have w570 : h51 108 18 = x8 := ((upN E51 (fun q => absurd q.2 (by decide))).trans ((S50 108 18 rfl).trans ((S43 108 18 rfl).trans ((S42 108 18 rfl).trans ((S40 108 18 rfl).trans ((S39 108 18 rfl).trans ex8))))))
              have w571 : h51 110 0 = x10 := ((upN E51 (fun q => absurd q.1 (by decide))).trans ((S50 110 0 rfl).trans ((S43 110 0 rfl).trans ((S42 110 0 rfl).trans ((S40 110 0 rfl).trans ((S39 110 0 rfl).trans ex10))))))
              refine z_vV (M := M_X12_readMeasure) 141 dX12_readMeasure_141 t_X12_act l_X12_268 (m_rr_of rfl) (rest := []) (c_X12_act h51 3 a1 x442 x474 2 G51 (by by_cases hb : x478 = 0; ( exact Or.inr (by omega)); (exact Or.inl (by omega)))) o_108 rfl rfl rfl (Nat.le_of_ble_eq_true rfl) ⟨rfl, rfl⟩ (fun h52 qx572 => ?_)
              obtain ⟨G52, S52, fx572_0⟩ := qx572
              have R52 := R51.call S52 (by decide +kernel)
              have P52 := P51.fr S52 rfl rfl rfl rfl
              have A52 := AI_act3 A50 (by omega) E51 ((S50 108 17 rfl).trans ((S43 108 17 rfl).trans ((S42 108 17 rfl).trans ((S40 108 17 rfl).trans ((S39 108 17 rfl).trans ex7))))) (by omega) (by omega) fx572_0 (by unfold okA; omega)
              have w573 : h52 108 9 = x550 := ((S52 108 9 rfl).trans ((upN E51 (fun q => absurd q.2 (by decide))).trans ex550))
              have nx572 : 2 * h52 108 16 ≤ h52 108 9 := by rcases actQ_n fx572_0 with ⟨q1, q2⟩ | ⟨q1, q2⟩; (omega); ( omega)
              obtain ⟨x574, ex574⟩ : ∃ y : Int, h52 108 16 = y := ⟨_, rfl⟩
              have bx574 : 0 ≤ x574 ∧ x574 ≤ 200 := ex574 ▸ g_108_16 G52
              have w575 : h52 108 9 = x550 := ((S52 108 9 rfl).trans ((upN E51 (fun q => absurd q.2 (by decide))).trans ex550))
              have w576 : h52 108 10 = x551 := ((S52 108 10 rfl).trans ((upN E51 (fun q => absurd q.2 (by decide))).trans ex551))
              have w577 : h52 108 11 = x552 := ((S52 108 11 rfl).trans ((upN E51 (fun q => absurd q.2 (by decide))).trans ex552))
              have w578 : h52 108 8 = x4 := ((S52 108 8 rfl).trans ((upN E51 (fun q => absurd q.2 (by decide))).trans ((S50 108 8 rfl).trans ((S43 108 8 rfl).trans ((S42 108 8 rfl).trans ((S40 108 8 rfl).trans ((S39 108 8 rfl).trans ex4)))))))
              have w579 : h52 108 16 = x574 := ex574
              have w580 : h52 108 14 = x478 := ((S52 108 14 rfl).trans ((upN E51 (fun q => absurd q.2 (by decide))).trans ((S50 108 14 rfl).trans ex478)))
              exact z_retV (M := M_X12_readMeasure) 144 dX12_readMeasure_144 rfl ⟨G52, R52, by omega, P52, by omega, A52, fun q => by  omega⟩
            · refine z_if_eq_T (M := M_X12_readMeasure) 95 dX12_readMeasure_95 102 rfl (by omega) ?_
              refine z_iconst (M := M_X12_readMeasure) 102 dX12_readMeasure_102 ?_
              refine z_istore (M := M_X12_readMeasure) 103 dX12_readMeasure_103 (ls' := [some (mR 108), some (mI a1), some (mI x442), some (mI x474), some (mI 0)]) (by decide) rfl ?_
              refine z_iload (M := M_X12_readMeasure) 105 dX12_readMeasure_105 rfl ?_
              refine z_if_gt_F (M := M_X12_readMeasure) 107 dX12_readMeasure_107 120 rfl (by omega) ?_
              refine z_aload_n (M := M_X12_readMeasure) 110 dX12_readMeasure_110 rfl ?_
              refine z_ldc2 (M := M_X12_readMeasure) 111 dX12_readMeasure_111 k_X12_291 ?_
              refine z_vI (M := M_X12_readMeasure) 114 dX12_readMeasure_114 t_X12_isWord l_X12_260 (m_rr_of rfl) (rest := []) (c_X12_isWord h43 6030452 G43) o_108 rfl rfl rfl (Nat.le_of_ble_eq_true rfl) ⟨rfl, rfl⟩ (fun x581 h53 qx581 => ?_)
              obtain ⟨rfl, ⟨rfl, cx581⟩ | ⟨rfl, cx581⟩⟩ := qx581
              · refine z_if_eq_F (M := M_X12_readMeasure) 117 dX12_readMeasure_117 124 rfl (by omega) ?_
                refine z_aload_n (M := M_X12_readMeasure) 120 dX12_readMeasure_120 rfl ?_
                have w582 : h43 108 9 = x475 := ex475
                have w583 : h43 108 10 = x476 := ex476
                have w584 : h43 108 11 = x477 := ex477
                have l585 := fx474_1.lt (by omega)
                have w586 : h43 108 10 = x476 := ex476
                have w587 : h43 108 8 = x4 := ((S43 108 8 rfl).trans ((S42 108 8 rfl).trans ((S40 108 8 rfl).trans ((S39 108 8 rfl).trans ex4))))
                refine z_vV (M := M_X12_readMeasure) 121 dX12_readMeasure_121 t_X12_next l_X12_218 (m_rr_of rfl) (rest := []) (c_X12_next h43 G43 (by omega)) o_108 rfl rfl rfl (Nat.le_of_ble_eq_true rfl) ⟨rfl, rfl⟩ (fun h54 qx588 => ?_)
                obtain ⟨G54, S54, fx588_0, fx588_1⟩ := qx588
                have R54 := R43.call S54 (by decide +kernel)
                have A54 := A43.fr S54 (fun _ => rfl) rfl rfl rfl rfl rfl
                obtain ⟨x589, ex589⟩ : ∃ y : Int, h54 108 9 = y := ⟨_, rfl⟩
                have bx589 : 0 ≤ x589 ∧ x589 ≤ 400 := ex589 ▸ g_108_9 G54
                obtain ⟨x590, ex590⟩ : ∃ y : Int, h54 108 10 = y := ⟨_, rfl⟩
                have bx590 : 0 ≤ x590 ∧ x590 ≤ 400 := ex590 ▸ g_108_10 G54
                obtain ⟨x591, ex591⟩ : ∃ y : Int, h54 108 11 = y := ⟨_, rfl⟩
                have bx591 : 0 ≤ x591 ∧ x591 ≤ 3 := ex591 ▸ g_108_11 G54
                have w592 : h54 108 9 = x589 := ex589
                have w593 : h54 108 10 = x590 := ex590
                have w594 : h54 108 11 = x591 := ex591
                have w595 : h54 108 8 = x4 := ((S54 108 8 rfl).trans ((S43 108 8 rfl).trans ((S42 108 8 rfl).trans ((S40 108 8 rfl).trans ((S39 108 8 rfl).trans ex4)))))
                have l596 := fx588_1.le
                refine z_aload_n (M := M_X12_readMeasure) 124 dX12_readMeasure_124 rfl ?_
                refine z_dup (M := M_X12_readMeasure) 125 dX12_readMeasure_125 rfl ?_
                refine z_getIE (M := M_X12_readMeasure) 126 dX12_readMeasure_126 f_X12_282 o_108 (by decide) ((S54 108 17 rfl).trans ((S43 108 17 rfl).trans ((S42 108 17 rfl).trans ((S40 108 17 rfl).trans ((S39 108 17 rfl).trans ex7))))) ?_
                refine z_iconst (M := M_X12_readMeasure) 129 dX12_readMeasure_129 ?_
                refine z_iaddN (M := M_X12_readMeasure) 130 dX12_readMeasure_130 (by omega) (by omega) ?_
                have w597 : h54 108 16 = x6 := ((S54 108 16 rfl).trans ((S43 108 16 rfl).trans ((S42 108 16 rfl).trans ((S40 108 16 rfl).trans ((S39 108 16 rfl).trans ex6)))))
                have w598 : h54 108 14 = x478 := ((S54 108 14 rfl).trans ex478)
                have w599 : h54 108 18 = x8 := ((S54 108 18 rfl).trans ((S43 108 18 rfl).trans ((S42 108 18 rfl).trans ((S40 108 18 rfl).trans ((S39 108 18 rfl).trans ex8)))))
                have w600 : h54 108 17 = x7 := ((S54 108 17 rfl).trans ((S43 108 17 rfl).trans ((S42 108 17 rfl).trans ((S40 108 17 rfl).trans ((S39 108 17 rfl).trans ex7)))))
                have w601 : h54 110 0 = x10 := ((S54 110 0 rfl).trans ((S43 110 0 rfl).trans ((S42 110 0 rfl).trans ((S40 110 0 rfl).trans ((S39 110 0 rfl).trans ex10)))))
                have rm602 := A54.rooms
                refine z_putIH (M := M_X12_readMeasure) 131 dX12_readMeasure_131 p_X12_282 o_108 rfl (u_108_17 G54 (by omega) (by omega)) (R54.up rfl) (fun h55 E55 G55 R55 => ?_)
                have P55 := fx588_1.same (upN E55 (by decide)) (upN E55 (by decide)) (upN E55 (by decide)) (upN E55 (by decide))
                refine z_aload_n (M := M_X12_readMeasure) 134 dX12_readMeasure_134 rfl ?_
                refine z_iconst (M := M_X12_readMeasure) 135 dX12_readMeasure_135 ?_
                refine z_iload_n (M := M_X12_readMeasure) 136 dX12_readMeasure_136 rfl ?_
                refine z_iload_n (M := M_X12_readMeasure) 137 dX12_readMeasure_137 rfl ?_
                refine z_iload_n (M := M_X12_readMeasure) 138 dX12_readMeasure_138 rfl ?_
                refine z_iload (M := M_X12_readMeasure) 139 dX12_readMeasure_139 rfl ?_
                have w603 : h55 108 14 = x478 := ((upN E55 (fun q => absurd q.2 (by decide))).trans ((S54 108 14 rfl).trans ex478))
                have w604 : h55 108 16 = x6 := ((upN E55 (fun q => absurd q.2 (by decide))).trans ((S54 108 16 rfl).trans ((S43 108 16 rfl).trans ((S42 108 16 rfl).trans ((S40 108 16 rfl).trans ((S39 108 16 rfl).trans ex6))))))
                have w605 : h55 108 9 = x589 := ((upN E55 (fun q => absurd q.2 (by decide))).trans ex589)
                have w606 : h55 108 8 = x4 := ((upN E55 (fun q => absurd q.2 (by decide))).trans ((S54 108 8 rfl).trans ((S43 108 8 rfl).trans ((S42 108 8 rfl).trans ((S40 108 8 rfl).trans ((S39 108 8 rfl).trans ex4))))))
                have w607 : h55 108 10 = x590 := ((upN E55 (fun q => absurd q.2 (by decide))).trans ex590)
                have w608 : h55 108 17 = (x7 + 1) := (upE E55)
                have w609 : h55 108 18 = x8 := ((upN E55 (fun q => absurd q.2 (by decide))).trans ((S54 108 18 rfl).trans ((S43 108 18 rfl).trans ((S42 108 18 rfl).trans ((S40 108 18 rfl).trans ((S39 108 18 rfl).trans ex8))))))
                have w610 : h55 110 0 = x10 := ((upN E55 (fun q => absurd q.1 (by decide))).trans ((S54 110 0 rfl).trans ((S43 110 0 rfl).trans ((S42 110 0 rfl).trans ((S40 110 0 rfl).trans ((S39 110 0 rfl).trans ex10))))))
                refine z_vV (M := M_X12_readMeasure) 141 dX12_readMeasure_141 t_X12_act l_X12_268 (m_rr_of rfl) (rest := []) (c_X12_act h55 3 a1 x442 x474 0 G55 (by by_cases hb : x478 = 0; ( exact Or.inr (by omega)); (exact Or.inl (by omega)))) o_108 rfl rfl rfl (Nat.le_of_ble_eq_true rfl) ⟨rfl, rfl⟩ (fun h56 qx611 => ?_)
                obtain ⟨G56, S56, fx611_0⟩ := qx611
                have R56 := R55.call S56 (by decide +kernel)
                have P56 := P55.fr S56 rfl rfl rfl rfl
                have A56 := AI_act3 A54 (by omega) E55 ((S54 108 17 rfl).trans ((S43 108 17 rfl).trans ((S42 108 17 rfl).trans ((S40 108 17 rfl).trans ((S39 108 17 rfl).trans ex7))))) (by omega) (by omega) fx611_0 (by unfold okA; omega)
                have w612 : h56 108 9 = x589 := ((S56 108 9 rfl).trans ((upN E55 (fun q => absurd q.2 (by decide))).trans ex589))
                have nx611 : 2 * h56 108 16 ≤ h56 108 9 := by rcases actQ_n fx611_0 with ⟨q1, q2⟩ | ⟨q1, q2⟩; (omega); ( omega)
                obtain ⟨x613, ex613⟩ : ∃ y : Int, h56 108 16 = y := ⟨_, rfl⟩
                have bx613 : 0 ≤ x613 ∧ x613 ≤ 200 := ex613 ▸ g_108_16 G56
                have w614 : h56 108 9 = x589 := ((S56 108 9 rfl).trans ((upN E55 (fun q => absurd q.2 (by decide))).trans ex589))
                have w615 : h56 108 10 = x590 := ((S56 108 10 rfl).trans ((upN E55 (fun q => absurd q.2 (by decide))).trans ex590))
                have w616 : h56 108 11 = x591 := ((S56 108 11 rfl).trans ((upN E55 (fun q => absurd q.2 (by decide))).trans ex591))
                have w617 : h56 108 8 = x4 := ((S56 108 8 rfl).trans ((upN E55 (fun q => absurd q.2 (by decide))).trans ((S54 108 8 rfl).trans ((S43 108 8 rfl).trans ((S42 108 8 rfl).trans ((S40 108 8 rfl).trans ((S39 108 8 rfl).trans ex4)))))))
                have w618 : h56 108 16 = x613 := ex613
                have w619 : h56 108 14 = x478 := ((S56 108 14 rfl).trans ((upN E55 (fun q => absurd q.2 (by decide))).trans ((S54 108 14 rfl).trans ex478)))
                exact z_retV (M := M_X12_readMeasure) 144 dX12_readMeasure_144 rfl ⟨G56, R56, by omega, P56, by omega, A56, fun q => by  omega⟩
              · refine z_if_eq_T (M := M_X12_readMeasure) 117 dX12_readMeasure_117 124 rfl (by omega) ?_
                refine z_aload_n (M := M_X12_readMeasure) 124 dX12_readMeasure_124 rfl ?_
                refine z_dup (M := M_X12_readMeasure) 125 dX12_readMeasure_125 rfl ?_
                refine z_getIE (M := M_X12_readMeasure) 126 dX12_readMeasure_126 f_X12_282 o_108 (by decide) ((S43 108 17 rfl).trans ((S42 108 17 rfl).trans ((S40 108 17 rfl).trans ((S39 108 17 rfl).trans ex7)))) ?_
                refine z_iconst (M := M_X12_readMeasure) 129 dX12_readMeasure_129 ?_
                refine z_iaddN (M := M_X12_readMeasure) 130 dX12_readMeasure_130 (by omega) (by omega) ?_
                have w620 : h43 108 16 = x6 := ((S43 108 16 rfl).trans ((S42 108 16 rfl).trans ((S40 108 16 rfl).trans ((S39 108 16 rfl).trans ex6))))
                have w621 : h43 108 14 = x478 := ex478
                have w622 : h43 108 18 = x8 := ((S43 108 18 rfl).trans ((S42 108 18 rfl).trans ((S40 108 18 rfl).trans ((S39 108 18 rfl).trans ex8))))
                have w623 : h43 108 17 = x7 := ((S43 108 17 rfl).trans ((S42 108 17 rfl).trans ((S40 108 17 rfl).trans ((S39 108 17 rfl).trans ex7))))
                have w624 : h43 110 0 = x10 := ((S43 110 0 rfl).trans ((S42 110 0 rfl).trans ((S40 110 0 rfl).trans ((S39 110 0 rfl).trans ex10))))
                have rm625 := A43.rooms
                refine z_putIH (M := M_X12_readMeasure) 131 dX12_readMeasure_131 p_X12_282 o_108 rfl (u_108_17 G43 (by omega) (by omega)) (R43.up rfl) (fun h57 E57 G57 R57 => ?_)
                have P57 := fx474_1.same (upN E57 (by decide)) (upN E57 (by decide)) (upN E57 (by decide)) (upN E57 (by decide))
                refine z_aload_n (M := M_X12_readMeasure) 134 dX12_readMeasure_134 rfl ?_
                refine z_iconst (M := M_X12_readMeasure) 135 dX12_readMeasure_135 ?_
                refine z_iload_n (M := M_X12_readMeasure) 136 dX12_readMeasure_136 rfl ?_
                refine z_iload_n (M := M_X12_readMeasure) 137 dX12_readMeasure_137 rfl ?_
                refine z_iload_n (M := M_X12_readMeasure) 138 dX12_readMeasure_138 rfl ?_
                refine z_iload (M := M_X12_readMeasure) 139 dX12_readMeasure_139 rfl ?_
                have w626 : h57 108 14 = x478 := ((upN E57 (fun q => absurd q.2 (by decide))).trans ex478)
                have w627 : h57 108 16 = x6 := ((upN E57 (fun q => absurd q.2 (by decide))).trans ((S43 108 16 rfl).trans ((S42 108 16 rfl).trans ((S40 108 16 rfl).trans ((S39 108 16 rfl).trans ex6)))))
                have w628 : h57 108 9 = x475 := ((upN E57 (fun q => absurd q.2 (by decide))).trans ex475)
                have w629 : h57 108 8 = x4 := ((upN E57 (fun q => absurd q.2 (by decide))).trans ((S43 108 8 rfl).trans ((S42 108 8 rfl).trans ((S40 108 8 rfl).trans ((S39 108 8 rfl).trans ex4)))))
                have w630 : h57 108 10 = x476 := ((upN E57 (fun q => absurd q.2 (by decide))).trans ex476)
                have w631 : h57 108 17 = (x7 + 1) := (upE E57)
                have w632 : h57 108 18 = x8 := ((upN E57 (fun q => absurd q.2 (by decide))).trans ((S43 108 18 rfl).trans ((S42 108 18 rfl).trans ((S40 108 18 rfl).trans ((S39 108 18 rfl).trans ex8)))))
                have w633 : h57 110 0 = x10 := ((upN E57 (fun q => absurd q.1 (by decide))).trans ((S43 110 0 rfl).trans ((S42 110 0 rfl).trans ((S40 110 0 rfl).trans ((S39 110 0 rfl).trans ex10)))))
                refine z_vV (M := M_X12_readMeasure) 141 dX12_readMeasure_141 t_X12_act l_X12_268 (m_rr_of rfl) (rest := []) (c_X12_act h57 3 a1 x442 x474 0 G57 (by by_cases hb : x478 = 0; ( exact Or.inr (by omega)); (exact Or.inl (by omega)))) o_108 rfl rfl rfl (Nat.le_of_ble_eq_true rfl) ⟨rfl, rfl⟩ (fun h58 qx634 => ?_)
                obtain ⟨G58, S58, fx634_0⟩ := qx634
                have R58 := R57.call S58 (by decide +kernel)
                have P58 := P57.fr S58 rfl rfl rfl rfl
                have A58 := AI_act3 A43 (by omega) E57 ((S43 108 17 rfl).trans ((S42 108 17 rfl).trans ((S40 108 17 rfl).trans ((S39 108 17 rfl).trans ex7)))) (by omega) (by omega) fx634_0 (by unfold okA; omega)
                have w635 : h58 108 9 = x475 := ((S58 108 9 rfl).trans ((upN E57 (fun q => absurd q.2 (by decide))).trans ex475))
                have nx634 : 2 * h58 108 16 ≤ h58 108 9 := by rcases actQ_n fx634_0 with ⟨q1, q2⟩ | ⟨q1, q2⟩; (omega); ( omega)
                obtain ⟨x636, ex636⟩ : ∃ y : Int, h58 108 16 = y := ⟨_, rfl⟩
                have bx636 : 0 ≤ x636 ∧ x636 ≤ 200 := ex636 ▸ g_108_16 G58
                have w637 : h58 108 9 = x475 := ((S58 108 9 rfl).trans ((upN E57 (fun q => absurd q.2 (by decide))).trans ex475))
                have w638 : h58 108 10 = x476 := ((S58 108 10 rfl).trans ((upN E57 (fun q => absurd q.2 (by decide))).trans ex476))
                have w639 : h58 108 11 = x477 := ((S58 108 11 rfl).trans ((upN E57 (fun q => absurd q.2 (by decide))).trans ex477))
                have w640 : h58 108 8 = x4 := ((S58 108 8 rfl).trans ((upN E57 (fun q => absurd q.2 (by decide))).trans ((S43 108 8 rfl).trans ((S42 108 8 rfl).trans ((S40 108 8 rfl).trans ((S39 108 8 rfl).trans ex4))))))
                have w641 : h58 108 16 = x636 := ex636
                have w642 : h58 108 14 = x478 := ((S58 108 14 rfl).trans ((upN E57 (fun q => absurd q.2 (by decide))).trans ex478))
                exact z_retV (M := M_X12_readMeasure) 144 dX12_readMeasure_144 rfl ⟨G58, R58, by omega, P58, by omega, A58, fun q => by  omega⟩
      · have w643 : h40 108 9 = x443 := ex443
        have w644 : h40 108 10 = x444 := ex444
        have w645 : h40 108 11 = x445 := ex445
        have w646 : h40 108 8 = x4 := ((S40 108 8 rfl).trans ((S39 108 8 rfl).trans ex4))
        refine z_vV (M := M_X12_readMeasure) 52 dX12_readMeasure_52 t_X12_must l_X12_247 (m_rr_of rfl) (rest := []) (c_X12_must h40 0 G40 ⟨by omega, by omega⟩ fx442_1) o_108 rfl rfl rfl (Nat.le_of_ble_eq_true rfl) ⟨rfl, rfl⟩ (fun h59 qx647 => ?_)
        obtain ⟨G59, S59, fx647_0, fx647_1, fx647_2⟩ := qx647
        have R59 := R40.call S59 (by decide +kernel)
        have A59 := A40.fr S59 (fun _ => rfl) rfl rfl rfl rfl rfl
        obtain ⟨x648, ex648⟩ : ∃ y : Int, h59 108 9 = y := ⟨_, rfl⟩
        have bx648 : 0 ≤ x648 ∧ x648 ≤ 400 := ex648 ▸ g_108_9 G59
        obtain ⟨x649, ex649⟩ : ∃ y : Int, h59 108 10 = y := ⟨_, rfl⟩
        have bx649 : 0 ≤ x649 ∧ x649 ≤ 400 := ex649 ▸ g_108_10 G59
        obtain ⟨x650, ex650⟩ : ∃ y : Int, h59 108 11 = y := ⟨_, rfl⟩
        have bx650 : 0 ≤ x650 ∧ x650 ≤ 3 := ex650 ▸ g_108_11 G59
        obtain ⟨x651, ex651⟩ : ∃ y : Int, h59 108 14 = y := ⟨_, rfl⟩
        have bx651 : 0 ≤ x651 ∧ x651 ≤ 1 := ex651 ▸ g_108_14 G59
        have w652 : h59 108 9 = x648 := ex648
        have w653 : h59 108 10 = x649 := ex649
        have w654 : h59 108 11 = x650 := ex650
        have w655 : h59 108 8 = x4 := ((S59 108 8 rfl).trans ((S40 108 8 rfl).trans ((S39 108 8 rfl).trans ex4)))
        have w656 : h59 108 14 = x651 := ex651
        have l657 := fx647_1.le
        have nbx647 : x651 ≠ 0 := fun q => by have q2 := fx647_2 (by omega); omega
        refine z_aload_n (M := M_X12_readMeasure) 55 dX12_readMeasure_55 rfl ?_
        refine z_lconst (M := M_X12_readMeasure) 56 dX12_readMeasure_56 (v := 1) ?_
        refine z_ldc2 (M := M_X12_readMeasure) 57 dX12_readMeasure_57 k_X12_180 ?_
        have w658 : h59 108 9 = x648 := ex648
        have w659 : h59 108 10 = x649 := ex649
        have w660 : h59 108 11 = x650 := ex650
        have w661 : h59 108 8 = x4 := ((S59 108 8 rfl).trans ((S40 108 8 rfl).trans ((S39 108 8 rfl).trans ex4)))
        have w662 : h59 108 14 = x651 := ex651
        refine z_vI (M := M_X12_readMeasure) 60 dX12_readMeasure_60 t_X12_number l_X12_254 (m_rr_of rfl) (rest := []) (c_X12_number h59 1 99 G59 ⟨by omega, by omega⟩ ⟨by omega, by omega⟩ fx647_1) o_108 rfl rfl rfl (Nat.le_of_ble_eq_true rfl) ⟨rfl, rfl⟩ (fun x663 h60 qx663 => ?_)
        obtain ⟨G60, S60, fx663_0, fx663_1, fx663_2⟩ := qx663
        have R60 := R59.call S60 (by decide +kernel)
        have A60 := A59.fr S60 (fun _ => rfl) rfl rfl rfl rfl rfl
        refine z_ok (fun ox663 _ _ => ?_)
        have ox663 := ox663.1; unfold m_ok m_32 at ox663
        obtain ⟨x664, ex664⟩ : ∃ y : Int, h60 108 9 = y := ⟨_, rfl⟩
        have bx664 : 0 ≤ x664 ∧ x664 ≤ 400 := ex664 ▸ g_108_9 G60
        obtain ⟨x665, ex665⟩ : ∃ y : Int, h60 108 10 = y := ⟨_, rfl⟩
        have bx665 : 0 ≤ x665 ∧ x665 ≤ 400 := ex665 ▸ g_108_10 G60
        obtain ⟨x666, ex666⟩ : ∃ y : Int, h60 108 11 = y := ⟨_, rfl⟩
        have bx666 : 0 ≤ x666 ∧ x666 ≤ 3 := ex666 ▸ g_108_11 G60
        obtain ⟨x667, ex667⟩ : ∃ y : Int, h60 108 14 = y := ⟨_, rfl⟩
        have bx667 : 0 ≤ x667 ∧ x667 ≤ 1 := ex667 ▸ g_108_14 G60
        have w668 : h60 108 9 = x664 := ex664
        have w669 : h60 108 10 = x665 := ex665
        have w670 : h60 108 11 = x666 := ex666
        have w671 : h60 108 8 = x4 := ((S60 108 8 rfl).trans ((S59 108 8 rfl).trans ((S40 108 8 rfl).trans ((S39 108 8 rfl).trans ex4))))
        have w672 : h60 108 14 = x667 := ex667
        have l673 := fx663_1.le
        refine z_istore_n (M := M_X12_readMeasure) 63 dX12_readMeasure_63 (ls' := [some (mR 108), some (mI a1), some (mI x442), some (mI x663), none]) (by decide) rfl ?_
        refine z_iconst (M := M_X12_readMeasure) 64 dX12_readMeasure_64 ?_
        refine z_istore (M := M_X12_readMeasure) 65 dX12_readMeasure_65 (ls' := [some (mR 108), some (mI a1), some (mI x442), some (mI x663), some (mI 0)]) (by decide) rfl ?_
        refine z_aload_n (M := M_X12_readMeasure) 67 dX12_readMeasure_67 rfl ?_
        refine z_getIE (M := M_X12_readMeasure) 68 dX12_readMeasure_68 f_X12_214 o_108 (by decide) ex667 ?_
        refine z_if_ne (M := M_X12_readMeasure) 71 dX12_readMeasure_71 134 rfl (fun c674 => ?_) (fun c674 => ?_)
        · refine z_aload_n (M := M_X12_readMeasure) 134 dX12_readMeasure_134 rfl ?_
          refine z_iconst (M := M_X12_readMeasure) 135 dX12_readMeasure_135 ?_
          refine z_iload_n (M := M_X12_readMeasure) 136 dX12_readMeasure_136 rfl ?_
          refine z_iload_n (M := M_X12_readMeasure) 137 dX12_readMeasure_137 rfl ?_
          refine z_iload_n (M := M_X12_readMeasure) 138 dX12_readMeasure_138 rfl ?_
          refine z_iload (M := M_X12_readMeasure) 139 dX12_readMeasure_139 rfl ?_
          have w675 : h60 108 14 = x667 := ex667
          have w676 : h60 108 16 = x6 := ((S60 108 16 rfl).trans ((S59 108 16 rfl).trans ((S40 108 16 rfl).trans ((S39 108 16 rfl).trans ex6))))
          have w677 : h60 108 9 = x664 := ex664
          have w678 : h60 108 8 = x4 := ((S60 108 8 rfl).trans ((S59 108 8 rfl).trans ((S40 108 8 rfl).trans ((S39 108 8 rfl).trans ex4))))
          have w679 : h60 108 10 = x665 := ex665
          have w680 : h60 108 17 = x7 := ((S60 108 17 rfl).trans ((S59 108 17 rfl).trans ((S40 108 17 rfl).trans ((S39 108 17 rfl).trans ex7))))
          have w681 : h60 108 18 = x8 := ((S60 108 18 rfl).trans ((S59 108 18 rfl).trans ((S40 108 18 rfl).trans ((S39 108 18 rfl).trans ex8))))
          have w682 : h60 110 0 = x10 := ((S60 110 0 rfl).trans ((S59 110 0 rfl).trans ((S40 110 0 rfl).trans ((S39 110 0 rfl).trans ex10))))
          refine z_vV (M := M_X12_readMeasure) 141 dX12_readMeasure_141 t_X12_act l_X12_268 (m_rr_of rfl) (rest := []) (c_X12_act h60 3 a1 x442 x663 0 G60 (by by_cases hb : x667 = 0; (have ufx663_2 := fx663_2 (by omega); have ufx647_2 := fx647_2 (by omega); have ufx442_2 := fx442_2 (by omega); have ufx426_2 := fx426_2 (by omega); exact Or.inr (by omega)); (exact Or.inl (by omega)))) o_108 rfl rfl rfl (Nat.le_of_ble_eq_true rfl) ⟨rfl, rfl⟩ (fun h61 qx683 => ?_)
          obtain ⟨G61, S61, fx683_0⟩ := qx683
          have R61 := R60.call S61 (by decide +kernel)
          have P61 := fx663_1.fr S61 rfl rfl rfl rfl
          have A61 := actQ_bad fx683_0 (by omega) A60
          have w684 : h61 108 9 = x664 := ((S61 108 9 rfl).trans ex664)
          have nx683 : 2 * h61 108 16 ≤ h61 108 9 := by rcases actQ_n fx683_0 with ⟨q1, q2⟩ | ⟨q1, q2⟩; (omega); (have ufx663_2 := fx663_2 (by omega); have ufx647_2 := fx647_2 (by omega); have ufx442_2 := fx442_2 (by omega); have ufx426_2 := fx426_2 (by omega); omega)
          obtain ⟨x685, ex685⟩ : ∃ y : Int, h61 108 16 = y := ⟨_, rfl⟩
          have bx685 : 0 ≤ x685 ∧ x685 ≤ 200 := ex685 ▸ g_108_16 G61
          have w686 : h61 108 9 = x664 := ((S61 108 9 rfl).trans ex664)
          have w687 : h61 108 10 = x665 := ((S61 108 10 rfl).trans ex665)
          have w688 : h61 108 11 = x666 := ((S61 108 11 rfl).trans ex666)
          have w689 : h61 108 8 = x4 := ((S61 108 8 rfl).trans ((S60 108 8 rfl).trans ((S59 108 8 rfl).trans ((S40 108 8 rfl).trans ((S39 108 8 rfl).trans ex4)))))
          have w690 : h61 108 16 = x685 := ex685
          have w691 : h61 108 14 = x667 := ((S61 108 14 rfl).trans ex667)
          exact z_retV (M := M_X12_readMeasure) 144 dX12_readMeasure_144 rfl ⟨G61, R61, by omega, P61, by omega, A61, fun q => by have ufx663_2 := fx663_2 (by omega); have ufx647_2 := fx647_2 (by omega); have ufx442_2 := fx442_2 (by omega); have ufx426_2 := fx426_2 (by omega); omega⟩
        · have ufx663_2 := fx663_2 (by omega)
          have ufx647_2 := fx647_2 (by omega)
          have ufx442_2 := fx442_2 (by omega)
          have ufx426_2 := fx426_2 (by omega)
          refine z_aload_n (M := M_X12_readMeasure) 74 dX12_readMeasure_74 rfl ?_
          refine z_ldc2 (M := M_X12_readMeasure) 75 dX12_readMeasure_75 k_X12_287 ?_
          refine z_vI (M := M_X12_readMeasure) 78 dX12_readMeasure_78 t_X12_isWord l_X12_260 (m_rr_of rfl) (rest := []) (c_X12_isWord h60 24395141 G60) o_108 rfl rfl rfl (Nat.le_of_ble_eq_true rfl) ⟨rfl, rfl⟩ (fun x692 h62 qx692 => ?_)
          obtain ⟨rfl, ⟨rfl, cx692⟩ | ⟨rfl, cx692⟩⟩ := qx692
          · refine z_if_eq_F (M := M_X12_readMeasure) 81 dX12_readMeasure_81 88 rfl (by omega) ?_
            refine z_iconst (M := M_X12_readMeasure) 84 dX12_readMeasure_84 ?_
            refine z_goto (M := M_X12_readMeasure) 85 dX12_readMeasure_85 103 rfl ?_
            refine z_istore (M := M_X12_readMeasure) 103 dX12_readMeasure_103 (ls' := [some (mR 108), some (mI a1), some (mI x442), some (mI x663), some (mI 1)]) (by decide) rfl ?_
            refine z_iload (M := M_X12_readMeasure) 105 dX12_readMeasure_105 rfl ?_
            refine z_if_gt_T (M := M_X12_readMeasure) 107 dX12_readMeasure_107 120 rfl (by omega) ?_
            refine z_aload_n (M := M_X12_readMeasure) 120 dX12_readMeasure_120 rfl ?_
            have w693 : h60 108 9 = x664 := ex664
            have w694 : h60 108 10 = x665 := ex665
            have w695 : h60 108 11 = x666 := ex666
            have l696 := fx663_1.lt (by omega)
            have w697 : h60 108 10 = x665 := ex665
            have w698 : h60 108 8 = x4 := ((S60 108 8 rfl).trans ((S59 108 8 rfl).trans ((S40 108 8 rfl).trans ((S39 108 8 rfl).trans ex4))))
            refine z_vV (M := M_X12_readMeasure) 121 dX12_readMeasure_121 t_X12_next l_X12_218 (m_rr_of rfl) (rest := []) (c_X12_next h60 G60 (by omega)) o_108 rfl rfl rfl (Nat.le_of_ble_eq_true rfl) ⟨rfl, rfl⟩ (fun h63 qx699 => ?_)
            obtain ⟨G63, S63, fx699_0, fx699_1⟩ := qx699
            have R63 := R60.call S63 (by decide +kernel)
            have A63 := A60.fr S63 (fun _ => rfl) rfl rfl rfl rfl rfl
            obtain ⟨x700, ex700⟩ : ∃ y : Int, h63 108 9 = y := ⟨_, rfl⟩
            have bx700 : 0 ≤ x700 ∧ x700 ≤ 400 := ex700 ▸ g_108_9 G63
            obtain ⟨x701, ex701⟩ : ∃ y : Int, h63 108 10 = y := ⟨_, rfl⟩
            have bx701 : 0 ≤ x701 ∧ x701 ≤ 400 := ex701 ▸ g_108_10 G63
            obtain ⟨x702, ex702⟩ : ∃ y : Int, h63 108 11 = y := ⟨_, rfl⟩
            have bx702 : 0 ≤ x702 ∧ x702 ≤ 3 := ex702 ▸ g_108_11 G63
            have w703 : h63 108 9 = x700 := ex700
            have w704 : h63 108 10 = x701 := ex701
            have w705 : h63 108 11 = x702 := ex702
            have w706 : h63 108 8 = x4 := ((S63 108 8 rfl).trans ((S60 108 8 rfl).trans ((S59 108 8 rfl).trans ((S40 108 8 rfl).trans ((S39 108 8 rfl).trans ex4)))))
            have l707 := fx699_1.le
            refine z_aload_n (M := M_X12_readMeasure) 124 dX12_readMeasure_124 rfl ?_
            refine z_dup (M := M_X12_readMeasure) 125 dX12_readMeasure_125 rfl ?_
            refine z_getIE (M := M_X12_readMeasure) 126 dX12_readMeasure_126 f_X12_282 o_108 (by decide) ((S63 108 17 rfl).trans ((S60 108 17 rfl).trans ((S59 108 17 rfl).trans ((S40 108 17 rfl).trans ((S39 108 17 rfl).trans ex7))))) ?_
            refine z_iconst (M := M_X12_readMeasure) 129 dX12_readMeasure_129 ?_
            refine z_iaddN (M := M_X12_readMeasure) 130 dX12_readMeasure_130 (by omega) (by omega) ?_
            have w708 : h63 108 16 = x6 := ((S63 108 16 rfl).trans ((S60 108 16 rfl).trans ((S59 108 16 rfl).trans ((S40 108 16 rfl).trans ((S39 108 16 rfl).trans ex6)))))
            have w709 : h63 108 14 = x667 := ((S63 108 14 rfl).trans ex667)
            have w710 : h63 108 18 = x8 := ((S63 108 18 rfl).trans ((S60 108 18 rfl).trans ((S59 108 18 rfl).trans ((S40 108 18 rfl).trans ((S39 108 18 rfl).trans ex8)))))
            have w711 : h63 108 17 = x7 := ((S63 108 17 rfl).trans ((S60 108 17 rfl).trans ((S59 108 17 rfl).trans ((S40 108 17 rfl).trans ((S39 108 17 rfl).trans ex7)))))
            have w712 : h63 110 0 = x10 := ((S63 110 0 rfl).trans ((S60 110 0 rfl).trans ((S59 110 0 rfl).trans ((S40 110 0 rfl).trans ((S39 110 0 rfl).trans ex10)))))
            have rm713 := A63.rooms
            refine z_putIH (M := M_X12_readMeasure) 131 dX12_readMeasure_131 p_X12_282 o_108 rfl (u_108_17 G63 (by omega) (by omega)) (R63.up rfl) (fun h64 E64 G64 R64 => ?_)
            have P64 := fx699_1.same (upN E64 (by decide)) (upN E64 (by decide)) (upN E64 (by decide)) (upN E64 (by decide))
            refine z_aload_n (M := M_X12_readMeasure) 134 dX12_readMeasure_134 rfl ?_
            refine z_iconst (M := M_X12_readMeasure) 135 dX12_readMeasure_135 ?_
            refine z_iload_n (M := M_X12_readMeasure) 136 dX12_readMeasure_136 rfl ?_
            refine z_iload_n (M := M_X12_readMeasure) 137 dX12_readMeasure_137 rfl ?_
            refine z_iload_n (M := M_X12_readMeasure) 138 dX12_readMeasure_138 rfl ?_
            refine z_iload (M := M_X12_readMeasure) 139 dX12_readMeasure_139 rfl ?_
            have w714 : h64 108 14 = x667 := ((upN E64 (fun q => absurd q.2 (by decide))).trans ((S63 108 14 rfl).trans ex667))
            have w715 : h64 108 16 = x6 := ((upN E64 (fun q => absurd q.2 (by decide))).trans ((S63 108 16 rfl).trans ((S60 108 16 rfl).trans ((S59 108 16 rfl).trans ((S40 108 16 rfl).trans ((S39 108 16 rfl).trans ex6))))))
            have w716 : h64 108 9 = x700 := ((upN E64 (fun q => absurd q.2 (by decide))).trans ex700)
            have w717 : h64 108 8 = x4 := ((upN E64 (fun q => absurd q.2 (by decide))).trans ((S63 108 8 rfl).trans ((S60 108 8 rfl).trans ((S59 108 8 rfl).trans ((S40 108 8 rfl).trans ((S39 108 8 rfl).trans ex4))))))
            have w718 : h64 108 10 = x701 := ((upN E64 (fun q => absurd q.2 (by decide))).trans ex701)
            have w719 : h64 108 17 = (x7 + 1) := (upE E64)
            have w720 : h64 108 18 = x8 := ((upN E64 (fun q => absurd q.2 (by decide))).trans ((S63 108 18 rfl).trans ((S60 108 18 rfl).trans ((S59 108 18 rfl).trans ((S40 108 18 rfl).trans ((S39 108 18 rfl).trans ex8))))))
            have w721 : h64 110 0 = x10 := ((upN E64 (fun q => absurd q.1 (by decide))).trans ((S63 110 0 rfl).trans ((S60 110 0 rfl).trans ((S59 110 0 rfl).trans ((S40 110 0 rfl).trans ((S39 110 0 rfl).trans ex10))))))
            refine z_vV (M := M_X12_readMeasure) 141 dX12_readMeasure_141 t_X12_act l_X12_268 (m_rr_of rfl) (rest := []) (c_X12_act h64 3 a1 x442 x663 1 G64 (by by_cases hb : x667 = 0; ( exact Or.inr (by omega)); (exact Or.inl (by omega)))) o_108 rfl rfl rfl (Nat.le_of_ble_eq_true rfl) ⟨rfl, rfl⟩ (fun h65 qx722 => ?_)
            obtain ⟨G65, S65, fx722_0⟩ := qx722
            have R65 := R64.call S65 (by decide +kernel)
            have P65 := P64.fr S65 rfl rfl rfl rfl
            have A65 := AI_act3 A63 (by omega) E64 ((S63 108 17 rfl).trans ((S60 108 17 rfl).trans ((S59 108 17 rfl).trans ((S40 108 17 rfl).trans ((S39 108 17 rfl).trans ex7))))) (by omega) (by omega) fx722_0 (by unfold okA; omega)
            have w723 : h65 108 9 = x700 := ((S65 108 9 rfl).trans ((upN E64 (fun q => absurd q.2 (by decide))).trans ex700))
            have nx722 : 2 * h65 108 16 ≤ h65 108 9 := by rcases actQ_n fx722_0 with ⟨q1, q2⟩ | ⟨q1, q2⟩; (omega); ( omega)
            obtain ⟨x724, ex724⟩ : ∃ y : Int, h65 108 16 = y := ⟨_, rfl⟩
            have bx724 : 0 ≤ x724 ∧ x724 ≤ 200 := ex724 ▸ g_108_16 G65
            have w725 : h65 108 9 = x700 := ((S65 108 9 rfl).trans ((upN E64 (fun q => absurd q.2 (by decide))).trans ex700))
            have w726 : h65 108 10 = x701 := ((S65 108 10 rfl).trans ((upN E64 (fun q => absurd q.2 (by decide))).trans ex701))
            have w727 : h65 108 11 = x702 := ((S65 108 11 rfl).trans ((upN E64 (fun q => absurd q.2 (by decide))).trans ex702))
            have w728 : h65 108 8 = x4 := ((S65 108 8 rfl).trans ((upN E64 (fun q => absurd q.2 (by decide))).trans ((S63 108 8 rfl).trans ((S60 108 8 rfl).trans ((S59 108 8 rfl).trans ((S40 108 8 rfl).trans ((S39 108 8 rfl).trans ex4)))))))
            have w729 : h65 108 16 = x724 := ex724
            have w730 : h65 108 14 = x667 := ((S65 108 14 rfl).trans ((upN E64 (fun q => absurd q.2 (by decide))).trans ((S63 108 14 rfl).trans ex667)))
            exact z_retV (M := M_X12_readMeasure) 144 dX12_readMeasure_144 rfl ⟨G65, R65, by omega, P65, by omega, A65, fun q => by  omega⟩
          · refine z_if_eq_T (M := M_X12_readMeasure) 81 dX12_readMeasure_81 88 rfl (by omega) ?_
            refine z_aload_n (M := M_X12_readMeasure) 88 dX12_readMeasure_88 rfl ?_
            refine z_ldc2 (M := M_X12_readMeasure) 89 dX12_readMeasure_89 k_X12_289 ?_
            refine z_vI (M := M_X12_readMeasure) 92 dX12_readMeasure_92 t_X12_isWord l_X12_260 (m_rr_of rfl) (rest := []) (c_X12_isWord h60 263558 G60) o_108 rfl rfl rfl (Nat.le_of_ble_eq_true rfl) ⟨rfl, rfl⟩ (fun x731 h66 qx731 => ?_)
            obtain ⟨rfl, ⟨rfl, cx731⟩ | ⟨rfl, cx731⟩⟩ := qx731
            · refine z_if_eq_F (M := M_X12_readMeasure) 95 dX12_readMeasure_95 102 rfl (by omega) ?_
              refine z_iconst (M := M_X12_readMeasure) 98 dX12_readMeasure_98 ?_
              refine z_goto (M := M_X12_readMeasure) 99 dX12_readMeasure_99 103 rfl ?_
              refine z_istore (M := M_X12_readMeasure) 103 dX12_readMeasure_103 (ls' := [some (mR 108), some (mI a1), some (mI x442), some (mI x663), some (mI 2)]) (by decide) rfl ?_
              refine z_iload (M := M_X12_readMeasure) 105 dX12_readMeasure_105 rfl ?_
              refine z_if_gt_T (M := M_X12_readMeasure) 107 dX12_readMeasure_107 120 rfl (by omega) ?_
              refine z_aload_n (M := M_X12_readMeasure) 120 dX12_readMeasure_120 rfl ?_
              have w732 : h60 108 9 = x664 := ex664
              have w733 : h60 108 10 = x665 := ex665
              have w734 : h60 108 11 = x666 := ex666
              have l735 := fx663_1.lt (by omega)
              have w736 : h60 108 10 = x665 := ex665
              have w737 : h60 108 8 = x4 := ((S60 108 8 rfl).trans ((S59 108 8 rfl).trans ((S40 108 8 rfl).trans ((S39 108 8 rfl).trans ex4))))
              refine z_vV (M := M_X12_readMeasure) 121 dX12_readMeasure_121 t_X12_next l_X12_218 (m_rr_of rfl) (rest := []) (c_X12_next h60 G60 (by omega)) o_108 rfl rfl rfl (Nat.le_of_ble_eq_true rfl) ⟨rfl, rfl⟩ (fun h67 qx738 => ?_)
              obtain ⟨G67, S67, fx738_0, fx738_1⟩ := qx738
              have R67 := R60.call S67 (by decide +kernel)
              have A67 := A60.fr S67 (fun _ => rfl) rfl rfl rfl rfl rfl
              obtain ⟨x739, ex739⟩ : ∃ y : Int, h67 108 9 = y := ⟨_, rfl⟩
              have bx739 : 0 ≤ x739 ∧ x739 ≤ 400 := ex739 ▸ g_108_9 G67
              obtain ⟨x740, ex740⟩ : ∃ y : Int, h67 108 10 = y := ⟨_, rfl⟩
              have bx740 : 0 ≤ x740 ∧ x740 ≤ 400 := ex740 ▸ g_108_10 G67
              obtain ⟨x741, ex741⟩ : ∃ y : Int, h67 108 11 = y := ⟨_, rfl⟩
              have bx741 : 0 ≤ x741 ∧ x741 ≤ 3 := ex741 ▸ g_108_11 G67
              have w742 : h67 108 9 = x739 := ex739
              have w743 : h67 108 10 = x740 := ex740
              have w744 : h67 108 11 = x741 := ex741
              have w745 : h67 108 8 = x4 := ((S67 108 8 rfl).trans ((S60 108 8 rfl).trans ((S59 108 8 rfl).trans ((S40 108 8 rfl).trans ((S39 108 8 rfl).trans ex4)))))
              have l746 := fx738_1.le
              refine z_aload_n (M := M_X12_readMeasure) 124 dX12_readMeasure_124 rfl ?_
              refine z_dup (M := M_X12_readMeasure) 125 dX12_readMeasure_125 rfl ?_
              refine z_getIE (M := M_X12_readMeasure) 126 dX12_readMeasure_126 f_X12_282 o_108 (by decide) ((S67 108 17 rfl).trans ((S60 108 17 rfl).trans ((S59 108 17 rfl).trans ((S40 108 17 rfl).trans ((S39 108 17 rfl).trans ex7))))) ?_
              refine z_iconst (M := M_X12_readMeasure) 129 dX12_readMeasure_129 ?_
              refine z_iaddN (M := M_X12_readMeasure) 130 dX12_readMeasure_130 (by omega) (by omega) ?_
              have w747 : h67 108 16 = x6 := ((S67 108 16 rfl).trans ((S60 108 16 rfl).trans ((S59 108 16 rfl).trans ((S40 108 16 rfl).trans ((S39 108 16 rfl).trans ex6)))))
              have w748 : h67 108 14 = x667 := ((S67 108 14 rfl).trans ex667)
              have w749 : h67 108 18 = x8 := ((S67 108 18 rfl).trans ((S60 108 18 rfl).trans ((S59 108 18 rfl).trans ((S40 108 18 rfl).trans ((S39 108 18 rfl).trans ex8)))))
              have w750 : h67 108 17 = x7 := ((S67 108 17 rfl).trans ((S60 108 17 rfl).trans ((S59 108 17 rfl).trans ((S40 108 17 rfl).trans ((S39 108 17 rfl).trans ex7)))))
              have w751 : h67 110 0 = x10 := ((S67 110 0 rfl).trans ((S60 110 0 rfl).trans ((S59 110 0 rfl).trans ((S40 110 0 rfl).trans ((S39 110 0 rfl).trans ex10)))))
              have rm752 := A67.rooms
              refine z_putIH (M := M_X12_readMeasure) 131 dX12_readMeasure_131 p_X12_282 o_108 rfl (u_108_17 G67 (by omega) (by omega)) (R67.up rfl) (fun h68 E68 G68 R68 => ?_)
              have P68 := fx738_1.same (upN E68 (by decide)) (upN E68 (by decide)) (upN E68 (by decide)) (upN E68 (by decide))
              refine z_aload_n (M := M_X12_readMeasure) 134 dX12_readMeasure_134 rfl ?_
              refine z_iconst (M := M_X12_readMeasure) 135 dX12_readMeasure_135 ?_
              refine z_iload_n (M := M_X12_readMeasure) 136 dX12_readMeasure_136 rfl ?_
              refine z_iload_n (M := M_X12_readMeasure) 137 dX12_readMeasure_137 rfl ?_
              refine z_iload_n (M := M_X12_readMeasure) 138 dX12_readMeasure_138 rfl ?_
              refine z_iload (M := M_X12_readMeasure) 139 dX12_readMeasure_139 rfl ?_
              have w753 : h68 108 14 = x667 := ((upN E68 (fun q => absurd q.2 (by decide))).trans ((S67 108 14 rfl).trans ex667))
              have w754 : h68 108 16 = x6 := ((upN E68 (fun q => absurd q.2 (by decide))).trans ((S67 108 16 rfl).trans ((S60 108 16 rfl).trans ((S59 108 16 rfl).trans ((S40 108 16 rfl).trans ((S39 108 16 rfl).trans ex6))))))
              have w755 : h68 108 9 = x739 := ((upN E68 (fun q => absurd q.2 (by decide))).trans ex739)
              have w756 : h68 108 8 = x4 := ((upN E68 (fun q => absurd q.2 (by decide))).trans ((S67 108 8 rfl).trans ((S60 108 8 rfl).trans ((S59 108 8 rfl).trans ((S40 108 8 rfl).trans ((S39 108 8 rfl).trans ex4))))))
              have w757 : h68 108 10 = x740 := ((upN E68 (fun q => absurd q.2 (by decide))).trans ex740)
              have w758 : h68 108 17 = (x7 + 1) := (upE E68)
              have w759 : h68 108 18 = x8 := ((upN E68 (fun q => absurd q.2 (by decide))).trans ((S67 108 18 rfl).trans ((S60 108 18 rfl).trans ((S59 108 18 rfl).trans ((S40 108 18 rfl).trans ((S39 108 18 rfl).trans ex8))))))
              have w760 : h68 110 0 = x10 := ((upN E68 (fun q => absurd q.1 (by decide))).trans ((S67 110 0 rfl).trans ((S60 110 0 rfl).trans ((S59 110 0 rfl).trans ((S40 110 0 rfl).trans ((S39 110 0 rfl).trans ex10))))))
              refine z_vV (M := M_X12_readMeasure) 141 dX12_readMeasure_141 t_X12_act l_X12_268 (m_rr_of rfl) (rest := []) (c_X12_act h68 3 a1 x442 x663 2 G68 (by by_cases hb : x667 = 0; ( exact Or.inr (by omega)); (exact Or.inl (by omega)))) o_108 rfl rfl rfl (Nat.le_of_ble_eq_true rfl) ⟨rfl, rfl⟩ (fun h69 qx761 => ?_)
              obtain ⟨G69, S69, fx761_0⟩ := qx761
              have R69 := R68.call S69 (by decide +kernel)
              have P69 := P68.fr S69 rfl rfl rfl rfl
              have A69 := AI_act3 A67 (by omega) E68 ((S67 108 17 rfl).trans ((S60 108 17 rfl).trans ((S59 108 17 rfl).trans ((S40 108 17 rfl).trans ((S39 108 17 rfl).trans ex7))))) (by omega) (by omega) fx761_0 (by unfold okA; omega)
              have w762 : h69 108 9 = x739 := ((S69 108 9 rfl).trans ((upN E68 (fun q => absurd q.2 (by decide))).trans ex739))
              have nx761 : 2 * h69 108 16 ≤ h69 108 9 := by rcases actQ_n fx761_0 with ⟨q1, q2⟩ | ⟨q1, q2⟩; (omega); ( omega)
              obtain ⟨x763, ex763⟩ : ∃ y : Int, h69 108 16 = y := ⟨_, rfl⟩
              have bx763 : 0 ≤ x763 ∧ x763 ≤ 200 := ex763 ▸ g_108_16 G69
              have w764 : h69 108 9 = x739 := ((S69 108 9 rfl).trans ((upN E68 (fun q => absurd q.2 (by decide))).trans ex739))
              have w765 : h69 108 10 = x740 := ((S69 108 10 rfl).trans ((upN E68 (fun q => absurd q.2 (by decide))).trans ex740))
              have w766 : h69 108 11 = x741 := ((S69 108 11 rfl).trans ((upN E68 (fun q => absurd q.2 (by decide))).trans ex741))
              have w767 : h69 108 8 = x4 := ((S69 108 8 rfl).trans ((upN E68 (fun q => absurd q.2 (by decide))).trans ((S67 108 8 rfl).trans ((S60 108 8 rfl).trans ((S59 108 8 rfl).trans ((S40 108 8 rfl).trans ((S39 108 8 rfl).trans ex4)))))))
              have w768 : h69 108 16 = x763 := ex763
              have w769 : h69 108 14 = x667 := ((S69 108 14 rfl).trans ((upN E68 (fun q => absurd q.2 (by decide))).trans ((S67 108 14 rfl).trans ex667)))
              exact z_retV (M := M_X12_readMeasure) 144 dX12_readMeasure_144 rfl ⟨G69, R69, by omega, P69, by omega, A69, fun q => by  omega⟩
            · refine z_if_eq_T (M := M_X12_readMeasure) 95 dX12_readMeasure_95 102 rfl (by omega) ?_
              refine z_iconst (M := M_X12_readMeasure) 102 dX12_readMeasure_102 ?_
              refine z_istore (M := M_X12_readMeasure) 103 dX12_readMeasure_103 (ls' := [some (mR 108), some (mI a1), some (mI x442), some (mI x663), some (mI 0)]) (by decide) rfl ?_
              refine z_iload (M := M_X12_readMeasure) 105 dX12_readMeasure_105 rfl ?_
              refine z_if_gt_F (M := M_X12_readMeasure) 107 dX12_readMeasure_107 120 rfl (by omega) ?_
              refine z_aload_n (M := M_X12_readMeasure) 110 dX12_readMeasure_110 rfl ?_
              refine z_ldc2 (M := M_X12_readMeasure) 111 dX12_readMeasure_111 k_X12_291 ?_
              refine z_vI (M := M_X12_readMeasure) 114 dX12_readMeasure_114 t_X12_isWord l_X12_260 (m_rr_of rfl) (rest := []) (c_X12_isWord h60 6030452 G60) o_108 rfl rfl rfl (Nat.le_of_ble_eq_true rfl) ⟨rfl, rfl⟩ (fun x770 h70 qx770 => ?_)
              obtain ⟨rfl, ⟨rfl, cx770⟩ | ⟨rfl, cx770⟩⟩ := qx770
              · refine z_if_eq_F (M := M_X12_readMeasure) 117 dX12_readMeasure_117 124 rfl (by omega) ?_
                refine z_aload_n (M := M_X12_readMeasure) 120 dX12_readMeasure_120 rfl ?_
                have w771 : h60 108 9 = x664 := ex664
                have w772 : h60 108 10 = x665 := ex665
                have w773 : h60 108 11 = x666 := ex666
                have l774 := fx663_1.lt (by omega)
                have w775 : h60 108 10 = x665 := ex665
                have w776 : h60 108 8 = x4 := ((S60 108 8 rfl).trans ((S59 108 8 rfl).trans ((S40 108 8 rfl).trans ((S39 108 8 rfl).trans ex4))))
                refine z_vV (M := M_X12_readMeasure) 121 dX12_readMeasure_121 t_X12_next l_X12_218 (m_rr_of rfl) (rest := []) (c_X12_next h60 G60 (by omega)) o_108 rfl rfl rfl (Nat.le_of_ble_eq_true rfl) ⟨rfl, rfl⟩ (fun h71 qx777 => ?_)
                obtain ⟨G71, S71, fx777_0, fx777_1⟩ := qx777
                have R71 := R60.call S71 (by decide +kernel)
                have A71 := A60.fr S71 (fun _ => rfl) rfl rfl rfl rfl rfl
                obtain ⟨x778, ex778⟩ : ∃ y : Int, h71 108 9 = y := ⟨_, rfl⟩
                have bx778 : 0 ≤ x778 ∧ x778 ≤ 400 := ex778 ▸ g_108_9 G71
                obtain ⟨x779, ex779⟩ : ∃ y : Int, h71 108 10 = y := ⟨_, rfl⟩
                have bx779 : 0 ≤ x779 ∧ x779 ≤ 400 := ex779 ▸ g_108_10 G71
                obtain ⟨x780, ex780⟩ : ∃ y : Int, h71 108 11 = y := ⟨_, rfl⟩
                have bx780 : 0 ≤ x780 ∧ x780 ≤ 3 := ex780 ▸ g_108_11 G71
                have w781 : h71 108 9 = x778 := ex778
                have w782 : h71 108 10 = x779 := ex779
                have w783 : h71 108 11 = x780 := ex780
                have w784 : h71 108 8 = x4 := ((S71 108 8 rfl).trans ((S60 108 8 rfl).trans ((S59 108 8 rfl).trans ((S40 108 8 rfl).trans ((S39 108 8 rfl).trans ex4)))))
                have l785 := fx777_1.le
                refine z_aload_n (M := M_X12_readMeasure) 124 dX12_readMeasure_124 rfl ?_
                refine z_dup (M := M_X12_readMeasure) 125 dX12_readMeasure_125 rfl ?_
                refine z_getIE (M := M_X12_readMeasure) 126 dX12_readMeasure_126 f_X12_282 o_108 (by decide) ((S71 108 17 rfl).trans ((S60 108 17 rfl).trans ((S59 108 17 rfl).trans ((S40 108 17 rfl).trans ((S39 108 17 rfl).trans ex7))))) ?_
                refine z_iconst (M := M_X12_readMeasure) 129 dX12_readMeasure_129 ?_
                refine z_iaddN (M := M_X12_readMeasure) 130 dX12_readMeasure_130 (by omega) (by omega) ?_
                have w786 : h71 108 16 = x6 := ((S71 108 16 rfl).trans ((S60 108 16 rfl).trans ((S59 108 16 rfl).trans ((S40 108 16 rfl).trans ((S39 108 16 rfl).trans ex6)))))
                have w787 : h71 108 14 = x667 := ((S71 108 14 rfl).trans ex667)
                have w788 : h71 108 18 = x8 := ((S71 108 18 rfl).trans ((S60 108 18 rfl).trans ((S59 108 18 rfl).trans ((S40 108 18 rfl).trans ((S39 108 18 rfl).trans ex8)))))
                have w789 : h71 108 17 = x7 := ((S71 108 17 rfl).trans ((S60 108 17 rfl).trans ((S59 108 17 rfl).trans ((S40 108 17 rfl).trans ((S39 108 17 rfl).trans ex7)))))
                have w790 : h71 110 0 = x10 := ((S71 110 0 rfl).trans ((S60 110 0 rfl).trans ((S59 110 0 rfl).trans ((S40 110 0 rfl).trans ((S39 110 0 rfl).trans ex10)))))
                have rm791 := A71.rooms
                refine z_putIH (M := M_X12_readMeasure) 131 dX12_readMeasure_131 p_X12_282 o_108 rfl (u_108_17 G71 (by omega) (by omega)) (R71.up rfl) (fun h72 E72 G72 R72 => ?_)
                have P72 := fx777_1.same (upN E72 (by decide)) (upN E72 (by decide)) (upN E72 (by decide)) (upN E72 (by decide))
                refine z_aload_n (M := M_X12_readMeasure) 134 dX12_readMeasure_134 rfl ?_
                refine z_iconst (M := M_X12_readMeasure) 135 dX12_readMeasure_135 ?_
                refine z_iload_n (M := M_X12_readMeasure) 136 dX12_readMeasure_136 rfl ?_
                refine z_iload_n (M := M_X12_readMeasure) 137 dX12_readMeasure_137 rfl ?_
                refine z_iload_n (M := M_X12_readMeasure) 138 dX12_readMeasure_138 rfl ?_
                refine z_iload (M := M_X12_readMeasure) 139 dX12_readMeasure_139 rfl ?_
                have w792 : h72 108 14 = x667 := ((upN E72 (fun q => absurd q.2 (by decide))).trans ((S71 108 14 rfl).trans ex667))
                have w793 : h72 108 16 = x6 := ((upN E72 (fun q => absurd q.2 (by decide))).trans ((S71 108 16 rfl).trans ((S60 108 16 rfl).trans ((S59 108 16 rfl).trans ((S40 108 16 rfl).trans ((S39 108 16 rfl).trans ex6))))))
                have w794 : h72 108 9 = x778 := ((upN E72 (fun q => absurd q.2 (by decide))).trans ex778)
                have w795 : h72 108 8 = x4 := ((upN E72 (fun q => absurd q.2 (by decide))).trans ((S71 108 8 rfl).trans ((S60 108 8 rfl).trans ((S59 108 8 rfl).trans ((S40 108 8 rfl).trans ((S39 108 8 rfl).trans ex4))))))
                have w796 : h72 108 10 = x779 := ((upN E72 (fun q => absurd q.2 (by decide))).trans ex779)
                have w797 : h72 108 17 = (x7 + 1) := (upE E72)
                have w798 : h72 108 18 = x8 := ((upN E72 (fun q => absurd q.2 (by decide))).trans ((S71 108 18 rfl).trans ((S60 108 18 rfl).trans ((S59 108 18 rfl).trans ((S40 108 18 rfl).trans ((S39 108 18 rfl).trans ex8))))))
                have w799 : h72 110 0 = x10 := ((upN E72 (fun q => absurd q.1 (by decide))).trans ((S71 110 0 rfl).trans ((S60 110 0 rfl).trans ((S59 110 0 rfl).trans ((S40 110 0 rfl).trans ((S39 110 0 rfl).trans ex10))))))
                refine z_vV (M := M_X12_readMeasure) 141 dX12_readMeasure_141 t_X12_act l_X12_268 (m_rr_of rfl) (rest := []) (c_X12_act h72 3 a1 x442 x663 0 G72 (by by_cases hb : x667 = 0; ( exact Or.inr (by omega)); (exact Or.inl (by omega)))) o_108 rfl rfl rfl (Nat.le_of_ble_eq_true rfl) ⟨rfl, rfl⟩ (fun h73 qx800 => ?_)
                obtain ⟨G73, S73, fx800_0⟩ := qx800
                have R73 := R72.call S73 (by decide +kernel)
                have P73 := P72.fr S73 rfl rfl rfl rfl
                have A73 := AI_act3 A71 (by omega) E72 ((S71 108 17 rfl).trans ((S60 108 17 rfl).trans ((S59 108 17 rfl).trans ((S40 108 17 rfl).trans ((S39 108 17 rfl).trans ex7))))) (by omega) (by omega) fx800_0 (by unfold okA; omega)
                have w801 : h73 108 9 = x778 := ((S73 108 9 rfl).trans ((upN E72 (fun q => absurd q.2 (by decide))).trans ex778))
                have nx800 : 2 * h73 108 16 ≤ h73 108 9 := by rcases actQ_n fx800_0 with ⟨q1, q2⟩ | ⟨q1, q2⟩; (omega); ( omega)
                obtain ⟨x802, ex802⟩ : ∃ y : Int, h73 108 16 = y := ⟨_, rfl⟩
                have bx802 : 0 ≤ x802 ∧ x802 ≤ 200 := ex802 ▸ g_108_16 G73
                have w803 : h73 108 9 = x778 := ((S73 108 9 rfl).trans ((upN E72 (fun q => absurd q.2 (by decide))).trans ex778))
                have w804 : h73 108 10 = x779 := ((S73 108 10 rfl).trans ((upN E72 (fun q => absurd q.2 (by decide))).trans ex779))
                have w805 : h73 108 11 = x780 := ((S73 108 11 rfl).trans ((upN E72 (fun q => absurd q.2 (by decide))).trans ex780))
                have w806 : h73 108 8 = x4 := ((S73 108 8 rfl).trans ((upN E72 (fun q => absurd q.2 (by decide))).trans ((S71 108 8 rfl).trans ((S60 108 8 rfl).trans ((S59 108 8 rfl).trans ((S40 108 8 rfl).trans ((S39 108 8 rfl).trans ex4)))))))
                have w807 : h73 108 16 = x802 := ex802
                have w808 : h73 108 14 = x667 := ((S73 108 14 rfl).trans ((upN E72 (fun q => absurd q.2 (by decide))).trans ((S71 108 14 rfl).trans ex667)))
                exact z_retV (M := M_X12_readMeasure) 144 dX12_readMeasure_144 rfl ⟨G73, R73, by omega, P73, by omega, A73, fun q => by  omega⟩
              · refine z_if_eq_T (M := M_X12_readMeasure) 117 dX12_readMeasure_117 124 rfl (by omega) ?_
                refine z_aload_n (M := M_X12_readMeasure) 124 dX12_readMeasure_124 rfl ?_
                refine z_dup (M := M_X12_readMeasure) 125 dX12_readMeasure_125 rfl ?_
                refine z_getIE (M := M_X12_readMeasure) 126 dX12_readMeasure_126 f_X12_282 o_108 (by decide) ((S60 108 17 rfl).trans ((S59 108 17 rfl).trans ((S40 108 17 rfl).trans ((S39 108 17 rfl).trans ex7)))) ?_
                refine z_iconst (M := M_X12_readMeasure) 129 dX12_readMeasure_129 ?_
                refine z_iaddN (M := M_X12_readMeasure) 130 dX12_readMeasure_130 (by omega) (by omega) ?_
                have w809 : h60 108 16 = x6 := ((S60 108 16 rfl).trans ((S59 108 16 rfl).trans ((S40 108 16 rfl).trans ((S39 108 16 rfl).trans ex6))))
                have w810 : h60 108 14 = x667 := ex667
                have w811 : h60 108 18 = x8 := ((S60 108 18 rfl).trans ((S59 108 18 rfl).trans ((S40 108 18 rfl).trans ((S39 108 18 rfl).trans ex8))))
                have w812 : h60 108 17 = x7 := ((S60 108 17 rfl).trans ((S59 108 17 rfl).trans ((S40 108 17 rfl).trans ((S39 108 17 rfl).trans ex7))))
                have w813 : h60 110 0 = x10 := ((S60 110 0 rfl).trans ((S59 110 0 rfl).trans ((S40 110 0 rfl).trans ((S39 110 0 rfl).trans ex10))))
                have rm814 := A60.rooms
                refine z_putIH (M := M_X12_readMeasure) 131 dX12_readMeasure_131 p_X12_282 o_108 rfl (u_108_17 G60 (by omega) (by omega)) (R60.up rfl) (fun h74 E74 G74 R74 => ?_)
                have P74 := fx663_1.same (upN E74 (by decide)) (upN E74 (by decide)) (upN E74 (by decide)) (upN E74 (by decide))
                refine z_aload_n (M := M_X12_readMeasure) 134 dX12_readMeasure_134 rfl ?_
                refine z_iconst (M := M_X12_readMeasure) 135 dX12_readMeasure_135 ?_
                refine z_iload_n (M := M_X12_readMeasure) 136 dX12_readMeasure_136 rfl ?_
                refine z_iload_n (M := M_X12_readMeasure) 137 dX12_readMeasure_137 rfl ?_
                refine z_iload_n (M := M_X12_readMeasure) 138 dX12_readMeasure_138 rfl ?_
                refine z_iload (M := M_X12_readMeasure) 139 dX12_readMeasure_139 rfl ?_
                have w815 : h74 108 14 = x667 := ((upN E74 (fun q => absurd q.2 (by decide))).trans ex667)
                have w816 : h74 108 16 = x6 := ((upN E74 (fun q => absurd q.2 (by decide))).trans ((S60 108 16 rfl).trans ((S59 108 16 rfl).trans ((S40 108 16 rfl).trans ((S39 108 16 rfl).trans ex6)))))
                have w817 : h74 108 9 = x664 := ((upN E74 (fun q => absurd q.2 (by decide))).trans ex664)
                have w818 : h74 108 8 = x4 := ((upN E74 (fun q => absurd q.2 (by decide))).trans ((S60 108 8 rfl).trans ((S59 108 8 rfl).trans ((S40 108 8 rfl).trans ((S39 108 8 rfl).trans ex4)))))
                have w819 : h74 108 10 = x665 := ((upN E74 (fun q => absurd q.2 (by decide))).trans ex665)
                have w820 : h74 108 17 = (x7 + 1) := (upE E74)
                have w821 : h74 108 18 = x8 := ((upN E74 (fun q => absurd q.2 (by decide))).trans ((S60 108 18 rfl).trans ((S59 108 18 rfl).trans ((S40 108 18 rfl).trans ((S39 108 18 rfl).trans ex8)))))
                have w822 : h74 110 0 = x10 := ((upN E74 (fun q => absurd q.1 (by decide))).trans ((S60 110 0 rfl).trans ((S59 110 0 rfl).trans ((S40 110 0 rfl).trans ((S39 110 0 rfl).trans ex10)))))
                refine z_vV (M := M_X12_readMeasure) 141 dX12_readMeasure_141 t_X12_act l_X12_268 (m_rr_of rfl) (rest := []) (c_X12_act h74 3 a1 x442 x663 0 G74 (by by_cases hb : x667 = 0; ( exact Or.inr (by omega)); (exact Or.inl (by omega)))) o_108 rfl rfl rfl (Nat.le_of_ble_eq_true rfl) ⟨rfl, rfl⟩ (fun h75 qx823 => ?_)
                obtain ⟨G75, S75, fx823_0⟩ := qx823
                have R75 := R74.call S75 (by decide +kernel)
                have P75 := P74.fr S75 rfl rfl rfl rfl
                have A75 := AI_act3 A60 (by omega) E74 ((S60 108 17 rfl).trans ((S59 108 17 rfl).trans ((S40 108 17 rfl).trans ((S39 108 17 rfl).trans ex7)))) (by omega) (by omega) fx823_0 (by unfold okA; omega)
                have w824 : h75 108 9 = x664 := ((S75 108 9 rfl).trans ((upN E74 (fun q => absurd q.2 (by decide))).trans ex664))
                have nx823 : 2 * h75 108 16 ≤ h75 108 9 := by rcases actQ_n fx823_0 with ⟨q1, q2⟩ | ⟨q1, q2⟩; (omega); ( omega)
                obtain ⟨x825, ex825⟩ : ∃ y : Int, h75 108 16 = y := ⟨_, rfl⟩
                have bx825 : 0 ≤ x825 ∧ x825 ≤ 200 := ex825 ▸ g_108_16 G75
                have w826 : h75 108 9 = x664 := ((S75 108 9 rfl).trans ((upN E74 (fun q => absurd q.2 (by decide))).trans ex664))
                have w827 : h75 108 10 = x665 := ((S75 108 10 rfl).trans ((upN E74 (fun q => absurd q.2 (by decide))).trans ex665))
                have w828 : h75 108 11 = x666 := ((S75 108 11 rfl).trans ((upN E74 (fun q => absurd q.2 (by decide))).trans ex666))
                have w829 : h75 108 8 = x4 := ((S75 108 8 rfl).trans ((upN E74 (fun q => absurd q.2 (by decide))).trans ((S60 108 8 rfl).trans ((S59 108 8 rfl).trans ((S40 108 8 rfl).trans ((S39 108 8 rfl).trans ex4))))))
                have w830 : h75 108 16 = x825 := ex825
                have w831 : h75 108 14 = x667 := ((S75 108 14 rfl).trans ((upN E74 (fun q => absurd q.2 (by decide))).trans ex667))
                exact z_retV (M := M_X12_readMeasure) 144 dX12_readMeasure_144 rfl ⟨G75, R75, by omega, P75, by omega, A75, fun q => by  omega⟩
  · refine z_if_eq_T (M := M_X12_readMeasure) 8 dX12_readMeasure_8 31 rfl (by omega) ?_
    refine z_iconst (M := M_X12_readMeasure) 31 dX12_readMeasure_31 ?_
    have w832 : h0 108 9 = x1 := ex1
    have w833 : h0 108 10 = x2 := ex2
    have w834 : h0 108 11 = x3 := ex3
    have w835 : h0 108 8 = x4 := ex4
    refine z_vV (M := M_X12_readMeasure) 32 dX12_readMeasure_32 t_X12_must l_X12_247 (m_rr_of rfl) (rest := []) (c_X12_must h0 0 G0 ⟨by omega, by omega⟩ hp) o_108 rfl rfl rfl (Nat.le_of_ble_eq_true rfl) ⟨rfl, rfl⟩ (fun h76 qx836 => ?_)
    obtain ⟨G76, S76, fx836_0, fx836_1, fx836_2⟩ := qx836
    have R76 := (FR.rf (cs := [114]) (ss := [(108, 9), (108, 10), (108, 11), (108, 12), (108, 13), (108, 14), (108, 16), (108, 17)]) (h := h0)).call S76 (by decide +kernel)
    have A76 := A0.fr S76 (fun _ => rfl) rfl rfl rfl rfl rfl
    obtain ⟨x837, ex837⟩ : ∃ y : Int, h76 108 9 = y := ⟨_, rfl⟩
    have bx837 : 0 ≤ x837 ∧ x837 ≤ 400 := ex837 ▸ g_108_9 G76
    obtain ⟨x838, ex838⟩ : ∃ y : Int, h76 108 10 = y := ⟨_, rfl⟩
    have bx838 : 0 ≤ x838 ∧ x838 ≤ 400 := ex838 ▸ g_108_10 G76
    obtain ⟨x839, ex839⟩ : ∃ y : Int, h76 108 11 = y := ⟨_, rfl⟩
    have bx839 : 0 ≤ x839 ∧ x839 ≤ 3 := ex839 ▸ g_108_11 G76
    obtain ⟨x840, ex840⟩ : ∃ y : Int, h76 108 14 = y := ⟨_, rfl⟩
    have bx840 : 0 ≤ x840 ∧ x840 ≤ 1 := ex840 ▸ g_108_14 G76
    have w841 : h76 108 9 = x837 := ex837
    have w842 : h76 108 10 = x838 := ex838
    have w843 : h76 108 11 = x839 := ex839
    have w844 : h76 108 8 = x4 := ((S76 108 8 rfl).trans ex4)
    have w845 : h76 108 14 = x840 := ex840
    have l846 := fx836_1.le
    have nbx836 : x840 ≠ 0 := fun q => by have q2 := fx836_2 (by omega); omega
    refine z_aload_n (M := M_X12_readMeasure) 35 dX12_readMeasure_35 rfl ?_
    refine z_lconst (M := M_X12_readMeasure) 36 dX12_readMeasure_36 (v := 0) ?_
    refine z_ldc2 (M := M_X12_readMeasure) 37 dX12_readMeasure_37 k_X12_154 ?_
    have w847 : h76 108 9 = x837 := ex837
    have w848 : h76 108 10 = x838 := ex838
    have w849 : h76 108 11 = x839 := ex839
    have w850 : h76 108 8 = x4 := ((S76 108 8 rfl).trans ex4)
    have w851 : h76 108 14 = x840 := ex840
    refine z_vI (M := M_X12_readMeasure) 40 dX12_readMeasure_40 t_X12_number l_X12_254 (m_rr_of rfl) (rest := []) (c_X12_number h76 0 31 G76 ⟨by omega, by omega⟩ ⟨by omega, by omega⟩ fx836_1) o_108 rfl rfl rfl (Nat.le_of_ble_eq_true rfl) ⟨rfl, rfl⟩ (fun x852 h77 qx852 => ?_)
    obtain ⟨G77, S77, fx852_0, fx852_1, fx852_2⟩ := qx852
    have R77 := R76.call S77 (by decide +kernel)
    have A77 := A76.fr S77 (fun _ => rfl) rfl rfl rfl rfl rfl
    refine z_ok (fun ox852 _ _ => ?_)
    have ox852 := ox852.1; unfold m_ok m_32 at ox852
    obtain ⟨x853, ex853⟩ : ∃ y : Int, h77 108 9 = y := ⟨_, rfl⟩
    have bx853 : 0 ≤ x853 ∧ x853 ≤ 400 := ex853 ▸ g_108_9 G77
    obtain ⟨x854, ex854⟩ : ∃ y : Int, h77 108 10 = y := ⟨_, rfl⟩
    have bx854 : 0 ≤ x854 ∧ x854 ≤ 400 := ex854 ▸ g_108_10 G77
    obtain ⟨x855, ex855⟩ : ∃ y : Int, h77 108 11 = y := ⟨_, rfl⟩
    have bx855 : 0 ≤ x855 ∧ x855 ≤ 3 := ex855 ▸ g_108_11 G77
    obtain ⟨x856, ex856⟩ : ∃ y : Int, h77 108 14 = y := ⟨_, rfl⟩
    have bx856 : 0 ≤ x856 ∧ x856 ≤ 1 := ex856 ▸ g_108_14 G77
    have w857 : h77 108 9 = x853 := ex853
    have w858 : h77 108 10 = x854 := ex854
    have w859 : h77 108 11 = x855 := ex855
    have w860 : h77 108 8 = x4 := ((S77 108 8 rfl).trans ((S76 108 8 rfl).trans ex4))
    have w861 : h77 108 14 = x856 := ex856
    have l862 := fx852_1.le
    refine z_istore_n (M := M_X12_readMeasure) 43 dX12_readMeasure_43 (ls' := [some (mR 108), some (mI a1), some (mI x852), none, none]) (by decide) rfl ?_
    refine z_aload_n (M := M_X12_readMeasure) 44 dX12_readMeasure_44 rfl ?_
    refine z_aload_n (M := M_X12_readMeasure) 45 dX12_readMeasure_45 rfl ?_
    refine z_ldc2 (M := M_X12_readMeasure) 46 dX12_readMeasure_46 k_X12_285 ?_
    refine z_vI (M := M_X12_readMeasure) 49 dX12_readMeasure_49 t_X12_isWord l_X12_260 (m_rr_of rfl) (rest := [mR 108]) (c_X12_isWord h77 307 G77) o_108 rfl rfl rfl (Nat.le_of_ble_eq_true rfl) ⟨rfl, rfl⟩ (fun x863 h78 qx863 => ?_)
    obtain ⟨rfl, ⟨rfl, cx863⟩ | ⟨rfl, cx863⟩⟩ := qx863
    · have w864 : h77 108 9 = x853 := ex853
      have w865 : h77 108 10 = x854 := ex854
      have w866 : h77 108 11 = x855 := ex855
      have w867 : h77 108 8 = x4 := ((S77 108 8 rfl).trans ((S76 108 8 rfl).trans ex4))
      refine z_vV (M := M_X12_readMeasure) 52 dX12_readMeasure_52 t_X12_must l_X12_247 (m_rr_of rfl) (rest := []) (c_X12_must h77 1 G77 ⟨by omega, by omega⟩ fx852_1) o_108 rfl rfl rfl (Nat.le_of_ble_eq_true rfl) ⟨rfl, rfl⟩ (fun h79 qx868 => ?_)
      obtain ⟨G79, S79, fx868_0, fx868_1, fx868_2⟩ := qx868
      have R79 := R77.call S79 (by decide +kernel)
      have A79 := A77.fr S79 (fun _ => rfl) rfl rfl rfl rfl rfl
      obtain ⟨x869, ex869⟩ : ∃ y : Int, h79 108 9 = y := ⟨_, rfl⟩
      have bx869 : 0 ≤ x869 ∧ x869 ≤ 400 := ex869 ▸ g_108_9 G79
      obtain ⟨x870, ex870⟩ : ∃ y : Int, h79 108 10 = y := ⟨_, rfl⟩
      have bx870 : 0 ≤ x870 ∧ x870 ≤ 400 := ex870 ▸ g_108_10 G79
      obtain ⟨x871, ex871⟩ : ∃ y : Int, h79 108 11 = y := ⟨_, rfl⟩
      have bx871 : 0 ≤ x871 ∧ x871 ≤ 3 := ex871 ▸ g_108_11 G79
      obtain ⟨x872, ex872⟩ : ∃ y : Int, h79 108 14 = y := ⟨_, rfl⟩
      have bx872 : 0 ≤ x872 ∧ x872 ≤ 1 := ex872 ▸ g_108_14 G79
      have w873 : h79 108 9 = x869 := ex869
      have w874 : h79 108 10 = x870 := ex870
      have w875 : h79 108 11 = x871 := ex871
      have w876 : h79 108 8 = x4 := ((S79 108 8 rfl).trans ((S77 108 8 rfl).trans ((S76 108 8 rfl).trans ex4)))
      have w877 : h79 108 14 = x872 := ex872
      have l878 := fx868_1.le
      refine z_aload_n (M := M_X12_readMeasure) 55 dX12_readMeasure_55 rfl ?_
      refine z_lconst (M := M_X12_readMeasure) 56 dX12_readMeasure_56 (v := 1) ?_
      refine z_ldc2 (M := M_X12_readMeasure) 57 dX12_readMeasure_57 k_X12_180 ?_
      have w879 : h79 108 9 = x869 := ex869
      have w880 : h79 108 10 = x870 := ex870
      have w881 : h79 108 11 = x871 := ex871
      have w882 : h79 108 8 = x4 := ((S79 108 8 rfl).trans ((S77 108 8 rfl).trans ((S76 108 8 rfl).trans ex4)))
      have w883 : h79 108 14 = x872 := ex872
      refine z_vI (M := M_X12_readMeasure) 60 dX12_readMeasure_60 t_X12_number l_X12_254 (m_rr_of rfl) (rest := []) (c_X12_number h79 1 99 G79 ⟨by omega, by omega⟩ ⟨by omega, by omega⟩ fx868_1) o_108 rfl rfl rfl (Nat.le_of_ble_eq_true rfl) ⟨rfl, rfl⟩ (fun x884 h80 qx884 => ?_)
      obtain ⟨G80, S80, fx884_0, fx884_1, fx884_2⟩ := qx884
      have R80 := R79.call S80 (by decide +kernel)
      have A80 := A79.fr S80 (fun _ => rfl) rfl rfl rfl rfl rfl
      refine z_ok (fun ox884 _ _ => ?_)
      have ox884 := ox884.1; unfold m_ok m_32 at ox884
      obtain ⟨x885, ex885⟩ : ∃ y : Int, h80 108 9 = y := ⟨_, rfl⟩
      have bx885 : 0 ≤ x885 ∧ x885 ≤ 400 := ex885 ▸ g_108_9 G80
      obtain ⟨x886, ex886⟩ : ∃ y : Int, h80 108 10 = y := ⟨_, rfl⟩
      have bx886 : 0 ≤ x886 ∧ x886 ≤ 400 := ex886 ▸ g_108_10 G80
      obtain ⟨x887, ex887⟩ : ∃ y : Int, h80 108 11 = y := ⟨_, rfl⟩
      have bx887 : 0 ≤ x887 ∧ x887 ≤ 3 := ex887 ▸ g_108_11 G80
      obtain ⟨x888, ex888⟩ : ∃ y : Int, h80 108 14 = y := ⟨_, rfl⟩
      have bx888 : 0 ≤ x888 ∧ x888 ≤ 1 := ex888 ▸ g_108_14 G80
      have w889 : h80 108 9 = x885 := ex885
      have w890 : h80 108 10 = x886 := ex886
      have w891 : h80 108 11 = x887 := ex887
      have w892 : h80 108 8 = x4 := ((S80 108 8 rfl).trans ((S79 108 8 rfl).trans ((S77 108 8 rfl).trans ((S76 108 8 rfl).trans ex4))))
      have w893 : h80 108 14 = x888 := ex888
      have l894 := fx884_1.le
      refine z_istore_n (M := M_X12_readMeasure) 63 dX12_readMeasure_63 (ls' := [some (mR 108), some (mI a1), some (mI x852), some (mI x884), none]) (by decide) rfl ?_
      refine z_iconst (M := M_X12_readMeasure) 64 dX12_readMeasure_64 ?_
      refine z_istore (M := M_X12_readMeasure) 65 dX12_readMeasure_65 (ls' := [some (mR 108), some (mI a1), some (mI x852), some (mI x884), some (mI 0)]) (by decide) rfl ?_
      refine z_aload_n (M := M_X12_readMeasure) 67 dX12_readMeasure_67 rfl ?_
      refine z_getIE (M := M_X12_readMeasure) 68 dX12_readMeasure_68 f_X12_214 o_108 (by decide) ex888 ?_
      refine z_if_ne (M := M_X12_readMeasure) 71 dX12_readMeasure_71 134 rfl (fun c895 => ?_) (fun c895 => ?_)
      · refine z_aload_n (M := M_X12_readMeasure) 134 dX12_readMeasure_134 rfl ?_
        refine z_iconst (M := M_X12_readMeasure) 135 dX12_readMeasure_135 ?_
        refine z_iload_n (M := M_X12_readMeasure) 136 dX12_readMeasure_136 rfl ?_
        refine z_iload_n (M := M_X12_readMeasure) 137 dX12_readMeasure_137 rfl ?_
        refine z_iload_n (M := M_X12_readMeasure) 138 dX12_readMeasure_138 rfl ?_
        refine z_iload (M := M_X12_readMeasure) 139 dX12_readMeasure_139 rfl ?_
        have w896 : h80 108 14 = x888 := ex888
        have w897 : h80 108 16 = x6 := ((S80 108 16 rfl).trans ((S79 108 16 rfl).trans ((S77 108 16 rfl).trans ((S76 108 16 rfl).trans ex6))))
        have w898 : h80 108 9 = x885 := ex885
        have w899 : h80 108 8 = x4 := ((S80 108 8 rfl).trans ((S79 108 8 rfl).trans ((S77 108 8 rfl).trans ((S76 108 8 rfl).trans ex4))))
        have w900 : h80 108 10 = x886 := ex886
        have w901 : h80 108 17 = x7 := ((S80 108 17 rfl).trans ((S79 108 17 rfl).trans ((S77 108 17 rfl).trans ((S76 108 17 rfl).trans ex7))))
        have w902 : h80 108 18 = x8 := ((S80 108 18 rfl).trans ((S79 108 18 rfl).trans ((S77 108 18 rfl).trans ((S76 108 18 rfl).trans ex8))))
        refine z_vV (M := M_X12_readMeasure) 141 dX12_readMeasure_141 t_X12_act l_X12_268 (m_rr_of rfl) (rest := []) (c_X12_act h80 3 a1 x852 x884 0 G80 (by by_cases hb : x888 = 0; (have ufx884_2 := fx884_2 (by omega); have ufx868_2 := fx868_2 (by omega); have ufx852_2 := fx852_2 (by omega); have ufx836_2 := fx836_2 (by omega); exact Or.inr (by omega)); (exact Or.inl (by omega)))) o_108 rfl rfl rfl (Nat.le_of_ble_eq_true rfl) ⟨rfl, rfl⟩ (fun h81 qx903 => ?_)
        obtain ⟨G81, S81, fx903_0⟩ := qx903
        have R81 := R80.call S81 (by decide +kernel)
        have P81 := fx884_1.fr S81 rfl rfl rfl rfl
        have A81 := actQ_bad fx903_0 (by omega) A80
        have w904 : h81 108 9 = x885 := ((S81 108 9 rfl).trans ex885)
        have nx903 : 2 * h81 108 16 ≤ h81 108 9 := by rcases actQ_n fx903_0 with ⟨q1, q2⟩ | ⟨q1, q2⟩; (omega); (have ufx884_2 := fx884_2 (by omega); have ufx868_2 := fx868_2 (by omega); have ufx852_2 := fx852_2 (by omega); have ufx836_2 := fx836_2 (by omega); omega)
        obtain ⟨x905, ex905⟩ : ∃ y : Int, h81 108 16 = y := ⟨_, rfl⟩
        have bx905 : 0 ≤ x905 ∧ x905 ≤ 200 := ex905 ▸ g_108_16 G81
        have w906 : h81 108 9 = x885 := ((S81 108 9 rfl).trans ex885)
        have w907 : h81 108 10 = x886 := ((S81 108 10 rfl).trans ex886)
        have w908 : h81 108 11 = x887 := ((S81 108 11 rfl).trans ex887)
        have w909 : h81 108 8 = x4 := ((S81 108 8 rfl).trans ((S80 108 8 rfl).trans ((S79 108 8 rfl).trans ((S77 108 8 rfl).trans ((S76 108 8 rfl).trans ex4)))))
        have w910 : h81 108 16 = x905 := ex905
        have w911 : h81 108 14 = x888 := ((S81 108 14 rfl).trans ex888)
        exact z_retV (M := M_X12_readMeasure) 144 dX12_readMeasure_144 rfl ⟨G81, R81, by omega, P81, by omega, A81, fun q => by have ufx884_2 := fx884_2 (by omega); have ufx868_2 := fx868_2 (by omega); have ufx852_2 := fx852_2 (by omega); have ufx836_2 := fx836_2 (by omega); omega⟩
      · have ufx884_2 := fx884_2 (by omega)
        have ufx868_2 := fx868_2 (by omega)
        have ufx852_2 := fx852_2 (by omega)
        have ufx836_2 := fx836_2 (by omega)
        refine z_aload_n (M := M_X12_readMeasure) 74 dX12_readMeasure_74 rfl ?_
        refine z_ldc2 (M := M_X12_readMeasure) 75 dX12_readMeasure_75 k_X12_287 ?_
        refine z_vI (M := M_X12_readMeasure) 78 dX12_readMeasure_78 t_X12_isWord l_X12_260 (m_rr_of rfl) (rest := []) (c_X12_isWord h80 24395141 G80) o_108 rfl rfl rfl (Nat.le_of_ble_eq_true rfl) ⟨rfl, rfl⟩ (fun x912 h82 qx912 => ?_)
        obtain ⟨rfl, ⟨rfl, cx912⟩ | ⟨rfl, cx912⟩⟩ := qx912
        · refine z_if_eq_F (M := M_X12_readMeasure) 81 dX12_readMeasure_81 88 rfl (by omega) ?_
          refine z_iconst (M := M_X12_readMeasure) 84 dX12_readMeasure_84 ?_
          refine z_goto (M := M_X12_readMeasure) 85 dX12_readMeasure_85 103 rfl ?_
          refine z_istore (M := M_X12_readMeasure) 103 dX12_readMeasure_103 (ls' := [some (mR 108), some (mI a1), some (mI x852), some (mI x884), some (mI 1)]) (by decide) rfl ?_
          refine z_iload (M := M_X12_readMeasure) 105 dX12_readMeasure_105 rfl ?_
          refine z_if_gt_T (M := M_X12_readMeasure) 107 dX12_readMeasure_107 120 rfl (by omega) ?_
          refine z_aload_n (M := M_X12_readMeasure) 120 dX12_readMeasure_120 rfl ?_
          have w913 : h80 108 9 = x885 := ex885
          have w914 : h80 108 10 = x886 := ex886
          have w915 : h80 108 11 = x887 := ex887
          have l916 := fx884_1.lt (by omega)
          have w917 : h80 108 10 = x886 := ex886
          have w918 : h80 108 8 = x4 := ((S80 108 8 rfl).trans ((S79 108 8 rfl).trans ((S77 108 8 rfl).trans ((S76 108 8 rfl).trans ex4))))
          refine z_vV (M := M_X12_readMeasure) 121 dX12_readMeasure_121 t_X12_next l_X12_218 (m_rr_of rfl) (rest := []) (c_X12_next h80 G80 (by omega)) o_108 rfl rfl rfl (Nat.le_of_ble_eq_true rfl) ⟨rfl, rfl⟩ (fun h83 qx919 => ?_)
          obtain ⟨G83, S83, fx919_0, fx919_1⟩ := qx919
          have R83 := R80.call S83 (by decide +kernel)
          have A83 := A80.fr S83 (fun _ => rfl) rfl rfl rfl rfl rfl
          obtain ⟨x920, ex920⟩ : ∃ y : Int, h83 108 9 = y := ⟨_, rfl⟩
          have bx920 : 0 ≤ x920 ∧ x920 ≤ 400 := ex920 ▸ g_108_9 G83
          obtain ⟨x921, ex921⟩ : ∃ y : Int, h83 108 10 = y := ⟨_, rfl⟩
          have bx921 : 0 ≤ x921 ∧ x921 ≤ 400 := ex921 ▸ g_108_10 G83
          obtain ⟨x922, ex922⟩ : ∃ y : Int, h83 108 11 = y := ⟨_, rfl⟩
          have bx922 : 0 ≤ x922 ∧ x922 ≤ 3 := ex922 ▸ g_108_11 G83
          have w923 : h83 108 9 = x920 := ex920
          have w924 : h83 108 10 = x921 := ex921
          have w925 : h83 108 11 = x922 := ex922
          have w926 : h83 108 8 = x4 := ((S83 108 8 rfl).trans ((S80 108 8 rfl).trans ((S79 108 8 rfl).trans ((S77 108 8 rfl).trans ((S76 108 8 rfl).trans ex4)))))
          have l927 := fx919_1.le
          refine z_aload_n (M := M_X12_readMeasure) 124 dX12_readMeasure_124 rfl ?_
          refine z_dup (M := M_X12_readMeasure) 125 dX12_readMeasure_125 rfl ?_
          refine z_getIE (M := M_X12_readMeasure) 126 dX12_readMeasure_126 f_X12_282 o_108 (by decide) ((S83 108 17 rfl).trans ((S80 108 17 rfl).trans ((S79 108 17 rfl).trans ((S77 108 17 rfl).trans ((S76 108 17 rfl).trans ex7))))) ?_
          refine z_iconst (M := M_X12_readMeasure) 129 dX12_readMeasure_129 ?_
          refine z_iaddN (M := M_X12_readMeasure) 130 dX12_readMeasure_130 (by omega) (by omega) ?_
          have w928 : h83 108 16 = x6 := ((S83 108 16 rfl).trans ((S80 108 16 rfl).trans ((S79 108 16 rfl).trans ((S77 108 16 rfl).trans ((S76 108 16 rfl).trans ex6)))))
          have w929 : h83 108 14 = x888 := ((S83 108 14 rfl).trans ex888)
          have w930 : h83 108 18 = x8 := ((S83 108 18 rfl).trans ((S80 108 18 rfl).trans ((S79 108 18 rfl).trans ((S77 108 18 rfl).trans ((S76 108 18 rfl).trans ex8)))))
          have w931 : h83 108 17 = x7 := ((S83 108 17 rfl).trans ((S80 108 17 rfl).trans ((S79 108 17 rfl).trans ((S77 108 17 rfl).trans ((S76 108 17 rfl).trans ex7)))))
          obtain ⟨x932, ex932⟩ : ∃ y : Int, h83 110 0 = y := ⟨_, rfl⟩
          have bx932 : 0 ≤ x932 ∧ x932 ≤ 24 := ex932 ▸ gw_0 G83
          have w933 : h83 110 0 = x932 := ex932
          have rm934 := A83.rooms
          refine z_putIH (M := M_X12_readMeasure) 131 dX12_readMeasure_131 p_X12_282 o_108 rfl (u_108_17 G83 (by omega) (by omega)) (R83.up rfl) (fun h84 E84 G84 R84 => ?_)
          have P84 := fx919_1.same (upN E84 (by decide)) (upN E84 (by decide)) (upN E84 (by decide)) (upN E84 (by decide))
          refine z_aload_n (M := M_X12_readMeasure) 134 dX12_readMeasure_134 rfl ?_
          refine z_iconst (M := M_X12_readMeasure) 135 dX12_readMeasure_135 ?_
          refine z_iload_n (M := M_X12_readMeasure) 136 dX12_readMeasure_136 rfl ?_
          refine z_iload_n (M := M_X12_readMeasure) 137 dX12_readMeasure_137 rfl ?_
          refine z_iload_n (M := M_X12_readMeasure) 138 dX12_readMeasure_138 rfl ?_
          refine z_iload (M := M_X12_readMeasure) 139 dX12_readMeasure_139 rfl ?_
          have w935 : h84 108 14 = x888 := ((upN E84 (fun q => absurd q.2 (by decide))).trans ((S83 108 14 rfl).trans ex888))
          have w936 : h84 108 16 = x6 := ((upN E84 (fun q => absurd q.2 (by decide))).trans ((S83 108 16 rfl).trans ((S80 108 16 rfl).trans ((S79 108 16 rfl).trans ((S77 108 16 rfl).trans ((S76 108 16 rfl).trans ex6))))))
          have w937 : h84 108 9 = x920 := ((upN E84 (fun q => absurd q.2 (by decide))).trans ex920)
          have w938 : h84 108 8 = x4 := ((upN E84 (fun q => absurd q.2 (by decide))).trans ((S83 108 8 rfl).trans ((S80 108 8 rfl).trans ((S79 108 8 rfl).trans ((S77 108 8 rfl).trans ((S76 108 8 rfl).trans ex4))))))
          have w939 : h84 108 10 = x921 := ((upN E84 (fun q => absurd q.2 (by decide))).trans ex921)
          have w940 : h84 108 17 = (x7 + 1) := (upE E84)
          have w941 : h84 108 18 = x8 := ((upN E84 (fun q => absurd q.2 (by decide))).trans ((S83 108 18 rfl).trans ((S80 108 18 rfl).trans ((S79 108 18 rfl).trans ((S77 108 18 rfl).trans ((S76 108 18 rfl).trans ex8))))))
          have w942 : h84 110 0 = x932 := ((upN E84 (fun q => absurd q.1 (by decide))).trans ex932)
          refine z_vV (M := M_X12_readMeasure) 141 dX12_readMeasure_141 t_X12_act l_X12_268 (m_rr_of rfl) (rest := []) (c_X12_act h84 3 a1 x852 x884 1 G84 (by by_cases hb : x888 = 0; ( exact Or.inr (by omega)); (exact Or.inl (by omega)))) o_108 rfl rfl rfl (Nat.le_of_ble_eq_true rfl) ⟨rfl, rfl⟩ (fun h85 qx943 => ?_)
          obtain ⟨G85, S85, fx943_0⟩ := qx943
          have R85 := R84.call S85 (by decide +kernel)
          have P85 := P84.fr S85 rfl rfl rfl rfl
          have A85 := AI_act3 A83 (by omega) E84 ((S83 108 17 rfl).trans ((S80 108 17 rfl).trans ((S79 108 17 rfl).trans ((S77 108 17 rfl).trans ((S76 108 17 rfl).trans ex7))))) (by omega) (by omega) fx943_0 (by unfold okA; omega)
          have w944 : h85 108 9 = x920 := ((S85 108 9 rfl).trans ((upN E84 (fun q => absurd q.2 (by decide))).trans ex920))
          have nx943 : 2 * h85 108 16 ≤ h85 108 9 := by rcases actQ_n fx943_0 with ⟨q1, q2⟩ | ⟨q1, q2⟩; (omega); ( omega)
          obtain ⟨x945, ex945⟩ : ∃ y : Int, h85 108 16 = y := ⟨_, rfl⟩
          have bx945 : 0 ≤ x945 ∧ x945 ≤ 200 := ex945 ▸ g_108_16 G85
          have w946 : h85 108 9 = x920 := ((S85 108 9 rfl).trans ((upN E84 (fun q => absurd q.2 (by decide))).trans ex920))
          have w947 : h85 108 10 = x921 := ((S85 108 10 rfl).trans ((upN E84 (fun q => absurd q.2 (by decide))).trans ex921))
          have w948 : h85 108 11 = x922 := ((S85 108 11 rfl).trans ((upN E84 (fun q => absurd q.2 (by decide))).trans ex922))
          have w949 : h85 108 8 = x4 := ((S85 108 8 rfl).trans ((upN E84 (fun q => absurd q.2 (by decide))).trans ((S83 108 8 rfl).trans ((S80 108 8 rfl).trans ((S79 108 8 rfl).trans ((S77 108 8 rfl).trans ((S76 108 8 rfl).trans ex4)))))))
          have w950 : h85 108 16 = x945 := ex945
          have w951 : h85 108 14 = x888 := ((S85 108 14 rfl).trans ((upN E84 (fun q => absurd q.2 (by decide))).trans ((S83 108 14 rfl).trans ex888)))
          exact z_retV (M := M_X12_readMeasure) 144 dX12_readMeasure_144 rfl ⟨G85, R85, by omega, P85, by omega, A85, fun q => by  omega⟩
        · refine z_if_eq_T (M := M_X12_readMeasure) 81 dX12_readMeasure_81 88 rfl (by omega) ?_
          refine z_aload_n (M := M_X12_readMeasure) 88 dX12_readMeasure_88 rfl ?_
          refine z_ldc2 (M := M_X12_readMeasure) 89 dX12_readMeasure_89 k_X12_289 ?_
          refine z_vI (M := M_X12_readMeasure) 92 dX12_readMeasure_92 t_X12_isWord l_X12_260 (m_rr_of rfl) (rest := []) (c_X12_isWord h80 263558 G80) o_108 rfl rfl rfl (Nat.le_of_ble_eq_true rfl) ⟨rfl, rfl⟩ (fun x952 h86 qx952 => ?_)
          obtain ⟨rfl, ⟨rfl, cx952⟩ | ⟨rfl, cx952⟩⟩ := qx952
          · refine z_if_eq_F (M := M_X12_readMeasure) 95 dX12_readMeasure_95 102 rfl (by omega) ?_
            refine z_iconst (M := M_X12_readMeasure) 98 dX12_readMeasure_98 ?_
            refine z_goto (M := M_X12_readMeasure) 99 dX12_readMeasure_99 103 rfl ?_
            refine z_istore (M := M_X12_readMeasure) 103 dX12_readMeasure_103 (ls' := [some (mR 108), some (mI a1), some (mI x852), some (mI x884), some (mI 2)]) (by decide) rfl ?_
            refine z_iload (M := M_X12_readMeasure) 105 dX12_readMeasure_105 rfl ?_
            refine z_if_gt_T (M := M_X12_readMeasure) 107 dX12_readMeasure_107 120 rfl (by omega) ?_
            refine z_aload_n (M := M_X12_readMeasure) 120 dX12_readMeasure_120 rfl ?_
            have w953 : h80 108 9 = x885 := ex885
            have w954 : h80 108 10 = x886 := ex886
            have w955 : h80 108 11 = x887 := ex887
            have l956 := fx884_1.lt (by omega)
            have w957 : h80 108 10 = x886 := ex886
            have w958 : h80 108 8 = x4 := ((S80 108 8 rfl).trans ((S79 108 8 rfl).trans ((S77 108 8 rfl).trans ((S76 108 8 rfl).trans ex4))))
            refine z_vV (M := M_X12_readMeasure) 121 dX12_readMeasure_121 t_X12_next l_X12_218 (m_rr_of rfl) (rest := []) (c_X12_next h80 G80 (by omega)) o_108 rfl rfl rfl (Nat.le_of_ble_eq_true rfl) ⟨rfl, rfl⟩ (fun h87 qx959 => ?_)
            obtain ⟨G87, S87, fx959_0, fx959_1⟩ := qx959
            have R87 := R80.call S87 (by decide +kernel)
            have A87 := A80.fr S87 (fun _ => rfl) rfl rfl rfl rfl rfl
            obtain ⟨x960, ex960⟩ : ∃ y : Int, h87 108 9 = y := ⟨_, rfl⟩
            have bx960 : 0 ≤ x960 ∧ x960 ≤ 400 := ex960 ▸ g_108_9 G87
            obtain ⟨x961, ex961⟩ : ∃ y : Int, h87 108 10 = y := ⟨_, rfl⟩
            have bx961 : 0 ≤ x961 ∧ x961 ≤ 400 := ex961 ▸ g_108_10 G87
            obtain ⟨x962, ex962⟩ : ∃ y : Int, h87 108 11 = y := ⟨_, rfl⟩
            have bx962 : 0 ≤ x962 ∧ x962 ≤ 3 := ex962 ▸ g_108_11 G87
            have w963 : h87 108 9 = x960 := ex960
            have w964 : h87 108 10 = x961 := ex961
            have w965 : h87 108 11 = x962 := ex962
            have w966 : h87 108 8 = x4 := ((S87 108 8 rfl).trans ((S80 108 8 rfl).trans ((S79 108 8 rfl).trans ((S77 108 8 rfl).trans ((S76 108 8 rfl).trans ex4)))))
            have l967 := fx959_1.le
            refine z_aload_n (M := M_X12_readMeasure) 124 dX12_readMeasure_124 rfl ?_
            refine z_dup (M := M_X12_readMeasure) 125 dX12_readMeasure_125 rfl ?_
            refine z_getIE (M := M_X12_readMeasure) 126 dX12_readMeasure_126 f_X12_282 o_108 (by decide) ((S87 108 17 rfl).trans ((S80 108 17 rfl).trans ((S79 108 17 rfl).trans ((S77 108 17 rfl).trans ((S76 108 17 rfl).trans ex7))))) ?_
            refine z_iconst (M := M_X12_readMeasure) 129 dX12_readMeasure_129 ?_
            refine z_iaddN (M := M_X12_readMeasure) 130 dX12_readMeasure_130 (by omega) (by omega) ?_
            have w968 : h87 108 16 = x6 := ((S87 108 16 rfl).trans ((S80 108 16 rfl).trans ((S79 108 16 rfl).trans ((S77 108 16 rfl).trans ((S76 108 16 rfl).trans ex6)))))
            have w969 : h87 108 14 = x888 := ((S87 108 14 rfl).trans ex888)
            have w970 : h87 108 18 = x8 := ((S87 108 18 rfl).trans ((S80 108 18 rfl).trans ((S79 108 18 rfl).trans ((S77 108 18 rfl).trans ((S76 108 18 rfl).trans ex8)))))
            have w971 : h87 108 17 = x7 := ((S87 108 17 rfl).trans ((S80 108 17 rfl).trans ((S79 108 17 rfl).trans ((S77 108 17 rfl).trans ((S76 108 17 rfl).trans ex7)))))
            obtain ⟨x972, ex972⟩ : ∃ y : Int, h87 110 0 = y := ⟨_, rfl⟩
            have bx972 : 0 ≤ x972 ∧ x972 ≤ 24 := ex972 ▸ gw_0 G87
            have w973 : h87 110 0 = x972 := ex972
            have rm974 := A87.rooms
            refine z_putIH (M := M_X12_readMeasure) 131 dX12_readMeasure_131 p_X12_282 o_108 rfl (u_108_17 G87 (by omega) (by omega)) (R87.up rfl) (fun h88 E88 G88 R88 => ?_)
            have P88 := fx959_1.same (upN E88 (by decide)) (upN E88 (by decide)) (upN E88 (by decide)) (upN E88 (by decide))
            refine z_aload_n (M := M_X12_readMeasure) 134 dX12_readMeasure_134 rfl ?_
            refine z_iconst (M := M_X12_readMeasure) 135 dX12_readMeasure_135 ?_
            refine z_iload_n (M := M_X12_readMeasure) 136 dX12_readMeasure_136 rfl ?_
            refine z_iload_n (M := M_X12_readMeasure) 137 dX12_readMeasure_137 rfl ?_
            refine z_iload_n (M := M_X12_readMeasure) 138 dX12_readMeasure_138 rfl ?_
            refine z_iload (M := M_X12_readMeasure) 139 dX12_readMeasure_139 rfl ?_
            have w975 : h88 108 14 = x888 := ((upN E88 (fun q => absurd q.2 (by decide))).trans ((S87 108 14 rfl).trans ex888))
            have w976 : h88 108 16 = x6 := ((upN E88 (fun q => absurd q.2 (by decide))).trans ((S87 108 16 rfl).trans ((S80 108 16 rfl).trans ((S79 108 16 rfl).trans ((S77 108 16 rfl).trans ((S76 108 16 rfl).trans ex6))))))
            have w977 : h88 108 9 = x960 := ((upN E88 (fun q => absurd q.2 (by decide))).trans ex960)
            have w978 : h88 108 8 = x4 := ((upN E88 (fun q => absurd q.2 (by decide))).trans ((S87 108 8 rfl).trans ((S80 108 8 rfl).trans ((S79 108 8 rfl).trans ((S77 108 8 rfl).trans ((S76 108 8 rfl).trans ex4))))))
            have w979 : h88 108 10 = x961 := ((upN E88 (fun q => absurd q.2 (by decide))).trans ex961)
            have w980 : h88 108 17 = (x7 + 1) := (upE E88)
            have w981 : h88 108 18 = x8 := ((upN E88 (fun q => absurd q.2 (by decide))).trans ((S87 108 18 rfl).trans ((S80 108 18 rfl).trans ((S79 108 18 rfl).trans ((S77 108 18 rfl).trans ((S76 108 18 rfl).trans ex8))))))
            have w982 : h88 110 0 = x972 := ((upN E88 (fun q => absurd q.1 (by decide))).trans ex972)
            refine z_vV (M := M_X12_readMeasure) 141 dX12_readMeasure_141 t_X12_act l_X12_268 (m_rr_of rfl) (rest := []) (c_X12_act h88 3 a1 x852 x884 2 G88 (by by_cases hb : x888 = 0; ( exact Or.inr (by omega)); (exact Or.inl (by omega)))) o_108 rfl rfl rfl (Nat.le_of_ble_eq_true rfl) ⟨rfl, rfl⟩ (fun h89 qx983 => ?_)
            obtain ⟨G89, S89, fx983_0⟩ := qx983
            have R89 := R88.call S89 (by decide +kernel)
            have P89 := P88.fr S89 rfl rfl rfl rfl
            have A89 := AI_act3 A87 (by omega) E88 ((S87 108 17 rfl).trans ((S80 108 17 rfl).trans ((S79 108 17 rfl).trans ((S77 108 17 rfl).trans ((S76 108 17 rfl).trans ex7))))) (by omega) (by omega) fx983_0 (by unfold okA; omega)
            have w984 : h89 108 9 = x960 := ((S89 108 9 rfl).trans ((upN E88 (fun q => absurd q.2 (by decide))).trans ex960))
            have nx983 : 2 * h89 108 16 ≤ h89 108 9 := by rcases actQ_n fx983_0 with ⟨q1, q2⟩ | ⟨q1, q2⟩; (omega); ( omega)
            obtain ⟨x985, ex985⟩ : ∃ y : Int, h89 108 16 = y := ⟨_, rfl⟩
            have bx985 : 0 ≤ x985 ∧ x985 ≤ 200 := ex985 ▸ g_108_16 G89
            have w986 : h89 108 9 = x960 := ((S89 108 9 rfl).trans ((upN E88 (fun q => absurd q.2 (by decide))).trans ex960))
            have w987 : h89 108 10 = x961 := ((S89 108 10 rfl).trans ((upN E88 (fun q => absurd q.2 (by decide))).trans ex961))
            have w988 : h89 108 11 = x962 := ((S89 108 11 rfl).trans ((upN E88 (fun q => absurd q.2 (by decide))).trans ex962))
            have w989 : h89 108 8 = x4 := ((S89 108 8 rfl).trans ((upN E88 (fun q => absurd q.2 (by decide))).trans ((S87 108 8 rfl).trans ((S80 108 8 rfl).trans ((S79 108 8 rfl).trans ((S77 108 8 rfl).trans ((S76 108 8 rfl).trans ex4)))))))
            have w990 : h89 108 16 = x985 := ex985
            have w991 : h89 108 14 = x888 := ((S89 108 14 rfl).trans ((upN E88 (fun q => absurd q.2 (by decide))).trans ((S87 108 14 rfl).trans ex888)))
            exact z_retV (M := M_X12_readMeasure) 144 dX12_readMeasure_144 rfl ⟨G89, R89, by omega, P89, by omega, A89, fun q => by  omega⟩
          · refine z_if_eq_T (M := M_X12_readMeasure) 95 dX12_readMeasure_95 102 rfl (by omega) ?_
            refine z_iconst (M := M_X12_readMeasure) 102 dX12_readMeasure_102 ?_
            refine z_istore (M := M_X12_readMeasure) 103 dX12_readMeasure_103 (ls' := [some (mR 108), some (mI a1), some (mI x852), some (mI x884), some (mI 0)]) (by decide) rfl ?_
            refine z_iload (M := M_X12_readMeasure) 105 dX12_readMeasure_105 rfl ?_
            refine z_if_gt_F (M := M_X12_readMeasure) 107 dX12_readMeasure_107 120 rfl (by omega) ?_
            refine z_aload_n (M := M_X12_readMeasure) 110 dX12_readMeasure_110 rfl ?_
            refine z_ldc2 (M := M_X12_readMeasure) 111 dX12_readMeasure_111 k_X12_291 ?_
            refine z_vI (M := M_X12_readMeasure) 114 dX12_readMeasure_114 t_X12_isWord l_X12_260 (m_rr_of rfl) (rest := []) (c_X12_isWord h80 6030452 G80) o_108 rfl rfl rfl (Nat.le_of_ble_eq_true rfl) ⟨rfl, rfl⟩ (fun x992 h90 qx992 => ?_)
            obtain ⟨rfl, ⟨rfl, cx992⟩ | ⟨rfl, cx992⟩⟩ := qx992
            · refine z_if_eq_F (M := M_X12_readMeasure) 117 dX12_readMeasure_117 124 rfl (by omega) ?_
              refine z_aload_n (M := M_X12_readMeasure) 120 dX12_readMeasure_120 rfl ?_
              have w993 : h80 108 9 = x885 := ex885
              have w994 : h80 108 10 = x886 := ex886
              have w995 : h80 108 11 = x887 := ex887
              have l996 := fx884_1.lt (by omega)
              have w997 : h80 108 10 = x886 := ex886
              have w998 : h80 108 8 = x4 := ((S80 108 8 rfl).trans ((S79 108 8 rfl).trans ((S77 108 8 rfl).trans ((S76 108 8 rfl).trans ex4))))
              refine z_vV (M := M_X12_readMeasure) 121 dX12_readMeasure_121 t_X12_next l_X12_218 (m_rr_of rfl) (rest := []) (c_X12_next h80 G80 (by omega)) o_108 rfl rfl rfl (Nat.le_of_ble_eq_true rfl) ⟨rfl, rfl⟩ (fun h91 qx999 => ?_)
              obtain ⟨G91, S91, fx999_0, fx999_1⟩ := qx999
              have R91 := R80.call S91 (by decide +kernel)
              have A91 := A80.fr S91 (fun _ => rfl) rfl rfl rfl rfl rfl
              obtain ⟨x1000, ex1000⟩ : ∃ y : Int, h91 108 9 = y := ⟨_, rfl⟩
              have bx1000 : 0 ≤ x1000 ∧ x1000 ≤ 400 := ex1000 ▸ g_108_9 G91
              obtain ⟨x1001, ex1001⟩ : ∃ y : Int, h91 108 10 = y := ⟨_, rfl⟩
              have bx1001 : 0 ≤ x1001 ∧ x1001 ≤ 400 := ex1001 ▸ g_108_10 G91
              obtain ⟨x1002, ex1002⟩ : ∃ y : Int, h91 108 11 = y := ⟨_, rfl⟩
              have bx1002 : 0 ≤ x1002 ∧ x1002 ≤ 3 := ex1002 ▸ g_108_11 G91
              have w1003 : h91 108 9 = x1000 := ex1000
              have w1004 : h91 108 10 = x1001 := ex1001
              have w1005 : h91 108 11 = x1002 := ex1002
              have w1006 : h91 108 8 = x4 := ((S91 108 8 rfl).trans ((S80 108 8 rfl).trans ((S79 108 8 rfl).trans ((S77 108 8 rfl).trans ((S76 108 8 rfl).trans ex4)))))
              have l1007 := fx999_1.le
              refine z_aload_n (M := M_X12_readMeasure) 124 dX12_readMeasure_124 rfl ?_
              refine z_dup (M := M_X12_readMeasure) 125 dX12_readMeasure_125 rfl ?_
              refine z_getIE (M := M_X12_readMeasure) 126 dX12_readMeasure_126 f_X12_282 o_108 (by decide) ((S91 108 17 rfl).trans ((S80 108 17 rfl).trans ((S79 108 17 rfl).trans ((S77 108 17 rfl).trans ((S76 108 17 rfl).trans ex7))))) ?_
              refine z_iconst (M := M_X12_readMeasure) 129 dX12_readMeasure_129 ?_
              refine z_iaddN (M := M_X12_readMeasure) 130 dX12_readMeasure_130 (by omega) (by omega) ?_
              have w1008 : h91 108 16 = x6 := ((S91 108 16 rfl).trans ((S80 108 16 rfl).trans ((S79 108 16 rfl).trans ((S77 108 16 rfl).trans ((S76 108 16 rfl).trans ex6)))))
              have w1009 : h91 108 14 = x888 := ((S91 108 14 rfl).trans ex888)
              have w1010 : h91 108 18 = x8 := ((S91 108 18 rfl).trans ((S80 108 18 rfl).trans ((S79 108 18 rfl).trans ((S77 108 18 rfl).trans ((S76 108 18 rfl).trans ex8)))))
              have w1011 : h91 108 17 = x7 := ((S91 108 17 rfl).trans ((S80 108 17 rfl).trans ((S79 108 17 rfl).trans ((S77 108 17 rfl).trans ((S76 108 17 rfl).trans ex7)))))
              obtain ⟨x1012, ex1012⟩ : ∃ y : Int, h91 110 0 = y := ⟨_, rfl⟩
              have bx1012 : 0 ≤ x1012 ∧ x1012 ≤ 24 := ex1012 ▸ gw_0 G91
              have w1013 : h91 110 0 = x1012 := ex1012
              have rm1014 := A91.rooms
              refine z_putIH (M := M_X12_readMeasure) 131 dX12_readMeasure_131 p_X12_282 o_108 rfl (u_108_17 G91 (by omega) (by omega)) (R91.up rfl) (fun h92 E92 G92 R92 => ?_)
              have P92 := fx999_1.same (upN E92 (by decide)) (upN E92 (by decide)) (upN E92 (by decide)) (upN E92 (by decide))
              refine z_aload_n (M := M_X12_readMeasure) 134 dX12_readMeasure_134 rfl ?_
              refine z_iconst (M := M_X12_readMeasure) 135 dX12_readMeasure_135 ?_
              refine z_iload_n (M := M_X12_readMeasure) 136 dX12_readMeasure_136 rfl ?_
              refine z_iload_n (M := M_X12_readMeasure) 137 dX12_readMeasure_137 rfl ?_
              refine z_iload_n (M := M_X12_readMeasure) 138 dX12_readMeasure_138 rfl ?_
              refine z_iload (M := M_X12_readMeasure) 139 dX12_readMeasure_139 rfl ?_
              have w1015 : h92 108 14 = x888 := ((upN E92 (fun q => absurd q.2 (by decide))).trans ((S91 108 14 rfl).trans ex888))
              have w1016 : h92 108 16 = x6 := ((upN E92 (fun q => absurd q.2 (by decide))).trans ((S91 108 16 rfl).trans ((S80 108 16 rfl).trans ((S79 108 16 rfl).trans ((S77 108 16 rfl).trans ((S76 108 16 rfl).trans ex6))))))
              have w1017 : h92 108 9 = x1000 := ((upN E92 (fun q => absurd q.2 (by decide))).trans ex1000)
              have w1018 : h92 108 8 = x4 := ((upN E92 (fun q => absurd q.2 (by decide))).trans ((S91 108 8 rfl).trans ((S80 108 8 rfl).trans ((S79 108 8 rfl).trans ((S77 108 8 rfl).trans ((S76 108 8 rfl).trans ex4))))))
              have w1019 : h92 108 10 = x1001 := ((upN E92 (fun q => absurd q.2 (by decide))).trans ex1001)
              have w1020 : h92 108 17 = (x7 + 1) := (upE E92)
              have w1021 : h92 108 18 = x8 := ((upN E92 (fun q => absurd q.2 (by decide))).trans ((S91 108 18 rfl).trans ((S80 108 18 rfl).trans ((S79 108 18 rfl).trans ((S77 108 18 rfl).trans ((S76 108 18 rfl).trans ex8))))))
              have w1022 : h92 110 0 = x1012 := ((upN E92 (fun q => absurd q.1 (by decide))).trans ex1012)
              refine z_vV (M := M_X12_readMeasure) 141 dX12_readMeasure_141 t_X12_act l_X12_268 (m_rr_of rfl) (rest := []) (c_X12_act h92 3 a1 x852 x884 0 G92 (by by_cases hb : x888 = 0; ( exact Or.inr (by omega)); (exact Or.inl (by omega)))) o_108 rfl rfl rfl (Nat.le_of_ble_eq_true rfl) ⟨rfl, rfl⟩ (fun h93 qx1023 => ?_)
              obtain ⟨G93, S93, fx1023_0⟩ := qx1023
              have R93 := R92.call S93 (by decide +kernel)
              have P93 := P92.fr S93 rfl rfl rfl rfl
              have A93 := AI_act3 A91 (by omega) E92 ((S91 108 17 rfl).trans ((S80 108 17 rfl).trans ((S79 108 17 rfl).trans ((S77 108 17 rfl).trans ((S76 108 17 rfl).trans ex7))))) (by omega) (by omega) fx1023_0 (by unfold okA; omega)
              have w1024 : h93 108 9 = x1000 := ((S93 108 9 rfl).trans ((upN E92 (fun q => absurd q.2 (by decide))).trans ex1000))
              have nx1023 : 2 * h93 108 16 ≤ h93 108 9 := by rcases actQ_n fx1023_0 with ⟨q1, q2⟩ | ⟨q1, q2⟩; (omega); ( omega)
              obtain ⟨x1025, ex1025⟩ : ∃ y : Int, h93 108 16 = y := ⟨_, rfl⟩
              have bx1025 : 0 ≤ x1025 ∧ x1025 ≤ 200 := ex1025 ▸ g_108_16 G93
              have w1026 : h93 108 9 = x1000 := ((S93 108 9 rfl).trans ((upN E92 (fun q => absurd q.2 (by decide))).trans ex1000))
              have w1027 : h93 108 10 = x1001 := ((S93 108 10 rfl).trans ((upN E92 (fun q => absurd q.2 (by decide))).trans ex1001))
              have w1028 : h93 108 11 = x1002 := ((S93 108 11 rfl).trans ((upN E92 (fun q => absurd q.2 (by decide))).trans ex1002))
              have w1029 : h93 108 8 = x4 := ((S93 108 8 rfl).trans ((upN E92 (fun q => absurd q.2 (by decide))).trans ((S91 108 8 rfl).trans ((S80 108 8 rfl).trans ((S79 108 8 rfl).trans ((S77 108 8 rfl).trans ((S76 108 8 rfl).trans ex4)))))))
              have w1030 : h93 108 16 = x1025 := ex1025
              have w1031 : h93 108 14 = x888 := ((S93 108 14 rfl).trans ((upN E92 (fun q => absurd q.2 (by decide))).trans ((S91 108 14 rfl).trans ex888)))
              exact z_retV (M := M_X12_readMeasure) 144 dX12_readMeasure_144 rfl ⟨G93, R93, by omega, P93, by omega, A93, fun q => by  omega⟩
            · refine z_if_eq_T (M := M_X12_readMeasure) 117 dX12_readMeasure_117 124 rfl (by omega) ?_
              refine z_aload_n (M := M_X12_readMeasure) 124 dX12_readMeasure_124 rfl ?_
              refine z_dup (M := M_X12_readMeasure) 125 dX12_readMeasure_125 rfl ?_
              refine z_getIE (M := M_X12_readMeasure) 126 dX12_readMeasure_126 f_X12_282 o_108 (by decide) ((S80 108 17 rfl).trans ((S79 108 17 rfl).trans ((S77 108 17 rfl).trans ((S76 108 17 rfl).trans ex7)))) ?_
              refine z_iconst (M := M_X12_readMeasure) 129 dX12_readMeasure_129 ?_
              refine z_iaddN (M := M_X12_readMeasure) 130 dX12_readMeasure_130 (by omega) (by omega) ?_
              have w1032 : h80 108 16 = x6 := ((S80 108 16 rfl).trans ((S79 108 16 rfl).trans ((S77 108 16 rfl).trans ((S76 108 16 rfl).trans ex6))))
              have w1033 : h80 108 14 = x888 := ex888
              have w1034 : h80 108 18 = x8 := ((S80 108 18 rfl).trans ((S79 108 18 rfl).trans ((S77 108 18 rfl).trans ((S76 108 18 rfl).trans ex8))))
              have w1035 : h80 108 17 = x7 := ((S80 108 17 rfl).trans ((S79 108 17 rfl).trans ((S77 108 17 rfl).trans ((S76 108 17 rfl).trans ex7))))
              obtain ⟨x1036, ex1036⟩ : ∃ y : Int, h80 110 0 = y := ⟨_, rfl⟩
              have bx1036 : 0 ≤ x1036 ∧ x1036 ≤ 24 := ex1036 ▸ gw_0 G80
              have w1037 : h80 110 0 = x1036 := ex1036
              have rm1038 := A80.rooms
              refine z_putIH (M := M_X12_readMeasure) 131 dX12_readMeasure_131 p_X12_282 o_108 rfl (u_108_17 G80 (by omega) (by omega)) (R80.up rfl) (fun h94 E94 G94 R94 => ?_)
              have P94 := fx884_1.same (upN E94 (by decide)) (upN E94 (by decide)) (upN E94 (by decide)) (upN E94 (by decide))
              refine z_aload_n (M := M_X12_readMeasure) 134 dX12_readMeasure_134 rfl ?_
              refine z_iconst (M := M_X12_readMeasure) 135 dX12_readMeasure_135 ?_
              refine z_iload_n (M := M_X12_readMeasure) 136 dX12_readMeasure_136 rfl ?_
              refine z_iload_n (M := M_X12_readMeasure) 137 dX12_readMeasure_137 rfl ?_
              refine z_iload_n (M := M_X12_readMeasure) 138 dX12_readMeasure_138 rfl ?_
              refine z_iload (M := M_X12_readMeasure) 139 dX12_readMeasure_139 rfl ?_
              have w1039 : h94 108 14 = x888 := ((upN E94 (fun q => absurd q.2 (by decide))).trans ex888)
              have w1040 : h94 108 16 = x6 := ((upN E94 (fun q => absurd q.2 (by decide))).trans ((S80 108 16 rfl).trans ((S79 108 16 rfl).trans ((S77 108 16 rfl).trans ((S76 108 16 rfl).trans ex6)))))
              have w1041 : h94 108 9 = x885 := ((upN E94 (fun q => absurd q.2 (by decide))).trans ex885)
              have w1042 : h94 108 8 = x4 := ((upN E94 (fun q => absurd q.2 (by decide))).trans ((S80 108 8 rfl).trans ((S79 108 8 rfl).trans ((S77 108 8 rfl).trans ((S76 108 8 rfl).trans ex4)))))
              have w1043 : h94 108 10 = x886 := ((upN E94 (fun q => absurd q.2 (by decide))).trans ex886)
              have w1044 : h94 108 17 = (x7 + 1) := (upE E94)
              have w1045 : h94 108 18 = x8 := ((upN E94 (fun q => absurd q.2 (by decide))).trans ((S80 108 18 rfl).trans ((S79 108 18 rfl).trans ((S77 108 18 rfl).trans ((S76 108 18 rfl).trans ex8)))))
              have w1046 : h94 110 0 = x1036 := ((upN E94 (fun q => absurd q.1 (by decide))).trans ex1036)
              refine z_vV (M := M_X12_readMeasure) 141 dX12_readMeasure_141 t_X12_act l_X12_268 (m_rr_of rfl) (rest := []) (c_X12_act h94 3 a1 x852 x884 0 G94 (by by_cases hb : x888 = 0; ( exact Or.inr (by omega)); (exact Or.inl (by omega)))) o_108 rfl rfl rfl (Nat.le_of_ble_eq_true rfl) ⟨rfl, rfl⟩ (fun h95 qx1047 => ?_)
              obtain ⟨G95, S95, fx1047_0⟩ := qx1047
              have R95 := R94.call S95 (by decide +kernel)
              have P95 := P94.fr S95 rfl rfl rfl rfl
              have A95 := AI_act3 A80 (by omega) E94 ((S80 108 17 rfl).trans ((S79 108 17 rfl).trans ((S77 108 17 rfl).trans ((S76 108 17 rfl).trans ex7)))) (by omega) (by omega) fx1047_0 (by unfold okA; omega)
              have w1048 : h95 108 9 = x885 := ((S95 108 9 rfl).trans ((upN E94 (fun q => absurd q.2 (by decide))).trans ex885))
              have nx1047 : 2 * h95 108 16 ≤ h95 108 9 := by rcases actQ_n fx1047_0 with ⟨q1, q2⟩ | ⟨q1, q2⟩; (omega); ( omega)
              obtain ⟨x1049, ex1049⟩ : ∃ y : Int, h95 108 16 = y := ⟨_, rfl⟩
              have bx1049 : 0 ≤ x1049 ∧ x1049 ≤ 200 := ex1049 ▸ g_108_16 G95
              have w1050 : h95 108 9 = x885 := ((S95 108 9 rfl).trans ((upN E94 (fun q => absurd q.2 (by decide))).trans ex885))
              have w1051 : h95 108 10 = x886 := ((S95 108 10 rfl).trans ((upN E94 (fun q => absurd q.2 (by decide))).trans ex886))
              have w1052 : h95 108 11 = x887 := ((S95 108 11 rfl).trans ((upN E94 (fun q => absurd q.2 (by decide))).trans ex887))
              have w1053 : h95 108 8 = x4 := ((S95 108 8 rfl).trans ((upN E94 (fun q => absurd q.2 (by decide))).trans ((S80 108 8 rfl).trans ((S79 108 8 rfl).trans ((S77 108 8 rfl).trans ((S76 108 8 rfl).trans ex4))))))
              have w1054 : h95 108 16 = x1049 := ex1049
              have w1055 : h95 108 14 = x888 := ((S95 108 14 rfl).trans ((upN E94 (fun q => absurd q.2 (by decide))).trans ex888))
              exact z_retV (M := M_X12_readMeasure) 144 dX12_readMeasure_144 rfl ⟨G95, R95, by omega, P95, by omega, A95, fun q => by  omega⟩
    · have w1056 : h77 108 9 = x853 := ex853
      have w1057 : h77 108 10 = x854 := ex854
      have w1058 : h77 108 11 = x855 := ex855
      have w1059 : h77 108 8 = x4 := ((S77 108 8 rfl).trans ((S76 108 8 rfl).trans ex4))
      refine z_vV (M := M_X12_readMeasure) 52 dX12_readMeasure_52 t_X12_must l_X12_247 (m_rr_of rfl) (rest := []) (c_X12_must h77 0 G77 ⟨by omega, by omega⟩ fx852_1) o_108 rfl rfl rfl (Nat.le_of_ble_eq_true rfl) ⟨rfl, rfl⟩ (fun h96 qx1060 => ?_)
      obtain ⟨G96, S96, fx1060_0, fx1060_1, fx1060_2⟩ := qx1060
      have R96 := R77.call S96 (by decide +kernel)
      have A96 := A77.fr S96 (fun _ => rfl) rfl rfl rfl rfl rfl
      obtain ⟨x1061, ex1061⟩ : ∃ y : Int, h96 108 9 = y := ⟨_, rfl⟩
      have bx1061 : 0 ≤ x1061 ∧ x1061 ≤ 400 := ex1061 ▸ g_108_9 G96
      obtain ⟨x1062, ex1062⟩ : ∃ y : Int, h96 108 10 = y := ⟨_, rfl⟩
      have bx1062 : 0 ≤ x1062 ∧ x1062 ≤ 400 := ex1062 ▸ g_108_10 G96
      obtain ⟨x1063, ex1063⟩ : ∃ y : Int, h96 108 11 = y := ⟨_, rfl⟩
      have bx1063 : 0 ≤ x1063 ∧ x1063 ≤ 3 := ex1063 ▸ g_108_11 G96
      obtain ⟨x1064, ex1064⟩ : ∃ y : Int, h96 108 14 = y := ⟨_, rfl⟩
      have bx1064 : 0 ≤ x1064 ∧ x1064 ≤ 1 := ex1064 ▸ g_108_14 G96
      have w1065 : h96 108 9 = x1061 := ex1061
      have w1066 : h96 108 10 = x1062 := ex1062
      have w1067 : h96 108 11 = x1063 := ex1063
      have w1068 : h96 108 8 = x4 := ((S96 108 8 rfl).trans ((S77 108 8 rfl).trans ((S76 108 8 rfl).trans ex4)))
      have w1069 : h96 108 14 = x1064 := ex1064
      have l1070 := fx1060_1.le
      have nbx1060 : x1064 ≠ 0 := fun q => by have q2 := fx1060_2 (by omega); omega
      refine z_aload_n (M := M_X12_readMeasure) 55 dX12_readMeasure_55 rfl ?_
      refine z_lconst (M := M_X12_readMeasure) 56 dX12_readMeasure_56 (v := 1) ?_
      refine z_ldc2 (M := M_X12_readMeasure) 57 dX12_readMeasure_57 k_X12_180 ?_
      have w1071 : h96 108 9 = x1061 := ex1061
      have w1072 : h96 108 10 = x1062 := ex1062
      have w1073 : h96 108 11 = x1063 := ex1063
      have w1074 : h96 108 8 = x4 := ((S96 108 8 rfl).trans ((S77 108 8 rfl).trans ((S76 108 8 rfl).trans ex4)))
      have w1075 : h96 108 14 = x1064 := ex1064
      refine z_vI (M := M_X12_readMeasure) 60 dX12_readMeasure_60 t_X12_number l_X12_254 (m_rr_of rfl) (rest := []) (c_X12_number h96 1 99 G96 ⟨by omega, by omega⟩ ⟨by omega, by omega⟩ fx1060_1) o_108 rfl rfl rfl (Nat.le_of_ble_eq_true rfl) ⟨rfl, rfl⟩ (fun x1076 h97 qx1076 => ?_)
      obtain ⟨G97, S97, fx1076_0, fx1076_1, fx1076_2⟩ := qx1076
      have R97 := R96.call S97 (by decide +kernel)
      have A97 := A96.fr S97 (fun _ => rfl) rfl rfl rfl rfl rfl
      refine z_ok (fun ox1076 _ _ => ?_)
      have ox1076 := ox1076.1; unfold m_ok m_32 at ox1076
      obtain ⟨x1077, ex1077⟩ : ∃ y : Int, h97 108 9 = y := ⟨_, rfl⟩
      have bx1077 : 0 ≤ x1077 ∧ x1077 ≤ 400 := ex1077 ▸ g_108_9 G97
      obtain ⟨x1078, ex1078⟩ : ∃ y : Int, h97 108 10 = y := ⟨_, rfl⟩
      have bx1078 : 0 ≤ x1078 ∧ x1078 ≤ 400 := ex1078 ▸ g_108_10 G97
      obtain ⟨x1079, ex1079⟩ : ∃ y : Int, h97 108 11 = y := ⟨_, rfl⟩
      have bx1079 : 0 ≤ x1079 ∧ x1079 ≤ 3 := ex1079 ▸ g_108_11 G97
      obtain ⟨x1080, ex1080⟩ : ∃ y : Int, h97 108 14 = y := ⟨_, rfl⟩
      have bx1080 : 0 ≤ x1080 ∧ x1080 ≤ 1 := ex1080 ▸ g_108_14 G97
      have w1081 : h97 108 9 = x1077 := ex1077
      have w1082 : h97 108 10 = x1078 := ex1078
      have w1083 : h97 108 11 = x1079 := ex1079
      have w1084 : h97 108 8 = x4 := ((S97 108 8 rfl).trans ((S96 108 8 rfl).trans ((S77 108 8 rfl).trans ((S76 108 8 rfl).trans ex4))))
      have w1085 : h97 108 14 = x1080 := ex1080
      have l1086 := fx1076_1.le
      refine z_istore_n (M := M_X12_readMeasure) 63 dX12_readMeasure_63 (ls' := [some (mR 108), some (mI a1), some (mI x852), some (mI x1076), none]) (by decide) rfl ?_
      refine z_iconst (M := M_X12_readMeasure) 64 dX12_readMeasure_64 ?_
      refine z_istore (M := M_X12_readMeasure) 65 dX12_readMeasure_65 (ls' := [some (mR 108), some (mI a1), some (mI x852), some (mI x1076), some (mI 0)]) (by decide) rfl ?_
      refine z_aload_n (M := M_X12_readMeasure) 67 dX12_readMeasure_67 rfl ?_
      refine z_getIE (M := M_X12_readMeasure) 68 dX12_readMeasure_68 f_X12_214 o_108 (by decide) ex1080 ?_
      refine z_if_ne (M := M_X12_readMeasure) 71 dX12_readMeasure_71 134 rfl (fun c1087 => ?_) (fun c1087 => ?_)
      · refine z_aload_n (M := M_X12_readMeasure) 134 dX12_readMeasure_134 rfl ?_
        refine z_iconst (M := M_X12_readMeasure) 135 dX12_readMeasure_135 ?_
        refine z_iload_n (M := M_X12_readMeasure) 136 dX12_readMeasure_136 rfl ?_
        refine z_iload_n (M := M_X12_readMeasure) 137 dX12_readMeasure_137 rfl ?_
        refine z_iload_n (M := M_X12_readMeasure) 138 dX12_readMeasure_138 rfl ?_
        refine z_iload (M := M_X12_readMeasure) 139 dX12_readMeasure_139 rfl ?_
        have w1088 : h97 108 14 = x1080 := ex1080
        have w1089 : h97 108 16 = x6 := ((S97 108 16 rfl).trans ((S96 108 16 rfl).trans ((S77 108 16 rfl).trans ((S76 108 16 rfl).trans ex6))))
        have w1090 : h97 108 9 = x1077 := ex1077
        have w1091 : h97 108 8 = x4 := ((S97 108 8 rfl).trans ((S96 108 8 rfl).trans ((S77 108 8 rfl).trans ((S76 108 8 rfl).trans ex4))))
        have w1092 : h97 108 10 = x1078 := ex1078
        have w1093 : h97 108 17 = x7 := ((S97 108 17 rfl).trans ((S96 108 17 rfl).trans ((S77 108 17 rfl).trans ((S76 108 17 rfl).trans ex7))))
        have w1094 : h97 108 18 = x8 := ((S97 108 18 rfl).trans ((S96 108 18 rfl).trans ((S77 108 18 rfl).trans ((S76 108 18 rfl).trans ex8))))
        refine z_vV (M := M_X12_readMeasure) 141 dX12_readMeasure_141 t_X12_act l_X12_268 (m_rr_of rfl) (rest := []) (c_X12_act h97 3 a1 x852 x1076 0 G97 (by by_cases hb : x1080 = 0; (have ufx1076_2 := fx1076_2 (by omega); have ufx1060_2 := fx1060_2 (by omega); have ufx852_2 := fx852_2 (by omega); have ufx836_2 := fx836_2 (by omega); exact Or.inr (by omega)); (exact Or.inl (by omega)))) o_108 rfl rfl rfl (Nat.le_of_ble_eq_true rfl) ⟨rfl, rfl⟩ (fun h98 qx1095 => ?_)
        obtain ⟨G98, S98, fx1095_0⟩ := qx1095
        have R98 := R97.call S98 (by decide +kernel)
        have P98 := fx1076_1.fr S98 rfl rfl rfl rfl
        have A98 := actQ_bad fx1095_0 (by omega) A97
        have w1096 : h98 108 9 = x1077 := ((S98 108 9 rfl).trans ex1077)
        have nx1095 : 2 * h98 108 16 ≤ h98 108 9 := by rcases actQ_n fx1095_0 with ⟨q1, q2⟩ | ⟨q1, q2⟩; (omega); (have ufx1076_2 := fx1076_2 (by omega); have ufx1060_2 := fx1060_2 (by omega); have ufx852_2 := fx852_2 (by omega); have ufx836_2 := fx836_2 (by omega); omega)
        obtain ⟨x1097, ex1097⟩ : ∃ y : Int, h98 108 16 = y := ⟨_, rfl⟩
        have bx1097 : 0 ≤ x1097 ∧ x1097 ≤ 200 := ex1097 ▸ g_108_16 G98
        have w1098 : h98 108 9 = x1077 := ((S98 108 9 rfl).trans ex1077)
        have w1099 : h98 108 10 = x1078 := ((S98 108 10 rfl).trans ex1078)
        have w1100 : h98 108 11 = x1079 := ((S98 108 11 rfl).trans ex1079)
        have w1101 : h98 108 8 = x4 := ((S98 108 8 rfl).trans ((S97 108 8 rfl).trans ((S96 108 8 rfl).trans ((S77 108 8 rfl).trans ((S76 108 8 rfl).trans ex4)))))
        have w1102 : h98 108 16 = x1097 := ex1097
        have w1103 : h98 108 14 = x1080 := ((S98 108 14 rfl).trans ex1080)
        exact z_retV (M := M_X12_readMeasure) 144 dX12_readMeasure_144 rfl ⟨G98, R98, by omega, P98, by omega, A98, fun q => by have ufx1076_2 := fx1076_2 (by omega); have ufx1060_2 := fx1060_2 (by omega); have ufx852_2 := fx852_2 (by omega); have ufx836_2 := fx836_2 (by omega); omega⟩
      · have ufx1076_2 := fx1076_2 (by omega)
        have ufx1060_2 := fx1060_2 (by omega)
        have ufx852_2 := fx852_2 (by omega)
        have ufx836_2 := fx836_2 (by omega)
        refine z_aload_n (M := M_X12_readMeasure) 74 dX12_readMeasure_74 rfl ?_
        refine z_ldc2 (M := M_X12_readMeasure) 75 dX12_readMeasure_75 k_X12_287 ?_
        refine z_vI (M := M_X12_readMeasure) 78 dX12_readMeasure_78 t_X12_isWord l_X12_260 (m_rr_of rfl) (rest := []) (c_X12_isWord h97 24395141 G97) o_108 rfl rfl rfl (Nat.le_of_ble_eq_true rfl) ⟨rfl, rfl⟩ (fun x1104 h99 qx1104 => ?_)
        obtain ⟨rfl, ⟨rfl, cx1104⟩ | ⟨rfl, cx1104⟩⟩ := qx1104
        · refine z_if_eq_F (M := M_X12_readMeasure) 81 dX12_readMeasure_81 88 rfl (by omega) ?_
          refine z_iconst (M := M_X12_readMeasure) 84 dX12_readMeasure_84 ?_
          refine z_goto (M := M_X12_readMeasure) 85 dX12_readMeasure_85 103 rfl ?_
          refine z_istore (M := M_X12_readMeasure) 103 dX12_readMeasure_103 (ls' := [some (mR 108), some (mI a1), some (mI x852), some (mI x1076), some (mI 1)]) (by decide) rfl ?_
          refine z_iload (M := M_X12_readMeasure) 105 dX12_readMeasure_105 rfl ?_
          refine z_if_gt_T (M := M_X12_readMeasure) 107 dX12_readMeasure_107 120 rfl (by omega) ?_
          refine z_aload_n (M := M_X12_readMeasure) 120 dX12_readMeasure_120 rfl ?_
          have w1105 : h97 108 9 = x1077 := ex1077
          have w1106 : h97 108 10 = x1078 := ex1078
          have w1107 : h97 108 11 = x1079 := ex1079
          have l1108 := fx1076_1.lt (by omega)
          have w1109 : h97 108 10 = x1078 := ex1078
          have w1110 : h97 108 8 = x4 := ((S97 108 8 rfl).trans ((S96 108 8 rfl).trans ((S77 108 8 rfl).trans ((S76 108 8 rfl).trans ex4))))
          refine z_vV (M := M_X12_readMeasure) 121 dX12_readMeasure_121 t_X12_next l_X12_218 (m_rr_of rfl) (rest := []) (c_X12_next h97 G97 (by omega)) o_108 rfl rfl rfl (Nat.le_of_ble_eq_true rfl) ⟨rfl, rfl⟩ (fun h100 qx1111 => ?_)
          obtain ⟨G100, S100, fx1111_0, fx1111_1⟩ := qx1111
          have R100 := R97.call S100 (by decide +kernel)
          have A100 := A97.fr S100 (fun _ => rfl) rfl rfl rfl rfl rfl
          obtain ⟨x1112, ex1112⟩ : ∃ y : Int, h100 108 9 = y := ⟨_, rfl⟩
          have bx1112 : 0 ≤ x1112 ∧ x1112 ≤ 400 := ex1112 ▸ g_108_9 G100
          obtain ⟨x1113, ex1113⟩ : ∃ y : Int, h100 108 10 = y := ⟨_, rfl⟩
          have bx1113 : 0 ≤ x1113 ∧ x1113 ≤ 400 := ex1113 ▸ g_108_10 G100
          obtain ⟨x1114, ex1114⟩ : ∃ y : Int, h100 108 11 = y := ⟨_, rfl⟩
          have bx1114 : 0 ≤ x1114 ∧ x1114 ≤ 3 := ex1114 ▸ g_108_11 G100
          have w1115 : h100 108 9 = x1112 := ex1112
          have w1116 : h100 108 10 = x1113 := ex1113
          have w1117 : h100 108 11 = x1114 := ex1114
          have w1118 : h100 108 8 = x4 := ((S100 108 8 rfl).trans ((S97 108 8 rfl).trans ((S96 108 8 rfl).trans ((S77 108 8 rfl).trans ((S76 108 8 rfl).trans ex4)))))
          have l1119 := fx1111_1.le
          refine z_aload_n (M := M_X12_readMeasure) 124 dX12_readMeasure_124 rfl ?_
          refine z_dup (M := M_X12_readMeasure) 125 dX12_readMeasure_125 rfl ?_
          refine z_getIE (M := M_X12_readMeasure) 126 dX12_readMeasure_126 f_X12_282 o_108 (by decide) ((S100 108 17 rfl).trans ((S97 108 17 rfl).trans ((S96 108 17 rfl).trans ((S77 108 17 rfl).trans ((S76 108 17 rfl).trans ex7))))) ?_
          refine z_iconst (M := M_X12_readMeasure) 129 dX12_readMeasure_129 ?_
          refine z_iaddN (M := M_X12_readMeasure) 130 dX12_readMeasure_130 (by omega) (by omega) ?_
          have w1120 : h100 108 16 = x6 := ((S100 108 16 rfl).trans ((S97 108 16 rfl).trans ((S96 108 16 rfl).trans ((S77 108 16 rfl).trans ((S76 108 16 rfl).trans ex6)))))
          have w1121 : h100 108 14 = x1080 := ((S100 108 14 rfl).trans ex1080)
          have w1122 : h100 108 18 = x8 := ((S100 108 18 rfl).trans ((S97 108 18 rfl).trans ((S96 108 18 rfl).trans ((S77 108 18 rfl).trans ((S76 108 18 rfl).trans ex8)))))
          have w1123 : h100 108 17 = x7 := ((S100 108 17 rfl).trans ((S97 108 17 rfl).trans ((S96 108 17 rfl).trans ((S77 108 17 rfl).trans ((S76 108 17 rfl).trans ex7)))))
          obtain ⟨x1124, ex1124⟩ : ∃ y : Int, h100 110 0 = y := ⟨_, rfl⟩
          have bx1124 : 0 ≤ x1124 ∧ x1124 ≤ 24 := ex1124 ▸ gw_0 G100
          have w1125 : h100 110 0 = x1124 := ex1124
          have rm1126 := A100.rooms
          refine z_putIH (M := M_X12_readMeasure) 131 dX12_readMeasure_131 p_X12_282 o_108 rfl (u_108_17 G100 (by omega) (by omega)) (R100.up rfl) (fun h101 E101 G101 R101 => ?_)
          have P101 := fx1111_1.same (upN E101 (by decide)) (upN E101 (by decide)) (upN E101 (by decide)) (upN E101 (by decide))
          refine z_aload_n (M := M_X12_readMeasure) 134 dX12_readMeasure_134 rfl ?_
          refine z_iconst (M := M_X12_readMeasure) 135 dX12_readMeasure_135 ?_
          refine z_iload_n (M := M_X12_readMeasure) 136 dX12_readMeasure_136 rfl ?_
          refine z_iload_n (M := M_X12_readMeasure) 137 dX12_readMeasure_137 rfl ?_
          refine z_iload_n (M := M_X12_readMeasure) 138 dX12_readMeasure_138 rfl ?_
          refine z_iload (M := M_X12_readMeasure) 139 dX12_readMeasure_139 rfl ?_
          have w1127 : h101 108 14 = x1080 := ((upN E101 (fun q => absurd q.2 (by decide))).trans ((S100 108 14 rfl).trans ex1080))
          have w1128 : h101 108 16 = x6 := ((upN E101 (fun q => absurd q.2 (by decide))).trans ((S100 108 16 rfl).trans ((S97 108 16 rfl).trans ((S96 108 16 rfl).trans ((S77 108 16 rfl).trans ((S76 108 16 rfl).trans ex6))))))
          have w1129 : h101 108 9 = x1112 := ((upN E101 (fun q => absurd q.2 (by decide))).trans ex1112)
          have w1130 : h101 108 8 = x4 := ((upN E101 (fun q => absurd q.2 (by decide))).trans ((S100 108 8 rfl).trans ((S97 108 8 rfl).trans ((S96 108 8 rfl).trans ((S77 108 8 rfl).trans ((S76 108 8 rfl).trans ex4))))))
          have w1131 : h101 108 10 = x1113 := ((upN E101 (fun q => absurd q.2 (by decide))).trans ex1113)
          have w1132 : h101 108 17 = (x7 + 1) := (upE E101)
          have w1133 : h101 108 18 = x8 := ((upN E101 (fun q => absurd q.2 (by decide))).trans ((S100 108 18 rfl).trans ((S97 108 18 rfl).trans ((S96 108 18 rfl).trans ((S77 108 18 rfl).trans ((S76 108 18 rfl).trans ex8))))))
          have w1134 : h101 110 0 = x1124 := ((upN E101 (fun q => absurd q.1 (by decide))).trans ex1124)
          refine z_vV (M := M_X12_readMeasure) 141 dX12_readMeasure_141 t_X12_act l_X12_268 (m_rr_of rfl) (rest := []) (c_X12_act h101 3 a1 x852 x1076 1 G101 (by by_cases hb : x1080 = 0; ( exact Or.inr (by omega)); (exact Or.inl (by omega)))) o_108 rfl rfl rfl (Nat.le_of_ble_eq_true rfl) ⟨rfl, rfl⟩ (fun h102 qx1135 => ?_)
          obtain ⟨G102, S102, fx1135_0⟩ := qx1135
          have R102 := R101.call S102 (by decide +kernel)
          have P102 := P101.fr S102 rfl rfl rfl rfl
          have A102 := AI_act3 A100 (by omega) E101 ((S100 108 17 rfl).trans ((S97 108 17 rfl).trans ((S96 108 17 rfl).trans ((S77 108 17 rfl).trans ((S76 108 17 rfl).trans ex7))))) (by omega) (by omega) fx1135_0 (by unfold okA; omega)
          have w1136 : h102 108 9 = x1112 := ((S102 108 9 rfl).trans ((upN E101 (fun q => absurd q.2 (by decide))).trans ex1112))
          have nx1135 : 2 * h102 108 16 ≤ h102 108 9 := by rcases actQ_n fx1135_0 with ⟨q1, q2⟩ | ⟨q1, q2⟩; (omega); ( omega)
          obtain ⟨x1137, ex1137⟩ : ∃ y : Int, h102 108 16 = y := ⟨_, rfl⟩
          have bx1137 : 0 ≤ x1137 ∧ x1137 ≤ 200 := ex1137 ▸ g_108_16 G102
          have w1138 : h102 108 9 = x1112 := ((S102 108 9 rfl).trans ((upN E101 (fun q => absurd q.2 (by decide))).trans ex1112))
          have w1139 : h102 108 10 = x1113 := ((S102 108 10 rfl).trans ((upN E101 (fun q => absurd q.2 (by decide))).trans ex1113))
          have w1140 : h102 108 11 = x1114 := ((S102 108 11 rfl).trans ((upN E101 (fun q => absurd q.2 (by decide))).trans ex1114))
          have w1141 : h102 108 8 = x4 := ((S102 108 8 rfl).trans ((upN E101 (fun q => absurd q.2 (by decide))).trans ((S100 108 8 rfl).trans ((S97 108 8 rfl).trans ((S96 108 8 rfl).trans ((S77 108 8 rfl).trans ((S76 108 8 rfl).trans ex4)))))))
          have w1142 : h102 108 16 = x1137 := ex1137
          have w1143 : h102 108 14 = x1080 := ((S102 108 14 rfl).trans ((upN E101 (fun q => absurd q.2 (by decide))).trans ((S100 108 14 rfl).trans ex1080)))
          exact z_retV (M := M_X12_readMeasure) 144 dX12_readMeasure_144 rfl ⟨G102, R102, by omega, P102, by omega, A102, fun q => by  omega⟩
        · refine z_if_eq_T (M := M_X12_readMeasure) 81 dX12_readMeasure_81 88 rfl (by omega) ?_
          refine z_aload_n (M := M_X12_readMeasure) 88 dX12_readMeasure_88 rfl ?_
          refine z_ldc2 (M := M_X12_readMeasure) 89 dX12_readMeasure_89 k_X12_289 ?_
          refine z_vI (M := M_X12_readMeasure) 92 dX12_readMeasure_92 t_X12_isWord l_X12_260 (m_rr_of rfl) (rest := []) (c_X12_isWord h97 263558 G97) o_108 rfl rfl rfl (Nat.le_of_ble_eq_true rfl) ⟨rfl, rfl⟩ (fun x1144 h103 qx1144 => ?_)
          obtain ⟨rfl, ⟨rfl, cx1144⟩ | ⟨rfl, cx1144⟩⟩ := qx1144
          · refine z_if_eq_F (M := M_X12_readMeasure) 95 dX12_readMeasure_95 102 rfl (by omega) ?_
            refine z_iconst (M := M_X12_readMeasure) 98 dX12_readMeasure_98 ?_
            refine z_goto (M := M_X12_readMeasure) 99 dX12_readMeasure_99 103 rfl ?_
            refine z_istore (M := M_X12_readMeasure) 103 dX12_readMeasure_103 (ls' := [some (mR 108), some (mI a1), some (mI x852), some (mI x1076), some (mI 2)]) (by decide) rfl ?_
            refine z_iload (M := M_X12_readMeasure) 105 dX12_readMeasure_105 rfl ?_
            refine z_if_gt_T (M := M_X12_readMeasure) 107 dX12_readMeasure_107 120 rfl (by omega) ?_
            refine z_aload_n (M := M_X12_readMeasure) 120 dX12_readMeasure_120 rfl ?_
            have w1145 : h97 108 9 = x1077 := ex1077
            have w1146 : h97 108 10 = x1078 := ex1078
            have w1147 : h97 108 11 = x1079 := ex1079
            have l1148 := fx1076_1.lt (by omega)
            have w1149 : h97 108 10 = x1078 := ex1078
            have w1150 : h97 108 8 = x4 := ((S97 108 8 rfl).trans ((S96 108 8 rfl).trans ((S77 108 8 rfl).trans ((S76 108 8 rfl).trans ex4))))
            refine z_vV (M := M_X12_readMeasure) 121 dX12_readMeasure_121 t_X12_next l_X12_218 (m_rr_of rfl) (rest := []) (c_X12_next h97 G97 (by omega)) o_108 rfl rfl rfl (Nat.le_of_ble_eq_true rfl) ⟨rfl, rfl⟩ (fun h104 qx1151 => ?_)
            obtain ⟨G104, S104, fx1151_0, fx1151_1⟩ := qx1151
            have R104 := R97.call S104 (by decide +kernel)
            have A104 := A97.fr S104 (fun _ => rfl) rfl rfl rfl rfl rfl
            obtain ⟨x1152, ex1152⟩ : ∃ y : Int, h104 108 9 = y := ⟨_, rfl⟩
            have bx1152 : 0 ≤ x1152 ∧ x1152 ≤ 400 := ex1152 ▸ g_108_9 G104
            obtain ⟨x1153, ex1153⟩ : ∃ y : Int, h104 108 10 = y := ⟨_, rfl⟩
            have bx1153 : 0 ≤ x1153 ∧ x1153 ≤ 400 := ex1153 ▸ g_108_10 G104
            obtain ⟨x1154, ex1154⟩ : ∃ y : Int, h104 108 11 = y := ⟨_, rfl⟩
            have bx1154 : 0 ≤ x1154 ∧ x1154 ≤ 3 := ex1154 ▸ g_108_11 G104
            have w1155 : h104 108 9 = x1152 := ex1152
            have w1156 : h104 108 10 = x1153 := ex1153
            have w1157 : h104 108 11 = x1154 := ex1154
            have w1158 : h104 108 8 = x4 := ((S104 108 8 rfl).trans ((S97 108 8 rfl).trans ((S96 108 8 rfl).trans ((S77 108 8 rfl).trans ((S76 108 8 rfl).trans ex4)))))
            have l1159 := fx1151_1.le
            refine z_aload_n (M := M_X12_readMeasure) 124 dX12_readMeasure_124 rfl ?_
            refine z_dup (M := M_X12_readMeasure) 125 dX12_readMeasure_125 rfl ?_
            refine z_getIE (M := M_X12_readMeasure) 126 dX12_readMeasure_126 f_X12_282 o_108 (by decide) ((S104 108 17 rfl).trans ((S97 108 17 rfl).trans ((S96 108 17 rfl).trans ((S77 108 17 rfl).trans ((S76 108 17 rfl).trans ex7))))) ?_
            refine z_iconst (M := M_X12_readMeasure) 129 dX12_readMeasure_129 ?_
            refine z_iaddN (M := M_X12_readMeasure) 130 dX12_readMeasure_130 (by omega) (by omega) ?_
            have w1160 : h104 108 16 = x6 := ((S104 108 16 rfl).trans ((S97 108 16 rfl).trans ((S96 108 16 rfl).trans ((S77 108 16 rfl).trans ((S76 108 16 rfl).trans ex6)))))
            have w1161 : h104 108 14 = x1080 := ((S104 108 14 rfl).trans ex1080)
            have w1162 : h104 108 18 = x8 := ((S104 108 18 rfl).trans ((S97 108 18 rfl).trans ((S96 108 18 rfl).trans ((S77 108 18 rfl).trans ((S76 108 18 rfl).trans ex8)))))
            have w1163 : h104 108 17 = x7 := ((S104 108 17 rfl).trans ((S97 108 17 rfl).trans ((S96 108 17 rfl).trans ((S77 108 17 rfl).trans ((S76 108 17 rfl).trans ex7)))))
            obtain ⟨x1164, ex1164⟩ : ∃ y : Int, h104 110 0 = y := ⟨_, rfl⟩
            have bx1164 : 0 ≤ x1164 ∧ x1164 ≤ 24 := ex1164 ▸ gw_0 G104
            have w1165 : h104 110 0 = x1164 := ex1164
            have rm1166 := A104.rooms
            refine z_putIH (M := M_X12_readMeasure) 131 dX12_readMeasure_131 p_X12_282 o_108 rfl (u_108_17 G104 (by omega) (by omega)) (R104.up rfl) (fun h105 E105 G105 R105 => ?_)
            have P105 := fx1151_1.same (upN E105 (by decide)) (upN E105 (by decide)) (upN E105 (by decide)) (upN E105 (by decide))
            refine z_aload_n (M := M_X12_readMeasure) 134 dX12_readMeasure_134 rfl ?_
            refine z_iconst (M := M_X12_readMeasure) 135 dX12_readMeasure_135 ?_
            refine z_iload_n (M := M_X12_readMeasure) 136 dX12_readMeasure_136 rfl ?_
            refine z_iload_n (M := M_X12_readMeasure) 137 dX12_readMeasure_137 rfl ?_
            refine z_iload_n (M := M_X12_readMeasure) 138 dX12_readMeasure_138 rfl ?_
            refine z_iload (M := M_X12_readMeasure) 139 dX12_readMeasure_139 rfl ?_
            have w1167 : h105 108 14 = x1080 := ((upN E105 (fun q => absurd q.2 (by decide))).trans ((S104 108 14 rfl).trans ex1080))
            have w1168 : h105 108 16 = x6 := ((upN E105 (fun q => absurd q.2 (by decide))).trans ((S104 108 16 rfl).trans ((S97 108 16 rfl).trans ((S96 108 16 rfl).trans ((S77 108 16 rfl).trans ((S76 108 16 rfl).trans ex6))))))
            have w1169 : h105 108 9 = x1152 := ((upN E105 (fun q => absurd q.2 (by decide))).trans ex1152)
            have w1170 : h105 108 8 = x4 := ((upN E105 (fun q => absurd q.2 (by decide))).trans ((S104 108 8 rfl).trans ((S97 108 8 rfl).trans ((S96 108 8 rfl).trans ((S77 108 8 rfl).trans ((S76 108 8 rfl).trans ex4))))))
            have w1171 : h105 108 10 = x1153 := ((upN E105 (fun q => absurd q.2 (by decide))).trans ex1153)
            have w1172 : h105 108 17 = (x7 + 1) := (upE E105)
            have w1173 : h105 108 18 = x8 := ((upN E105 (fun q => absurd q.2 (by decide))).trans ((S104 108 18 rfl).trans ((S97 108 18 rfl).trans ((S96 108 18 rfl).trans ((S77 108 18 rfl).trans ((S76 108 18 rfl).trans ex8))))))
            have w1174 : h105 110 0 = x1164 := ((upN E105 (fun q => absurd q.1 (by decide))).trans ex1164)
            refine z_vV (M := M_X12_readMeasure) 141 dX12_readMeasure_141 t_X12_act l_X12_268 (m_rr_of rfl) (rest := []) (c_X12_act h105 3 a1 x852 x1076 2 G105 (by by_cases hb : x1080 = 0; ( exact Or.inr (by omega)); (exact Or.inl (by omega)))) o_108 rfl rfl rfl (Nat.le_of_ble_eq_true rfl) ⟨rfl, rfl⟩ (fun h106 qx1175 => ?_)
            obtain ⟨G106, S106, fx1175_0⟩ := qx1175
            have R106 := R105.call S106 (by decide +kernel)
            have P106 := P105.fr S106 rfl rfl rfl rfl
            have A106 := AI_act3 A104 (by omega) E105 ((S104 108 17 rfl).trans ((S97 108 17 rfl).trans ((S96 108 17 rfl).trans ((S77 108 17 rfl).trans ((S76 108 17 rfl).trans ex7))))) (by omega) (by omega) fx1175_0 (by unfold okA; omega)
            have w1176 : h106 108 9 = x1152 := ((S106 108 9 rfl).trans ((upN E105 (fun q => absurd q.2 (by decide))).trans ex1152))
            have nx1175 : 2 * h106 108 16 ≤ h106 108 9 := by rcases actQ_n fx1175_0 with ⟨q1, q2⟩ | ⟨q1, q2⟩; (omega); ( omega)
            obtain ⟨x1177, ex1177⟩ : ∃ y : Int, h106 108 16 = y := ⟨_, rfl⟩
            have bx1177 : 0 ≤ x1177 ∧ x1177 ≤ 200 := ex1177 ▸ g_108_16 G106
            have w1178 : h106 108 9 = x1152 := ((S106 108 9 rfl).trans ((upN E105 (fun q => absurd q.2 (by decide))).trans ex1152))
            have w1179 : h106 108 10 = x1153 := ((S106 108 10 rfl).trans ((upN E105 (fun q => absurd q.2 (by decide))).trans ex1153))
            have w1180 : h106 108 11 = x1154 := ((S106 108 11 rfl).trans ((upN E105 (fun q => absurd q.2 (by decide))).trans ex1154))
            have w1181 : h106 108 8 = x4 := ((S106 108 8 rfl).trans ((upN E105 (fun q => absurd q.2 (by decide))).trans ((S104 108 8 rfl).trans ((S97 108 8 rfl).trans ((S96 108 8 rfl).trans ((S77 108 8 rfl).trans ((S76 108 8 rfl).trans ex4)))))))
            have w1182 : h106 108 16 = x1177 := ex1177
            have w1183 : h106 108 14 = x1080 := ((S106 108 14 rfl).trans ((upN E105 (fun q => absurd q.2 (by decide))).trans ((S104 108 14 rfl).trans ex1080)))
            exact z_retV (M := M_X12_readMeasure) 144 dX12_readMeasure_144 rfl ⟨G106, R106, by omega, P106, by omega, A106, fun q => by  omega⟩
          · refine z_if_eq_T (M := M_X12_readMeasure) 95 dX12_readMeasure_95 102 rfl (by omega) ?_
            refine z_iconst (M := M_X12_readMeasure) 102 dX12_readMeasure_102 ?_
            refine z_istore (M := M_X12_readMeasure) 103 dX12_readMeasure_103 (ls' := [some (mR 108), some (mI a1), some (mI x852), some (mI x1076), some (mI 0)]) (by decide) rfl ?_
            refine z_iload (M := M_X12_readMeasure) 105 dX12_readMeasure_105 rfl ?_
            refine z_if_gt_F (M := M_X12_readMeasure) 107 dX12_readMeasure_107 120 rfl (by omega) ?_
            refine z_aload_n (M := M_X12_readMeasure) 110 dX12_readMeasure_110 rfl ?_
            refine z_ldc2 (M := M_X12_readMeasure) 111 dX12_readMeasure_111 k_X12_291 ?_
            refine z_vI (M := M_X12_readMeasure) 114 dX12_readMeasure_114 t_X12_isWord l_X12_260 (m_rr_of rfl) (rest := []) (c_X12_isWord h97 6030452 G97) o_108 rfl rfl rfl (Nat.le_of_ble_eq_true rfl) ⟨rfl, rfl⟩ (fun x1184 h107 qx1184 => ?_)
            obtain ⟨rfl, ⟨rfl, cx1184⟩ | ⟨rfl, cx1184⟩⟩ := qx1184
            · refine z_if_eq_F (M := M_X12_readMeasure) 117 dX12_readMeasure_117 124 rfl (by omega) ?_
              refine z_aload_n (M := M_X12_readMeasure) 120 dX12_readMeasure_120 rfl ?_
              have w1185 : h97 108 9 = x1077 := ex1077
              have w1186 : h97 108 10 = x1078 := ex1078
              have w1187 : h97 108 11 = x1079 := ex1079
              have l1188 := fx1076_1.lt (by omega)
              have w1189 : h97 108 10 = x1078 := ex1078
              have w1190 : h97 108 8 = x4 := ((S97 108 8 rfl).trans ((S96 108 8 rfl).trans ((S77 108 8 rfl).trans ((S76 108 8 rfl).trans ex4))))
              refine z_vV (M := M_X12_readMeasure) 121 dX12_readMeasure_121 t_X12_next l_X12_218 (m_rr_of rfl) (rest := []) (c_X12_next h97 G97 (by omega)) o_108 rfl rfl rfl (Nat.le_of_ble_eq_true rfl) ⟨rfl, rfl⟩ (fun h108 qx1191 => ?_)
              obtain ⟨G108, S108, fx1191_0, fx1191_1⟩ := qx1191
              have R108 := R97.call S108 (by decide +kernel)
              have A108 := A97.fr S108 (fun _ => rfl) rfl rfl rfl rfl rfl
              obtain ⟨x1192, ex1192⟩ : ∃ y : Int, h108 108 9 = y := ⟨_, rfl⟩
              have bx1192 : 0 ≤ x1192 ∧ x1192 ≤ 400 := ex1192 ▸ g_108_9 G108
              obtain ⟨x1193, ex1193⟩ : ∃ y : Int, h108 108 10 = y := ⟨_, rfl⟩
              have bx1193 : 0 ≤ x1193 ∧ x1193 ≤ 400 := ex1193 ▸ g_108_10 G108
              obtain ⟨x1194, ex1194⟩ : ∃ y : Int, h108 108 11 = y := ⟨_, rfl⟩
              have bx1194 : 0 ≤ x1194 ∧ x1194 ≤ 3 := ex1194 ▸ g_108_11 G108
              have w1195 : h108 108 9 = x1192 := ex1192
              have w1196 : h108 108 10 = x1193 := ex1193
              have w1197 : h108 108 11 = x1194 := ex1194
              have w1198 : h108 108 8 = x4 := ((S108 108 8 rfl).trans ((S97 108 8 rfl).trans ((S96 108 8 rfl).trans ((S77 108 8 rfl).trans ((S76 108 8 rfl).trans ex4)))))
              have l1199 := fx1191_1.le
              refine z_aload_n (M := M_X12_readMeasure) 124 dX12_readMeasure_124 rfl ?_
              refine z_dup (M := M_X12_readMeasure) 125 dX12_readMeasure_125 rfl ?_
              refine z_getIE (M := M_X12_readMeasure) 126 dX12_readMeasure_126 f_X12_282 o_108 (by decide) ((S108 108 17 rfl).trans ((S97 108 17 rfl).trans ((S96 108 17 rfl).trans ((S77 108 17 rfl).trans ((S76 108 17 rfl).trans ex7))))) ?_
              refine z_iconst (M := M_X12_readMeasure) 129 dX12_readMeasure_129 ?_
              refine z_iaddN (M := M_X12_readMeasure) 130 dX12_readMeasure_130 (by omega) (by omega) ?_
              have w1200 : h108 108 16 = x6 := ((S108 108 16 rfl).trans ((S97 108 16 rfl).trans ((S96 108 16 rfl).trans ((S77 108 16 rfl).trans ((S76 108 16 rfl).trans ex6)))))
              have w1201 : h108 108 14 = x1080 := ((S108 108 14 rfl).trans ex1080)
              have w1202 : h108 108 18 = x8 := ((S108 108 18 rfl).trans ((S97 108 18 rfl).trans ((S96 108 18 rfl).trans ((S77 108 18 rfl).trans ((S76 108 18 rfl).trans ex8)))))
              have w1203 : h108 108 17 = x7 := ((S108 108 17 rfl).trans ((S97 108 17 rfl).trans ((S96 108 17 rfl).trans ((S77 108 17 rfl).trans ((S76 108 17 rfl).trans ex7)))))
              obtain ⟨x1204, ex1204⟩ : ∃ y : Int, h108 110 0 = y := ⟨_, rfl⟩
              have bx1204 : 0 ≤ x1204 ∧ x1204 ≤ 24 := ex1204 ▸ gw_0 G108
              have w1205 : h108 110 0 = x1204 := ex1204
              have rm1206 := A108.rooms
              refine z_putIH (M := M_X12_readMeasure) 131 dX12_readMeasure_131 p_X12_282 o_108 rfl (u_108_17 G108 (by omega) (by omega)) (R108.up rfl) (fun h109 E109 G109 R109 => ?_)
              have P109 := fx1191_1.same (upN E109 (by decide)) (upN E109 (by decide)) (upN E109 (by decide)) (upN E109 (by decide))
              refine z_aload_n (M := M_X12_readMeasure) 134 dX12_readMeasure_134 rfl ?_
              refine z_iconst (M := M_X12_readMeasure) 135 dX12_readMeasure_135 ?_
              refine z_iload_n (M := M_X12_readMeasure) 136 dX12_readMeasure_136 rfl ?_
              refine z_iload_n (M := M_X12_readMeasure) 137 dX12_readMeasure_137 rfl ?_
              refine z_iload_n (M := M_X12_readMeasure) 138 dX12_readMeasure_138 rfl ?_
              refine z_iload (M := M_X12_readMeasure) 139 dX12_readMeasure_139 rfl ?_
              have w1207 : h109 108 14 = x1080 := ((upN E109 (fun q => absurd q.2 (by decide))).trans ((S108 108 14 rfl).trans ex1080))
              have w1208 : h109 108 16 = x6 := ((upN E109 (fun q => absurd q.2 (by decide))).trans ((S108 108 16 rfl).trans ((S97 108 16 rfl).trans ((S96 108 16 rfl).trans ((S77 108 16 rfl).trans ((S76 108 16 rfl).trans ex6))))))
              have w1209 : h109 108 9 = x1192 := ((upN E109 (fun q => absurd q.2 (by decide))).trans ex1192)
              have w1210 : h109 108 8 = x4 := ((upN E109 (fun q => absurd q.2 (by decide))).trans ((S108 108 8 rfl).trans ((S97 108 8 rfl).trans ((S96 108 8 rfl).trans ((S77 108 8 rfl).trans ((S76 108 8 rfl).trans ex4))))))
              have w1211 : h109 108 10 = x1193 := ((upN E109 (fun q => absurd q.2 (by decide))).trans ex1193)
              have w1212 : h109 108 17 = (x7 + 1) := (upE E109)
              have w1213 : h109 108 18 = x8 := ((upN E109 (fun q => absurd q.2 (by decide))).trans ((S108 108 18 rfl).trans ((S97 108 18 rfl).trans ((S96 108 18 rfl).trans ((S77 108 18 rfl).trans ((S76 108 18 rfl).trans ex8))))))
              have w1214 : h109 110 0 = x1204 := ((upN E109 (fun q => absurd q.1 (by decide))).trans ex1204)
              refine z_vV (M := M_X12_readMeasure) 141 dX12_readMeasure_141 t_X12_act l_X12_268 (m_rr_of rfl) (rest := []) (c_X12_act h109 3 a1 x852 x1076 0 G109 (by by_cases hb : x1080 = 0; ( exact Or.inr (by omega)); (exact Or.inl (by omega)))) o_108 rfl rfl rfl (Nat.le_of_ble_eq_true rfl) ⟨rfl, rfl⟩ (fun h110 qx1215 => ?_)
              obtain ⟨G110, S110, fx1215_0⟩ := qx1215
              have R110 := R109.call S110 (by decide +kernel)
              have P110 := P109.fr S110 rfl rfl rfl rfl
              have A110 := AI_act3 A108 (by omega) E109 ((S108 108 17 rfl).trans ((S97 108 17 rfl).trans ((S96 108 17 rfl).trans ((S77 108 17 rfl).trans ((S76 108 17 rfl).trans ex7))))) (by omega) (by omega) fx1215_0 (by unfold okA; omega)
              have w1216 : h110 108 9 = x1192 := ((S110 108 9 rfl).trans ((upN E109 (fun q => absurd q.2 (by decide))).trans ex1192))
              have nx1215 : 2 * h110 108 16 ≤ h110 108 9 := by rcases actQ_n fx1215_0 with ⟨q1, q2⟩ | ⟨q1, q2⟩; (omega); ( omega)
              obtain ⟨x1217, ex1217⟩ : ∃ y : Int, h110 108 16 = y := ⟨_, rfl⟩
              have bx1217 : 0 ≤ x1217 ∧ x1217 ≤ 200 := ex1217 ▸ g_108_16 G110
              have w1218 : h110 108 9 = x1192 := ((S110 108 9 rfl).trans ((upN E109 (fun q => absurd q.2 (by decide))).trans ex1192))
              have w1219 : h110 108 10 = x1193 := ((S110 108 10 rfl).trans ((upN E109 (fun q => absurd q.2 (by decide))).trans ex1193))
              have w1220 : h110 108 11 = x1194 := ((S110 108 11 rfl).trans ((upN E109 (fun q => absurd q.2 (by decide))).trans ex1194))
              have w1221 : h110 108 8 = x4 := ((S110 108 8 rfl).trans ((upN E109 (fun q => absurd q.2 (by decide))).trans ((S108 108 8 rfl).trans ((S97 108 8 rfl).trans ((S96 108 8 rfl).trans ((S77 108 8 rfl).trans ((S76 108 8 rfl).trans ex4)))))))
              have w1222 : h110 108 16 = x1217 := ex1217
              have w1223 : h110 108 14 = x1080 := ((S110 108 14 rfl).trans ((upN E109 (fun q => absurd q.2 (by decide))).trans ((S108 108 14 rfl).trans ex1080)))
              exact z_retV (M := M_X12_readMeasure) 144 dX12_readMeasure_144 rfl ⟨G110, R110, by omega, P110, by omega, A110, fun q => by  omega⟩
            · refine z_if_eq_T (M := M_X12_readMeasure) 117 dX12_readMeasure_117 124 rfl (by omega) ?_
              refine z_aload_n (M := M_X12_readMeasure) 124 dX12_readMeasure_124 rfl ?_
              refine z_dup (M := M_X12_readMeasure) 125 dX12_readMeasure_125 rfl ?_
              refine z_getIE (M := M_X12_readMeasure) 126 dX12_readMeasure_126 f_X12_282 o_108 (by decide) ((S97 108 17 rfl).trans ((S96 108 17 rfl).trans ((S77 108 17 rfl).trans ((S76 108 17 rfl).trans ex7)))) ?_
              refine z_iconst (M := M_X12_readMeasure) 129 dX12_readMeasure_129 ?_
              refine z_iaddN (M := M_X12_readMeasure) 130 dX12_readMeasure_130 (by omega) (by omega) ?_
              have w1224 : h97 108 16 = x6 := ((S97 108 16 rfl).trans ((S96 108 16 rfl).trans ((S77 108 16 rfl).trans ((S76 108 16 rfl).trans ex6))))
              have w1225 : h97 108 14 = x1080 := ex1080
              have w1226 : h97 108 18 = x8 := ((S97 108 18 rfl).trans ((S96 108 18 rfl).trans ((S77 108 18 rfl).trans ((S76 108 18 rfl).trans ex8))))
              have w1227 : h97 108 17 = x7 := ((S97 108 17 rfl).trans ((S96 108 17 rfl).trans ((S77 108 17 rfl).trans ((S76 108 17 rfl).trans ex7))))
              obtain ⟨x1228, ex1228⟩ : ∃ y : Int, h97 110 0 = y := ⟨_, rfl⟩
              have bx1228 : 0 ≤ x1228 ∧ x1228 ≤ 24 := ex1228 ▸ gw_0 G97
              have w1229 : h97 110 0 = x1228 := ex1228
              have rm1230 := A97.rooms
              refine z_putIH (M := M_X12_readMeasure) 131 dX12_readMeasure_131 p_X12_282 o_108 rfl (u_108_17 G97 (by omega) (by omega)) (R97.up rfl) (fun h111 E111 G111 R111 => ?_)
              have P111 := fx1076_1.same (upN E111 (by decide)) (upN E111 (by decide)) (upN E111 (by decide)) (upN E111 (by decide))
              refine z_aload_n (M := M_X12_readMeasure) 134 dX12_readMeasure_134 rfl ?_
              refine z_iconst (M := M_X12_readMeasure) 135 dX12_readMeasure_135 ?_
              refine z_iload_n (M := M_X12_readMeasure) 136 dX12_readMeasure_136 rfl ?_
              refine z_iload_n (M := M_X12_readMeasure) 137 dX12_readMeasure_137 rfl ?_
              refine z_iload_n (M := M_X12_readMeasure) 138 dX12_readMeasure_138 rfl ?_
              refine z_iload (M := M_X12_readMeasure) 139 dX12_readMeasure_139 rfl ?_
              have w1231 : h111 108 14 = x1080 := ((upN E111 (fun q => absurd q.2 (by decide))).trans ex1080)
              have w1232 : h111 108 16 = x6 := ((upN E111 (fun q => absurd q.2 (by decide))).trans ((S97 108 16 rfl).trans ((S96 108 16 rfl).trans ((S77 108 16 rfl).trans ((S76 108 16 rfl).trans ex6)))))
              have w1233 : h111 108 9 = x1077 := ((upN E111 (fun q => absurd q.2 (by decide))).trans ex1077)
              have w1234 : h111 108 8 = x4 := ((upN E111 (fun q => absurd q.2 (by decide))).trans ((S97 108 8 rfl).trans ((S96 108 8 rfl).trans ((S77 108 8 rfl).trans ((S76 108 8 rfl).trans ex4)))))
              have w1235 : h111 108 10 = x1078 := ((upN E111 (fun q => absurd q.2 (by decide))).trans ex1078)
              have w1236 : h111 108 17 = (x7 + 1) := (upE E111)
              have w1237 : h111 108 18 = x8 := ((upN E111 (fun q => absurd q.2 (by decide))).trans ((S97 108 18 rfl).trans ((S96 108 18 rfl).trans ((S77 108 18 rfl).trans ((S76 108 18 rfl).trans ex8)))))
              have w1238 : h111 110 0 = x1228 := ((upN E111 (fun q => absurd q.1 (by decide))).trans ex1228)
              refine z_vV (M := M_X12_readMeasure) 141 dX12_readMeasure_141 t_X12_act l_X12_268 (m_rr_of rfl) (rest := []) (c_X12_act h111 3 a1 x852 x1076 0 G111 (by by_cases hb : x1080 = 0; ( exact Or.inr (by omega)); (exact Or.inl (by omega)))) o_108 rfl rfl rfl (Nat.le_of_ble_eq_true rfl) ⟨rfl, rfl⟩ (fun h112 qx1239 => ?_)
              obtain ⟨G112, S112, fx1239_0⟩ := qx1239
              have R112 := R111.call S112 (by decide +kernel)
              have P112 := P111.fr S112 rfl rfl rfl rfl
              have A112 := AI_act3 A97 (by omega) E111 ((S97 108 17 rfl).trans ((S96 108 17 rfl).trans ((S77 108 17 rfl).trans ((S76 108 17 rfl).trans ex7)))) (by omega) (by omega) fx1239_0 (by unfold okA; omega)
              have w1240 : h112 108 9 = x1077 := ((S112 108 9 rfl).trans ((upN E111 (fun q => absurd q.2 (by decide))).trans ex1077))
              have nx1239 : 2 * h112 108 16 ≤ h112 108 9 := by rcases actQ_n fx1239_0 with ⟨q1, q2⟩ | ⟨q1, q2⟩; (omega); ( omega)
              obtain ⟨x1241, ex1241⟩ : ∃ y : Int, h112 108 16 = y := ⟨_, rfl⟩
              have bx1241 : 0 ≤ x1241 ∧ x1241 ≤ 200 := ex1241 ▸ g_108_16 G112
              have w1242 : h112 108 9 = x1077 := ((S112 108 9 rfl).trans ((upN E111 (fun q => absurd q.2 (by decide))).trans ex1077))
              have w1243 : h112 108 10 = x1078 := ((S112 108 10 rfl).trans ((upN E111 (fun q => absurd q.2 (by decide))).trans ex1078))
              have w1244 : h112 108 11 = x1079 := ((S112 108 11 rfl).trans ((upN E111 (fun q => absurd q.2 (by decide))).trans ex1079))
              have w1245 : h112 108 8 = x4 := ((S112 108 8 rfl).trans ((upN E111 (fun q => absurd q.2 (by decide))).trans ((S97 108 8 rfl).trans ((S96 108 8 rfl).trans ((S77 108 8 rfl).trans ((S76 108 8 rfl).trans ex4))))))
              have w1246 : h112 108 16 = x1241 := ex1241
              have w1247 : h112 108 14 = x1080 := ((S112 108 14 rfl).trans ((upN E111 (fun q => absurd q.2 (by decide))).trans ex1080))
              exact z_retV (M := M_X12_readMeasure) 144 dX12_readMeasure_144 rfl ⟨G112, R112, by omega, P112, by omega, A112, fun q => by  omega⟩
