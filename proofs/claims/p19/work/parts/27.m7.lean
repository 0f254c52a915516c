abbrev P_X12_readThing (h0 : m_H) : m_H → Prop := fun h' => GI h' ∧ FR [114] [(108, 9), (108, 10), (108, 11), (108, 12), (108, 13), (108, 14), (108, 16), (108, 17)] h0 h' ∧ h0 108 9 ≤ h' 108 9 ∧ PIp h' ∧ 2 * h' 108 16 ≤ h' 108 9 ∧ AI h' ∧ Im (h' 108 14 = 0) (h0 108 14 = 0)
def q_X12_readThing (h0 : m_H) (n : Nat) : Prop := (∀ (l1 y_108_8 y_108_9 y_108_10 y_108_11 y_108_14 y_108_16 y_108_17 y_108_18 : Int) (h : m_H), GI h → FR [114] [(108, 9), (108, 10), (108, 11), (108, 12), (108, 13), (108, 14), (108, 16), (108, 17)] h0 h → 0 ≤ y_108_8 → y_108_8 ≤ 400 → 0 ≤ y_108_9 → y_108_9 ≤ 400 → 0 ≤ y_108_10 → y_108_10 ≤ 400 → 0 ≤ y_108_11 → y_108_11 ≤ 3 → 0 ≤ y_108_14 → y_108_14 ≤ 1 → 0 ≤ y_108_16 → y_108_16 ≤ 200 → 0 ≤ y_108_17 → y_108_17 ≤ 24 → 0 ≤ y_108_18 → y_108_18 ≤ 6 → (h 108 8 = y_108_8) → (h 108 9 = y_108_9) → (h 108 10 = y_108_10) → (h 108 11 = y_108_11) → (h 108 14 = y_108_14) → (h 108 16 = y_108_16) → (h 108 17 = y_108_17) → (h 108 18 = y_108_18) → (PIp h) → (AI h) → (2 * y_108_16 ≤ y_108_9 ∧ h0 108 9 ≤ y_108_9) → (y_108_14 ≠ 0 ∨ (0 ≤ l1 ∧ l1 ≤ 5)) → (Im (y_108_14 = 0) (h0 108 14 = 0)) → 2 * (400 - y_108_9) + (1) ≤ (n : Int) → m_Z oF M_X12_readThing 93 [some (mR 108), some (mI l1)] [] h (m_QV (P_X12_readThing h0)))
set_option maxHeartbeats 4000000 in
set_option maxRecDepth 100000 in
theorem s_X12_readThing_93 (h0 : m_H) (G0 : GI h0) (hp : PIp h0) (hn : 2 * h0 108 16 ≤ h0 108 9) (hs : h0 108 11 ≠ 0) (A0 : AI h0) (n : Nat) (ih : q_X12_readThing h0 n) : ∀ (l1 y_108_8 y_108_9 y_108_10 y_108_11 y_108_14 y_108_16 y_108_17 y_108_18 : Int) (h : m_H), GI h → FR [114] [(108, 9), (108, 10), (108, 11), (108, 12), (108, 13), (108, 14), (108, 16), (108, 17)] h0 h → 0 ≤ y_108_8 → y_108_8 ≤ 400 → 0 ≤ y_108_9 → y_108_9 ≤ 400 → 0 ≤ y_108_10 → y_108_10 ≤ 400 → 0 ≤ y_108_11 → y_108_11 ≤ 3 → 0 ≤ y_108_14 → y_108_14 ≤ 1 → 0 ≤ y_108_16 → y_108_16 ≤ 200 → 0 ≤ y_108_17 → y_108_17 ≤ 24 → 0 ≤ y_108_18 → y_108_18 ≤ 6 → (h 108 8 = y_108_8) → (h 108 9 = y_108_9) → (h 108 10 = y_108_10) → (h 108 11 = y_108_11) → (h 108 14 = y_108_14) → (h 108 16 = y_108_16) → (h 108 17 = y_108_17) → (h 108 18 = y_108_18) → (PIp h) → (AI h) → (2 * y_108_16 ≤ y_108_9 ∧ h0 108 9 ≤ y_108_9) → (y_108_14 ≠ 0 ∨ (0 ≤ l1 ∧ l1 ≤ 5)) → (Im (y_108_14 = 0) (h0 108 14 = 0)) → 2 * (400 - y_108_9) + (1) ≤ ((n + 1 : Nat) : Int) → m_Z oF M_X12_readThing 93 [some (mR 108), some (mI l1)] [] h (m_QV (P_X12_readThing h0)) := by
  intro l1 y_108_8 y_108_9 y_108_10 y_108_11 y_108_14 y_108_16 y_108_17 y_108_18 h G R v0 v1 v2 v3 v4 v5 v6 v7 v8 v9 v10 v11 v12 v13 v14 v15 t_108_8 t_108_9 t_108_10 t_108_11 t_108_14 t_108_16 t_108_17 t_108_18 i0 i1 i2 i3 i4 hr
  refine z_ok (fun ostk _ olocs => ?_)
  have ol1 : m_32 l1 := olocs 1 _ rfl
  unfold m_32 at ol1
  have hl := i0.le
  refine z_aload_n (M := M_X12_readThing) 93 dX12_readThing_93 rfl ?_
  refine z_getIE (M := M_X12_readThing) 94 dX12_readThing_94 f_X12_214 o_108 (by decide) t_108_14 ?_
  refine z_if_ne (M := M_X12_readThing) 97 dX12_readThing_97 121 rfl (fun c1 => ?_) (fun c1 => ?_)
  · have w2 : h 108 9 = y_108_9 := t_108_9
    have w3 : h 108 10 = y_108_10 := t_108_10
    have w4 : h 108 11 = y_108_11 := t_108_11
    have w5 : h 108 8 = y_108_8 := t_108_8
    have w6 : h 108 16 = y_108_16 := t_108_16
    have w7 : h 108 14 = y_108_14 := t_108_14
    exact z_retV (M := M_X12_readThing) 121 dX12_readThing_121 rfl ⟨G, R, by omega, i0, by omega, i1, fun q => by have ui4 := i4 (by omega); omega⟩
  · refine z_aload_n (M := M_X12_readThing) 100 dX12_readThing_100 rfl ?_
    refine z_bipush (M := M_X12_readThing) 101 dX12_readThing_101 ?_
    refine z_vI (M := M_X12_readThing) 103 dX12_readThing_103 t_X12_isSign l_X12_300 (m_rr_of rfl) (rest := []) (c_X12_isSign h 44 G) o_108 rfl rfl rfl (Nat.le_of_ble_eq_true rfl) ⟨rfl, rfl⟩ (fun x8 h1 qx8 => ?_)
    obtain ⟨rfl, ⟨rfl, cx8⟩ | ⟨rfl, cx8⟩⟩ := qx8
    · refine z_if_eq_F (M := M_X12_readThing) 106 dX12_readThing_106 121 rfl (by omega) ?_
      refine z_aload_n (M := M_X12_readThing) 109 dX12_readThing_109 rfl ?_
      have w9 : h 108 9 = y_108_9 := t_108_9
      have w10 : h 108 10 = y_108_10 := t_108_10
      have w11 : h 108 11 = y_108_11 := t_108_11
      have l12 := i0.lt (by omega)
      have w13 : h 108 10 = y_108_10 := t_108_10
      have w14 : h 108 8 = y_108_8 := t_108_8
      refine z_vV (M := M_X12_readThing) 110 dX12_readThing_110 t_X12_next l_X12_218 (m_rr_of rfl) (rest := []) (c_X12_next h G (by omega)) o_108 rfl rfl rfl (Nat.le_of_ble_eq_true rfl) ⟨rfl, rfl⟩ (fun h2 qx15 => ?_)
      obtain ⟨G2, S2, fx15_0, fx15_1⟩ := qx15
      have R2 := R.call S2 (by decide +kernel)
      have A2 := i1.fr S2 (fun _ => rfl) rfl rfl rfl rfl rfl
      obtain ⟨x16, ex16⟩ : ∃ y : Int, h2 108 9 = y := ⟨_, rfl⟩
      have bx16 : 0 ≤ x16 ∧ x16 ≤ 400 := ex16 ▸ g_108_9 G2
      obtain ⟨x17, ex17⟩ : ∃ y : Int, h2 108 10 = y := ⟨_, rfl⟩
      have bx17 : 0 ≤ x17 ∧ x17 ≤ 400 := ex17 ▸ g_108_10 G2
      obtain ⟨x18, ex18⟩ : ∃ y : Int, h2 108 11 = y := ⟨_, rfl⟩
      have bx18 : 0 ≤ x18 ∧ x18 ≤ 3 := ex18 ▸ g_108_11 G2
      have w19 : h2 108 9 = x16 := ex16
      have w20 : h2 108 10 = x17 := ex17
      have w21 : h2 108 11 = x18 := ex18
      have w22 : h2 108 8 = y_108_8 := ((S2 108 8 rfl).trans t_108_8)
      have l23 := fx15_1.le
      refine z_aload_n (M := M_X12_readThing) 113 dX12_readThing_113 rfl ?_
      refine z_iload_n (M := M_X12_readThing) 114 dX12_readThing_114 rfl ?_
      have w24 : h2 108 9 = x16 := ex16
      have w25 : h2 108 10 = x17 := ex17
      have w26 : h2 108 11 = x18 := ex18
      have w27 : h2 108 8 = y_108_8 := ((S2 108 8 rfl).trans t_108_8)
      have w28 : h2 108 16 = y_108_16 := ((S2 108 16 rfl).trans t_108_16)
      have w29 : h2 108 14 = y_108_14 := ((S2 108 14 rfl).trans t_108_14)
      refine z_vV (M := M_X12_readThing) 115 dX12_readThing_115 t_X12_readMeasure l_X12_297 (m_rr_of rfl) (rest := []) (c_X12_readMeasure h2 l1 G2 (by by_cases hb : y_108_14 = 0; (have ui4 := i4 (by omega); exact Or.inr ⟨by omega, by omega⟩); (exact Or.inl (by omega))) fx15_1 (by omega) A2) o_108 rfl rfl rfl (Nat.le_of_ble_eq_true rfl) ⟨rfl, rfl⟩ (fun h3 qx30 => ?_)
      obtain ⟨G3, S3, fx30_0, fx30_1, fx30_2, fx30_3, fx30_4⟩ := qx30
      have R3 := R2.call S3 (by decide +kernel)
      obtain ⟨x31, ex31⟩ : ∃ y : Int, h3 108 9 = y := ⟨_, rfl⟩
      have bx31 : 0 ≤ x31 ∧ x31 ≤ 400 := ex31 ▸ g_108_9 G3
      obtain ⟨x32, ex32⟩ : ∃ y : Int, h3 108 10 = y := ⟨_, rfl⟩
      have bx32 : 0 ≤ x32 ∧ x32 ≤ 400 := ex32 ▸ g_108_10 G3
      obtain ⟨x33, ex33⟩ : ∃ y : Int, h3 108 11 = y := ⟨_, rfl⟩
      have bx33 : 0 ≤ x33 ∧ x33 ≤ 3 := ex33 ▸ g_108_11 G3
      obtain ⟨x34, ex34⟩ : ∃ y : Int, h3 108 14 = y := ⟨_, rfl⟩
      have bx34 : 0 ≤ x34 ∧ x34 ≤ 1 := ex34 ▸ g_108_14 G3
      obtain ⟨x35, ex35⟩ : ∃ y : Int, h3 108 16 = y := ⟨_, rfl⟩
      have bx35 : 0 ≤ x35 ∧ x35 ≤ 200 := ex35 ▸ g_108_16 G3
      obtain ⟨x36, ex36⟩ : ∃ y : Int, h3 108 17 = y := ⟨_, rfl⟩
      have bx36 : 0 ≤ x36 ∧ x36 ≤ 24 := ex36 ▸ g_108_17 G3
      obtain ⟨x37, ex37⟩ : ∃ y : Int, h3 108 18 = y := ⟨_, rfl⟩
      have bx37 : 0 ≤ x37 ∧ x37 ≤ 6 := ex37 ▸ g_108_18 G3
      have w38 : h3 108 9 = x31 := ex31
      have w39 : h3 108 10 = x32 := ex32
      have w40 : h3 108 11 = x33 := ex33
      have w41 : h3 108 8 = y_108_8 := ((S3 108 8 rfl).trans ((S2 108 8 rfl).trans t_108_8))
      have w42 : h3 108 16 = x35 := ex35
      have w43 : h3 108 14 = x34 := ex34
      have l44 := fx30_1.le
      refine z_goto (M := M_X12_readThing) 118 dX12_readThing_118 93 rfl ?_
      exact z_mask [true, true] rfl (ih l1 y_108_8 x31 x32 x33 x34 x35 x36 x37 h3 G3 R3 (by omega) (by omega) (by omega) (by omega) (by omega) (by omega) (by omega) (by omega) (by omega) (by omega) (by omega) (by omega) (by omega) (by omega) (by omega) (by omega) ((S3 108 8 rfl).trans ((S2 108 8 rfl).trans t_108_8)) ex31 ex32 ex33 ex34 ex35 ex36 ex37 fx30_1 fx30_3 (by omega) (by by_cases hb : x34 = 0; (have ufx30_4 := fx30_4 (by omega); have ui4 := i4 (by omega); exact Or.inr ⟨by omega, by omega⟩); (exact Or.inl (by omega))) (fun q => by have ufx30_4 := fx30_4 (by omega); have ui4 := i4 (by omega); omega) (by omega))
    · refine z_if_eq_T (M := M_X12_readThing) 106 dX12_readThing_106 121 rfl (by omega) ?_
      have w45 : h 108 9 = y_108_9 := t_108_9
      have w46 : h 108 10 = y_108_10 := t_108_10
      have w47 : h 108 11 = y_108_11 := t_108_11
      have w48 : h 108 8 = y_108_8 := t_108_8
      have w49 : h 108 16 = y_108_16 := t_108_16
      have w50 : h 108 14 = y_108_14 := t_108_14
      exact z_retV (M := M_X12_readThing) 121 dX12_readThing_121 rfl ⟨G, R, by omega, i0, by omega, i1, fun q => by have ui4 := i4 (by omega); omega⟩
theorem a_X12_readThing (h0 : m_H) (G0 : GI h0) (hp : PIp h0) (hn : 2 * h0 108 16 ≤ h0 108 9) (hs : h0 108 11 ≠ 0) (A0 : AI h0) : ∀ n, q_X12_readThing h0 n := by
  intro n
  induction n with
  | zero => unfold q_X12_readThing; intros; omega
  | succ n ih => exact s_X12_readThing_93 h0 G0 hp hn hs A0 n ih
set_option maxHeartbeats 4000000 in
set_option maxRecDepth 100000 in
theorem c_X12_readThing (h0 : m_H) (G0 : GI h0) (hp : PIp h0) (hn : 2 * h0 108 16 ≤ h0 108 9) (hs : h0 108 11 ≠ 0) (A0 : AI h0) : m_CV M_X12_readThing [mR 108] h0 (P_X12_readThing h0) := by
  refine m_CV_of ⟨by decide, rfl, by simp [m_arg, m_isL, M_X12_readThing], ⟨rfl, rfl⟩, rfl, rfl⟩ (ls := [some (mR 108), none]) rfl ?_
  have ih := a_X12_readThing h0 G0 hp hn hs A0 808
  have hl := hp.le
  obtain ⟨x1, ex1⟩ : ∃ y : Int, h0 108 9 = y := ⟨_, rfl⟩
  have bx1 : 0 ≤ x1 ∧ x1 ≤ 400 := ex1 ▸ g_108_9 G0
  obtain ⟨x2, ex2⟩ : ∃ y : Int, h0 108 10 = y := ⟨_, rfl⟩
  have bx2 : 0 ≤ x2 ∧ x2 ≤ 400 := ex2 ▸ g_108_10 G0
  obtain ⟨x3, ex3⟩ : ∃ y : Int, h0 108 11 = y := ⟨_, rfl⟩
  have bx3 : 0 ≤ x3 ∧ x3 ≤ 3 := ex3 ▸ g_108_11 G0
  obtain ⟨x4, ex4⟩ : ∃ y : Int, h0 108 8 = y := ⟨_, rfl⟩
  have bx4 : 0 ≤ x4 ∧ x4 ≤ 400 := ex4 ▸ g_108_8 G0
  obtain ⟨x5, ex5⟩ : ∃ y : Int, h0 108 14 = y := ⟨_, rfl⟩
  have bx5 : 0 ≤ x5 ∧ x5 ≤ 1 := ex5 ▸ g_108_14 G0
  obtain ⟨x6, ex6⟩ : ∃ y : Int, h0 108 16 = y := ⟨_, rfl⟩
  have bx6 : 0 ≤ x6 ∧ x6 ≤ 200 := ex6 ▸ g_108_16 G0
  obtain ⟨x7, ex7⟩ : ∃ y : Int, h0 108 17 = y := ⟨_, rfl⟩
  have bx7 : 0 ≤ x7 ∧ x7 ≤ 24 := ex7 ▸ g_108_17 G0
  obtain ⟨x8, ex8⟩ : ∃ y : Int, h0 108 18 = y := ⟨_, rfl⟩
  have bx8 : 0 ≤ x8 ∧ x8 ≤ 6 := ex8 ▸ g_108_18 G0
  have w9 : h0 108 9 = x1 := ex1
  have w10 : h0 108 10 = x2 := ex2
  have w11 : h0 108 11 = x3 := ex3
  have l12 := hp.lt (by omega)
  refine z_aload_n (M := M_X12_readThing) 0 dX12_readThing_0 rfl ?_
  have w13 : h0 108 10 = x2 := ex2
  have w14 : h0 108 8 = x4 := ex4
  refine z_vV (M := M_X12_readThing) 1 dX12_readThing_1 t_X12_next l_X12_218 (m_rr_of rfl) (rest := []) (c_X12_next h0 G0 (by omega)) o_108 rfl rfl rfl (Nat.le_of_ble_eq_true rfl) ⟨rfl, rfl⟩ (fun h1 qx15 => ?_)
  obtain ⟨G1, S1, fx15_0, fx15_1⟩ := qx15
  have R1 := (FR.rf (cs := [114]) (ss := [(108, 9), (108, 10), (108, 11), (108, 12), (108, 13), (108, 14), (108, 16), (108, 17)]) (h := h0)).call S1 (by decide +kernel)
  have A1 := A0.fr S1 (fun _ => rfl) rfl rfl rfl rfl rfl
  obtain ⟨x16, ex16⟩ : ∃ y : Int, h1 108 9 = y := ⟨_, rfl⟩
  have bx16 : 0 ≤ x16 ∧ x16 ≤ 400 := ex16 ▸ g_108_9 G1
  obtain ⟨x17, ex17⟩ : ∃ y : Int, h1 108 10 = y := ⟨_, rfl⟩
  have bx17 : 0 ≤ x17 ∧ x17 ≤ 400 := ex17 ▸ g_108_10 G1
  obtain ⟨x18, ex18⟩ : ∃ y : Int, h1 108 11 = y := ⟨_, rfl⟩
  have bx18 : 0 ≤ x18 ∧ x18 ≤ 3 := ex18 ▸ g_108_11 G1
  have w19 : h1 108 9 = x16 := ex16
  have w20 : h1 108 10 = x17 := ex17
  have w21 : h1 108 11 = x18 := ex18
  have w22 : h1 108 8 = x4 := ((S1 108 8 rfl).trans ex4)
  have l23 := fx15_1.le
  refine z_aload_n (M := M_X12_readThing) 4 dX12_readThing_4 rfl ?_
  refine z_lconst (M := M_X12_readThing) 5 dX12_readThing_5 (v := 0) ?_
  refine z_ldc2 (M := M_X12_readThing) 6 dX12_readThing_6 k_X12_150 ?_
  have w24 : h1 108 9 = x16 := ex16
  have w25 : h1 108 10 = x17 := ex17
  have w26 : h1 108 11 = x18 := ex18
  have w27 : h1 108 8 = x4 := ((S1 108 8 rfl).trans ex4)
  have w28 : h1 108 14 = x5 := ((S1 108 14 rfl).trans ex5)
  refine z_vI (M := M_X12_readThing) 9 dX12_readThing_9 t_X12_number l_X12_254 (m_rr_of rfl) (rest := []) (c_X12_number h1 0 5 G1 ⟨by omega, by omega⟩ ⟨by omega, by omega⟩ fx15_1) o_108 rfl rfl rfl (Nat.le_of_ble_eq_true rfl) ⟨rfl, rfl⟩ (fun x29 h2 qx29 => ?_)
  obtain ⟨G2, S2, fx29_0, fx29_1, fx29_2⟩ := qx29
  have R2 := R1.call S2 (by decide +kernel)
  have A2 := A1.fr S2 (fun _ => rfl) rfl rfl rfl rfl rfl
  refine z_ok (fun ox29 _ _ => ?_)
  have ox29 := ox29.1; unfold m_ok m_32 at ox29
  obtain ⟨x30, ex30⟩ : ∃ y : Int, h2 108 9 = y := ⟨_, rfl⟩
  have bx30 : 0 ≤ x30 ∧ x30 ≤ 400 := ex30 ▸ g_108_9 G2
  obtain ⟨x31, ex31⟩ : ∃ y : Int, h2 108 10 = y := ⟨_, rfl⟩
  have bx31 : 0 ≤ x31 ∧ x31 ≤ 400 := ex31 ▸ g_108_10 G2
  obtain ⟨x32, ex32⟩ : ∃ y : Int, h2 108 11 = y := ⟨_, rfl⟩
  have bx32 : 0 ≤ x32 ∧ x32 ≤ 3 := ex32 ▸ g_108_11 G2
  obtain ⟨x33, ex33⟩ : ∃ y : Int, h2 108 14 = y := ⟨_, rfl⟩
  have bx33 : 0 ≤ x33 ∧ x33 ≤ 1 := ex33 ▸ g_108_14 G2
  have w34 : h2 108 9 = x30 := ex30
  have w35 : h2 108 10 = x31 := ex31
  have w36 : h2 108 11 = x32 := ex32
  have w37 : h2 108 8 = x4 := ((S2 108 8 rfl).trans ((S1 108 8 rfl).trans ex4))
  have w38 : h2 108 14 = x33 := ex33
  have l39 := fx29_1.le
  refine z_istore_n (M := M_X12_readThing) 12 dX12_readThing_12 (ls' := [some (mR 108), some (mI x29)]) (by decide) rfl ?_
  refine z_aload_n (M := M_X12_readThing) 13 dX12_readThing_13 rfl ?_
  refine z_getIE (M := M_X12_readThing) 14 dX12_readThing_14 f_X12_214 o_108 (by decide) ex33 ?_
  refine z_if_ne (M := M_X12_readThing) 17 dX12_readThing_17 88 rfl (fun c40 => ?_) (fun c40 => ?_)
  · refine z_aload_n (M := M_X12_readThing) 88 dX12_readThing_88 rfl ?_
    refine z_iload_n (M := M_X12_readThing) 89 dX12_readThing_89 rfl ?_
    have w41 : h2 108 9 = x30 := ex30
    have w42 : h2 108 10 = x31 := ex31
    have w43 : h2 108 11 = x32 := ex32
    have w44 : h2 108 8 = x4 := ((S2 108 8 rfl).trans ((S1 108 8 rfl).trans ex4))
    have w45 : h2 108 16 = x6 := ((S2 108 16 rfl).trans ((S1 108 16 rfl).trans ex6))
    have w46 : h2 108 14 = x33 := ex33
    refine z_vV (M := M_X12_readThing) 90 dX12_readThing_90 t_X12_readMeasure l_X12_297 (m_rr_of rfl) (rest := []) (c_X12_readMeasure h2 x29 G2 (by by_cases hb : x33 = 0; (have ufx29_2 := fx29_2 (by omega); exact Or.inr ⟨by omega, by omega⟩); (exact Or.inl (by omega))) fx29_1 (by omega) A2) o_108 rfl rfl rfl (Nat.le_of_ble_eq_true rfl) ⟨rfl, rfl⟩ (fun h3 qx47 => ?_)
    obtain ⟨G3, S3, fx47_0, fx47_1, fx47_2, fx47_3, fx47_4⟩ := qx47
    have R3 := R2.call S3 (by decide +kernel)
    obtain ⟨x48, ex48⟩ : ∃ y : Int, h3 108 9 = y := ⟨_, rfl⟩
    have bx48 : 0 ≤ x48 ∧ x48 ≤ 400 := ex48 ▸ g_108_9 G3
    obtain ⟨x49, ex49⟩ : ∃ y : Int, h3 108 10 = y := ⟨_, rfl⟩
    have bx49 : 0 ≤ x49 ∧ x49 ≤ 400 := ex49 ▸ g_108_10 G3
    obtain ⟨x50, ex50⟩ : ∃ y : Int, h3 108 11 = y := ⟨_, rfl⟩
    have bx50 : 0 ≤ x50 ∧ x50 ≤ 3 := ex50 ▸ g_108_11 G3
    obtain ⟨x51, ex51⟩ : ∃ y : Int, h3 108 14 = y := ⟨_, rfl⟩
    have bx51 : 0 ≤ x51 ∧ x51 ≤ 1 := ex51 ▸ g_108_14 G3
    obtain ⟨x52, ex52⟩ : ∃ y : Int, h3 108 16 = y := ⟨_, rfl⟩
    have bx52 : 0 ≤ x52 ∧ x52 ≤ 200 := ex52 ▸ g_108_16 G3
    obtain ⟨x53, ex53⟩ : ∃ y : Int, h3 108 17 = y := ⟨_, rfl⟩
    have bx53 : 0 ≤ x53 ∧ x53 ≤ 24 := ex53 ▸ g_108_17 G3
    obtain ⟨x54, ex54⟩ : ∃ y : Int, h3 108 18 = y := ⟨_, rfl⟩
    have bx54 : 0 ≤ x54 ∧ x54 ≤ 6 := ex54 ▸ g_108_18 G3
    have w55 : h3 108 9 = x48 := ex48
    have w56 : h3 108 10 = x49 := ex49
    have w57 : h3 108 11 = x50 := ex50
    have w58 : h3 108 8 = x4 := ((S3 108 8 rfl).trans ((S2 108 8 rfl).trans ((S1 108 8 rfl).trans ex4)))
    have w59 : h3 108 16 = x52 := ex52
    have w60 : h3 108 14 = x51 := ex51
    have l61 := fx47_1.le
    exact z_mask [true, true] rfl (ih x29 x4 x48 x49 x50 x51 x52 x53 x54 h3 G3 R3 (by omega) (by omega) (by omega) (by omega) (by omega) (by omega) (by omega) (by omega) (by omega) (by omega) (by omega) (by omega) (by omega) (by omega) (by omega) (by omega) ((S3 108 8 rfl).trans ((S2 108 8 rfl).trans ((S1 108 8 rfl).trans ex4))) ex48 ex49 ex50 ex51 ex52 ex53 ex54 fx47_1 fx47_3 (by omega) (by by_cases hb : x51 = 0; (have ufx47_4 := fx47_4 (by omega); have ufx29_2 := fx29_2 (by omega); exact Or.inr ⟨by omega, by omega⟩); (exact Or.inl (by omega))) (fun q => by have ufx47_4 := fx47_4 (by omega); have ufx29_2 := fx29_2 (by omega); omega) (by omega))
  · have ufx29_2 := fx29_2 (by omega)
    refine z_aload_n (M := M_X12_readThing) 20 dX12_readThing_20 rfl ?_
    refine z_ldc2 (M := M_X12_readThing) 21 dX12_readThing_21 k_X12_293 ?_
    refine z_vI (M := M_X12_readThing) 24 dX12_readThing_24 t_X12_isWord l_X12_260 (m_rr_of rfl) (rest := []) (c_X12_isWord h2 3764 G2) o_108 rfl rfl rfl (Nat.le_of_ble_eq_true rfl) ⟨rfl, rfl⟩ (fun x62 h4 qx62 => ?_)
    obtain ⟨rfl, ⟨rfl, cx62⟩ | ⟨rfl, cx62⟩⟩ := qx62
    · refine z_if_eq_F (M := M_X12_readThing) 27 dX12_readThing_27 88 rfl (by omega) ?_
      refine z_aload_n (M := M_X12_readThing) 30 dX12_readThing_30 rfl ?_
      have w63 : h2 108 9 = x30 := ex30
      have w64 : h2 108 10 = x31 := ex31
      have w65 : h2 108 11 = x32 := ex32
      have l66 := fx29_1.lt (by omega)
      have w67 : h2 108 10 = x31 := ex31
      have w68 : h2 108 8 = x4 := ((S2 108 8 rfl).trans ((S1 108 8 rfl).trans ex4))
      refine z_vV (M := M_X12_readThing) 31 dX12_readThing_31 t_X12_next l_X12_218 (m_rr_of rfl) (rest := []) (c_X12_next h2 G2 (by omega)) o_108 rfl rfl rfl (Nat.le_of_ble_eq_true rfl) ⟨rfl, rfl⟩ (fun h5 qx69 => ?_)
      obtain ⟨G5, S5, fx69_0, fx69_1⟩ := qx69
      have R5 := R2.call S5 (by decide +kernel)
      have A5 := A2.fr S5 (fun _ => rfl) rfl rfl rfl rfl rfl
      obtain ⟨x70, ex70⟩ : ∃ y : Int, h5 108 9 = y := ⟨_, rfl⟩
      have bx70 : 0 ≤ x70 ∧ x70 ≤ 400 := ex70 ▸ g_108_9 G5
      obtain ⟨x71, ex71⟩ : ∃ y : Int, h5 108 10 = y := ⟨_, rfl⟩
      have bx71 : 0 ≤ x71 ∧ x71 ≤ 400 := ex71 ▸ g_108_10 G5
      obtain ⟨x72, ex72⟩ : ∃ y : Int, h5 108 11 = y := ⟨_, rfl⟩
      have bx72 : 0 ≤ x72 ∧ x72 ≤ 3 := ex72 ▸ g_108_11 G5
      have w73 : h5 108 9 = x70 := ex70
      have w74 : h5 108 10 = x71 := ex71
      have w75 : h5 108 11 = x72 := ex72
      have w76 : h5 108 8 = x4 := ((S5 108 8 rfl).trans ((S2 108 8 rfl).trans ((S1 108 8 rfl).trans ex4)))
      have l77 := fx69_1.le
      refine z_aload_n (M := M_X12_readThing) 34 dX12_readThing_34 rfl ?_
      refine z_ldc2 (M := M_X12_readThing) 35 dX12_readThing_35 k_X12_295 ?_
      refine z_vI (M := M_X12_readThing) 38 dX12_readThing_38 t_X12_isWord l_X12_260 (m_rr_of rfl) (rest := []) (c_X12_isWord h5 14866610 G5) o_108 rfl rfl rfl (Nat.le_of_ble_eq_true rfl) ⟨rfl, rfl⟩ (fun x78 h6 qx78 => ?_)
      obtain ⟨rfl, ⟨rfl, cx78⟩ | ⟨rfl, cx78⟩⟩ := qx78
      · refine z_if_eq_F (M := M_X12_readThing) 41 dX12_readThing_41 60 rfl (by omega) ?_
        refine z_aload_n (M := M_X12_readThing) 44 dX12_readThing_44 rfl ?_
        have w79 : h5 108 9 = x70 := ex70
        have w80 : h5 108 10 = x71 := ex71
        have w81 : h5 108 11 = x72 := ex72
        have l82 := fx69_1.lt (by omega)
        have w83 : h5 108 10 = x71 := ex71
        have w84 : h5 108 8 = x4 := ((S5 108 8 rfl).trans ((S2 108 8 rfl).trans ((S1 108 8 rfl).trans ex4)))
        refine z_vV (M := M_X12_readThing) 45 dX12_readThing_45 t_X12_next l_X12_218 (m_rr_of rfl) (rest := []) (c_X12_next h5 G5 (by omega)) o_108 rfl rfl rfl (Nat.le_of_ble_eq_true rfl) ⟨rfl, rfl⟩ (fun h7 qx85 => ?_)
        obtain ⟨G7, S7, fx85_0, fx85_1⟩ := qx85
        have R7 := R5.call S7 (by decide +kernel)
        have A7 := A5.fr S7 (fun _ => rfl) rfl rfl rfl rfl rfl
        obtain ⟨x86, ex86⟩ : ∃ y : Int, h7 108 9 = y := ⟨_, rfl⟩
        have bx86 : 0 ≤ x86 ∧ x86 ≤ 400 := ex86 ▸ g_108_9 G7
        obtain ⟨x87, ex87⟩ : ∃ y : Int, h7 108 10 = y := ⟨_, rfl⟩
        have bx87 : 0 ≤ x87 ∧ x87 ≤ 400 := ex87 ▸ g_108_10 G7
        obtain ⟨x88, ex88⟩ : ∃ y : Int, h7 108 11 = y := ⟨_, rfl⟩
        have bx88 : 0 ≤ x88 ∧ x88 ≤ 3 := ex88 ▸ g_108_11 G7
        have w89 : h7 108 9 = x86 := ex86
        have w90 : h7 108 10 = x87 := ex87
        have w91 : h7 108 11 = x88 := ex88
        have w92 : h7 108 8 = x4 := ((S7 108 8 rfl).trans ((S5 108 8 rfl).trans ((S2 108 8 rfl).trans ((S1 108 8 rfl).trans ex4))))
        have l93 := fx85_1.le
        refine z_aload_n (M := M_X12_readThing) 48 dX12_readThing_48 rfl ?_
        refine z_iconst (M := M_X12_readThing) 49 dX12_readThing_49 ?_
        refine z_iload_n (M := M_X12_readThing) 50 dX12_readThing_50 rfl ?_
        refine z_iconst (M := M_X12_readThing) 51 dX12_readThing_51 ?_
        refine z_iconst (M := M_X12_readThing) 52 dX12_readThing_52 ?_
        refine z_iconst (M := M_X12_readThing) 53 dX12_readThing_53 ?_
        have w94 : h7 108 14 = x33 := ((S7 108 14 rfl).trans ((S5 108 14 rfl).trans ex33))
        have w95 : h7 108 16 = x6 := ((S7 108 16 rfl).trans ((S5 108 16 rfl).trans ((S2 108 16 rfl).trans ((S1 108 16 rfl).trans ex6))))
        have w96 : h7 108 9 = x86 := ex86
        have w97 : h7 108 8 = x4 := ((S7 108 8 rfl).trans ((S5 108 8 rfl).trans ((S2 108 8 rfl).trans ((S1 108 8 rfl).trans ex4))))
        have w98 : h7 108 10 = x87 := ex87
        have w99 : h7 108 17 = x7 := ((S7 108 17 rfl).trans ((S5 108 17 rfl).trans ((S2 108 17 rfl).trans ((S1 108 17 rfl).trans ex7))))
        have w100 : h7 108 18 = x8 := ((S7 108 18 rfl).trans ((S5 108 18 rfl).trans ((S2 108 18 rfl).trans ((S1 108 18 rfl).trans ex8))))
        refine z_vV (M := M_X12_readThing) 54 dX12_readThing_54 t_X12_act l_X12_268 (m_rr_of rfl) (rest := []) (c_X12_act h7 2 x29 (-1) 0 0 G7 (by by_cases hb : x33 = 0; ( exact Or.inr (by omega)); (exact Or.inl (by omega)))) o_108 rfl rfl rfl (Nat.le_of_ble_eq_true rfl) ⟨rfl, rfl⟩ (fun h8 qx101 => ?_)
        obtain ⟨G8, S8, fx101_0⟩ := qx101
        have R8 := R7.call S8 (by decide +kernel)
        have P8 := fx85_1.fr S8 rfl rfl rfl rfl
        have A8 := AI_act A7 (by omega) fx101_0 (by omega) (fun hb => by  unfold okA; omega)
        have w102 : h8 108 9 = x86 := ((S8 108 9 rfl).trans ex86)
        have nx101 : 2 * h8 108 16 ≤ h8 108 9 := by rcases actQ_n fx101_0 with ⟨q1, q2⟩ | ⟨q1, q2⟩; (omega); ( omega)
        obtain ⟨x103, ex103⟩ : ∃ y : Int, h8 108 16 = y := ⟨_, rfl⟩
        have bx103 : 0 ≤ x103 ∧ x103 ≤ 200 := ex103 ▸ g_108_16 G8
        refine z_goto (M := M_X12_readThing) 57 dX12_readThing_57 87 rfl ?_
        have w104 : h8 108 9 = x86 := ((S8 108 9 rfl).trans ex86)
        have w105 : h8 108 10 = x87 := ((S8 108 10 rfl).trans ex87)
        have w106 : h8 108 11 = x88 := ((S8 108 11 rfl).trans ex88)
        have w107 : h8 108 8 = x4 := ((S8 108 8 rfl).trans ((S7 108 8 rfl).trans ((S5 108 8 rfl).trans ((S2 108 8 rfl).trans ((S1 108 8 rfl).trans ex4)))))
        have w108 : h8 108 16 = x103 := ex103
        have w109 : h8 108 14 = x33 := ((S8 108 14 rfl).trans ((S7 108 14 rfl).trans ((S5 108 14 rfl).trans ex33)))
        exact z_retV (M := M_X12_readThing) 87 dX12_readThing_87 rfl ⟨G8, R8, by omega, P8, by omega, A8, fun q => by  omega⟩
      · refine z_if_eq_T (M := M_X12_readThing) 41 dX12_readThing_41 60 rfl (by omega) ?_
        refine z_aload_n (M := M_X12_readThing) 60 dX12_readThing_60 rfl ?_
        refine z_aload_n (M := M_X12_readThing) 61 dX12_readThing_61 rfl ?_
        refine z_ldc2 (M := M_X12_readThing) 62 dX12_readThing_62 k_X12_280 ?_
        refine z_vI (M := M_X12_readThing) 65 dX12_readThing_65 t_X12_isWord l_X12_260 (m_rr_of rfl) (rest := [mR 108]) (c_X12_isWord h5 302 G5) o_108 rfl rfl rfl (Nat.le_of_ble_eq_true rfl) ⟨rfl, rfl⟩ (fun x110 h9 qx110 => ?_)
        obtain ⟨rfl, ⟨rfl, cx110⟩ | ⟨rfl, cx110⟩⟩ := qx110
        · have w111 : h5 108 9 = x70 := ex70
          have w112 : h5 108 10 = x71 := ex71
          have w113 : h5 108 11 = x72 := ex72
          have w114 : h5 108 8 = x4 := ((S5 108 8 rfl).trans ((S2 108 8 rfl).trans ((S1 108 8 rfl).trans ex4)))
          refine z_vV (M := M_X12_readThing) 68 dX12_readThing_68 t_X12_must l_X12_247 (m_rr_of rfl) (rest := []) (c_X12_must h5 1 G5 ⟨by omega, by omega⟩ fx69_1) o_108 rfl rfl rfl (Nat.le_of_ble_eq_true rfl) ⟨rfl, rfl⟩ (fun h10 qx115 => ?_)
          obtain ⟨G10, S10, fx115_0, fx115_1, fx115_2⟩ := qx115
          have R10 := R5.call S10 (by decide +kernel)
          have A10 := A5.fr S10 (fun _ => rfl) rfl rfl rfl rfl rfl
          obtain ⟨x116, ex116⟩ : ∃ y : Int, h10 108 9 = y := ⟨_, rfl⟩
          have bx116 : 0 ≤ x116 ∧ x116 ≤ 400 := ex116 ▸ g_108_9 G10
          obtain ⟨x117, ex117⟩ : ∃ y : Int, h10 108 10 = y := ⟨_, rfl⟩
          have bx117 : 0 ≤ x117 ∧ x117 ≤ 400 := ex117 ▸ g_108_10 G10
          obtain ⟨x118, ex118⟩ : ∃ y : Int, h10 108 11 = y := ⟨_, rfl⟩
          have bx118 : 0 ≤ x118 ∧ x118 ≤ 3 := ex118 ▸ g_108_11 G10
          obtain ⟨x119, ex119⟩ : ∃ y : Int, h10 108 14 = y := ⟨_, rfl⟩
          have bx119 : 0 ≤ x119 ∧ x119 ≤ 1 := ex119 ▸ g_108_14 G10
          have w120 : h10 108 9 = x116 := ex116
          have w121 : h10 108 10 = x117 := ex117
          have w122 : h10 108 11 = x118 := ex118
          have w123 : h10 108 8 = x4 := ((S10 108 8 rfl).trans ((S5 108 8 rfl).trans ((S2 108 8 rfl).trans ((S1 108 8 rfl).trans ex4))))
          have w124 : h10 108 14 = x119 := ex119
          have l125 := fx115_1.le
          refine z_aload_n (M := M_X12_readThing) 71 dX12_readThing_71 rfl ?_
          refine z_iconst (M := M_X12_readThing) 72 dX12_readThing_72 ?_
          refine z_iload_n (M := M_X12_readThing) 73 dX12_readThing_73 rfl ?_
          refine z_aload_n (M := M_X12_readThing) 74 dX12_readThing_74 rfl ?_
          refine z_lconst (M := M_X12_readThing) 75 dX12_readThing_75 (v := 1) ?_
          refine z_ldc2 (M := M_X12_readThing) 76 dX12_readThing_76 k_X12_154 ?_
          have w126 : h10 108 9 = x116 := ex116
          have w127 : h10 108 10 = x117 := ex117
          have w128 : h10 108 11 = x118 := ex118
          have w129 : h10 108 8 = x4 := ((S10 108 8 rfl).trans ((S5 108 8 rfl).trans ((S2 108 8 rfl).trans ((S1 108 8 rfl).trans ex4))))
          have w130 : h10 108 14 = x119 := ex119
          refine z_vI (M := M_X12_readThing) 79 dX12_readThing_79 t_X12_number l_X12_254 (m_rr_of rfl) (rest := [mI x29, mI 2, mR 108]) (c_X12_number h10 1 31 G10 ⟨by omega, by omega⟩ ⟨by omega, by omega⟩ fx115_1) o_108 rfl rfl rfl (Nat.le_of_ble_eq_true rfl) ⟨rfl, rfl⟩ (fun x131 h11 qx131 => ?_)
          obtain ⟨G11, S11, fx131_0, fx131_1, fx131_2⟩ := qx131
          have R11 := R10.call S11 (by decide +kernel)
          have A11 := A10.fr S11 (fun _ => rfl) rfl rfl rfl rfl rfl
          refine z_ok (fun ox131 _ _ => ?_)
          have ox131 := ox131.1; unfold m_ok m_32 at ox131
          obtain ⟨x132, ex132⟩ : ∃ y : Int, h11 108 9 = y := ⟨_, rfl⟩
          have bx132 : 0 ≤ x132 ∧ x132 ≤ 400 := ex132 ▸ g_108_9 G11
          obtain ⟨x133, ex133⟩ : ∃ y : Int, h11 108 10 = y := ⟨_, rfl⟩
          have bx133 : 0 ≤ x133 ∧ x133 ≤ 400 := ex133 ▸ g_108_10 G11
          obtain ⟨x134, ex134⟩ : ∃ y : Int, h11 108 11 = y := ⟨_, rfl⟩
          have bx134 : 0 ≤ x134 ∧ x134 ≤ 3 := ex134 ▸ g_108_11 G11
          obtain ⟨x135, ex135⟩ : ∃ y : Int, h11 108 14 = y := ⟨_, rfl⟩
          have bx135 : 0 ≤ x135 ∧ x135 ≤ 1 := ex135 ▸ g_108_14 G11
          have w136 : h11 108 9 = x132 := ex132
          have w137 : h11 108 10 = x133 := ex133
          have w138 : h11 108 11 = x134 := ex134
          have w139 : h11 108 8 = x4 := ((S11 108 8 rfl).trans ((S10 108 8 rfl).trans ((S5 108 8 rfl).trans ((S2 108 8 rfl).trans ((S1 108 8 rfl).trans ex4)))))
          have w140 : h11 108 14 = x135 := ex135
          have l141 := fx131_1.le
          refine z_iconst (M := M_X12_readThing) 82 dX12_readThing_82 ?_
          refine z_iconst (M := M_X12_readThing) 83 dX12_readThing_83 ?_
          have w142 : h11 108 14 = x135 := ex135
          have w143 : h11 108 16 = x6 := ((S11 108 16 rfl).trans ((S10 108 16 rfl).trans ((S5 108 16 rfl).trans ((S2 108 16 rfl).trans ((S1 108 16 rfl).trans ex6)))))
          have w144 : h11 108 9 = x132 := ex132
          have w145 : h11 108 8 = x4 := ((S11 108 8 rfl).trans ((S10 108 8 rfl).trans ((S5 108 8 rfl).trans ((S2 108 8 rfl).trans ((S1 108 8 rfl).trans ex4)))))
          have w146 : h11 108 10 = x133 := ex133
          have w147 : h11 108 17 = x7 := ((S11 108 17 rfl).trans ((S10 108 17 rfl).trans ((S5 108 17 rfl).trans ((S2 108 17 rfl).trans ((S1 108 17 rfl).trans ex7)))))
          have w148 : h11 108 18 = x8 := ((S11 108 18 rfl).trans ((S10 108 18 rfl).trans ((S5 108 18 rfl).trans ((S2 108 18 rfl).trans ((S1 108 18 rfl).trans ex8)))))
          refine z_vV (M := M_X12_readThing) 84 dX12_readThing_84 t_X12_act l_X12_268 (m_rr_of rfl) (rest := []) (c_X12_act h11 2 x29 x131 0 0 G11 (by by_cases hb : x135 = 0; (have ufx131_2 := fx131_2 (by omega); have ufx115_2 := fx115_2 (by omega); exact Or.inr (by omega)); (exact Or.inl (by omega)))) o_108 rfl rfl rfl (Nat.le_of_ble_eq_true rfl) ⟨rfl, rfl⟩ (fun h12 qx149 => ?_)
          obtain ⟨G12, S12, fx149_0⟩ := qx149
          have R12 := R11.call S12 (by decide +kernel)
          have P12 := fx131_1.fr S12 rfl rfl rfl rfl
          have A12 := AI_act A11 (by omega) fx149_0 (by omega) (fun hb => by have ufx131_2 := fx131_2 (by omega); have ufx115_2 := fx115_2 (by omega); unfold okA; omega)
          have w150 : h12 108 9 = x132 := ((S12 108 9 rfl).trans ex132)
          have nx149 : 2 * h12 108 16 ≤ h12 108 9 := by rcases actQ_n fx149_0 with ⟨q1, q2⟩ | ⟨q1, q2⟩; (omega); (have ufx131_2 := fx131_2 (by omega); have ufx115_2 := fx115_2 (by omega); omega)
          obtain ⟨x151, ex151⟩ : ∃ y : Int, h12 108 16 = y := ⟨_, rfl⟩
          have bx151 : 0 ≤ x151 ∧ x151 ≤ 200 := ex151 ▸ g_108_16 G12
          have w152 : h12 108 9 = x132 := ((S12 108 9 rfl).trans ex132)
          have w153 : h12 108 10 = x133 := ((S12 108 10 rfl).trans ex133)
          have w154 : h12 108 11 = x134 := ((S12 108 11 rfl).trans ex134)
          have w155 : h12 108 8 = x4 := ((S12 108 8 rfl).trans ((S11 108 8 rfl).trans ((S10 108 8 rfl).trans ((S5 108 8 rfl).trans ((S2 108 8 rfl).trans ((S1 108 8 rfl).trans ex4))))))
          have w156 : h12 108 16 = x151 := ex151
          have w157 : h12 108 14 = x135 := ((S12 108 14 rfl).trans ex135)
          exact z_retV (M := M_X12_readThing) 87 dX12_readThing_87 rfl ⟨G12, R12, by omega, P12, by omega, A12, fun q => by have ufx131_2 := fx131_2 (by omega); have ufx115_2 := fx115_2 (by omega); omega⟩
        · have w158 : h5 108 9 = x70 := ex70
          have w159 : h5 108 10 = x71 := ex71
          have w160 : h5 108 11 = x72 := ex72
          have w161 : h5 108 8 = x4 := ((S5 108 8 rfl).trans ((S2 108 8 rfl).trans ((S1 108 8 rfl).trans ex4)))
          refine z_vV (M := M_X12_readThing) 68 dX12_readThing_68 t_X12_must l_X12_247 (m_rr_of rfl) (rest := []) (c_X12_must h5 0 G5 ⟨by omega, by omega⟩ fx69_1) o_108 rfl rfl rfl (Nat.le_of_ble_eq_true rfl) ⟨rfl, rfl⟩ (fun h13 qx162 => ?_)
          obtain ⟨G13, S13, fx162_0, fx162_1, fx162_2⟩ := qx162
          have R13 := R5.call S13 (by decide +kernel)
          have A13 := A5.fr S13 (fun _ => rfl) rfl rfl rfl rfl rfl
          obtain ⟨x163, ex163⟩ : ∃ y : Int, h13 108 9 = y := ⟨_, rfl⟩
          have bx163 : 0 ≤ x163 ∧ x163 ≤ 400 := ex163 ▸ g_108_9 G13
          obtain ⟨x164, ex164⟩ : ∃ y : Int, h13 108 10 = y := ⟨_, rfl⟩
          have bx164 : 0 ≤ x164 ∧ x164 ≤ 400 := ex164 ▸ g_108_10 G13
          obtain ⟨x165, ex165⟩ : ∃ y : Int, h13 108 11 = y := ⟨_, rfl⟩
          have bx165 : 0 ≤ x165 ∧ x165 ≤ 3 := ex165 ▸ g_108_11 G13
          obtain ⟨x166, ex166⟩ : ∃ y : Int, h13 108 14 = y := ⟨_, rfl⟩
          have bx166 : 0 ≤ x166 ∧ x166 ≤ 1 := ex166 ▸ g_108_14 G13
          have w167 : h13 108 9 = x163 := ex163
          have w168 : h13 108 10 = x164 := ex164
          have w169 : h13 108 11 = x165 := ex165
          have w170 : h13 108 8 = x4 := ((S13 108 8 rfl).trans ((S5 108 8 rfl).trans ((S2 108 8 rfl).trans ((S1 108 8 rfl).trans ex4))))
          have w171 : h13 108 14 = x166 := ex166
          have l172 := fx162_1.le
          have nbx162 : x166 ≠ 0 := fun q => by have q2 := fx162_2 (by omega); omega
          refine z_aload_n (M := M_X12_readThing) 71 dX12_readThing_71 rfl ?_
          refine z_iconst (M := M_X12_readThing) 72 dX12_readThing_72 ?_
          refine z_iload_n (M := M_X12_readThing) 73 dX12_readThing_73 rfl ?_
          refine z_aload_n (M := M_X12_readThing) 74 dX12_readThing_74 rfl ?_
          refine z_lconst (M := M_X12_readThing) 75 dX12_readThing_75 (v := 1) ?_
          refine z_ldc2 (M := M_X12_readThing) 76 dX12_readThing_76 k_X12_154 ?_
          have w173 : h13 108 9 = x163 := ex163
          have w174 : h13 108 10 = x164 := ex164
          have w175 : h13 108 11 = x165 := ex165
          have w176 : h13 108 8 = x4 := ((S13 108 8 rfl).trans ((S5 108 8 rfl).trans ((S2 108 8 rfl).trans ((S1 108 8 rfl).trans ex4))))
          have w177 : h13 108 14 = x166 := ex166
          refine z_vI (M := M_X12_readThing) 79 dX12_readThing_79 t_X12_number l_X12_254 (m_rr_of rfl) (rest := [mI x29, mI 2, mR 108]) (c_X12_number h13 1 31 G13 ⟨by omega, by omega⟩ ⟨by omega, by omega⟩ fx162_1) o_108 rfl rfl rfl (Nat.le_of_ble_eq_true rfl) ⟨rfl, rfl⟩ (fun x178 h14 qx178 => ?_)
          obtain ⟨G14, S14, fx178_0, fx178_1, fx178_2⟩ := qx178
          have R14 := R13.call S14 (by decide +kernel)
          have A14 := A13.fr S14 (fun _ => rfl) rfl rfl rfl rfl rfl
          refine z_ok (fun ox178 _ _ => ?_)
          have ox178 := ox178.1; unfold m_ok m_32 at ox178
          obtain ⟨x179, ex179⟩ : ∃ y : Int, h14 108 9 = y := ⟨_, rfl⟩
          have bx179 : 0 ≤ x179 ∧ x179 ≤ 400 := ex179 ▸ g_108_9 G14
          obtain ⟨x180, ex180⟩ : ∃ y : Int, h14 108 10 = y := ⟨_, rfl⟩
          have bx180 : 0 ≤ x180 ∧ x180 ≤ 400 := ex180 ▸ g_108_10 G14
          obtain ⟨x181, ex181⟩ : ∃ y : Int, h14 108 11 = y := ⟨_, rfl⟩
          have bx181 : 0 ≤ x181 ∧ x181 ≤ 3 := ex181 ▸ g_108_11 G14
          obtain ⟨x182, ex182⟩ : ∃ y : Int, h14 108 14 = y := ⟨_, rfl⟩
          have bx182 : 0 ≤ x182 ∧ x182 ≤ 1 := ex182 ▸ g_108_14 G14
          have w183 : h14 108 9 = x179 := ex179
          have w184 : h14 108 10 = x180 := ex180
          have w185 : h14 108 11 = x181 := ex181
          have w186 : h14 108 8 = x4 := ((S14 108 8 rfl).trans ((S13 108 8 rfl).trans ((S5 108 8 rfl).trans ((S2 108 8 rfl).trans ((S1 108 8 rfl).trans ex4)))))
          have w187 : h14 108 14 = x182 := ex182
          have l188 := fx178_1.le
          refine z_iconst (M := M_X12_readThing) 82 dX12_readThing_82 ?_
          refine z_iconst (M := M_X12_readThing) 83 dX12_readThing_83 ?_
          have w189 : h14 108 14 = x182 := ex182
          have w190 : h14 108 16 = x6 := ((S14 108 16 rfl).trans ((S13 108 16 rfl).trans ((S5 108 16 rfl).trans ((S2 108 16 rfl).trans ((S1 108 16 rfl).trans ex6)))))
          have w191 : h14 108 9 = x179 := ex179
          have w192 : h14 108 8 = x4 := ((S14 108 8 rfl).trans ((S13 108 8 rfl).trans ((S5 108 8 rfl).trans ((S2 108 8 rfl).trans ((S1 108 8 rfl).trans ex4)))))
          have w193 : h14 108 10 = x180 := ex180
          have w194 : h14 108 17 = x7 := ((S14 108 17 rfl).trans ((S13 108 17 rfl).trans ((S5 108 17 rfl).trans ((S2 108 17 rfl).trans ((S1 108 17 rfl).trans ex7)))))
          have w195 : h14 108 18 = x8 := ((S14 108 18 rfl).trans ((S13 108 18 rfl).trans ((S5 108 18 rfl).trans ((S2 108 18 rfl).trans ((S1 108 18 rfl).trans ex8)))))
          refine z_vV (M := M_X12_readThing) 84 dX12_readThing_84 t_X12_act l_X12_268 (m_rr_of rfl) (rest := []) (c_X12_act h14 2 x29 x178 0 0 G14 (by by_cases hb : x182 = 0; (have ufx178_2 := fx178_2 (by omega); have ufx162_2 := fx162_2 (by omega); exact Or.inr (by omega)); (exact Or.inl (by omega)))) o_108 rfl rfl rfl (Nat.le_of_ble_eq_true rfl) ⟨rfl, rfl⟩ (fun h15 qx196 => ?_)
          obtain ⟨G15, S15, fx196_0⟩ := qx196
          have R15 := R14.call S15 (by decide +kernel)
          have P15 := fx178_1.fr S15 rfl rfl rfl rfl
          have A15 := AI_act A14 (by omega) fx196_0 (by omega) (fun hb => by have ufx178_2 := fx178_2 (by omega); have ufx162_2 := fx162_2 (by omega); unfold okA; omega)
          have w197 : h15 108 9 = x179 := ((S15 108 9 rfl).trans ex179)
          have nx196 : 2 * h15 108 16 ≤ h15 108 9 := by rcases actQ_n fx196_0 with ⟨q1, q2⟩ | ⟨q1, q2⟩; (omega); (have ufx178_2 := fx178_2 (by omega); have ufx162_2 := fx162_2 (by omega); omega)
          obtain ⟨x198, ex198⟩ : ∃ y : Int, h15 108 16 = y := ⟨_, rfl⟩
          have bx198 : 0 ≤ x198 ∧ x198 ≤ 200 := ex198 ▸ g_108_16 G15
          have w199 : h15 108 9 = x179 := ((S15 108 9 rfl).trans ex179)
          have w200 : h15 108 10 = x180 := ((S15 108 10 rfl).trans ex180)
          have w201 : h15 108 11 = x181 := ((S15 108 11 rfl).trans ex181)
          have w202 : h15 108 8 = x4 := ((S15 108 8 rfl).trans ((S14 108 8 rfl).trans ((S13 108 8 rfl).trans ((S5 108 8 rfl).trans ((S2 108 8 rfl).trans ((S1 108 8 rfl).trans ex4))))))
          have w203 : h15 108 16 = x198 := ex198
          have w204 : h15 108 14 = x182 := ((S15 108 14 rfl).trans ex182)
          exact z_retV (M := M_X12_readThing) 87 dX12_readThing_87 rfl ⟨G15, R15, by omega, P15, by omega, A15, fun q => by have ufx178_2 := fx178_2 (by omega); have ufx162_2 := fx162_2 (by omega); omega⟩
    · refine z_if_eq_T (M := M_X12_readThing) 27 dX12_readThing_27 88 rfl (by omega) ?_
      refine z_aload_n (M := M_X12_readThing) 88 dX12_readThing_88 rfl ?_
      refine z_iload_n (M := M_X12_readThing) 89 dX12_readThing_89 rfl ?_
      have w205 : h2 108 9 = x30 := ex30
      have w206 : h2 108 10 = x31 := ex31
      have w207 : h2 108 11 = x32 := ex32
      have w208 : h2 108 8 = x4 := ((S2 108 8 rfl).trans ((S1 108 8 rfl).trans ex4))
      have w209 : h2 108 16 = x6 := ((S2 108 16 rfl).trans ((S1 108 16 rfl).trans ex6))
      have w210 : h2 108 14 = x33 := ex33
      refine z_vV (M := M_X12_readThing) 90 dX12_readThing_90 t_X12_readMeasure l_X12_297 (m_rr_of rfl) (rest := []) (c_X12_readMeasure h2 x29 G2 (by by_cases hb : x33 = 0; ( exact Or.inr ⟨by omega, by omega⟩); (exact Or.inl (by omega))) fx29_1 (by omega) A2) o_108 rfl rfl rfl (Nat.le_of_ble_eq_true rfl) ⟨rfl, rfl⟩ (fun h16 qx211 => ?_)
      obtain ⟨G16, S16, fx211_0, fx211_1, fx211_2, fx211_3, fx211_4⟩ := qx211
      have R16 := R2.call S16 (by decide +kernel)
      obtain ⟨x212, ex212⟩ : ∃ y : Int, h16 108 9 = y := ⟨_, rfl⟩
      have bx212 : 0 ≤ x212 ∧ x212 ≤ 400 := ex212 ▸ g_108_9 G16
      obtain ⟨x213, ex213⟩ : ∃ y : Int, h16 108 10 = y := ⟨_, rfl⟩
      have bx213 : 0 ≤ x213 ∧ x213 ≤ 400 := ex213 ▸ g_108_10 G16
      obtain ⟨x214, ex214⟩ : ∃ y : Int, h16 108 11 = y := ⟨_, rfl⟩
      have bx214 : 0 ≤ x214 ∧ x214 ≤ 3 := ex214 ▸ g_108_11 G16
      obtain ⟨x215, ex215⟩ : ∃ y : Int, h16 108 14 = y := ⟨_, rfl⟩
      have bx215 : 0 ≤ x215 ∧ x215 ≤ 1 := ex215 ▸ g_108_14 G16
      obtain ⟨x216, ex216⟩ : ∃ y : Int, h16 108 16 = y := ⟨_, rfl⟩
      have bx216 : 0 ≤ x216 ∧ x216 ≤ 200 := ex216 ▸ g_108_16 G16
      obtain ⟨x217, ex217⟩ : ∃ y : Int, h16 108 17 = y := ⟨_, rfl⟩
      have bx217 : 0 ≤ x217 ∧ x217 ≤ 24 := ex217 ▸ g_108_17 G16
      obtain ⟨x218, ex218⟩ : ∃ y : Int, h16 108 18 = y := ⟨_, rfl⟩
      have bx218 : 0 ≤ x218 ∧ x218 ≤ 6 := ex218 ▸ g_108_18 G16
      have w219 : h16 108 9 = x212 := ex212
      have w220 : h16 108 10 = x213 := ex213
      have w221 : h16 108 11 = x214 := ex214
      have w222 : h16 108 8 = x4 := ((S16 108 8 rfl).trans ((S2 108 8 rfl).trans ((S1 108 8 rfl).trans ex4)))
      have w223 : h16 108 16 = x216 := ex216
      have w224 : h16 108 14 = x215 := ex215
      have l225 := fx211_1.le
      exact z_mask [true, true] rfl (ih x29 x4 x212 x213 x214 x215 x216 x217 x218 h16 G16 R16 (by omega) (by omega) (by omega) (by omega) (by omega) (by omega) (by omega) (by omega) (by omega) (by omega) (by omega) (by omega) (by omega) (by omega) (by omega) (by omega) ((S16 108 8 rfl).trans ((S2 108 8 rfl).trans ((S1 108 8 rfl).trans ex4))) ex212 ex213 ex214 ex215 ex216 ex217 ex218 fx211_1 fx211_3 (by omega) (by by_cases hb : x215 = 0; (have ufx211_4 := fx211_4 (by omega); exact Or.inr ⟨by omega, by omega⟩); (exact Or.inl (by omega))) (fun q => by have ufx211_4 := fx211_4 (by omega); omega) (by omega))
abbrev P_X12_readClause (h0 : m_H) : m_H → Prop := fun h' => GI h' ∧ FR [114] [(108, 9), (108, 10), (108, 11), (108, 12), (108, 13), (108, 14), (108, 16), (108, 17), (108, 18)] h0 h' ∧ h0 108 9 ≤ h' 108 9 ∧ PIp h' ∧ 2 * h' 108 16 ≤ h' 108 9 ∧ AI h' ∧ Im (h' 108 14 = 0) (h0 108 14 = 0)
set_option maxHeartbeats 4000000 in
set_option maxRecDepth 100000 in
theorem c_X12_readClause (h0 : m_H) (G0 : GI h0) (hp : PIp h0) (hn : 2 * h0 108 16 ≤ h0 108 9) (A0 : AI h0) : m_CV M_X12_readClause [mR 108] h0 (P_X12_readClause h0) := by
  refine m_CV_of ⟨by decide, rfl, by simp [m_arg, m_isL, M_X12_readClause], ⟨rfl, rfl⟩, rfl, rfl⟩ (ls := [some (mR 108)]) rfl ?_
  have hl := hp.le
  obtain ⟨x1, ex1⟩ : ∃ y : Int, h0 108 9 = y := ⟨_, rfl⟩
  have bx1 : 0 ≤ x1 ∧ x1 ≤ 400 := ex1 ▸ g_108_9 G0
  obtain ⟨x2, ex2⟩ : ∃ y : Int, h0 108 10 = y := ⟨_, rfl⟩
  have bx2 : 0 ≤ x2 ∧ x2 ≤ 400 := ex2 ▸ g_108_10 G0
  obtain ⟨x3, ex3⟩ : ∃ y : Int, h0 108 11 = y := ⟨_, rfl⟩
  have bx3 : 0 ≤ x3 ∧ x3 ≤ 3 := ex3 ▸ g_108_11 G0
  obtain ⟨x4, ex4⟩ : ∃ y : Int, h0 108 8 = y := ⟨_, rfl⟩
  have bx4 : 0 ≤ x4 ∧ x4 ≤ 400 := ex4 ▸ g_108_8 G0
  obtain ⟨x5, ex5⟩ : ∃ y : Int, h0 108 14 = y := ⟨_, rfl⟩
  have bx5 : 0 ≤ x5 ∧ x5 ≤ 1 := ex5 ▸ g_108_14 G0
  obtain ⟨x6, ex6⟩ : ∃ y : Int, h0 108 16 = y := ⟨_, rfl⟩
  have bx6 : 0 ≤ x6 ∧ x6 ≤ 200 := ex6 ▸ g_108_16 G0
  obtain ⟨x7, ex7⟩ : ∃ y : Int, h0 108 17 = y := ⟨_, rfl⟩
  have bx7 : 0 ≤ x7 ∧ x7 ≤ 24 := ex7 ▸ g_108_17 G0
  obtain ⟨x8, ex8⟩ : ∃ y : Int, h0 108 18 = y := ⟨_, rfl⟩
  have bx8 : 0 ≤ x8 ∧ x8 ≤ 6 := ex8 ▸ g_108_18 G0
  refine z_aload_n (M := M_X12_readClause) 0 dX12_readClause_0 rfl ?_
  refine z_ldc2 (M := M_X12_readClause) 1 dX12_readClause_1 k_X12_303 ?_
  refine z_vI (M := M_X12_readClause) 4 dX12_readClause_4 t_X12_isWord l_X12_260 (m_rr_of rfl) (rest := []) (c_X12_isWord h0 758955 G0) o_108 rfl rfl rfl (Nat.le_of_ble_eq_true rfl) ⟨rfl, rfl⟩ (fun x9 h1 qx9 => ?_)
  obtain ⟨rfl, ⟨rfl, cx9⟩ | ⟨rfl, cx9⟩⟩ := qx9
  · refine z_if_eq_F (M := M_X12_readClause) 7 dX12_readClause_7 17 rfl (by omega) ?_
    refine z_aload_n (M := M_X12_readClause) 10 dX12_readClause_10 rfl ?_
    have w10 : h0 108 9 = x1 := ex1
    have w11 : h0 108 10 = x2 := ex2
    have w12 : h0 108 11 = x3 := ex3
    have w13 : h0 108 8 = x4 := ex4
    have w14 : h0 108 16 = x6 := ex6
    have w15 : h0 108 14 = x5 := ex5
    refine z_vV (M := M_X12_readClause) 11 dX12_readClause_11 t_X12_readWeeks l_X12_305 (m_rr_of rfl) (rest := []) (c_X12_readWeeks h0 G0 hp (by omega) (by omega) A0) o_108 rfl rfl rfl (Nat.le_of_ble_eq_true rfl) ⟨rfl, rfl⟩ (fun h2 qx16 => ?_)
    obtain ⟨G2, S2, fx16_0, fx16_1, fx16_2, fx16_3, fx16_4⟩ := qx16
    have R2 := (FR.rf (cs := [114]) (ss := [(108, 9), (108, 10), (108, 11), (108, 12), (108, 13), (108, 14), (108, 16), (108, 17), (108, 18)]) (h := h0)).call S2 (by decide +kernel)
    obtain ⟨x17, ex17⟩ : ∃ y : Int, h2 108 9 = y := ⟨_, rfl⟩
    have bx17 : 0 ≤ x17 ∧ x17 ≤ 400 := ex17 ▸ g_108_9 G2
    obtain ⟨x18, ex18⟩ : ∃ y : Int, h2 108 10 = y := ⟨_, rfl⟩
    have bx18 : 0 ≤ x18 ∧ x18 ≤ 400 := ex18 ▸ g_108_10 G2
    obtain ⟨x19, ex19⟩ : ∃ y : Int, h2 108 11 = y := ⟨_, rfl⟩
    have bx19 : 0 ≤ x19 ∧ x19 ≤ 3 := ex19 ▸ g_108_11 G2
    obtain ⟨x20, ex20⟩ : ∃ y : Int, h2 108 14 = y := ⟨_, rfl⟩
    have bx20 : 0 ≤ x20 ∧ x20 ≤ 1 := ex20 ▸ g_108_14 G2
    obtain ⟨x21, ex21⟩ : ∃ y : Int, h2 108 16 = y := ⟨_, rfl⟩
    have bx21 : 0 ≤ x21 ∧ x21 ≤ 200 := ex21 ▸ g_108_16 G2
    obtain ⟨x22, ex22⟩ : ∃ y : Int, h2 108 17 = y := ⟨_, rfl⟩
    have bx22 : 0 ≤ x22 ∧ x22 ≤ 24 := ex22 ▸ g_108_17 G2
    obtain ⟨x23, ex23⟩ : ∃ y : Int, h2 108 18 = y := ⟨_, rfl⟩
    have bx23 : 0 ≤ x23 ∧ x23 ≤ 6 := ex23 ▸ g_108_18 G2
    have w24 : h2 108 9 = x17 := ex17
    have w25 : h2 108 10 = x18 := ex18
    have w26 : h2 108 11 = x19 := ex19
    have w27 : h2 108 8 = x4 := ((S2 108 8 rfl).trans ex4)
    have w28 : h2 108 16 = x21 := ex21
    have w29 : h2 108 14 = x20 := ex20
    have l30 := fx16_1.le
    refine z_goto (M := M_X12_readClause) 14 dX12_readClause_14 56 rfl ?_
    have w31 : h2 108 9 = x17 := ex17
    have w32 : h2 108 10 = x18 := ex18
    have w33 : h2 108 11 = x19 := ex19
    have w34 : h2 108 8 = x4 := ((S2 108 8 rfl).trans ex4)
    have w35 : h2 108 16 = x21 := ex21
    have w36 : h2 108 14 = x20 := ex20
    exact z_retV (M := M_X12_readClause) 56 dX12_readClause_56 rfl ⟨G2, R2, by omega, fx16_1, by omega, fx16_3, fun q => by have ufx16_4 := fx16_4 (by omega); omega⟩
  · refine z_if_eq_T (M := M_X12_readClause) 7 dX12_readClause_7 17 rfl (by omega) ?_
    refine z_aload_n (M := M_X12_readClause) 17 dX12_readClause_17 rfl ?_
    refine z_ldc2 (M := M_X12_readClause) 18 dX12_readClause_18 k_X12_308 ?_
    refine z_vI (M := M_X12_readClause) 21 dX12_readClause_21 t_X12_isWord l_X12_260 (m_rr_of rfl) (rest := []) (c_X12_isWord h0 374522034 G0) o_108 rfl rfl rfl (Nat.le_of_ble_eq_true rfl) ⟨rfl, rfl⟩ (fun x37 h3 qx37 => ?_)
    obtain ⟨rfl, ⟨rfl, cx37⟩ | ⟨rfl, cx37⟩⟩ := qx37
    · refine z_if_eq_F (M := M_X12_readClause) 24 dX12_readClause_24 34 rfl (by omega) ?_
      refine z_aload_n (M := M_X12_readClause) 27 dX12_readClause_27 rfl ?_
      have w38 : h0 108 9 = x1 := ex1
      have w39 : h0 108 10 = x2 := ex2
      have w40 : h0 108 11 = x3 := ex3
      have w41 : h0 108 8 = x4 := ex4
      have w42 : h0 108 16 = x6 := ex6
      have w43 : h0 108 14 = x5 := ex5
      refine z_vV (M := M_X12_readClause) 28 dX12_readClause_28 t_X12_readShorter l_X12_310 (m_rr_of rfl) (rest := []) (c_X12_readShorter h0 G0 hp (by omega) (by omega) A0) o_108 rfl rfl rfl (Nat.le_of_ble_eq_true rfl) ⟨rfl, rfl⟩ (fun h4 qx44 => ?_)
      obtain ⟨G4, S4, fx44_0, fx44_1, fx44_2, fx44_3, fx44_4⟩ := qx44
      have R4 := (FR.rf (cs := [114]) (ss := [(108, 9), (108, 10), (108, 11), (108, 12), (108, 13), (108, 14), (108, 16), (108, 17), (108, 18)]) (h := h0)).call S4 (by decide +kernel)
      obtain ⟨x45, ex45⟩ : ∃ y : Int, h4 108 9 = y := ⟨_, rfl⟩
      have bx45 : 0 ≤ x45 ∧ x45 ≤ 400 := ex45 ▸ g_108_9 G4
      obtain ⟨x46, ex46⟩ : ∃ y : Int, h4 108 10 = y := ⟨_, rfl⟩
      have bx46 : 0 ≤ x46 ∧ x46 ≤ 400 := ex46 ▸ g_108_10 G4
      obtain ⟨x47, ex47⟩ : ∃ y : Int, h4 108 11 = y := ⟨_, rfl⟩
      have bx47 : 0 ≤ x47 ∧ x47 ≤ 3 := ex47 ▸ g_108_11 G4
      obtain ⟨x48, ex48⟩ : ∃ y : Int, h4 108 14 = y := ⟨_, rfl⟩
      have bx48 : 0 ≤ x48 ∧ x48 ≤ 1 := ex48 ▸ g_108_14 G4
      obtain ⟨x49, ex49⟩ : ∃ y : Int, h4 108 16 = y := ⟨_, rfl⟩
      have bx49 : 0 ≤ x49 ∧ x49 ≤ 200 := ex49 ▸ g_108_16 G4
      obtain ⟨x50, ex50⟩ : ∃ y : Int, h4 108 17 = y := ⟨_, rfl⟩
      have bx50 : 0 ≤ x50 ∧ x50 ≤ 24 := ex50 ▸ g_108_17 G4
      obtain ⟨x51, ex51⟩ : ∃ y : Int, h4 108 18 = y := ⟨_, rfl⟩
      have bx51 : 0 ≤ x51 ∧ x51 ≤ 6 := ex51 ▸ g_108_18 G4
      have w52 : h4 108 9 = x45 := ex45
      have w53 : h4 108 10 = x46 := ex46
      have w54 : h4 108 11 = x47 := ex47
      have w55 : h4 108 8 = x4 := ((S4 108 8 rfl).trans ex4)
      have w56 : h4 108 16 = x49 := ex49
      have w57 : h4 108 14 = x48 := ex48
      have l58 := fx44_1.le
      refine z_goto (M := M_X12_readClause) 31 dX12_readClause_31 56 rfl ?_
      have w59 : h4 108 9 = x45 := ex45
      have w60 : h4 108 10 = x46 := ex46
      have w61 : h4 108 11 = x47 := ex47
      have w62 : h4 108 8 = x4 := ((S4 108 8 rfl).trans ex4)
      have w63 : h4 108 16 = x49 := ex49
      have w64 : h4 108 14 = x48 := ex48
      exact z_retV (M := M_X12_readClause) 56 dX12_readClause_56 rfl ⟨G4, R4, by omega, fx44_1, by omega, fx44_3, fun q => by have ufx44_4 := fx44_4 (by omega); omega⟩
    · refine z_if_eq_T (M := M_X12_readClause) 24 dX12_readClause_24 34 rfl (by omega) ?_
      refine z_aload_n (M := M_X12_readClause) 34 dX12_readClause_34 rfl ?_
      refine z_ldc2 (M := M_X12_readClause) 35 dX12_readClause_35 k_X12_313 ?_
      refine z_vI (M := M_X12_readClause) 38 dX12_readClause_38 t_X12_isWord l_X12_260 (m_rr_of rfl) (rest := []) (c_X12_isWord h0 21243335 G0) o_108 rfl rfl rfl (Nat.le_of_ble_eq_true rfl) ⟨rfl, rfl⟩ (fun x65 h5 qx65 => ?_)
      obtain ⟨rfl, ⟨rfl, cx65⟩ | ⟨rfl, cx65⟩⟩ := qx65
      · refine z_if_eq_F (M := M_X12_readClause) 41 dX12_readClause_41 51 rfl (by omega) ?_
        refine z_aload_n (M := M_X12_readClause) 44 dX12_readClause_44 rfl ?_
        have w66 : h0 108 9 = x1 := ex1
        have w67 : h0 108 10 = x2 := ex2
        have w68 : h0 108 11 = x3 := ex3
        have w69 : h0 108 8 = x4 := ex4
        have w70 : h0 108 16 = x6 := ex6
        have w71 : h0 108 14 = x5 := ex5
        refine z_vV (M := M_X12_readClause) 45 dX12_readClause_45 t_X12_readThing l_X12_315 (m_rr_of rfl) (rest := []) (c_X12_readThing h0 G0 hp (by omega) (by omega) A0) o_108 rfl rfl rfl (Nat.le_of_ble_eq_true rfl) ⟨rfl, rfl⟩ (fun h6 qx72 => ?_)
        obtain ⟨G6, S6, fx72_0, fx72_1, fx72_2, fx72_3, fx72_4⟩ := qx72
        have R6 := (FR.rf (cs := [114]) (ss := [(108, 9), (108, 10), (108, 11), (108, 12), (108, 13), (108, 14), (108, 16), (108, 17), (108, 18)]) (h := h0)).call S6 (by decide +kernel)
        obtain ⟨x73, ex73⟩ : ∃ y : Int, h6 108 9 = y := ⟨_, rfl⟩
        have bx73 : 0 ≤ x73 ∧ x73 ≤ 400 := ex73 ▸ g_108_9 G6
        obtain ⟨x74, ex74⟩ : ∃ y : Int, h6 108 10 = y := ⟨_, rfl⟩
        have bx74 : 0 ≤ x74 ∧ x74 ≤ 400 := ex74 ▸ g_108_10 G6
        obtain ⟨x75, ex75⟩ : ∃ y : Int, h6 108 11 = y := ⟨_, rfl⟩
        have bx75 : 0 ≤ x75 ∧ x75 ≤ 3 := ex75 ▸ g_108_11 G6
        obtain ⟨x76, ex76⟩ : ∃ y : Int, h6 108 14 = y := ⟨_, rfl⟩
        have bx76 : 0 ≤ x76 ∧ x76 ≤ 1 := ex76 ▸ g_108_14 G6
        obtain ⟨x77, ex77⟩ : ∃ y : Int, h6 108 16 = y := ⟨_, rfl⟩
        have bx77 : 0 ≤ x77 ∧ x77 ≤ 200 := ex77 ▸ g_108_16 G6
        obtain ⟨x78, ex78⟩ : ∃ y : Int, h6 108 17 = y := ⟨_, rfl⟩
        have bx78 : 0 ≤ x78 ∧ x78 ≤ 24 := ex78 ▸ g_108_17 G6
        obtain ⟨x79, ex79⟩ : ∃ y : Int, h6 108 18 = y := ⟨_, rfl⟩
        have bx79 : 0 ≤ x79 ∧ x79 ≤ 6 := ex79 ▸ g_108_18 G6
        have w80 : h6 108 9 = x73 := ex73
        have w81 : h6 108 10 = x74 := ex74
        have w82 : h6 108 11 = x75 := ex75
        have w83 : h6 108 8 = x4 := ((S6 108 8 rfl).trans ex4)
        have w84 : h6 108 16 = x77 := ex77
        have w85 : h6 108 14 = x76 := ex76
        have l86 := fx72_1.le
        refine z_goto (M := M_X12_readClause) 48 dX12_readClause_48 56 rfl ?_
        have w87 : h6 108 9 = x73 := ex73
        have w88 : h6 108 10 = x74 := ex74
        have w89 : h6 108 11 = x75 := ex75
        have w90 : h6 108 8 = x4 := ((S6 108 8 rfl).trans ex4)
        have w91 : h6 108 16 = x77 := ex77
        have w92 : h6 108 14 = x76 := ex76
        exact z_retV (M := M_X12_readClause) 56 dX12_readClause_56 rfl ⟨G6, R6, by omega, fx72_1, by omega, fx72_3, fun q => by have ufx72_4 := fx72_4 (by omega); omega⟩
      · refine z_if_eq_T (M := M_X12_readClause) 41 dX12_readClause_41 51 rfl (by omega) ?_
        refine z_aload_n (M := M_X12_readClause) 51 dX12_readClause_51 rfl ?_
        refine z_iconst (M := M_X12_readClause) 52 dX12_readClause_52 ?_
        have w93 : h0 108 9 = x1 := ex1
        have w94 : h0 108 10 = x2 := ex2
        have w95 : h0 108 11 = x3 := ex3
        have w96 : h0 108 8 = x4 := ex4
        refine z_vV (M := M_X12_readClause) 53 dX12_readClause_53 t_X12_must l_X12_247 (m_rr_of rfl) (rest := []) (c_X12_must h0 0 G0 ⟨by omega, by omega⟩ hp) o_108 rfl rfl rfl (Nat.le_of_ble_eq_true rfl) ⟨rfl, rfl⟩ (fun h7 qx97 => ?_)
        obtain ⟨G7, S7, fx97_0, fx97_1, fx97_2⟩ := qx97
        have R7 := (FR.rf (cs := [114]) (ss := [(108, 9), (108, 10), (108, 11), (108, 12), (108, 13), (108, 14), (108, 16), (108, 17), (108, 18)]) (h := h0)).call S7 (by decide +kernel)
        have A7 := A0.fr S7 (fun _ => rfl) rfl rfl rfl rfl rfl
        obtain ⟨x98, ex98⟩ : ∃ y : Int, h7 108 9 = y := ⟨_, rfl⟩
        have bx98 : 0 ≤ x98 ∧ x98 ≤ 400 := ex98 ▸ g_108_9 G7
        obtain ⟨x99, ex99⟩ : ∃ y : Int, h7 108 10 = y := ⟨_, rfl⟩
        have bx99 : 0 ≤ x99 ∧ x99 ≤ 400 := ex99 ▸ g_108_10 G7
        obtain ⟨x100, ex100⟩ : ∃ y : Int, h7 108 11 = y := ⟨_, rfl⟩
        have bx100 : 0 ≤ x100 ∧ x100 ≤ 3 := ex100 ▸ g_108_11 G7
        obtain ⟨x101, ex101⟩ : ∃ y : Int, h7 108 14 = y := ⟨_, rfl⟩
        have bx101 : 0 ≤ x101 ∧ x101 ≤ 1 := ex101 ▸ g_108_14 G7
        have w102 : h7 108 9 = x98 := ex98
        have w103 : h7 108 10 = x99 := ex99
        have w104 : h7 108 11 = x100 := ex100
        have w105 : h7 108 8 = x4 := ((S7 108 8 rfl).trans ex4)
        have w106 : h7 108 14 = x101 := ex101
        have l107 := fx97_1.le
        have nbx97 : x101 ≠ 0 := fun q => by have q2 := fx97_2 (by omega); omega
        have w108 : h7 108 9 = x98 := ex98
        have w109 : h7 108 10 = x99 := ex99
        have w110 : h7 108 11 = x100 := ex100
        have w111 : h7 108 8 = x4 := ((S7 108 8 rfl).trans ex4)
        have w112 : h7 108 16 = x6 := ((S7 108 16 rfl).trans ex6)
        have w113 : h7 108 14 = x101 := ex101
        exact z_retV (M := M_X12_readClause) 56 dX12_readClause_56 rfl ⟨G7, R7, by omega, fx97_1, by omega, A7, fun q => by have ufx97_2 := fx97_2 (by omega); omega⟩
abbrev P_X12_doAct (h0 : m_H) (a1 : Int) : m_H → Prop := fun h' => GI h' ∧ FR [110] [] h0 h' ∧ ((h0 114 a1.toNat = 3 ∧ h' 110 0 = h0 110 0 + 1) ∨ (h0 114 a1.toNat ≠ 3 ∧ h' 110 0 = h0 110 0)) ∧ ((h0 114 a1.toNat = 1 ∧ h' 110 1 = h0 110 1 + 1) ∨ (h0 114 a1.toNat ≠ 1 ∧ h' 110 1 = h0 110 1)) ∧ NPi h0 h'
def q_X12_doAct (h0 : m_H) (a1 : Int) (n : Nat) : Prop := (∀ (l2 y_110_0 y_110_1 : Int) (h : m_H), GI h → FR [110] [] h0 h → 0 ≤ l2 → l2 ≤ 32 → 0 ≤ y_110_0 → y_110_0 ≤ 24 → 0 ≤ y_110_1 → y_110_1 ≤ 6 → (h 110 0 = y_110_0) → (h 110 1 = y_110_1) → (h0 114 a1.toNat = 0 ∧ y_110_0 = h0 110 0 ∧ y_110_1 = h0 110 1) → (NPi h0 h) → 2 * (32 - l2) + (1) ≤ (n : Int) → m_Z oF M_X12_doAct 18 [some (mR 108), some (mI a1), some (mI l2)] [] h (m_QV (P_X12_doAct h0 a1)))
set_option maxHeartbeats 4000000 in
set_option maxRecDepth 100000 in
theorem s_X12_doAct_18 (h0 : m_H) (a1 : Int) (G0 : GI h0) (pa1 : 0 ≤ a1 ∧ a1 ≤ 995) (hk : okA (h0 114 a1.toNat) (h0 114 (a1 + 1).toNat) (h0 114 (a1 + 2).toNat) (h0 114 (a1 + 3).toNat) (h0 114 (a1 + 4).toNat)) (h3 : h0 114 a1.toNat ≠ 3 ∨ h0 110 0 ≤ 23) (h1 : h0 114 a1.toNat ≠ 1 ∨ h0 110 1 ≤ 5) (n : Nat) (ih : q_X12_doAct h0 a1 n) : ∀ (l2 y_110_0 y_110_1 : Int) (h : m_H), GI h → FR [110] [] h0 h → 0 ≤ l2 → l2 ≤ 32 → 0 ≤ y_110_0 → y_110_0 ≤ 24 → 0 ≤ y_110_1 → y_110_1 ≤ 6 → (h 110 0 = y_110_0) → (h 110 1 = y_110_1) → (h0 114 a1.toNat = 0 ∧ y_110_0 = h0 110 0 ∧ y_110_1 = h0 110 1) → (NPi h0 h) → 2 * (32 - l2) + (1) ≤ ((n + 1 : Nat) : Int) → m_Z oF M_X12_doAct 18 [some (mR 108), some (mI a1), some (mI l2)] [] h (m_QV (P_X12_doAct h0 a1)) := by
  intro l2 y_110_0 y_110_1 h G R v0 v1 v2 v3 v4 v5 t_110_0 t_110_1 i0 i1 hr
  unfold okA at hk
  refine z_iload_n (M := M_X12_doAct) 18 dX12_doAct_18 rfl ?_
  refine z_aload_n (M := M_X12_doAct) 19 dX12_doAct_19 rfl ?_
  refine z_getR (M := M_X12_doAct) 20 dX12_doAct_20 f_X12_30 o_108 rfl (g_108_15 G) ?_
  refine z_iload_n (M := M_X12_doAct) 23 dX12_doAct_23 rfl ?_
  refine z_iconst (M := M_X12_doAct) 24 dX12_doAct_24 ?_
  refine z_iaddN (M := M_X12_doAct) 25 dX12_doAct_25 (by omega) (by omega) ?_
  refine z_ialdV (M := M_X12_doAct) 26 dX12_doAct_26 o_114 (by omega) (by omega) (fun x1 ex1 => ?_)
  refine z_ok (fun ox1 _ _ => ?_)
  have ox1 := ox1.1; unfold m_ok m_32 at ox1
  have rx1 := R 114 ((a1 + 2)).toNat rfl
  refine z_icmp_gt (M := M_X12_doAct) 27 dX12_doAct_27 53 rfl (fun c2 => ?_) (fun c2 => ?_)
  · refine z_goto (M := M_X12_doAct) 53 dX12_doAct_53 162 rfl ?_
    have w3 : h 110 0 = y_110_0 := t_110_0
    have w4 : h 110 1 = y_110_1 := t_110_1
    exact z_retV (M := M_X12_doAct) 162 dX12_doAct_162 rfl ⟨G, R, by omega, by omega, i1⟩
  · refine z_aload_n (M := M_X12_doAct) 30 dX12_doAct_30 rfl ?_
    refine z_getR (M := M_X12_doAct) 31 dX12_doAct_31 f_X12_13 o_108 rfl (g_108_3 G) ?_
    refine z_bipush (M := M_X12_doAct) 34 dX12_doAct_34 ?_
    refine z_iload_n (M := M_X12_doAct) 36 dX12_doAct_36 rfl ?_
    refine z_iaddN (M := M_X12_doAct) 37 dX12_doAct_37 (by omega) (by omega) ?_
    refine z_aload_n (M := M_X12_doAct) 38 dX12_doAct_38 rfl ?_
    refine z_getR (M := M_X12_doAct) 39 dX12_doAct_39 f_X12_30 o_108 rfl (g_108_15 G) ?_
    refine z_iload_n (M := M_X12_doAct) 42 dX12_doAct_42 rfl ?_
    refine z_iconst (M := M_X12_doAct) 43 dX12_doAct_43 ?_
    refine z_iaddN (M := M_X12_doAct) 44 dX12_doAct_44 (by omega) (by omega) ?_
    refine z_ialdV (M := M_X12_doAct) 45 dX12_doAct_45 o_114 (by omega) (by omega) (fun x5 ex5 => ?_)
    refine z_ok (fun ox5 _ _ => ?_)
    have ox5 := ox5.1; unfold m_ok m_32 at ox5
    have rx5 := R 114 ((a1 + 3)).toNat rfl
    refine z_iastH (M := M_X12_doAct) 46 dX12_doAct_46 o_110 (by omega) (by omega) (uw_w G (by omega) (by omega) (by omega) (by omega)) (R.up rfl) (fun h1 E1 G1 R1 => ?_)
    refine z_iincN (M := M_X12_doAct) 47 dX12_doAct_47 (ls' := [some (mR 108), some (mI a1), some (mI (l2 + 1))]) (by decide) rfl (by (unfold m_32; decide)) (by omega) (by omega) rfl ?_
    refine z_goto (M := M_X12_doAct) 50 dX12_doAct_50 18 rfl ?_
    exact z_mask [true, true, true] rfl (ih (l2 + 1) y_110_0 y_110_1 h1 G1 R1 (by omega) (by omega) (by omega) (by omega) (by omega) (by omega) ((upN E1 (fun q => absurd q.2 (by omega))).trans t_110_0) ((upN E1 (fun q => absurd q.2 (by omega))).trans t_110_1) (by omega) (NPi.st i1 E1 ⟨by omega, fun e => by omega⟩ (by omega)) (by omega))
theorem a_X12_doAct (h0 : m_H) (a1 : Int) (G0 : GI h0) (pa1 : 0 ≤ a1 ∧ a1 ≤ 995) (hk : okA (h0 114 a1.toNat) (h0 114 (a1 + 1).toNat) (h0 114 (a1 + 2).toNat) (h0 114 (a1 + 3).toNat) (h0 114 (a1 + 4).toNat)) (h3 : h0 114 a1.toNat ≠ 3 ∨ h0 110 0 ≤ 23) (h1 : h0 114 a1.toNat ≠ 1 ∨ h0 110 1 ≤ 5) : ∀ n, q_X12_doAct h0 a1 n := by
  intro n
  induction n with
  | zero => unfold q_X12_doAct; intros; omega
  | succ n ih => exact s_X12_doAct_18 h0 a1 G0 pa1 hk h3 h1 n ih
set_option maxHeartbeats 4000000 in
set_option maxRecDepth 100000 in
theorem c_X12_doAct (h0 : m_H) (a1 : Int) (G0 : GI h0) (pa1 : 0 ≤ a1 ∧ a1 ≤ 995) (hk : okA (h0 114 a1.toNat) (h0 114 (a1 + 1).toNat) (h0 114 (a1 + 2).toNat) (h0 114 (a1 + 3).toNat) (h0 114 (a1 + 4).toNat)) (h3 : h0 114 a1.toNat ≠ 3 ∨ h0 110 0 ≤ 23) (h1 : h0 114 a1.toNat ≠ 1 ∨ h0 110 1 ≤ 5) : m_CV M_X12_doAct [mR 108, mI a1] h0 (P_X12_doAct h0 a1) := by
  refine m_CV_of ⟨by decide, rfl, by simp [m_arg, m_isL, M_X12_doAct], ⟨rfl, rfl⟩, rfl, rfl⟩ (ls := [some (mR 108), some (mI a1), none]) rfl ?_
  have ih := a_X12_doAct h0 a1 G0 pa1 hk h3 h1 72
  unfold okA at hk
  obtain ⟨x1, ex1⟩ : ∃ y : Int, h0 110 0 = y := ⟨_, rfl⟩
  have bx1 : 0 ≤ x1 ∧ x1 ≤ 24 := ex1 ▸ gw_0 G0
  obtain ⟨x2, ex2⟩ : ∃ y : Int, h0 110 1 = y := ⟨_, rfl⟩
  have bx2 : 0 ≤ x2 ∧ x2 ≤ 6 := ex2 ▸ gw_1 G0
  refine z_aload_n (M := M_X12_doAct) 0 dX12_doAct_0 rfl ?_
  refine z_getR (M := M_X12_doAct) 1 dX12_doAct_1 f_X12_30 o_108 rfl (g_108_15 G0) ?_
  refine z_iload_n (M := M_X12_doAct) 4 dX12_doAct_4 rfl ?_
  refine z_ialdV (M := M_X12_doAct) 5 dX12_doAct_5 o_114 (by omega) (by omega) (fun x3 ex3 => ?_)
  refine z_ok (fun ox3 _ _ => ?_)
  have ox3 := ox3.1; unfold m_ok m_32 at ox3
  have rx3 := (FR.rf (cs := [110]) (ss := []) (h := h0)) 114 (a1).toNat rfl
  refine z_if_ne (M := M_X12_doAct) 6 dX12_doAct_6 56 rfl (fun c4 => ?_) (fun c4 => ?_)
  · refine z_aload_n (M := M_X12_doAct) 56 dX12_doAct_56 rfl ?_
    refine z_getR (M := M_X12_doAct) 57 dX12_doAct_57 f_X12_30 o_108 rfl (g_108_15 G0) ?_
    refine z_iload_n (M := M_X12_doAct) 60 dX12_doAct_60 rfl ?_
    refine z_ialdE (M := M_X12_doAct) 61 dX12_doAct_61 o_114 (by omega) (by omega) ex3 ?_
    refine z_iconst (M := M_X12_doAct) 62 dX12_doAct_62 ?_
    refine z_icmp_ne (M := M_X12_doAct) 63 dX12_doAct_63 89 rfl (fun c5 => ?_) (fun c5 => ?_)
    · refine z_aload_n (M := M_X12_doAct) 89 dX12_doAct_89 rfl ?_
      refine z_getR (M := M_X12_doAct) 90 dX12_doAct_90 f_X12_30 o_108 rfl (g_108_15 G0) ?_
      refine z_iload_n (M := M_X12_doAct) 93 dX12_doAct_93 rfl ?_
      refine z_ialdE (M := M_X12_doAct) 94 dX12_doAct_94 o_114 (by omega) (by omega) ex3 ?_
      refine z_iconst (M := M_X12_doAct) 95 dX12_doAct_95 ?_
      refine z_icmp_ne (M := M_X12_doAct) 96 dX12_doAct_96 126 rfl (fun c6 => ?_) (fun c6 => ?_)
      · refine z_aload_n (M := M_X12_doAct) 126 dX12_doAct_126 rfl ?_
        refine z_aload_n (M := M_X12_doAct) 127 dX12_doAct_127 rfl ?_
        refine z_getR (M := M_X12_doAct) 128 dX12_doAct_128 f_X12_30 o_108 rfl (g_108_15 G0) ?_
        refine z_iload_n (M := M_X12_doAct) 131 dX12_doAct_131 rfl ?_
        refine z_iconst (M := M_X12_doAct) 132 dX12_doAct_132 ?_
        refine z_iaddN (M := M_X12_doAct) 133 dX12_doAct_133 (by omega) (by omega) ?_
        refine z_ialdV (M := M_X12_doAct) 134 dX12_doAct_134 o_114 (by omega) (by omega) (fun x7 ex7 => ?_)
        refine z_ok (fun ox7 _ _ => ?_)
        have ox7 := ox7.1; unfold m_ok m_32 at ox7
        have rx7 := (FR.rf (cs := [110]) (ss := []) (h := h0)) 114 ((a1 + 1)).toNat rfl
        refine z_aload_n (M := M_X12_doAct) 135 dX12_doAct_135 rfl ?_
        refine z_getR (M := M_X12_doAct) 136 dX12_doAct_136 f_X12_30 o_108 rfl (g_108_15 G0) ?_
        refine z_iload_n (M := M_X12_doAct) 139 dX12_doAct_139 rfl ?_
        refine z_iconst (M := M_X12_doAct) 140 dX12_doAct_140 ?_
        refine z_iaddN (M := M_X12_doAct) 141 dX12_doAct_141 (by omega) (by omega) ?_
        refine z_ialdV (M := M_X12_doAct) 142 dX12_doAct_142 o_114 (by omega) (by omega) (fun x8 ex8 => ?_)
        refine z_ok (fun ox8 _ _ => ?_)
        have ox8 := ox8.1; unfold m_ok m_32 at ox8
        have rx8 := (FR.rf (cs := [110]) (ss := []) (h := h0)) 114 ((a1 + 2)).toNat rfl
        refine z_aload_n (M := M_X12_doAct) 143 dX12_doAct_143 rfl ?_
        refine z_getR (M := M_X12_doAct) 144 dX12_doAct_144 f_X12_30 o_108 rfl (g_108_15 G0) ?_
        refine z_iload_n (M := M_X12_doAct) 147 dX12_doAct_147 rfl ?_
        refine z_iconst (M := M_X12_doAct) 148 dX12_doAct_148 ?_
        refine z_iaddN (M := M_X12_doAct) 149 dX12_doAct_149 (by omega) (by omega) ?_
        refine z_ialdV (M := M_X12_doAct) 150 dX12_doAct_150 o_114 (by omega) (by omega) (fun x9 ex9 => ?_)
        refine z_ok (fun ox9 _ _ => ?_)
        have ox9 := ox9.1; unfold m_ok m_32 at ox9
        have rx9 := (FR.rf (cs := [110]) (ss := []) (h := h0)) 114 ((a1 + 3)).toNat rfl
        refine z_aload_n (M := M_X12_doAct) 151 dX12_doAct_151 rfl ?_
        refine z_getR (M := M_X12_doAct) 152 dX12_doAct_152 f_X12_30 o_108 rfl (g_108_15 G0) ?_
        refine z_iload_n (M := M_X12_doAct) 155 dX12_doAct_155 rfl ?_
        refine z_iconst (M := M_X12_doAct) 156 dX12_doAct_156 ?_
        refine z_iaddN (M := M_X12_doAct) 157 dX12_doAct_157 (by omega) (by omega) ?_
        refine z_ialdV (M := M_X12_doAct) 158 dX12_doAct_158 o_114 (by omega) (by omega) (fun x10 ex10 => ?_)
        refine z_ok (fun ox10 _ _ => ?_)
        have ox10 := ox10.1; unfold m_ok m_32 at ox10
        have rx10 := (FR.rf (cs := [110]) (ss := []) (h := h0)) 114 ((a1 + 4)).toNat rfl
        refine z_vV (M := M_X12_doAct) 159 dX12_doAct_159 t_X12_addEntry l_X12_188 (m_rr_of rfl) (rest := []) (c_X12_addEntry h0 x7 x8 x9 x10 G0 ⟨by omega, by omega⟩ ⟨by omega, by omega⟩ ⟨by omega, by omega⟩ ⟨by omega, by omega⟩ (le_e ex1 (by omega))) o_108 rfl rfl rfl (Nat.le_of_ble_eq_true rfl) ⟨rfl, rfl⟩ (fun h1 qx11 => ?_)
        obtain ⟨G1, S1, fx11_0, fx11_1, npx11⟩ := qx11
        have R1 := (FR.rf (cs := [110]) (ss := []) (h := h0)).call S1 (by decide +kernel)
        have w12 : h1 110 0 = (x1 + 1) := (eq_ad fx11_0 ex1)
        have w13 : h1 110 1 = x2 := (fx11_1.trans ex2)
        exact z_retV (M := M_X12_doAct) 162 dX12_doAct_162 rfl ⟨G1, R1, by omega, by omega, (NPi.tr NPi.rf npx11)⟩
      · refine z_aload_n (M := M_X12_doAct) 99 dX12_doAct_99 rfl ?_
        refine z_getR (M := M_X12_doAct) 100 dX12_doAct_100 f_X12_13 o_108 rfl (g_108_3 G0) ?_
        refine z_bipush (M := M_X12_doAct) 103 dX12_doAct_103 ?_
        refine z_aload_n (M := M_X12_doAct) 105 dX12_doAct_105 rfl ?_
        refine z_getR (M := M_X12_doAct) 106 dX12_doAct_106 f_X12_30 o_108 rfl (g_108_15 G0) ?_
        refine z_iload_n (M := M_X12_doAct) 109 dX12_doAct_109 rfl ?_
        refine z_iconst (M := M_X12_doAct) 110 dX12_doAct_110 ?_
        refine z_iaddN (M := M_X12_doAct) 111 dX12_doAct_111 (by omega) (by omega) ?_
        refine z_ialdV (M := M_X12_doAct) 112 dX12_doAct_112 o_114 (by omega) (by omega) (fun x14 ex14 => ?_)
        refine z_ok (fun ox14 _ _ => ?_)
        have ox14 := ox14.1; unfold m_ok m_32 at ox14
        have rx14 := (FR.rf (cs := [110]) (ss := []) (h := h0)) 114 ((a1 + 1)).toNat rfl
        refine z_iaddN (M := M_X12_doAct) 113 dX12_doAct_113 (by omega) (by omega) ?_
        refine z_topBI (lo := 42) (hi := 47) ⟨by omega, by omega⟩ (fun x15 ex15 ax15 bx15 => ?_)
        refine z_aload_n (M := M_X12_doAct) 114 dX12_doAct_114 rfl ?_
        refine z_getR (M := M_X12_doAct) 115 dX12_doAct_115 f_X12_30 o_108 rfl (g_108_15 G0) ?_
        refine z_iload_n (M := M_X12_doAct) 118 dX12_doAct_118 rfl ?_
        refine z_iconst (M := M_X12_doAct) 119 dX12_doAct_119 ?_
        refine z_iaddN (M := M_X12_doAct) 120 dX12_doAct_120 (by omega) (by omega) ?_
        refine z_ialdV (M := M_X12_doAct) 121 dX12_doAct_121 o_114 (by omega) (by omega) (fun x16 ex16 => ?_)
        refine z_ok (fun ox16 _ _ => ?_)
        have ox16 := ox16.1; unfold m_ok m_32 at ox16
        have rx16 := (FR.rf (cs := [110]) (ss := []) (h := h0)) 114 ((a1 + 2)).toNat rfl
        refine z_iastH (M := M_X12_doAct) 122 dX12_doAct_122 o_110 (by omega) (by omega) (uw_c G0 (by omega) (by omega) (by omega) (by omega)) ((FR.rf (cs := [110]) (ss := []) (h := h0)).up rfl) (fun h2 E2 G2 R2 => ?_)
        refine z_goto (M := M_X12_doAct) 123 dX12_doAct_123 162 rfl ?_
        have w17 : h2 110 0 = x1 := ((upN E2 (fun q => absurd q.2 (by omega))).trans ex1)
        have w18 : h2 110 1 = x2 := ((upN E2 (fun q => absurd q.2 (by omega))).trans ex2)
        exact z_retV (M := M_X12_doAct) 162 dX12_doAct_162 rfl ⟨G2, R2, by omega, by omega, (NPi.st NPi.rf E2 ⟨by omega, fun e => by omega⟩ (by omega))⟩
    · refine z_aload_n (M := M_X12_doAct) 66 dX12_doAct_66 rfl ?_
      refine z_aload_n (M := M_X12_doAct) 67 dX12_doAct_67 rfl ?_
      refine z_getR (M := M_X12_doAct) 68 dX12_doAct_68 f_X12_30 o_108 rfl (g_108_15 G0) ?_
      refine z_iload_n (M := M_X12_doAct) 71 dX12_doAct_71 rfl ?_
      refine z_iconst (M := M_X12_doAct) 72 dX12_doAct_72 ?_
      refine z_iaddN (M := M_X12_doAct) 73 dX12_doAct_73 (by omega) (by omega) ?_
      refine z_ialdV (M := M_X12_doAct) 74 dX12_doAct_74 o_114 (by omega) (by omega) (fun x19 ex19 => ?_)
      refine z_ok (fun ox19 _ _ => ?_)
      have ox19 := ox19.1; unfold m_ok m_32 at ox19
      have rx19 := (FR.rf (cs := [110]) (ss := []) (h := h0)) 114 ((a1 + 1)).toNat rfl
      refine z_aload_n (M := M_X12_doAct) 75 dX12_doAct_75 rfl ?_
      refine z_getR (M := M_X12_doAct) 76 dX12_doAct_76 f_X12_30 o_108 rfl (g_108_15 G0) ?_
      refine z_iload_n (M := M_X12_doAct) 79 dX12_doAct_79 rfl ?_
      refine z_iconst (M := M_X12_doAct) 80 dX12_doAct_80 ?_
      refine z_iaddN (M := M_X12_doAct) 81 dX12_doAct_81 (by omega) (by omega) ?_
      refine z_ialdV (M := M_X12_doAct) 82 dX12_doAct_82 o_114 (by omega) (by omega) (fun x20 ex20 => ?_)
      refine z_ok (fun ox20 _ _ => ?_)
      have ox20 := ox20.1; unfold m_ok m_32 at ox20
      have rx20 := (FR.rf (cs := [110]) (ss := []) (h := h0)) 114 ((a1 + 2)).toNat rfl
      refine z_vV (M := M_X12_doAct) 83 dX12_doAct_83 t_X12_addShorter l_X12_176 (m_rr_of rfl) (rest := []) (c_X12_addShorter h0 x19 x20 G0 ⟨by omega, by omega⟩ ⟨by omega, by omega⟩ (le_e ex2 (by omega))) o_108 rfl rfl rfl (Nat.le_of_ble_eq_true rfl) ⟨rfl, rfl⟩ (fun h3 qx21 => ?_)
      obtain ⟨G3, S3, fx21_0, fx21_1, npx21⟩ := qx21
      have R3 := (FR.rf (cs := [110]) (ss := []) (h := h0)).call S3 (by decide +kernel)
      refine z_goto (M := M_X12_doAct) 86 dX12_doAct_86 162 rfl ?_
      have w22 : h3 110 0 = x1 := (fx21_0.trans ex1)
      have w23 : h3 110 1 = (x2 + 1) := (eq_ad fx21_1 ex2)
      exact z_retV (M := M_X12_doAct) 162 dX12_doAct_162 rfl ⟨G3, R3, by omega, by omega, (NPi.tr NPi.rf npx21)⟩
  · refine z_aload_n (M := M_X12_doAct) 9 dX12_doAct_9 rfl ?_
    refine z_getR (M := M_X12_doAct) 10 dX12_doAct_10 f_X12_30 o_108 rfl (g_108_15 G0) ?_
    refine z_iload_n (M := M_X12_doAct) 13 dX12_doAct_13 rfl ?_
    refine z_iconst (M := M_X12_doAct) 14 dX12_doAct_14 ?_
    refine z_iaddN (M := M_X12_doAct) 15 dX12_doAct_15 (by omega) (by omega) ?_
    refine z_ialdV (M := M_X12_doAct) 16 dX12_doAct_16 o_114 (by omega) (by omega) (fun x24 ex24 => ?_)
    refine z_ok (fun ox24 _ _ => ?_)
    have ox24 := ox24.1; unfold m_ok m_32 at ox24
    have rx24 := (FR.rf (cs := [110]) (ss := []) (h := h0)) 114 ((a1 + 1)).toNat rfl
    refine z_istore_n (M := M_X12_doAct) 17 dX12_doAct_17 (ls' := [some (mR 108), some (mI a1), some (mI x24)]) (by decide) rfl ?_
    exact z_mask [true, true, true] rfl (ih x24 x1 x2 h0 G0 (FR.rf (cs := [110]) (ss := []) (h := h0)) (by omega) (by omega) (by omega) (by omega) (by omega) (by omega) ex1 ex2 (by omega) NPi.rf (by omega))
abbrev P_X12_book (h0 : m_H) : Int → m_H → Prop := fun x h' => GI h' ∧ FR [109, 110, 114] [(108, 0), (108, 1), (108, 8), (108, 9), (108, 10), (108, 11), (108, 12), (108, 13), (108, 14), (108, 16), (108, 17), (108, 18)] h0 h' ∧ (-6) ≤ x ∧ x ≤ 401 ∧ h' 108 8 = 0 ∧ NPi h0 h'
def q_X12_book (h0 : m_H) (n : Nat) : Prop := (∀ (l1 y_108_8 y_108_9 y_108_10 y_108_11 y_108_14 y_108_16 y_108_17 y_108_18 : Int) (h : m_H), GI h → FR [109, 110, 114] [(108, 0), (108, 1), (108, 8), (108, 9), (108, 10), (108, 11), (108, 12), (108, 13), (108, 14), (108, 16), (108, 17), (108, 18)] h0 h → 1 ≤ l1 → l1 ≤ 401 → 0 ≤ y_108_8 → y_108_8 ≤ 400 → 0 ≤ y_108_9 → y_108_9 ≤ 400 → 0 ≤ y_108_10 → y_108_10 ≤ 400 → 0 ≤ y_108_11 → y_108_11 ≤ 3 → 0 ≤ y_108_14 → y_108_14 ≤ 1 → 0 ≤ y_108_16 → y_108_16 ≤ 200 → 0 ≤ y_108_17 → y_108_17 ≤ 24 → 0 ≤ y_108_18 → y_108_18 ≤ 6 → (h 108 8 = y_108_8) → (h 108 9 = y_108_9) → (h 108 10 = y_108_10) → (h 108 11 = y_108_11) → (h 108 14 = y_108_14) → (h 108 16 = y_108_16) → (h 108 17 = y_108_17) → (h 108 18 = y_108_18) → (PIp h) → (AI h) → (2 * y_108_16 ≤ y_108_9 ∧ l1 ≤ y_108_9 + 1) → (NPi h0 h) → 2 * (400 - y_108_9) + (404) ≤ (n : Int) → m_Z oF M_X12_book 30 [some (mR 108), some (mI l1), none] [] h (m_QI (P_X12_book h0))) ∧ (∀ (l1 l2 y_108_16 : Int) (h : m_H), GI h → FR [109, 110, 114] [(108, 0), (108, 1), (108, 8), (108, 9), (108, 10), (108, 11), (108, 12), (108, 13), (108, 14), (108, 16), (108, 17), (108, 18)] h0 h → 1 ≤ l1 → l1 ≤ 401 → 0 ≤ l2 → l2 ≤ 200 → 0 ≤ y_108_16 → y_108_16 ≤ 200 → (h 108 8 = 0) → (h 108 16 = y_108_16) → (DI h l2.toNat) → (NPi h0 h) → 2 * (200 - l2) + (1) ≤ (n : Int) → m_Z oF M_X12_book 100 [some (mR 108), some (mI l1), some (mI l2)] [] h (m_QI (P_X12_book h0)))
set_option maxHeartbeats 4000000 in
set_option maxRecDepth 100000 in
theorem s_X12_book_30 (h0 : m_H) (G0 : GI h0) (n : Nat) (ih : q_X12_book h0 n) : ∀ (l1 y_108_8 y_108_9 y_108_10 y_108_11 y_108_14 y_108_16 y_108_17 y_108_18 : Int) (h : m_H), GI h → FR [109, 110, 114] [(108, 0), (108, 1), (108, 8), (108, 9), (108, 10), (108, 11), (108, 12), (108, 13), (108, 14), (108, 16), (108, 17), (108, 18)] h0 h → 1 ≤ l1 → l1 ≤ 401 → 0 ≤ y_108_8 → y_108_8 ≤ 400 → 0 ≤ y_108_9 → y_108_9 ≤ 400 → 0 ≤ y_108_10 → y_108_10 ≤ 400 → 0 ≤ y_108_11 → y_108_11 ≤ 3 → 0 ≤ y_108_14 → y_108_14 ≤ 1 → 0 ≤ y_108_16 → y_108_16 ≤ 200 → 0 ≤ y_108_17 → y_108_17 ≤ 24 → 0 ≤ y_108_18 → y_108_18 ≤ 6 → (h 108 8 = y_108_8) → (h 108 9 = y_108_9) → (h 108 10 = y_108_10) → (h 108 11 = y_108_11) → (h 108 14 = y_108_14) → (h 108 16 = y_108_16) → (h 108 17 = y_108_17) → (h 108 18 = y_108_18) → (PIp h) → (AI h) → (2 * y_108_16 ≤ y_108_9 ∧ l1 ≤ y_108_9 + 1) → (NPi h0 h) → 2 * (400 - y_108_9) + (404) ≤ ((n + 1 : Nat) : Int) → m_Z oF M_X12_book 30 [some (mR 108), some (mI l1), none] [] h (m_QI (P_X12_book h0)) := by
  intro l1 y_108_8 y_108_9 y_108_10 y_108_11 y_108_14 y_108_16 y_108_17 y_108_18 h G R v0 v1 v2 v3 v4 v5 v6 v7 v8 v9 v10 v11 v12 v13 v14 v15 v16 v17 t_108_8 t_108_9 t_108_10 t_108_11 t_108_14 t_108_16 t_108_17 t_108_18 i0 i1 i2 i3 hr
  have hl := i0.le
  refine z_aload_n (M := M_X12_book) 30 dX12_book_30 rfl ?_
  refine z_getIE (M := M_X12_book) 31 dX12_book_31 f_X12_214 o_108 (by decide) t_108_14 ?_
  refine z_if_ne (M := M_X12_book) 34 dX12_book_34 60 rfl (fun c1 => ?_) (fun c1 => ?_)
  · refine z_aload_n (M := M_X12_book) 60 dX12_book_60 rfl ?_
    refine z_getIE (M := M_X12_book) 61 dX12_book_61 f_X12_214 o_108 (by decide) t_108_14 ?_
    refine z_if_ne_T (M := M_X12_book) 64 dX12_book_64 79 rfl (by omega) ?_
    refine z_aload_n (M := M_X12_book) 79 dX12_book_79 rfl ?_
    refine z_iconst (M := M_X12_book) 80 dX12_book_80 ?_
    refine z_putIH (M := M_X12_book) 81 dX12_book_81 p_X12_201 o_108 rfl (u_108_8 G (by omega) (by omega)) (R.up rfl) (fun h1 E1 G1 R1 => ?_)
    have A1 := i1.same (fun j => upN E1 (fun q => absurd q.1 (by decide))) (upN E1 (by decide)) (upN E1 (by decide)) (upN E1 (by decide)) (upN E1 (by decide)) (upN E1 (by decide))
    refine z_aload_n (M := M_X12_book) 84 dX12_book_84 rfl ?_
    refine z_getIE (M := M_X12_book) 85 dX12_book_85 f_X12_214 o_108 (by decide) ((upN E1 (fun q => absurd q.2 (by decide))).trans t_108_14) ?_
    refine z_if_eq_F (M := M_X12_book) 88 dX12_book_88 98 rfl (by omega) ?_
    refine z_aload_n (M := M_X12_book) 91 dX12_book_91 rfl ?_
    refine z_bipush (M := M_X12_book) 92 dX12_book_92 ?_
    refine z_vI (M := M_X12_book) 94 dX12_book_94 t_X12_answer l_X12_147 (m_rr_of rfl) (rest := []) (c_X12_answer h1 (-6) G1 ⟨by omega, by omega⟩) o_108 rfl rfl rfl (Nat.le_of_ble_eq_true rfl) ⟨rfl, rfl⟩ (fun x2 h2 qx2 => ?_)
    obtain ⟨G2, S2, rfl⟩ := qx2
    have R2 := R1.call S2 (by decide +kernel)
    have A2 := A1.fr S2 (fun _ => rfl) rfl rfl rfl rfl rfl
    have z8 : h2 108 8 = 0 := ((S2 108 8 rfl).trans (upE E1))
    exact z_retI (M := M_X12_book) 97 dX12_book_97 rfl ⟨G2, R2, by omega, by omega, by omega, (NPi.call (NPi.put i3 E1 (by decide)) S2 (fun _ => rfl) (fun _ => rfl) (fun _ => rfl))⟩
  · refine z_aload_n (M := M_X12_book) 37 dX12_book_37 rfl ?_
    refine z_bipush (M := M_X12_book) 38 dX12_book_38 ?_
    refine z_vI (M := M_X12_book) 40 dX12_book_40 t_X12_isSign l_X12_300 (m_rr_of rfl) (rest := []) (c_X12_isSign h 59 G) o_108 rfl rfl rfl (Nat.le_of_ble_eq_true rfl) ⟨rfl, rfl⟩ (fun x3 h3 qx3 => ?_)
    obtain ⟨rfl, ⟨rfl, cx3⟩ | ⟨rfl, cx3⟩⟩ := qx3
    · refine z_if_eq_F (M := M_X12_book) 43 dX12_book_43 60 rfl (by omega) ?_
      refine z_aload_n (M := M_X12_book) 46 dX12_book_46 rfl ?_
      have w4 : h 108 9 = y_108_9 := t_108_9
      have w5 : h 108 10 = y_108_10 := t_108_10
      have w6 : h 108 11 = y_108_11 := t_108_11
      have l7 := i0.lt (by omega)
      have w8 : h 108 10 = y_108_10 := t_108_10
      have w9 : h 108 8 = y_108_8 := t_108_8
      refine z_vV (M := M_X12_book) 47 dX12_book_47 t_X12_next l_X12_218 (m_rr_of rfl) (rest := []) (c_X12_next h G (by omega)) o_108 rfl rfl rfl (Nat.le_of_ble_eq_true rfl) ⟨rfl, rfl⟩ (fun h4 qx10 => ?_)
      obtain ⟨G4, S4, fx10_0, fx10_1⟩ := qx10
      have R4 := R.call S4 (by decide +kernel)
      have A4 := i1.fr S4 (fun _ => rfl) rfl rfl rfl rfl rfl
      obtain ⟨x11, ex11⟩ : ∃ y : Int, h4 108 9 = y := ⟨_, rfl⟩
      have bx11 : 0 ≤ x11 ∧ x11 ≤ 400 := ex11 ▸ g_108_9 G4
      obtain ⟨x12, ex12⟩ : ∃ y : Int, h4 108 10 = y := ⟨_, rfl⟩
      have bx12 : 0 ≤ x12 ∧ x12 ≤ 400 := ex12 ▸ g_108_10 G4
      obtain ⟨x13, ex13⟩ : ∃ y : Int, h4 108 11 = y := ⟨_, rfl⟩
      have bx13 : 0 ≤ x13 ∧ x13 ≤ 3 := ex13 ▸ g_108_11 G4
      have w14 : h4 108 9 = x11 := ex11
      have w15 : h4 108 10 = x12 := ex12
      have w16 : h4 108 11 = x13 := ex13
      have w17 : h4 108 8 = y_108_8 := ((S4 108 8 rfl).trans t_108_8)
      have l18 := fx10_1.le
      refine z_aload_n (M := M_X12_book) 50 dX12_book_50 rfl ?_
      have w19 : h4 108 9 = x11 := ex11
      have w20 : h4 108 10 = x12 := ex12
      have w21 : h4 108 11 = x13 := ex13
      have w22 : h4 108 8 = y_108_8 := ((S4 108 8 rfl).trans t_108_8)
      have w23 : h4 108 16 = y_108_16 := ((S4 108 16 rfl).trans t_108_16)
      have w24 : h4 108 14 = y_108_14 := ((S4 108 14 rfl).trans t_108_14)
      refine z_vV (M := M_X12_book) 51 dX12_book_51 t_X12_readClause l_X12_321 (m_rr_of rfl) (rest := []) (c_X12_readClause h4 G4 fx10_1 (by omega) A4) o_108 rfl rfl rfl (Nat.le_of_ble_eq_true rfl) ⟨rfl, rfl⟩ (fun h5 qx25 => ?_)
      obtain ⟨G5, S5, fx25_0, fx25_1, fx25_2, fx25_3, fx25_4⟩ := qx25
      have R5 := R4.call S5 (by decide +kernel)
      obtain ⟨x26, ex26⟩ : ∃ y : Int, h5 108 9 = y := ⟨_, rfl⟩
      have bx26 : 0 ≤ x26 ∧ x26 ≤ 400 := ex26 ▸ g_108_9 G5
      obtain ⟨x27, ex27⟩ : ∃ y : Int, h5 108 10 = y := ⟨_, rfl⟩
      have bx27 : 0 ≤ x27 ∧ x27 ≤ 400 := ex27 ▸ g_108_10 G5
      obtain ⟨x28, ex28⟩ : ∃ y : Int, h5 108 11 = y := ⟨_, rfl⟩
      have bx28 : 0 ≤ x28 ∧ x28 ≤ 3 := ex28 ▸ g_108_11 G5
      obtain ⟨x29, ex29⟩ : ∃ y : Int, h5 108 14 = y := ⟨_, rfl⟩
      have bx29 : 0 ≤ x29 ∧ x29 ≤ 1 := ex29 ▸ g_108_14 G5
      obtain ⟨x30, ex30⟩ : ∃ y : Int, h5 108 16 = y := ⟨_, rfl⟩
      have bx30 : 0 ≤ x30 ∧ x30 ≤ 200 := ex30 ▸ g_108_16 G5
      obtain ⟨x31, ex31⟩ : ∃ y : Int, h5 108 17 = y := ⟨_, rfl⟩
      have bx31 : 0 ≤ x31 ∧ x31 ≤ 24 := ex31 ▸ g_108_17 G5
      obtain ⟨x32, ex32⟩ : ∃ y : Int, h5 108 18 = y := ⟨_, rfl⟩
      have bx32 : 0 ≤ x32 ∧ x32 ≤ 6 := ex32 ▸ g_108_18 G5
      have w33 : h5 108 9 = x26 := ex26
      have w34 : h5 108 10 = x27 := ex27
      have w35 : h5 108 11 = x28 := ex28
      have w36 : h5 108 8 = y_108_8 := ((S5 108 8 rfl).trans ((S4 108 8 rfl).trans t_108_8))
      have w37 : h5 108 16 = x30 := ex30
      have w38 : h5 108 14 = x29 := ex29
      have l39 := fx25_1.le
      refine z_iincN (M := M_X12_book) 54 dX12_book_54 (ls' := [some (mR 108), some (mI (l1 + 1)), none]) (by decide) rfl (by (unfold m_32; decide)) (by omega) (by omega) rfl ?_
      refine z_goto (M := M_X12_book) 57 dX12_book_57 30 rfl ?_
      exact z_mask [true, true, false] rfl (ih.1 (l1 + 1) y_108_8 x26 x27 x28 x29 x30 x31 x32 h5 G5 R5 (by omega) (by omega) (by omega) (by omega) (by omega) (by omega) (by omega) (by omega) (by omega) (by omega) (by omega) (by omega) (by omega) (by omega) (by omega) (by omega) (by omega) (by omega) ((S5 108 8 rfl).trans ((S4 108 8 rfl).trans t_108_8)) ex26 ex27 ex28 ex29 ex30 ex31 ex32 fx25_1 fx25_3 (by omega) (NPi.call (NPi.call i3 S4 (fun _ => rfl) (fun _ => rfl) (fun _ => rfl)) S5 (fun _ => rfl) (fun _ => rfl) (fun _ => rfl)) (by omega))
    · refine z_if_eq_T (M := M_X12_book) 43 dX12_book_43 60 rfl (by omega) ?_
      refine z_aload_n (M := M_X12_book) 60 dX12_book_60 rfl ?_
      refine z_getIE (M := M_X12_book) 61 dX12_book_61 f_X12_214 o_108 (by decide) t_108_14 ?_
      refine z_if_ne_F (M := M_X12_book) 64 dX12_book_64 79 rfl (by omega) ?_
      refine z_aload_n (M := M_X12_book) 67 dX12_book_67 rfl ?_
      refine z_getIE (M := M_X12_book) 68 dX12_book_68 f_X12_234 o_108 (by decide) t_108_11 ?_
      refine z_if_eq (M := M_X12_book) 71 dX12_book_71 79 rfl (fun c40 => ?_) (fun c40 => ?_)
      · refine z_aload_n (M := M_X12_book) 79 dX12_book_79 rfl ?_
        refine z_iconst (M := M_X12_book) 80 dX12_book_80 ?_
        refine z_putIH (M := M_X12_book) 81 dX12_book_81 p_X12_201 o_108 rfl (u_108_8 G (by omega) (by omega)) (R.up rfl) (fun h6 E6 G6 R6 => ?_)
        have A6 := i1.same (fun j => upN E6 (fun q => absurd q.1 (by decide))) (upN E6 (by decide)) (upN E6 (by decide)) (upN E6 (by decide)) (upN E6 (by decide)) (upN E6 (by decide))
        refine z_aload_n (M := M_X12_book) 84 dX12_book_84 rfl ?_
        refine z_getIE (M := M_X12_book) 85 dX12_book_85 f_X12_214 o_108 (by decide) ((upN E6 (fun q => absurd q.2 (by decide))).trans t_108_14) ?_
        refine z_if_eq_T (M := M_X12_book) 88 dX12_book_88 98 rfl (by omega) ?_
        refine z_iconst (M := M_X12_book) 98 dX12_book_98 ?_
        refine z_istore_n (M := M_X12_book) 99 dX12_book_99 (ls' := [some (mR 108), some (mI l1), some (mI 0)]) (by decide) rfl ?_
        exact z_mask [true, true, true] rfl (ih.2 l1 0 y_108_16 h6 G6 R6 (by omega) (by omega) (by omega) (by omega) (by omega) (by omega) (upE E6) ((upN E6 (fun q => absurd q.2 (by decide))).trans t_108_16) (DI_0 A6) (NPi.put i3 E6 (by decide)) (by omega))
      · refine z_aload_n (M := M_X12_book) 74 dX12_book_74 rfl ?_
        refine z_iconst (M := M_X12_book) 75 dX12_book_75 ?_
        have w41 : h 108 9 = y_108_9 := t_108_9
        have w42 : h 108 10 = y_108_10 := t_108_10
        have w43 : h 108 11 = y_108_11 := t_108_11
        have w44 : h 108 8 = y_108_8 := t_108_8
        refine z_vV (M := M_X12_book) 76 dX12_book_76 t_X12_must l_X12_247 (m_rr_of rfl) (rest := []) (c_X12_must h 0 G ⟨by omega, by omega⟩ i0) o_108 rfl rfl rfl (Nat.le_of_ble_eq_true rfl) ⟨rfl, rfl⟩ (fun h7 qx45 => ?_)
        obtain ⟨G7, S7, fx45_0, fx45_1, fx45_2⟩ := qx45
        have R7 := R.call S7 (by decide +kernel)
        have A7 := i1.fr S7 (fun _ => rfl) rfl rfl rfl rfl rfl
        obtain ⟨x46, ex46⟩ : ∃ y : Int, h7 108 9 = y := ⟨_, rfl⟩
        have bx46 : 0 ≤ x46 ∧ x46 ≤ 400 := ex46 ▸ g_108_9 G7
        obtain ⟨x47, ex47⟩ : ∃ y : Int, h7 108 10 = y := ⟨_, rfl⟩
        have bx47 : 0 ≤ x47 ∧ x47 ≤ 400 := ex47 ▸ g_108_10 G7
        obtain ⟨x48, ex48⟩ : ∃ y : Int, h7 108 11 = y := ⟨_, rfl⟩
        have bx48 : 0 ≤ x48 ∧ x48 ≤ 3 := ex48 ▸ g_108_11 G7
        obtain ⟨x49, ex49⟩ : ∃ y : Int, h7 108 14 = y := ⟨_, rfl⟩
        have bx49 : 0 ≤ x49 ∧ x49 ≤ 1 := ex49 ▸ g_108_14 G7
        have w50 : h7 108 9 = x46 := ex46
        have w51 : h7 108 10 = x47 := ex47
        have w52 : h7 108 11 = x48 := ex48
        have w53 : h7 108 8 = y_108_8 := ((S7 108 8 rfl).trans t_108_8)
        have w54 : h7 108 14 = x49 := ex49
        have l55 := fx45_1.le
        have nbx45 : x49 ≠ 0 := fun q => by have q2 := fx45_2 (by omega); omega
        refine z_aload_n (M := M_X12_book) 79 dX12_book_79 rfl ?_
        refine z_iconst (M := M_X12_book) 80 dX12_book_80 ?_
        refine z_putIH (M := M_X12_book) 81 dX12_book_81 p_X12_201 o_108 rfl (u_108_8 G7 (by omega) (by omega)) (R7.up rfl) (fun h8 E8 G8 R8 => ?_)
        have A8 := A7.same (fun j => upN E8 (fun q => absurd q.1 (by decide))) (upN E8 (by decide)) (upN E8 (by decide)) (upN E8 (by decide)) (upN E8 (by decide)) (upN E8 (by decide))
        refine z_aload_n (M := M_X12_book) 84 dX12_book_84 rfl ?_
        refine z_getIE (M := M_X12_book) 85 dX12_book_85 f_X12_214 o_108 (by decide) ((upN E8 (fun q => absurd q.2 (by decide))).trans ex49) ?_
        refine z_if_eq_F (M := M_X12_book) 88 dX12_book_88 98 rfl (by omega) ?_
        refine z_aload_n (M := M_X12_book) 91 dX12_book_91 rfl ?_
        refine z_bipush (M := M_X12_book) 92 dX12_book_92 ?_
        refine z_vI (M := M_X12_book) 94 dX12_book_94 t_X12_answer l_X12_147 (m_rr_of rfl) (rest := []) (c_X12_answer h8 (-6) G8 ⟨by omega, by omega⟩) o_108 rfl rfl rfl (Nat.le_of_ble_eq_true rfl) ⟨rfl, rfl⟩ (fun x56 h9 qx56 => ?_)
        obtain ⟨G9, S9, rfl⟩ := qx56
        have R9 := R8.call S9 (by decide +kernel)
        have A9 := A8.fr S9 (fun _ => rfl) rfl rfl rfl rfl rfl
        have z8 : h9 108 8 = 0 := ((S9 108 8 rfl).trans (upE E8))
        exact z_retI (M := M_X12_book) 97 dX12_book_97 rfl ⟨G9, R9, by omega, by omega, by omega, (NPi.call (NPi.put (NPi.call i3 S7 (fun _ => rfl) (fun _ => rfl) (fun _ => rfl)) E8 (by decide)) S9 (fun _ => rfl) (fun _ => rfl) (fun _ => rfl))⟩
set_option maxHeartbeats 4000000 in
set_option maxRecDepth 100000 in
theorem s_X12_book_100 (h0 : m_H) (G0 : GI h0) (n : Nat) (ih : q_X12_book h0 n) : ∀ (l1 l2 y_108_16 : Int) (h : m_H), GI h → FR [109, 110, 114] [(108, 0), (108, 1), (108, 8), (108, 9), (108, 10), (108, 11), (108, 12), (108, 13), (108, 14), (108, 16), (108, 17), (108, 18)] h0 h → 1 ≤ l1 → l1 ≤ 401 → 0 ≤ l2 → l2 ≤ 200 → 0 ≤ y_108_16 → y_108_16 ≤ 200 → (h 108 8 = 0) → (h 108 16 = y_108_16) → (DI h l2.toNat) → (NPi h0 h) → 2 * (200 - l2) + (1) ≤ ((n + 1 : Nat) : Int) → m_Z oF M_X12_book 100 [some (mR 108), some (mI l1), some (mI l2)] [] h (m_QI (P_X12_book h0)) := by
  intro l1 l2 y_108_16 h G R v0 v1 v2 v3 v4 v5 t_108_8 t_108_16 i0 i1 hr
  refine z_iload_n (M := M_X12_book) 100 dX12_book_100 rfl ?_
  refine z_aload_n (M := M_X12_book) 101 dX12_book_101 rfl ?_
  refine z_getIE (M := M_X12_book) 102 dX12_book_102 f_X12_251 o_108 (by decide) t_108_16 ?_
  refine z_icmp_ge (M := M_X12_book) 105 dX12_book_105 121 rfl (fun c1 => ?_) (fun c1 => ?_)
  · refine z_aload_n (M := M_X12_book) 121 dX12_book_121 rfl ?_
    refine z_iload_n (M := M_X12_book) 122 dX12_book_122 rfl ?_
    refine z_vI (M := M_X12_book) 123 dX12_book_123 t_X12_answer l_X12_147 (m_rr_of rfl) (rest := []) (c_X12_answer h l1 G ⟨by omega, by omega⟩) o_108 rfl rfl rfl (Nat.le_of_ble_eq_true rfl) ⟨rfl, rfl⟩ (fun x2 h1 qx2 => ?_)
    obtain ⟨G1, S1, rfl⟩ := qx2
    have R1 := R.call S1 (by decide +kernel)
    have z8 : h1 108 8 = 0 := ((S1 108 8 rfl).trans t_108_8)
    exact z_retI (M := M_X12_book) 126 dX12_book_126 rfl ⟨G1, R1, by omega, by omega, by omega, (NPi.call i1 S1 (fun _ => rfl) (fun _ => rfl) (fun _ => rfl))⟩
  · refine z_aload_n (M := M_X12_book) 108 dX12_book_108 rfl ?_
    refine z_iconst (M := M_X12_book) 109 dX12_book_109 ?_
    refine z_iload_n (M := M_X12_book) 110 dX12_book_110 rfl ?_
    refine z_imulN (M := M_X12_book) 111 dX12_book_111 (by omega) (by omega) ?_
    have w3 : h 108 16 = y_108_16 := t_108_16
    have dq := DI_args i0 (by omega) (by omega)
    refine z_vV (M := M_X12_book) 112 dX12_book_112 t_X12_doAct l_X12_324 (m_rr_of rfl) (rest := []) (c_X12_doAct h (5 * l2) G ⟨by omega, by omega⟩ dq.1 dq.2.1 dq.2.2) o_108 rfl rfl rfl (Nat.le_of_ble_eq_true rfl) ⟨rfl, rfl⟩ (fun h2 qx4 => ?_)
    obtain ⟨G2, S2, fx4_0, fx4_1, npx4⟩ := qx4
    have R2 := R.call S2 (by decide +kernel)
    refine z_iincN (M := M_X12_book) 115 dX12_book_115 (ls' := [some (mR 108), some (mI l1), some (mI (l2 + 1))]) (by decide) rfl (by (unfold m_32; decide)) (by omega) (by omega) rfl ?_
    refine z_goto (M := M_X12_book) 118 dX12_book_118 100 rfl ?_
    exact z_mask [true, true, true] rfl (ih.2 l1 (l2 + 1) y_108_16 h2 G2 R2 (by omega) (by omega) (by omega) (by omega) (by omega) (by omega) ((S2 108 8 rfl).trans t_108_8) ((S2 108 16 rfl).trans t_108_16) (DI_nx i0 (by omega) (by omega) S2 (fun _ => rfl) rfl fx4_0 fx4_1) (NPi.tr i1 npx4) (by omega))
theorem a_X12_book (h0 : m_H) (G0 : GI h0) : ∀ n, q_X12_book h0 n := by
  intro n
  induction n with
  | zero => unfold q_X12_book; refine ⟨?_, ?_⟩ <;> (intros; omega)
  | succ n ih => exact ⟨s_X12_book_30 h0 G0 n ih, s_X12_book_100 h0 G0 n ih⟩
set_option maxHeartbeats 4000000 in
set_option maxRecDepth 100000 in
theorem c_X12_book (h0 : m_H) (G0 : GI h0) : m_CI M_X12_book [mR 108] h0 (P_X12_book h0) := by
  refine m_CI_of ⟨by decide, rfl, by simp [m_arg, m_isL, M_X12_book], ⟨rfl, rfl⟩, rfl, rfl⟩ (ls := [some (mR 108), none, none]) rfl ?_
  have ih := a_X12_book h0 G0 1211
  obtain ⟨x1, ex1⟩ : ∃ y : Int, h0 108 8 = y := ⟨_, rfl⟩
  have bx1 : 0 ≤ x1 ∧ x1 ≤ 400 := ex1 ▸ g_108_8 G0
  refine z_aload_n (M := M_X12_book) 0 dX12_book_0 rfl ?_
  refine z_iconst (M := M_X12_book) 1 dX12_book_1 ?_
  refine z_putIH (M := M_X12_book) 2 dX12_book_2 p_X12_133 o_108 rfl (u_108_0 G0) ((FR.rf (cs := [109, 110, 114]) (ss := [(108, 0), (108, 1), (108, 8), (108, 9), (108, 10), (108, 11), (108, 12), (108, 13), (108, 14), (108, 16), (108, 17), (108, 18)]) (h := h0)).up rfl) (fun h1 E1 G1 R1 => ?_)
  refine z_aload_n (M := M_X12_book) 5 dX12_book_5 rfl ?_
  refine z_iconst (M := M_X12_book) 6 dX12_book_6 ?_
  refine z_putIH (M := M_X12_book) 7 dX12_book_7 p_X12_251 o_108 rfl (u_108_16 G1 (by omega) (by omega)) (R1.up rfl) (fun h2 E2 G2 R2 => ?_)
  refine z_aload_n (M := M_X12_book) 10 dX12_book_10 rfl ?_
  refine z_iconst (M := M_X12_book) 11 dX12_book_11 ?_
  refine z_putIH (M := M_X12_book) 12 dX12_book_12 p_X12_282 o_108 rfl (u_108_17 G2 (by omega) (by omega)) (R2.up rfl) (fun h3 E3 G3 R3 => ?_)
  refine z_aload_n (M := M_X12_book) 15 dX12_book_15 rfl ?_
  refine z_iconst (M := M_X12_book) 16 dX12_book_16 ?_
  refine z_putIH (M := M_X12_book) 17 dX12_book_17 p_X12_277 o_108 rfl (u_108_18 G3 (by omega) (by omega)) (R3.up rfl) (fun h4 E4 G4 R4 => ?_)
  refine z_aload_n (M := M_X12_book) 20 dX12_book_20 rfl ?_
  refine z_vV (M := M_X12_book) 21 dX12_book_21 t_X12_begin l_X12_318 (m_rr_of rfl) (rest := []) (c_X12_begin h4 G4) o_108 rfl rfl rfl (Nat.le_of_ble_eq_true rfl) ⟨rfl, rfl⟩ (fun h5 qx2 => ?_)
  obtain ⟨G5, S5, fx2_0, fx2_1⟩ := qx2
  have R5 := R4.call S5 (by decide +kernel)
  obtain ⟨x3, ex3⟩ : ∃ y : Int, h5 108 9 = y := ⟨_, rfl⟩
  have bx3 : 0 ≤ x3 ∧ x3 ≤ 400 := ex3 ▸ g_108_9 G5
  obtain ⟨x4, ex4⟩ : ∃ y : Int, h5 108 10 = y := ⟨_, rfl⟩
  have bx4 : 0 ≤ x4 ∧ x4 ≤ 400 := ex4 ▸ g_108_10 G5
  obtain ⟨x5, ex5⟩ : ∃ y : Int, h5 108 11 = y := ⟨_, rfl⟩
  have bx5 : 0 ≤ x5 ∧ x5 ≤ 3 := ex5 ▸ g_108_11 G5
  obtain ⟨x6, ex6⟩ : ∃ y : Int, h5 108 14 = y := ⟨_, rfl⟩
  have bx6 : 0 ≤ x6 ∧ x6 ≤ 1 := ex6 ▸ g_108_14 G5
  have w7 : h5 108 9 = x3 := ex3
  have w8 : h5 108 10 = x4 := ex4
  have w9 : h5 108 11 = x5 := ex5
  have w10 : h5 108 8 = x1 := ((S5 108 8 rfl).trans ((upN E4 (fun q => absurd q.2 (by decide))).trans ((upN E3 (fun q => absurd q.2 (by decide))).trans ((upN E2 (fun q => absurd q.2 (by decide))).trans ((upN E1 (fun q => absurd q.2 (by decide))).trans ex1)))))
  have l11 := fx2_0.le
  refine z_iconst (M := M_X12_book) 24 dX12_book_24 ?_
  refine z_istore_n (M := M_X12_book) 25 dX12_book_25 (ls' := [some (mR 108), some (mI 1), none]) (by decide) rfl ?_
  have w12 : h5 108 16 = 0 := ((S5 108 16 rfl).trans ((upN E4 (fun q => absurd q.2 (by decide))).trans ((upN E3 (fun q => absurd q.2 (by decide))).trans (upE E2))))
  have w13 : h5 108 17 = 0 := ((S5 108 17 rfl).trans ((upN E4 (fun q => absurd q.2 (by decide))).trans (upE E3)))
  have w14 : h5 108 18 = 0 := ((S5 108 18 rfl).trans (upE E4))
  have w15 : h5 108 9 = x3 := ex3
  have A26 := AI_0 (by omega) (by omega) (by omega) ((gw_0 G5).2) ((gw_1 G5).2)
  refine z_aload_n (M := M_X12_book) 26 dX12_book_26 rfl ?_
  have w16 : h5 108 9 = x3 := ex3
  have w17 : h5 108 10 = x4 := ex4
  have w18 : h5 108 11 = x5 := ex5
  have w19 : h5 108 8 = x1 := ((S5 108 8 rfl).trans ((upN E4 (fun q => absurd q.2 (by decide))).trans ((upN E3 (fun q => absurd q.2 (by decide))).trans ((upN E2 (fun q => absurd q.2 (by decide))).trans ((upN E1 (fun q => absurd q.2 (by decide))).trans ex1)))))
  have w20 : h5 108 16 = 0 := ((S5 108 16 rfl).trans ((upN E4 (fun q => absurd q.2 (by decide))).trans ((upN E3 (fun q => absurd q.2 (by decide))).trans (upE E2))))
  have w21 : h5 108 14 = x6 := ex6
  refine z_vV (M := M_X12_book) 27 dX12_book_27 t_X12_readClause l_X12_321 (m_rr_of rfl) (rest := []) (c_X12_readClause h5 G5 fx2_0 (by omega) A26) o_108 rfl rfl rfl (Nat.le_of_ble_eq_true rfl) ⟨rfl, rfl⟩ (fun h6 qx22 => ?_)
  obtain ⟨G6, S6, fx22_0, fx22_1, fx22_2, fx22_3, fx22_4⟩ := qx22
  have R6 := R5.call S6 (by decide +kernel)
  obtain ⟨x23, ex23⟩ : ∃ y : Int, h6 108 9 = y := ⟨_, rfl⟩
  have bx23 : 0 ≤ x23 ∧ x23 ≤ 400 := ex23 ▸ g_108_9 G6
  obtain ⟨x24, ex24⟩ : ∃ y : Int, h6 108 10 = y := ⟨_, rfl⟩
  have bx24 : 0 ≤ x24 ∧ x24 ≤ 400 := ex24 ▸ g_108_10 G6
  obtain ⟨x25, ex25⟩ : ∃ y : Int, h6 108 11 = y := ⟨_, rfl⟩
  have bx25 : 0 ≤ x25 ∧ x25 ≤ 3 := ex25 ▸ g_108_11 G6
  obtain ⟨x26, ex26⟩ : ∃ y : Int, h6 108 14 = y := ⟨_, rfl⟩
  have bx26 : 0 ≤ x26 ∧ x26 ≤ 1 := ex26 ▸ g_108_14 G6
  obtain ⟨x27, ex27⟩ : ∃ y : Int, h6 108 16 = y := ⟨_, rfl⟩
  have bx27 : 0 ≤ x27 ∧ x27 ≤ 200 := ex27 ▸ g_108_16 G6
  obtain ⟨x28, ex28⟩ : ∃ y : Int, h6 108 17 = y := ⟨_, rfl⟩
  have bx28 : 0 ≤ x28 ∧ x28 ≤ 24 := ex28 ▸ g_108_17 G6
  obtain ⟨x29, ex29⟩ : ∃ y : Int, h6 108 18 = y := ⟨_, rfl⟩
  have bx29 : 0 ≤ x29 ∧ x29 ≤ 6 := ex29 ▸ g_108_18 G6
  have w30 : h6 108 9 = x23 := ex23
  have w31 : h6 108 10 = x24 := ex24
  have w32 : h6 108 11 = x25 := ex25
  have w33 : h6 108 8 = x1 := ((S6 108 8 rfl).trans ((S5 108 8 rfl).trans ((upN E4 (fun q => absurd q.2 (by decide))).trans ((upN E3 (fun q => absurd q.2 (by decide))).trans ((upN E2 (fun q => absurd q.2 (by decide))).trans ((upN E1 (fun q => absurd q.2 (by decide))).trans ex1))))))
  have w34 : h6 108 16 = x27 := ex27
  have w35 : h6 108 14 = x26 := ex26
  have l36 := fx22_1.le
  exact z_mask [true, true, false] rfl (ih.1 1 x1 x23 x24 x25 x26 x27 x28 x29 h6 G6 R6 (by omega) (by omega) (by omega) (by omega) (by omega) (by omega) (by omega) (by omega) (by omega) (by omega) (by omega) (by omega) (by omega) (by omega) (by omega) (by omega) (by omega) (by omega) ((S6 108 8 rfl).trans ((S5 108 8 rfl).trans ((upN E4 (fun q => absurd q.2 (by decide))).trans ((upN E3 (fun q => absurd q.2 (by decide))).trans ((upN E2 (fun q => absurd q.2 (by decide))).trans ((upN E1 (fun q => absurd q.2 (by decide))).trans ex1)))))) ex23 ex24 ex25 ex26 ex27 ex28 ex29 fx22_1 fx22_3 (by omega) (NPi.call (NPi.call (NPi.put (NPi.put (NPi.put (NPi.put NPi.rf E1 (by decide)) E2 (by decide)) E3 (by decide)) E4 (by decide)) S5 (fun _ => rfl) (fun _ => rfl) (fun _ => rfl)) S6 (fun _ => rfl) (fun _ => rfl) (fun _ => rfl)) (by omega))
