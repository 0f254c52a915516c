abbrev P_X12_readWeeks2 (h0 : m_H) : m_H → Prop := fun h' => GI h' ∧ FR [114] [(108, 9), (108, 10), (108, 11), (108, 12), (108, 13), (108, 14), (108, 16)] h0 h' ∧ mdQ (rdWeeks (h0 113) (h0 108 8) (nxt (h0 113) (h0 108 8) (Qm h0)) (vr h0)) h0 h' ∧ h0 108 9 ≤ h' 108 9 ∧ (h' 108 14 = 0 → h0 108 9 + 1 ≤ h' 108 9)
set_option maxHeartbeats 4000000 in
set_option maxRecDepth 100000 in
theorem c_X12_readWeeks2 (h0 : m_H) (G0 : GI h0) (hb : h0 108 14 = 0) (M0 : MTk h0) (A0 : AI h0) (N0 : 2 * h0 108 16 ≤ h0 108 9) (hs : h0 108 11 ≠ 0) : m_CV M_X12_readWeeks [mR 108] h0 (P_X12_readWeeks2 h0) := by
  refine m_CV_of ⟨by decide, rfl, by simp [m_arg, m_isL, M_X12_readWeeks], ⟨rfl, rfl⟩, rfl, rfl⟩ (ls := [some (mR 108), none, none]) rfl ?_
  obtain ⟨x1, ex1⟩ : ∃ y : Int, h0 108 13 = y := ⟨_, rfl⟩
  refine z_aload_n (M := M_X12_readWeeks) 0 dX12_readWeeks_0 rfl ?_
  refine z_vV (M := M_X12_readWeeks) 1 dX12_readWeeks_1 t_X12_next l_X12_218 (m_rr_of rfl) (rest := []) (c_X12_next2 h0 G0 M0.2.2.2) o_108 rfl rfl rfl (Nat.le_of_ble_eq_true rfl) ⟨rfl, rfl⟩ (fun h1 qx2 => ?_)
  obtain ⟨G1, S1, Tx2, Mx2⟩ := qx2
  have R1 := (FR.rf (cs := [114]) (ss := [(108, 9), (108, 10), (108, 11), (108, 12), (108, 13), (108, 14), (108, 16)]) (h := h0)).call S1 (by decide +kernel)
  have A1 := A0.fr S1 (fun _ => rfl) rfl rfl rfl rfl rfl
  have Qx2 : Qm h1 = (nxt (h0 113) (h0 108 8) (Qm h0)) := nx_m (rowz (FR.rf (cs := [114]) (ss := [(108, 9), (108, 10), (108, 11), (108, 12), (108, 13), (108, 14), (108, 16)]) (h := h0)) (fun _ => rfl)) ((FR.rf (cs := [114]) (ss := [(108, 9), (108, 10), (108, 11), (108, 12), (108, 13), (108, 14), (108, 16)]) (h := h0)) 108 8 rfl) rfl (g_108_10 G0).1 Tx2
  have Px2 : h0 108 10 ≤ h1 108 9 := Tx2.1.1
  have Lx2 : h0 108 9 < h0 108 10 := M0.lt (by omega)
  have na1 : h1 108 16 = h0 108 16 := S1 108 16 rfl
  have V1 : vr h1 = (vr h0) := (vr_S S1 (fun _ => rfl) rfl (fun _ => rfl)).trans rfl
  refine z_aload_n (M := M_X12_readWeeks) 4 dX12_readWeeks_4 rfl ?_
  refine z_lconst (M := M_X12_readWeeks) 5 dX12_readWeeks_5 (v := 0) ?_
  refine z_ldc2 (M := M_X12_readWeeks) 6 dX12_readWeeks_6 k_X12_154 ?_
  refine z_vI (M := M_X12_readWeeks) 9 dX12_readWeeks_9 t_X12_number l_X12_254 (m_rr_of rfl) (rest := []) (c_X12_number_g h1 0 31 G1 ⟨by omega, by omega⟩ ⟨by omega, by omega⟩ ((S1 108 14 rfl).trans hb) Mx2) o_108 rfl rfl rfl (Nat.le_of_ble_eq_true rfl) ⟨rfl, rfl⟩ (fun x3 h2 qx3 => ?_)
  obtain ⟨G2, S2, Dx3⟩ := qx3
  have R2 := R1.call S2 (by decide +kernel)
  have A2 := A1.fr S2 (fun _ => rfl) rfl rfl rfl rfl rfl
  rcases nm_c (rowz R1 (fun _ => rfl)) (R1 108 8 rfl) Qx2 Dx3 with ⟨Wx3, Nx3, bx3, Mx3, Qx3, Px3, Lx3, gx3⟩ | ⟨Wx3, bx3, fx3, Px3⟩
  · have na2 : h2 108 16 = h1 108 16 := S2 108 16 rfl
    have V2 : vr h2 = (vr h0) := (vr_S S2 (fun _ => rfl) rfl (fun _ => rfl)).trans V1
    have lx3 : 0 ≤ x3 ∧ x3 ≤ 31 := by rw [Nx3]; exact ⟨Wx3.2.2.1, Wx3.2.2.2⟩
    refine z_istore_n (M := M_X12_readWeeks) 12 dX12_readWeeks_12 (ls' := [some (mR 108), some (mI x3), none]) (by decide) rfl ?_
    refine z_iload_n (M := M_X12_readWeeks) 13 dX12_readWeeks_13 rfl ?_
    refine z_istore_n (M := M_X12_readWeeks) 14 dX12_readWeeks_14 (ls' := [some (mR 108), some (mI x3), some (mI x3)]) (by decide) rfl ?_
    refine z_aload_n (M := M_X12_readWeeks) 15 dX12_readWeeks_15 rfl ?_
    refine z_getIE (M := M_X12_readWeeks) 16 dX12_readWeeks_16 f_X12_214 o_108 (by decide) bx3 ?_
    refine z_if_ne_F (M := M_X12_readWeeks) 19 dX12_readWeeks_19 46 rfl (by omega) ?_
    refine z_aload_n (M := M_X12_readWeeks) 22 dX12_readWeeks_22 rfl ?_
    refine z_ldc2 (M := M_X12_readWeeks) 23 dX12_readWeeks_23 k_X12_258 ?_
    refine z_vI (M := M_X12_readWeeks) 26 dX12_readWeeks_26 t_X12_isWord l_X12_260 (m_rr_of rfl) (rest := []) (c_X12_isWord h2 655 G2) o_108 rfl rfl rfl (Nat.le_of_ble_eq_true rfl) ⟨rfl, rfl⟩ (fun x4 h3 qx4 => ?_)
    obtain ⟨rfl, ⟨rfl, cx4⟩ | ⟨rfl, cx4⟩⟩ := qx4
    · refine z_if_eq_F (M := M_X12_readWeeks) 29 dX12_readWeeks_29 46 rfl (by omega) ?_
      refine z_aload_n (M := M_X12_readWeeks) 32 dX12_readWeeks_32 rfl ?_
      refine z_vV (M := M_X12_readWeeks) 33 dX12_readWeeks_33 t_X12_next l_X12_218 (m_rr_of rfl) (rest := []) (c_X12_next2 h2 G2 Mx3.2.2.2) o_108 rfl rfl rfl (Nat.le_of_ble_eq_true rfl) ⟨rfl, rfl⟩ (fun h4 qx5 => ?_)
      obtain ⟨G4, S4, Tx5, Mx5⟩ := qx5
      have R4 := R2.call S4 (by decide +kernel)
      have A4 := A2.fr S4 (fun _ => rfl) rfl rfl rfl rfl rfl
      have Qx5 : Qm h4 = (nxt (h0 113) (h0 108 8) (nxt (h0 113) (h0 108 8) (nxt (h0 113) (h0 108 8) (Qm h0)))) := nx_m (rowz R2 (fun _ => rfl)) (R2 108 8 rfl) Qx3 (g_108_10 G2).1 Tx5
      have Px5 : h2 108 10 ≤ h4 108 9 := Tx5.1.1
      have Lx5 : h2 108 9 < h2 108 10 := Mx3.lt (by omega)
      have na4 : h4 108 16 = h2 108 16 := S4 108 16 rfl
      have V4 : vr h4 = (vr h0) := (vr_S S4 (fun _ => rfl) rfl (fun _ => rfl)).trans V2
      refine z_aload_n (M := M_X12_readWeeks) 36 dX12_readWeeks_36 rfl ?_
      refine z_iload_n (M := M_X12_readWeeks) 37 dX12_readWeeks_37 rfl ?_
      refine z_i2l (M := M_X12_readWeeks) 38 dX12_readWeeks_38 ?_
      refine z_ldc2 (M := M_X12_readWeeks) 39 dX12_readWeeks_39 k_X12_154 ?_
      refine z_vI (M := M_X12_readWeeks) 42 dX12_readWeeks_42 t_X12_number l_X12_254 (m_rr_of rfl) (rest := []) (c_X12_number_g h4 x3 31 G4 ⟨by omega, by omega⟩ ⟨by omega, by omega⟩ ((S4 108 14 rfl).trans bx3) Mx5) o_108 rfl rfl rfl (Nat.le_of_ble_eq_true rfl) ⟨rfl, rfl⟩ (fun x6 h5 qx6 => ?_)
      obtain ⟨G5, S5, Dx6⟩ := qx6
      have R5 := R4.call S5 (by decide +kernel)
      have A5 := A4.fr S5 (fun _ => rfl) rfl rfl rfl rfl rfl
      rcases nm_c (rowz R4 (fun _ => rfl)) (R4 108 8 rfl) Qx5 Dx6 with ⟨Wx6, Nx6, bx6, Mx6, Qx6, Px6, Lx6, gx6⟩ | ⟨Wx6, bx6, fx6, Px6⟩
      · have na5 : h5 108 16 = h4 108 16 := S5 108 16 rfl
        have V5 : vr h5 = (vr h0) := (vr_S S5 (fun _ => rfl) rfl (fun _ => rfl)).trans V4
        have lx6 : x3 ≤ x6 ∧ x6 ≤ 31 := by rw [Nx6]; exact ⟨Wx6.2.2.1, Wx6.2.2.2⟩
        refine z_istore_n (M := M_X12_readWeeks) 45 dX12_readWeeks_45 (ls' := [some (mR 108), some (mI x3), some (mI x6)]) (by decide) rfl ?_
        refine z_aload_n (M := M_X12_readWeeks) 46 dX12_readWeeks_46 rfl ?_
        refine z_aload_n (M := M_X12_readWeeks) 47 dX12_readWeeks_47 rfl ?_
        refine z_ldc2 (M := M_X12_readWeeks) 48 dX12_readWeeks_48 k_X12_264 ?_
        refine z_vI (M := M_X12_readWeeks) 51 dX12_readWeeks_51 t_X12_isWord l_X12_260 (m_rr_of rfl) (rest := [mR 108]) (c_X12_isWord h5 89 G5) o_108 rfl rfl rfl (Nat.le_of_ble_eq_true rfl) ⟨rfl, rfl⟩ (fun x7 h6 qx7 => ?_)
        obtain ⟨rfl, ⟨rfl, cx7⟩ | ⟨rfl, cx7⟩⟩ := qx7
        · refine z_vV (M := M_X12_readWeeks) 54 dX12_readWeeks_54 t_X12_must l_X12_247 (m_rr_of rfl) (rest := []) (c_X12_must_1 h5 1 G5 ⟨by omega, by omega⟩ bx6 Mx6 (by omega)) o_108 rfl rfl rfl (Nat.le_of_ble_eq_true rfl) ⟨rfl, rfl⟩ (fun h7 qx8 => ?_)
          obtain ⟨G7, S7, Mx8, Kx8, Px8⟩ := qx8
          have R7 := R5.call S7 (by decide +kernel)
          have A7 := A5.fr S7 (fun _ => rfl) rfl rfl rfl rfl rfl
          have Qx8 : Qm h7 = (nxt (h0 113) (h0 108 8) (nxt (h0 113) (h0 108 8) (nxt (h0 113) (h0 108 8) (nxt (h0 113) (h0 108 8) (nxt (h0 113) (h0 108 8) (Qm h0)))))) := nx_mm (rowz R5 (fun _ => rfl)) (R5 108 8 rfl) Qx6 Kx8
          have Lx8 : h5 108 9 < h5 108 10 := Mx6.lt (by omega)
          have na7 : h7 108 16 = h5 108 16 := S7 108 16 rfl
          have V7 : vr h7 = (vr h0) := (vr_S S7 (fun _ => rfl) rfl (fun _ => rfl)).trans V5
          refine z_aload_n (M := M_X12_readWeeks) 57 dX12_readWeeks_57 rfl ?_
          refine z_getIE (M := M_X12_readWeeks) 58 dX12_readWeeks_58 f_X12_214 o_108 (by decide) ((S7 108 14 rfl).trans bx6) ?_
          refine z_if_ne_F (M := M_X12_readWeeks) 61 dX12_readWeeks_61 90 rfl (by omega) ?_
          refine z_aload_n (M := M_X12_readWeeks) 64 dX12_readWeeks_64 rfl ?_
          refine z_ldc2 (M := M_X12_readWeeks) 65 dX12_readWeeks_65 k_X12_266 ?_
          refine z_vI (M := M_X12_readWeeks) 68 dX12_readWeeks_68 t_X12_isWord l_X12_260 (m_rr_of rfl) (rest := []) (c_X12_isWord h7 485571737 G7) o_108 rfl rfl rfl (Nat.le_of_ble_eq_true rfl) ⟨rfl, rfl⟩ (fun x9 h8 qx9 => ?_)
          obtain ⟨rfl, ⟨rfl, cx9⟩ | ⟨rfl, cx9⟩⟩ := qx9
          · refine z_if_eq_F (M := M_X12_readWeeks) 71 dX12_readWeeks_71 90 rfl (by omega) ?_
            refine z_aload_n (M := M_X12_readWeeks) 74 dX12_readWeeks_74 rfl ?_
            refine z_vV (M := M_X12_readWeeks) 75 dX12_readWeeks_75 t_X12_next l_X12_218 (m_rr_of rfl) (rest := []) (c_X12_next2 h7 G7 Mx8.2.2.2) o_108 rfl rfl rfl (Nat.le_of_ble_eq_true rfl) ⟨rfl, rfl⟩ (fun h9 qx10 => ?_)
            obtain ⟨G9, S9, Tx10, Mx10⟩ := qx10
            have R9 := R7.call S9 (by decide +kernel)
            have A9 := A7.fr S9 (fun _ => rfl) rfl rfl rfl rfl rfl
            have Qx10 : Qm h9 = (nxt (h0 113) (h0 108 8) (nxt (h0 113) (h0 108 8) (nxt (h0 113) (h0 108 8) (nxt (h0 113) (h0 108 8) (nxt (h0 113) (h0 108 8) (nxt (h0 113) (h0 108 8) (Qm h0))))))) := nx_m (rowz R7 (fun _ => rfl)) (R7 108 8 rfl) Qx8 (g_108_10 G7).1 Tx10
            have Px10 : h7 108 10 ≤ h9 108 9 := Tx10.1.1
            have Lx10 : h7 108 9 < h7 108 10 := Mx8.lt (by omega)
            have na9 : h9 108 16 = h7 108 16 := S9 108 16 rfl
            have V9 : vr h9 = (vr h0) := (vr_S S9 (fun _ => rfl) rfl (fun _ => rfl)).trans V7
            refine z_aload_n (M := M_X12_readWeeks) 78 dX12_readWeeks_78 rfl ?_
            refine z_iconst (M := M_X12_readWeeks) 79 dX12_readWeeks_79 ?_
            refine z_iload_n (M := M_X12_readWeeks) 80 dX12_readWeeks_80 rfl ?_
            refine z_iload_n (M := M_X12_readWeeks) 81 dX12_readWeeks_81 rfl ?_
            refine z_iconst (M := M_X12_readWeeks) 82 dX12_readWeeks_82 ?_
            refine z_iconst (M := M_X12_readWeeks) 83 dX12_readWeeks_83 ?_
            have gb9 := (g_108_9 G9).2
            have ga9 := (g_108_16 G9).1
            have hb9_ : h9 108 14 = 0 := ((S9 108 14 rfl).trans ((S7 108 14 rfl).trans bx6))
            refine z_vV (M := M_X12_readWeeks) 84 dX12_readWeeks_84 t_X12_act l_X12_268 (m_rr_of rfl) (rest := []) (c_X12_act h9 0 x3 x6 (-1) 0 G9 (Or.inr (by omega))) o_108 rfl rfl rfl (Nat.le_of_ble_eq_true rfl) ⟨rfl, rfl⟩ (fun h10 qx11 => ?_)
            obtain ⟨G10, S10, fx11⟩ := qx11
            have R10 := R9.call S10 (by decide +kernel)
            have na10 : h10 108 16 = h9 108 16 + 1 := (fx11.resolve_left (fun z => z.1 ((S9 108 14 rfl).trans ((S7 108 14 rfl).trans bx6)))).2.1
            have V10 : vr h10 = act1 0 x3 x6 (-1) 0 (vr h0) := (vr_act fx11 ((S9 108 14 rfl).trans ((S7 108 14 rfl).trans bx6)) (g_108_16 G9).1 S10 (fun _ => rfl)).trans (congrArg (act1 0 x3 x6 (-1) 0) V9)
            have M10_ := MTk.same Mx10 (rowz S10 (fun _ => rfl)) (fun j u v => S10 108 j (fr_j (by omega)))
            have Q10_ : Qm h10 = (nxt (h0 113) (h0 108 8) (nxt (h0 113) (h0 108 8) (nxt (h0 113) (h0 108 8) (nxt (h0 113) (h0 108 8) (nxt (h0 113) (h0 108 8) (nxt (h0 113) (h0 108 8) (Qm h0))))))) := (Qm_S S10 rfl rfl).trans Qx10
            have P10_ : h10 108 9 = h9 108 9 := S10 108 9 rfl
            have A10 := AI_act A9 (by omega) fx11 (by omega) (fun _ => by unfold okA; omega)
            refine z_goto (M := M_X12_readWeeks) 87 dX12_readWeeks_87 113 rfl ?_
            exact z_retV (M := M_X12_readWeeks) 113 dX12_readWeeks_113 rfl ⟨G10, R10, md_ok (p := ((nxt (h0 113) (h0 108 8) (nxt (h0 113) (h0 108 8) (nxt (h0 113) (h0 108 8) (nxt (h0 113) (h0 108 8) (nxt (h0 113) (h0 108 8) (nxt (h0 113) (h0 108 8) (Qm h0))))))), rW (vr h0) x3 x6 (-1))) (by unfold rdWeeks rdBy; rw [cif_pos (Wx3), cif_pos ((iw_c (rowz R2 (fun _ => rfl)) Qx3 (mw_1 Mx3 (g_108_9 G2).1)).mpr cx4), cif_pos (Nx3 ▸ Wx6), cif_pos ((iw_c (rowz R5 (fun _ => rfl)) Qx6 (mw_2 Mx6 (g_108_9 G5).1)).mpr cx7), cif_pos ((iw_c (rowz R7 (fun _ => rfl)) Qx8 (mw_3 Mx8 (g_108_9 G7).1)).mpr cx9), ← Nx3, ← Nx6]) ((S10 108 14 rfl).trans ((S9 108 14 rfl).trans ((S7 108 14 rfl).trans bx6))) M10_ A10 (by omega) Q10_ (V10.trans act1_k0) (((S10 108 13 rfl).trans ((S9 108 13 rfl).trans ((S7 108 13 rfl).trans (gx6.trans ((S4 108 13 rfl).trans (gx3.trans ((S1 108 13 rfl).trans ex1))))))).trans ex1.symm), by omega, fun _ => by omega⟩
          · refine z_if_eq_T (M := M_X12_readWeeks) 71 dX12_readWeeks_71 90 rfl (by omega) ?_
            refine z_aload_n (M := M_X12_readWeeks) 90 dX12_readWeeks_90 rfl ?_
            refine z_getIE (M := M_X12_readWeeks) 91 dX12_readWeeks_91 f_X12_214 o_108 (by decide) ((S7 108 14 rfl).trans bx6) ?_
            refine z_if_ne_F (M := M_X12_readWeeks) 94 dX12_readWeeks_94 113 rfl (by omega) ?_
            refine z_aload_n (M := M_X12_readWeeks) 97 dX12_readWeeks_97 rfl ?_
            refine z_iconst (M := M_X12_readWeeks) 98 dX12_readWeeks_98 ?_
            refine z_iload_n (M := M_X12_readWeeks) 99 dX12_readWeeks_99 rfl ?_
            refine z_iload_n (M := M_X12_readWeeks) 100 dX12_readWeeks_100 rfl ?_
            refine z_aload_n (M := M_X12_readWeeks) 101 dX12_readWeeks_101 rfl ?_
            refine z_lconst (M := M_X12_readWeeks) 102 dX12_readWeeks_102 (v := 0) ?_
            refine z_ldc2 (M := M_X12_readWeeks) 103 dX12_readWeeks_103 k_X12_152 ?_
            refine z_vI (M := M_X12_readWeeks) 106 dX12_readWeeks_106 t_X12_number l_X12_254 (m_rr_of rfl) (rest := [mI x6, mI x3, mI 0, mR 108]) (c_X12_number_g h7 0 3 G7 ⟨by omega, by omega⟩ ⟨by omega, by omega⟩ ((S7 108 14 rfl).trans bx6) Mx8) o_108 rfl rfl rfl (Nat.le_of_ble_eq_true rfl) ⟨rfl, rfl⟩ (fun x12 h11 qx12 => ?_)
            obtain ⟨G11, S11, Dx12⟩ := qx12
            have R11 := R7.call S11 (by decide +kernel)
            have A11 := A7.fr S11 (fun _ => rfl) rfl rfl rfl rfl rfl
            rcases nm_c (rowz R7 (fun _ => rfl)) (R7 108 8 rfl) Qx8 Dx12 with ⟨Wx12, Nx12, bx12, Mx12, Qx12, Px12, Lx12, gx12⟩ | ⟨Wx12, bx12, fx12, Px12⟩
            · have na11 : h11 108 16 = h7 108 16 := S11 108 16 rfl
              have V11 : vr h11 = (vr h0) := (vr_S S11 (fun _ => rfl) rfl (fun _ => rfl)).trans V7
              have lx12 : 0 ≤ x12 ∧ x12 ≤ 3 := by rw [Nx12]; exact ⟨Wx12.2.2.1, Wx12.2.2.2⟩
              refine z_iconst (M := M_X12_readWeeks) 109 dX12_readWeeks_109 ?_
              have gb11 := (g_108_9 G11).2
              have ga11 := (g_108_16 G11).1
              have hb11_ : h11 108 14 = 0 := bx12
              refine z_vV (M := M_X12_readWeeks) 110 dX12_readWeeks_110 t_X12_act l_X12_268 (m_rr_of rfl) (rest := []) (c_X12_act h11 0 x3 x6 x12 0 G11 (Or.inr (by omega))) o_108 rfl rfl rfl (Nat.le_of_ble_eq_true rfl) ⟨rfl, rfl⟩ (fun h12 qx13 => ?_)
              obtain ⟨G12, S12, fx13⟩ := qx13
              have R12 := R11.call S12 (by decide +kernel)
              have na12 : h12 108 16 = h11 108 16 + 1 := (fx13.resolve_left (fun z => z.1 bx12)).2.1
              have V12 : vr h12 = act1 0 x3 x6 x12 0 (vr h0) := (vr_act fx13 bx12 (g_108_16 G11).1 S12 (fun _ => rfl)).trans (congrArg (act1 0 x3 x6 x12 0) V11)
              have M12_ := MTk.same Mx12 (rowz S12 (fun _ => rfl)) (fun j u v => S12 108 j (fr_j (by omega)))
              have Q12_ : Qm h12 = (nxt (h0 113) (h0 108 8) (nxt (h0 113) (h0 108 8) (nxt (h0 113) (h0 108 8) (nxt (h0 113) (h0 108 8) (nxt (h0 113) (h0 108 8) (nxt (h0 113) (h0 108 8) (Qm h0))))))) := (Qm_S S12 rfl rfl).trans Qx12
              have P12_ : h12 108 9 = h11 108 9 := S12 108 9 rfl
              have A12 := AI_act A11 (by omega) fx13 (by omega) (fun _ => by unfold okA; omega)
              exact z_retV (M := M_X12_readWeeks) 113 dX12_readWeeks_113 rfl ⟨G12, R12, md_ok (p := ((nxt (h0 113) (h0 108 8) (nxt (h0 113) (h0 108 8) (nxt (h0 113) (h0 108 8) (nxt (h0 113) (h0 108 8) (nxt (h0 113) (h0 108 8) (nxt (h0 113) (h0 108 8) (Qm h0))))))), rW (vr h0) x3 x6 x12)) (by unfold rdWeeks rdBy; rw [cif_pos (Wx3), cif_pos ((iw_c (rowz R2 (fun _ => rfl)) Qx3 (mw_1 Mx3 (g_108_9 G2).1)).mpr cx4), cif_pos (Nx3 ▸ Wx6), cif_pos ((iw_c (rowz R5 (fun _ => rfl)) Qx6 (mw_2 Mx6 (g_108_9 G5).1)).mpr cx7), cif_neg (fun z => cx9 ((iw_c (rowz R7 (fun _ => rfl)) Qx8 (mw_3 Mx8 (g_108_9 G7).1)).mp z)), cif_pos (Wx12), ← Nx3, ← Nx6, ← Nx12]) ((S12 108 14 rfl).trans bx12) M12_ A12 (by omega) Q12_ (V12.trans act1_k0) (((S12 108 13 rfl).trans (gx12.trans ((S7 108 13 rfl).trans (gx6.trans ((S4 108 13 rfl).trans (gx3.trans ((S1 108 13 rfl).trans ex1))))))).trans ex1.symm), by omega, fun _ => by omega⟩
            · have fpx12 : h11 108 13 = (nxt (h0 113) (h0 108 8) (nxt (h0 113) (h0 108 8) (nxt (h0 113) (h0 108 8) (nxt (h0 113) (h0 108 8) (nxt (h0 113) (h0 108 8) (Qm h0)))))).1 := fx12.trans (fst_m Qx8)
              refine z_ok (fun ox12 _ _ => ?_)
              have ox12 := ox12.1; unfold m_ok m_32 at ox12
              refine z_iconst (M := M_X12_readWeeks) 109 dX12_readWeeks_109 ?_
              refine z_vV (M := M_X12_readWeeks) 110 dX12_readWeeks_110 t_X12_act l_X12_268 (m_rr_of rfl) (rest := []) (c_X12_act_b h11 0 x3 x6 x12 0 G11 bx12) o_108 rfl rfl rfl (Nat.le_of_ble_eq_true rfl) ⟨rfl, rfl⟩ (fun h13 qx14 => ?_)
              obtain ⟨G13, S13⟩ := qx14
              have R13 := R11.call S13 (by decide +kernel)
              have P13_ : h13 108 9 = h11 108 9 := S13 108 9 rfl
              have bb_ : h13 108 14 = 1 := ((S13 108 14 rfl).trans bx12)
              exact z_retV (M := M_X12_readWeeks) 113 dX12_readWeeks_113 rfl ⟨G13, R13, md_er (by unfold rdWeeks rdBy; rw [cif_pos (Wx3), cif_pos ((iw_c (rowz R2 (fun _ => rfl)) Qx3 (mw_1 Mx3 (g_108_9 G2).1)).mpr cx4), cif_pos (Nx3 ▸ Wx6), cif_pos ((iw_c (rowz R5 (fun _ => rfl)) Qx6 (mw_2 Mx6 (g_108_9 G5).1)).mpr cx7), cif_neg (fun z => cx9 ((iw_c (rowz R7 (fun _ => rfl)) Qx8 (mw_3 Mx8 (g_108_9 G7).1)).mp z)), cif_neg (Wx12)]) ((S13 108 14 rfl).trans bx12) ((S13 108 13 rfl).trans fpx12), by omega, fun _ => by omega⟩
        · refine z_vV (M := M_X12_readWeeks) 54 dX12_readWeeks_54 t_X12_must l_X12_247 (m_rr_of rfl) (rest := []) (c_X12_must_0 h5 0 G5 ⟨by omega, by omega⟩ bx6) o_108 rfl rfl rfl (Nat.le_of_ble_eq_true rfl) ⟨rfl, rfl⟩ (fun h14 qx15 => ?_)
          obtain ⟨G14, S14, bx15, fx15⟩ := qx15
          have R14 := R5.call S14 (by decide +kernel)
          have A14 := A5.fr S14 (fun _ => rfl) rfl rfl rfl rfl rfl
          have Px15 : h14 108 9 = h5 108 9 := S14 108 9 rfl
          have fpx15 : h14 108 13 = (nxt (h0 113) (h0 108 8) (nxt (h0 113) (h0 108 8) (nxt (h0 113) (h0 108 8) (nxt (h0 113) (h0 108 8) (Qm h0))))).1 := fx15.trans (fst_m Qx6)
          refine z_aload_n (M := M_X12_readWeeks) 57 dX12_readWeeks_57 rfl ?_
          refine z_getIE (M := M_X12_readWeeks) 58 dX12_readWeeks_58 f_X12_214 o_108 (by decide) bx15 ?_
          refine z_if_ne_T (M := M_X12_readWeeks) 61 dX12_readWeeks_61 90 rfl (by omega) ?_
          refine z_aload_n (M := M_X12_readWeeks) 90 dX12_readWeeks_90 rfl ?_
          refine z_getIE (M := M_X12_readWeeks) 91 dX12_readWeeks_91 f_X12_214 o_108 (by decide) bx15 ?_
          refine z_if_ne_T (M := M_X12_readWeeks) 94 dX12_readWeeks_94 113 rfl (by omega) ?_
          have bb_ : h14 108 14 = 1 := bx15
          exact z_retV (M := M_X12_readWeeks) 113 dX12_readWeeks_113 rfl ⟨G14, R14, md_er (by unfold rdWeeks rdBy; rw [cif_pos (Wx3), cif_pos ((iw_c (rowz R2 (fun _ => rfl)) Qx3 (mw_1 Mx3 (g_108_9 G2).1)).mpr cx4), cif_pos (Nx3 ▸ Wx6), cif_neg (fun z => cx7 ((iw_c (rowz R5 (fun _ => rfl)) Qx6 (mw_2 Mx6 (g_108_9 G5).1)).mp z))]) bx15 fpx15, by omega, fun _ => by omega⟩
      · have fpx6 : h5 108 13 = (nxt (h0 113) (h0 108 8) (nxt (h0 113) (h0 108 8) (nxt (h0 113) (h0 108 8) (Qm h0)))).1 := fx6.trans (fst_m Qx5)
        refine z_ok (fun ox6 _ _ => ?_)
        have ox6 := ox6.1; unfold m_ok m_32 at ox6
        refine z_istore_n (M := M_X12_readWeeks) 45 dX12_readWeeks_45 (ls' := [some (mR 108), some (mI x3), some (mI x6)]) (by decide) rfl ?_
        refine z_aload_n (M := M_X12_readWeeks) 46 dX12_readWeeks_46 rfl ?_
        refine z_aload_n (M := M_X12_readWeeks) 47 dX12_readWeeks_47 rfl ?_
        refine z_ldc2 (M := M_X12_readWeeks) 48 dX12_readWeeks_48 k_X12_264 ?_
        refine z_vI (M := M_X12_readWeeks) 51 dX12_readWeeks_51 t_X12_isWord l_X12_260 (m_rr_of rfl) (rest := [mR 108]) (c_X12_isWord h5 89 G5) o_108 rfl rfl rfl (Nat.le_of_ble_eq_true rfl) ⟨rfl, rfl⟩ (fun x16 h15 qx16 => ?_)
        obtain ⟨rfl, ⟨rfl, cx16⟩ | ⟨rfl, cx16⟩⟩ := qx16
        · refine z_vV (M := M_X12_readWeeks) 54 dX12_readWeeks_54 t_X12_must l_X12_247 (m_rr_of rfl) (rest := []) (c_X12_must_b h5 1 G5 ⟨by omega, by omega⟩ bx6) o_108 rfl rfl rfl (Nat.le_of_ble_eq_true rfl) ⟨rfl, rfl⟩ (fun h16 qx17 => ?_)
          obtain ⟨G16, S16⟩ := qx17
          have R16 := R5.call S16 (by decide +kernel)
          have P16_ : h16 108 9 = h5 108 9 := S16 108 9 rfl
          refine z_aload_n (M := M_X12_readWeeks) 57 dX12_readWeeks_57 rfl ?_
          refine z_getIE (M := M_X12_readWeeks) 58 dX12_readWeeks_58 f_X12_214 o_108 (by decide) ((S16 108 14 rfl).trans bx6) ?_
          refine z_if_ne_T (M := M_X12_readWeeks) 61 dX12_readWeeks_61 90 rfl (by omega) ?_
          refine z_aload_n (M := M_X12_readWeeks) 90 dX12_readWeeks_90 rfl ?_
          refine z_getIE (M := M_X12_readWeeks) 91 dX12_readWeeks_91 f_X12_214 o_108 (by decide) ((S16 108 14 rfl).trans bx6) ?_
          refine z_if_ne_T (M := M_X12_readWeeks) 94 dX12_readWeeks_94 113 rfl (by omega) ?_
          have bb_ : h16 108 14 = 1 := ((S16 108 14 rfl).trans bx6)
          exact z_retV (M := M_X12_readWeeks) 113 dX12_readWeeks_113 rfl ⟨G16, R16, md_er (by unfold rdWeeks rdBy; rw [cif_pos (Wx3), cif_pos ((iw_c (rowz R2 (fun _ => rfl)) Qx3 (mw_1 Mx3 (g_108_9 G2).1)).mpr cx4), cif_neg (Nx3 ▸ Wx6)]) ((S16 108 14 rfl).trans bx6) ((S16 108 13 rfl).trans fpx6), by omega, fun _ => by omega⟩
        · refine z_vV (M := M_X12_readWeeks) 54 dX12_readWeeks_54 t_X12_must l_X12_247 (m_rr_of rfl) (rest := []) (c_X12_must_b h5 0 G5 ⟨by omega, by omega⟩ bx6) o_108 rfl rfl rfl (Nat.le_of_ble_eq_true rfl) ⟨rfl, rfl⟩ (fun h17 qx18 => ?_)
          obtain ⟨G17, S17⟩ := qx18
          have R17 := R5.call S17 (by decide +kernel)
          have P17_ : h17 108 9 = h5 108 9 := S17 108 9 rfl
          refine z_aload_n (M := M_X12_readWeeks) 57 dX12_readWeeks_57 rfl ?_
          refine z_getIE (M := M_X12_readWeeks) 58 dX12_readWeeks_58 f_X12_214 o_108 (by decide) ((S17 108 14 rfl).trans bx6) ?_
          refine z_if_ne_T (M := M_X12_readWeeks) 61 dX12_readWeeks_61 90 rfl (by omega) ?_
          refine z_aload_n (M := M_X12_readWeeks) 90 dX12_readWeeks_90 rfl ?_
          refine z_getIE (M := M_X12_readWeeks) 91 dX12_readWeeks_91 f_X12_214 o_108 (by decide) ((S17 108 14 rfl).trans bx6) ?_
          refine z_if_ne_T (M := M_X12_readWeeks) 94 dX12_readWeeks_94 113 rfl (by omega) ?_
          have bb_ : h17 108 14 = 1 := ((S17 108 14 rfl).trans bx6)
          exact z_retV (M := M_X12_readWeeks) 113 dX12_readWeeks_113 rfl ⟨G17, R17, md_er (by unfold rdWeeks rdBy; rw [cif_pos (Wx3), cif_pos ((iw_c (rowz R2 (fun _ => rfl)) Qx3 (mw_1 Mx3 (g_108_9 G2).1)).mpr cx4), cif_neg (Nx3 ▸ Wx6)]) ((S17 108 14 rfl).trans bx6) ((S17 108 13 rfl).trans fpx6), by omega, fun _ => by omega⟩
    · refine z_if_eq_T (M := M_X12_readWeeks) 29 dX12_readWeeks_29 46 rfl (by omega) ?_
      refine z_aload_n (M := M_X12_readWeeks) 46 dX12_readWeeks_46 rfl ?_
      refine z_aload_n (M := M_X12_readWeeks) 47 dX12_readWeeks_47 rfl ?_
      refine z_ldc2 (M := M_X12_readWeeks) 48 dX12_readWeeks_48 k_X12_264 ?_
      refine z_vI (M := M_X12_readWeeks) 51 dX12_readWeeks_51 t_X12_isWord l_X12_260 (m_rr_of rfl) (rest := [mR 108]) (c_X12_isWord h2 89 G2) o_108 rfl rfl rfl (Nat.le_of_ble_eq_true rfl) ⟨rfl, rfl⟩ (fun x19 h18 qx19 => ?_)
      obtain ⟨rfl, ⟨rfl, cx19⟩ | ⟨rfl, cx19⟩⟩ := qx19
      · refine z_vV (M := M_X12_readWeeks) 54 dX12_readWeeks_54 t_X12_must l_X12_247 (m_rr_of rfl) (rest := []) (c_X12_must_1 h2 1 G2 ⟨by omega, by omega⟩ bx3 Mx3 (by omega)) o_108 rfl rfl rfl (Nat.le_of_ble_eq_true rfl) ⟨rfl, rfl⟩ (fun h19 qx20 => ?_)
        obtain ⟨G19, S19, Mx20, Kx20, Px20⟩ := qx20
        have R19 := R2.call S19 (by decide +kernel)
        have A19 := A2.fr S19 (fun _ => rfl) rfl rfl rfl rfl rfl
        have Qx20 : Qm h19 = (nxt (h0 113) (h0 108 8) (nxt (h0 113) (h0 108 8) (nxt (h0 113) (h0 108 8) (Qm h0)))) := nx_mm (rowz R2 (fun _ => rfl)) (R2 108 8 rfl) Qx3 Kx20
        have Lx20 : h2 108 9 < h2 108 10 := Mx3.lt (by omega)
        have na19 : h19 108 16 = h2 108 16 := S19 108 16 rfl
        have V19 : vr h19 = (vr h0) := (vr_S S19 (fun _ => rfl) rfl (fun _ => rfl)).trans V2
        refine z_aload_n (M := M_X12_readWeeks) 57 dX12_readWeeks_57 rfl ?_
        refine z_getIE (M := M_X12_readWeeks) 58 dX12_readWeeks_58 f_X12_214 o_108 (by decide) ((S19 108 14 rfl).trans bx3) ?_
        refine z_if_ne_F (M := M_X12_readWeeks) 61 dX12_readWeeks_61 90 rfl (by omega) ?_
        refine z_aload_n (M := M_X12_readWeeks) 64 dX12_readWeeks_64 rfl ?_
        refine z_ldc2 (M := M_X12_readWeeks) 65 dX12_readWeeks_65 k_X12_266 ?_
        refine z_vI (M := M_X12_readWeeks) 68 dX12_readWeeks_68 t_X12_isWord l_X12_260 (m_rr_of rfl) (rest := []) (c_X12_isWord h19 485571737 G19) o_108 rfl rfl rfl (Nat.le_of_ble_eq_true rfl) ⟨rfl, rfl⟩ (fun x21 h20 qx21 => ?_)
        obtain ⟨rfl, ⟨rfl, cx21⟩ | ⟨rfl, cx21⟩⟩ := qx21
        · refine z_if_eq_F (M := M_X12_readWeeks) 71 dX12_readWeeks_71 90 rfl (by omega) ?_
          refine z_aload_n (M := M_X12_readWeeks) 74 dX12_readWeeks_74 rfl ?_
          refine z_vV (M := M_X12_readWeeks) 75 dX12_readWeeks_75 t_X12_next l_X12_218 (m_rr_of rfl) (rest := []) (c_X12_next2 h19 G19 Mx20.2.2.2) o_108 rfl rfl rfl (Nat.le_of_ble_eq_true rfl) ⟨rfl, rfl⟩ (fun h21 qx22 => ?_)
          obtain ⟨G21, S21, Tx22, Mx22⟩ := qx22
          have R21 := R19.call S21 (by decide +kernel)
          have A21 := A19.fr S21 (fun _ => rfl) rfl rfl rfl rfl rfl
          have Qx22 : Qm h21 = (nxt (h0 113) (h0 108 8) (nxt (h0 113) (h0 108 8) (nxt (h0 113) (h0 108 8) (nxt (h0 113) (h0 108 8) (Qm h0))))) := nx_m (rowz R19 (fun _ => rfl)) (R19 108 8 rfl) Qx20 (g_108_10 G19).1 Tx22
          have Px22 : h19 108 10 ≤ h21 108 9 := Tx22.1.1
          have Lx22 : h19 108 9 < h19 108 10 := Mx20.lt (by omega)
          have na21 : h21 108 16 = h19 108 16 := S21 108 16 rfl
          have V21 : vr h21 = (vr h0) := (vr_S S21 (fun _ => rfl) rfl (fun _ => rfl)).trans V19
          refine z_aload_n (M := M_X12_readWeeks) 78 dX12_readWeeks_78 rfl ?_
          refine z_iconst (M := M_X12_readWeeks) 79 dX12_readWeeks_79 ?_
          refine z_iload_n (M := M_X12_readWeeks) 80 dX12_readWeeks_80 rfl ?_
          refine z_iload_n (M := M_X12_readWeeks) 81 dX12_readWeeks_81 rfl ?_
          refine z_iconst (M := M_X12_readWeeks) 82 dX12_readWeeks_82 ?_
          refine z_iconst (M := M_X12_readWeeks) 83 dX12_readWeeks_83 ?_
          have gb21 := (g_108_9 G21).2
          have ga21 := (g_108_16 G21).1
          have hb21_ : h21 108 14 = 0 := ((S21 108 14 rfl).trans ((S19 108 14 rfl).trans bx3))
          refine z_vV (M := M_X12_readWeeks) 84 dX12_readWeeks_84 t_X12_act l_X12_268 (m_rr_of rfl) (rest := []) (c_X12_act h21 0 x3 x3 (-1) 0 G21 (Or.inr (by omega))) o_108 rfl rfl rfl (Nat.le_of_ble_eq_true rfl) ⟨rfl, rfl⟩ (fun h22 qx23 => ?_)
          obtain ⟨G22, S22, fx23⟩ := qx23
          have R22 := R21.call S22 (by decide +kernel)
          have na22 : h22 108 16 = h21 108 16 + 1 := (fx23.resolve_left (fun z => z.1 ((S21 108 14 rfl).trans ((S19 108 14 rfl).trans bx3)))).2.1
          have V22 : vr h22 = act1 0 x3 x3 (-1) 0 (vr h0) := (vr_act fx23 ((S21 108 14 rfl).trans ((S19 108 14 rfl).trans bx3)) (g_108_16 G21).1 S22 (fun _ => rfl)).trans (congrArg (act1 0 x3 x3 (-1) 0) V21)
          have M22_ := MTk.same Mx22 (rowz S22 (fun _ => rfl)) (fun j u v => S22 108 j (fr_j (by omega)))
          have Q22_ : Qm h22 = (nxt (h0 113) (h0 108 8) (nxt (h0 113) (h0 108 8) (nxt (h0 113) (h0 108 8) (nxt (h0 113) (h0 108 8) (Qm h0))))) := (Qm_S S22 rfl rfl).trans Qx22
          have P22_ : h22 108 9 = h21 108 9 := S22 108 9 rfl
          have A22 := AI_act A21 (by omega) fx23 (by omega) (fun _ => by unfold okA; omega)
          refine z_goto (M := M_X12_readWeeks) 87 dX12_readWeeks_87 113 rfl ?_
          exact z_retV (M := M_X12_readWeeks) 113 dX12_readWeeks_113 rfl ⟨G22, R22, md_ok (p := ((nxt (h0 113) (h0 108 8) (nxt (h0 113) (h0 108 8) (nxt (h0 113) (h0 108 8) (nxt (h0 113) (h0 108 8) (Qm h0))))), rW (vr h0) x3 x3 (-1))) (by unfold rdWeeks rdBy; rw [cif_pos (Wx3), cif_neg (fun z => cx4 ((iw_c (rowz R2 (fun _ => rfl)) Qx3 (mw_1 Mx3 (g_108_9 G2).1)).mp z)), cif_pos ((iw_c (rowz R2 (fun _ => rfl)) Qx3 (mw_2 Mx3 (g_108_9 G2).1)).mpr cx19), cif_pos ((iw_c (rowz R19 (fun _ => rfl)) Qx20 (mw_3 Mx20 (g_108_9 G19).1)).mpr cx21), ← Nx3]) ((S22 108 14 rfl).trans ((S21 108 14 rfl).trans ((S19 108 14 rfl).trans bx3))) M22_ A22 (by omega) Q22_ (V22.trans act1_k0) (((S22 108 13 rfl).trans ((S21 108 13 rfl).trans ((S19 108 13 rfl).trans (gx3.trans ((S1 108 13 rfl).trans ex1))))).trans ex1.symm), by omega, fun _ => by omega⟩
        · refine z_if_eq_T (M := M_X12_readWeeks) 71 dX12_readWeeks_71 90 rfl (by omega) ?_
          refine z_aload_n (M := M_X12_readWeeks) 90 dX12_readWeeks_90 rfl ?_
          refine z_getIE (M := M_X12_readWeeks) 91 dX12_readWeeks_91 f_X12_214 o_108 (by decide) ((S19 108 14 rfl).trans bx3) ?_
          refine z_if_ne_F (M := M_X12_readWeeks) 94 dX12_readWeeks_94 113 rfl (by omega) ?_
          refine z_aload_n (M := M_X12_readWeeks) 97 dX12_readWeeks_97 rfl ?_
          refine z_iconst (M := M_X12_readWeeks) 98 dX12_readWeeks_98 ?_
          refine z_iload_n (M := M_X12_readWeeks) 99 dX12_readWeeks_99 rfl ?_
          refine z_iload_n (M := M_X12_readWeeks) 100 dX12_readWeeks_100 rfl ?_
          refine z_aload_n (M := M_X12_readWeeks) 101 dX12_readWeeks_101 rfl ?_
          refine z_lconst (M := M_X12_readWeeks) 102 dX12_readWeeks_102 (v := 0) ?_
          refine z_ldc2 (M := M_X12_readWeeks) 103 dX12_readWeeks_103 k_X12_152 ?_
          refine z_vI (M := M_X12_readWeeks) 106 dX12_readWeeks_106 t_X12_number l_X12_254 (m_rr_of rfl) (rest := [mI x3, mI x3, mI 0, mR 108]) (c_X12_number_g h19 0 3 G19 ⟨by omega, by omega⟩ ⟨by omega, by omega⟩ ((S19 108 14 rfl).trans bx3) Mx20) o_108 rfl rfl rfl (Nat.le_of_ble_eq_true rfl) ⟨rfl, rfl⟩ (fun x24 h23 qx24 => ?_)
          obtain ⟨G23, S23, Dx24⟩ := qx24
          have R23 := R19.call S23 (by decide +kernel)
          have A23 := A19.fr S23 (fun _ => rfl) rfl rfl rfl rfl rfl
          rcases nm_c (rowz R19 (fun _ => rfl)) (R19 108 8 rfl) Qx20 Dx24 with ⟨Wx24, Nx24, bx24, Mx24, Qx24, Px24, Lx24, gx24⟩ | ⟨Wx24, bx24, fx24, Px24⟩
          · have na23 : h23 108 16 = h19 108 16 := S23 108 16 rfl
            have V23 : vr h23 = (vr h0) := (vr_S S23 (fun _ => rfl) rfl (fun _ => rfl)).trans V19
            have lx24 : 0 ≤ x24 ∧ x24 ≤ 3 := by rw [Nx24]; exact ⟨Wx24.2.2.1, Wx24.2.2.2⟩
            refine z_iconst (M := M_X12_readWeeks) 109 dX12_readWeeks_109 ?_
            have gb23 := (g_108_9 G23).2
            have ga23 := (g_108_16 G23).1
            have hb23_ : h23 108 14 = 0 := bx24
            refine z_vV (M := M_X12_readWeeks) 110 dX12_readWeeks_110 t_X12_act l_X12_268 (m_rr_of rfl) (rest := []) (c_X12_act h23 0 x3 x3 x24 0 G23 (Or.inr (by omega))) o_108 rfl rfl rfl (Nat.le_of_ble_eq_true rfl) ⟨rfl, rfl⟩ (fun h24 qx25 => ?_)
            obtain ⟨G24, S24, fx25⟩ := qx25
            have R24 := R23.call S24 (by decide +kernel)
            have na24 : h24 108 16 = h23 108 16 + 1 := (fx25.resolve_left (fun z => z.1 bx24)).2.1
            have V24 : vr h24 = act1 0 x3 x3 x24 0 (vr h0) := (vr_act fx25 bx24 (g_108_16 G23).1 S24 (fun _ => rfl)).trans (congrArg (act1 0 x3 x3 x24 0) V23)
            have M24_ := MTk.same Mx24 (rowz S24 (fun _ => rfl)) (fun j u v => S24 108 j (fr_j (by omega)))
            have Q24_ : Qm h24 = (nxt (h0 113) (h0 108 8) (nxt (h0 113) (h0 108 8) (nxt (h0 113) (h0 108 8) (nxt (h0 113) (h0 108 8) (Qm h0))))) := (Qm_S S24 rfl rfl).trans Qx24
            have P24_ : h24 108 9 = h23 108 9 := S24 108 9 rfl
            have A24 := AI_act A23 (by omega) fx25 (by omega) (fun _ => by unfold okA; omega)
            exact z_retV (M := M_X12_readWeeks) 113 dX12_readWeeks_113 rfl ⟨G24, R24, md_ok (p := ((nxt (h0 113) (h0 108 8) (nxt (h0 113) (h0 108 8) (nxt (h0 113) (h0 108 8) (nxt (h0 113) (h0 108 8) (Qm h0))))), rW (vr h0) x3 x3 x24)) (by unfold rdWeeks rdBy; rw [cif_pos (Wx3), cif_neg (fun z => cx4 ((iw_c (rowz R2 (fun _ => rfl)) Qx3 (mw_1 Mx3 (g_108_9 G2).1)).mp z)), cif_pos ((iw_c (rowz R2 (fun _ => rfl)) Qx3 (mw_2 Mx3 (g_108_9 G2).1)).mpr cx19), cif_neg (fun z => cx21 ((iw_c (rowz R19 (fun _ => rfl)) Qx20 (mw_3 Mx20 (g_108_9 G19).1)).mp z)), cif_pos (Wx24), ← Nx3, ← Nx24]) ((S24 108 14 rfl).trans bx24) M24_ A24 (by omega) Q24_ (V24.trans act1_k0) (((S24 108 13 rfl).trans (gx24.trans ((S19 108 13 rfl).trans (gx3.trans ((S1 108 13 rfl).trans ex1))))).trans ex1.symm), by omega, fun _ => by omega⟩
          · have fpx24 : h23 108 13 = (nxt (h0 113) (h0 108 8) (nxt (h0 113) (h0 108 8) (nxt (h0 113) (h0 108 8) (Qm h0)))).1 := fx24.trans (fst_m Qx20)
            refine z_ok (fun ox24 _ _ => ?_)
            have ox24 := ox24.1; unfold m_ok m_32 at ox24
            refine z_iconst (M := M_X12_readWeeks) 109 dX12_readWeeks_109 ?_
            refine z_vV (M := M_X12_readWeeks) 110 dX12_readWeeks_110 t_X12_act l_X12_268 (m_rr_of rfl) (rest := []) (c_X12_act_b h23 0 x3 x3 x24 0 G23 bx24) o_108 rfl rfl rfl (Nat.le_of_ble_eq_true rfl) ⟨rfl, rfl⟩ (fun h25 qx26 => ?_)
            obtain ⟨G25, S25⟩ := qx26
            have R25 := R23.call S25 (by decide +kernel)
            have P25_ : h25 108 9 = h23 108 9 := S25 108 9 rfl
            have bb_ : h25 108 14 = 1 := ((S25 108 14 rfl).trans bx24)
            exact z_retV (M := M_X12_readWeeks) 113 dX12_readWeeks_113 rfl ⟨G25, R25, md_er (by unfold rdWeeks rdBy; rw [cif_pos (Wx3), cif_neg (fun z => cx4 ((iw_c (rowz R2 (fun _ => rfl)) Qx3 (mw_1 Mx3 (g_108_9 G2).1)).mp z)), cif_pos ((iw_c (rowz R2 (fun _ => rfl)) Qx3 (mw_2 Mx3 (g_108_9 G2).1)).mpr cx19), cif_neg (fun z => cx21 ((iw_c (rowz R19 (fun _ => rfl)) Qx20 (mw_3 Mx20 (g_108_9 G19).1)).mp z)), cif_neg (Wx24)]) ((S25 108 14 rfl).trans bx24) ((S25 108 13 rfl).trans fpx24), by omega, fun _ => by omega⟩
      · refine z_vV (M := M_X12_readWeeks) 54 dX12_readWeeks_54 t_X12_must l_X12_247 (m_rr_of rfl) (rest := []) (c_X12_must_0 h2 0 G2 ⟨by omega, by omega⟩ bx3) o_108 rfl rfl rfl (Nat.le_of_ble_eq_true rfl) ⟨rfl, rfl⟩ (fun h26 qx27 => ?_)
        obtain ⟨G26, S26, bx27, fx27⟩ := qx27
        have R26 := R2.call S26 (by decide +kernel)
        have A26 := A2.fr S26 (fun _ => rfl) rfl rfl rfl rfl rfl
        have Px27 : h26 108 9 = h2 108 9 := S26 108 9 rfl
        have fpx27 : h26 108 13 = (nxt (h0 113) (h0 108 8) (nxt (h0 113) (h0 108 8) (Qm h0))).1 := fx27.trans (fst_m Qx3)
        refine z_aload_n (M := M_X12_readWeeks) 57 dX12_readWeeks_57 rfl ?_
        refine z_getIE (M := M_X12_readWeeks) 58 dX12_readWeeks_58 f_X12_214 o_108 (by decide) bx27 ?_
        refine z_if_ne_T (M := M_X12_readWeeks) 61 dX12_readWeeks_61 90 rfl (by omega) ?_
        refine z_aload_n (M := M_X12_readWeeks) 90 dX12_readWeeks_90 rfl ?_
        refine z_getIE (M := M_X12_readWeeks) 91 dX12_readWeeks_91 f_X12_214 o_108 (by decide) bx27 ?_
        refine z_if_ne_T (M := M_X12_readWeeks) 94 dX12_readWeeks_94 113 rfl (by omega) ?_
        have bb_ : h26 108 14 = 1 := bx27
        exact z_retV (M := M_X12_readWeeks) 113 dX12_readWeeks_113 rfl ⟨G26, R26, md_er (by unfold rdWeeks rdBy; rw [cif_pos (Wx3), cif_neg (fun z => cx4 ((iw_c (rowz R2 (fun _ => rfl)) Qx3 (mw_1 Mx3 (g_108_9 G2).1)).mp z)), cif_neg (fun z => cx19 ((iw_c (rowz R2 (fun _ => rfl)) Qx3 (mw_2 Mx3 (g_108_9 G2).1)).mp z))]) bx27 fpx27, by omega, fun _ => by omega⟩
  · have fpx3 : h2 108 13 = (nxt (h0 113) (h0 108 8) (Qm h0)).1 := fx3.trans (fst_m Qx2)
    refine z_ok (fun ox3 _ _ => ?_)
    have ox3 := ox3.1; unfold m_ok m_32 at ox3
    refine z_istore_n (M := M_X12_readWeeks) 12 dX12_readWeeks_12 (ls' := [some (mR 108), some (mI x3), none]) (by decide) rfl ?_
    refine z_iload_n (M := M_X12_readWeeks) 13 dX12_readWeeks_13 rfl ?_
    refine z_istore_n (M := M_X12_readWeeks) 14 dX12_readWeeks_14 (ls' := [some (mR 108), some (mI x3), some (mI x3)]) (by decide) rfl ?_
    refine z_aload_n (M := M_X12_readWeeks) 15 dX12_readWeeks_15 rfl ?_
    refine z_getIE (M := M_X12_readWeeks) 16 dX12_readWeeks_16 f_X12_214 o_108 (by decide) bx3 ?_
    refine z_if_ne_T (M := M_X12_readWeeks) 19 dX12_readWeeks_19 46 rfl (by omega) ?_
    refine z_aload_n (M := M_X12_readWeeks) 46 dX12_readWeeks_46 rfl ?_
    refine z_aload_n (M := M_X12_readWeeks) 47 dX12_readWeeks_47 rfl ?_
    refine z_ldc2 (M := M_X12_readWeeks) 48 dX12_readWeeks_48 k_X12_264 ?_
    refine z_vI (M := M_X12_readWeeks) 51 dX12_readWeeks_51 t_X12_isWord l_X12_260 (m_rr_of rfl) (rest := [mR 108]) (c_X12_isWord h2 89 G2) o_108 rfl rfl rfl (Nat.le_of_ble_eq_true rfl) ⟨rfl, rfl⟩ (fun x28 h27 qx28 => ?_)
    obtain ⟨rfl, ⟨rfl, cx28⟩ | ⟨rfl, cx28⟩⟩ := qx28
    · refine z_vV (M := M_X12_readWeeks) 54 dX12_readWeeks_54 t_X12_must l_X12_247 (m_rr_of rfl) (rest := []) (c_X12_must_b h2 1 G2 ⟨by omega, by omega⟩ bx3) o_108 rfl rfl rfl (Nat.le_of_ble_eq_true rfl) ⟨rfl, rfl⟩ (fun h28 qx29 => ?_)
      obtain ⟨G28, S28⟩ := qx29
      have R28 := R2.call S28 (by decide +kernel)
      have P28_ : h28 108 9 = h2 108 9 := S28 108 9 rfl
      refine z_aload_n (M := M_X12_readWeeks) 57 dX12_readWeeks_57 rfl ?_
      refine z_getIE (M := M_X12_readWeeks) 58 dX12_readWeeks_58 f_X12_214 o_108 (by decide) ((S28 108 14 rfl).trans bx3) ?_
      refine z_if_ne_T (M := M_X12_readWeeks) 61 dX12_readWeeks_61 90 rfl (by omega) ?_
      refine z_aload_n (M := M_X12_readWeeks) 90 dX12_readWeeks_90 rfl ?_
      refine z_getIE (M := M_X12_readWeeks) 91 dX12_readWeeks_91 f_X12_214 o_108 (by decide) ((S28 108 14 rfl).trans bx3) ?_
      refine z_if_ne_T (M := M_X12_readWeeks) 94 dX12_readWeeks_94 113 rfl (by omega) ?_
      have bb_ : h28 108 14 = 1 := ((S28 108 14 rfl).trans bx3)
      exact z_retV (M := M_X12_readWeeks) 113 dX12_readWeeks_113 rfl ⟨G28, R28, md_er (by unfold rdWeeks rdBy; rw [cif_neg (Wx3)]) ((S28 108 14 rfl).trans bx3) ((S28 108 13 rfl).trans fpx3), by omega, fun _ => by omega⟩
    · refine z_vV (M := M_X12_readWeeks) 54 dX12_readWeeks_54 t_X12_must l_X12_247 (m_rr_of rfl) (rest := []) (c_X12_must_b h2 0 G2 ⟨by omega, by omega⟩ bx3) o_108 rfl rfl rfl (Nat.le_of_ble_eq_true rfl) ⟨rfl, rfl⟩ (fun h29 qx30 => ?_)
      obtain ⟨G29, S29⟩ := qx30
      have R29 := R2.call S29 (by decide +kernel)
      have P29_ : h29 108 9 = h2 108 9 := S29 108 9 rfl
      refine z_aload_n (M := M_X12_readWeeks) 57 dX12_readWeeks_57 rfl ?_
      refine z_getIE (M := M_X12_readWeeks) 58 dX12_readWeeks_58 f_X12_214 o_108 (by decide) ((S29 108 14 rfl).trans bx3) ?_
      refine z_if_ne_T (M := M_X12_readWeeks) 61 dX12_readWeeks_61 90 rfl (by omega) ?_
      refine z_aload_n (M := M_X12_readWeeks) 90 dX12_readWeeks_90 rfl ?_
      refine z_getIE (M := M_X12_readWeeks) 91 dX12_readWeeks_91 f_X12_214 o_108 (by decide) ((S29 108 14 rfl).trans bx3) ?_
      refine z_if_ne_T (M := M_X12_readWeeks) 94 dX12_readWeeks_94 113 rfl (by omega) ?_
      have bb_ : h29 108 14 = 1 := ((S29 108 14 rfl).trans bx3)
      exact z_retV (M := M_X12_readWeeks) 113 dX12_readWeeks_113 rfl ⟨G29, R29, md_er (by unfold rdWeeks rdBy; rw [cif_neg (Wx3)]) ((S29 108 14 rfl).trans bx3) ((S29 108 13 rfl).trans fpx3), by omega, fun _ => by omega⟩
abbrev P_X12_readShorter2 (h0 : m_H) : m_H → Prop := fun h' => GI h' ∧ FR [114] [(108, 9), (108, 10), (108, 11), (108, 12), (108, 13), (108, 14), (108, 16), (108, 18)] h0 h' ∧ mdQ (rdShort (h0 113) (h0 108 8) (h0 108 9) (nxt (h0 113) (h0 108 8) (Qm h0)) (vr h0)) h0 h' ∧ h0 108 9 ≤ h' 108 9 ∧ (h' 108 14 = 0 → h0 108 9 + 1 ≤ h' 108 9)
set_option maxHeartbeats 4000000 in
set_option maxRecDepth 100000 in
theorem c_X12_readShorter2 (h0 : m_H) (G0 : GI h0) (hb : h0 108 14 = 0) (M0 : MTk h0) (A0 : AI h0) (N0 : 2 * h0 108 16 ≤ h0 108 9) (hs : h0 108 11 ≠ 0) : m_CV M_X12_readShorter [mR 108] h0 (P_X12_readShorter2 h0) := by
  refine m_CV_of ⟨by decide, rfl, by simp [m_arg, m_isL, M_X12_readShorter], ⟨rfl, rfl⟩, rfl, rfl⟩ (ls := [some (mR 108), none, none, none]) rfl ?_
  obtain ⟨x1, ex1⟩ : ∃ y : Int, h0 108 13 = y := ⟨_, rfl⟩
  refine z_aload_n (M := M_X12_readShorter) 0 dX12_readShorter_0 rfl ?_
  refine z_getIG (M := M_X12_readShorter) 1 dX12_readShorter_1 f_X12_221 o_108 (by decide) (g_108_9 G0) (fun x2 ex2 ax2 bx2 => ?_)
  refine z_istore_n (M := M_X12_readShorter) 4 dX12_readShorter_4 (ls' := [some (mR 108), some (mI x2), none, none]) (by decide) rfl ?_
  refine z_aload_n (M := M_X12_readShorter) 5 dX12_readShorter_5 rfl ?_
  refine z_vV (M := M_X12_readShorter) 6 dX12_readShorter_6 t_X12_next l_X12_218 (m_rr_of rfl) (rest := []) (c_X12_next2 h0 G0 M0.2.2.2) o_108 rfl rfl rfl (Nat.le_of_ble_eq_true rfl) ⟨rfl, rfl⟩ (fun h1 qx3 => ?_)
  obtain ⟨G1, S1, Tx3, Mx3⟩ := qx3
  have R1 := (FR.rf (cs := [114]) (ss := [(108, 9), (108, 10), (108, 11), (108, 12), (108, 13), (108, 14), (108, 16), (108, 18)]) (h := h0)).call S1 (by decide +kernel)
  have A1 := A0.fr S1 (fun _ => rfl) rfl rfl rfl rfl rfl
  have Qx3 : Qm h1 = (nxt (h0 113) (h0 108 8) (Qm h0)) := nx_m (rowz (FR.rf (cs := [114]) (ss := [(108, 9), (108, 10), (108, 11), (108, 12), (108, 13), (108, 14), (108, 16), (108, 18)]) (h := h0)) (fun _ => rfl)) ((FR.rf (cs := [114]) (ss := [(108, 9), (108, 10), (108, 11), (108, 12), (108, 13), (108, 14), (108, 16), (108, 18)]) (h := h0)) 108 8 rfl) rfl (g_108_10 G0).1 Tx3
  have Px3 : h0 108 10 ≤ h1 108 9 := Tx3.1.1
  have Lx3 : h0 108 9 < h0 108 10 := M0.lt (by omega)
  have na1 : h1 108 16 = h0 108 16 := S1 108 16 rfl
  have V1 : vr h1 = (vr h0) := (vr_S S1 (fun _ => rfl) rfl (fun _ => rfl)).trans rfl
  refine z_aload_n (M := M_X12_readShorter) 9 dX12_readShorter_9 rfl ?_
  refine z_lconst (M := M_X12_readShorter) 10 dX12_readShorter_10 (v := 0) ?_
  refine z_ldc2 (M := M_X12_readShorter) 11 dX12_readShorter_11 k_X12_152 ?_
  refine z_vI (M := M_X12_readShorter) 14 dX12_readShorter_14 t_X12_number l_X12_254 (m_rr_of rfl) (rest := []) (c_X12_number_g h1 0 3 G1 ⟨by omega, by omega⟩ ⟨by omega, by omega⟩ ((S1 108 14 rfl).trans hb) Mx3) o_108 rfl rfl rfl (Nat.le_of_ble_eq_true rfl) ⟨rfl, rfl⟩ (fun x4 h2 qx4 => ?_)
  obtain ⟨G2, S2, Dx4⟩ := qx4
  have R2 := R1.call S2 (by decide +kernel)
  have A2 := A1.fr S2 (fun _ => rfl) rfl rfl rfl rfl rfl
  rcases nm_c (rowz R1 (fun _ => rfl)) (R1 108 8 rfl) Qx3 Dx4 with ⟨Wx4, Nx4, bx4, Mx4, Qx4, Px4, Lx4, gx4⟩ | ⟨Wx4, bx4, fx4, Px4⟩
  · have na2 : h2 108 16 = h1 108 16 := S2 108 16 rfl
    have V2 : vr h2 = (vr h0) := (vr_S S2 (fun _ => rfl) rfl (fun _ => rfl)).trans V1
    have lx4 : 0 ≤ x4 ∧ x4 ≤ 3 := by rw [Nx4]; exact ⟨Wx4.2.2.1, Wx4.2.2.2⟩
    refine z_istore_n (M := M_X12_readShorter) 17 dX12_readShorter_17 (ls' := [some (mR 108), some (mI x2), some (mI x4), none]) (by decide) rfl ?_
    refine z_aload_n (M := M_X12_readShorter) 18 dX12_readShorter_18 rfl ?_
    refine z_aload_n (M := M_X12_readShorter) 19 dX12_readShorter_19 rfl ?_
    refine z_ldc2 (M := M_X12_readShorter) 20 dX12_readShorter_20 k_X12_272 ?_
    refine z_vI (M := M_X12_readShorter) 23 dX12_readShorter_23 t_X12_isWord l_X12_260 (m_rr_of rfl) (rest := [mR 108]) (c_X12_isWord h2 2273783 G2) o_108 rfl rfl rfl (Nat.le_of_ble_eq_true rfl) ⟨rfl, rfl⟩ (fun x5 h3 qx5 => ?_)
    obtain ⟨rfl, ⟨rfl, cx5⟩ | ⟨rfl, cx5⟩⟩ := qx5
    · refine z_vV (M := M_X12_readShorter) 26 dX12_readShorter_26 t_X12_must l_X12_247 (m_rr_of rfl) (rest := []) (c_X12_must_1 h2 1 G2 ⟨by omega, by omega⟩ bx4 Mx4 (by omega)) o_108 rfl rfl rfl (Nat.le_of_ble_eq_true rfl) ⟨rfl, rfl⟩ (fun h4 qx6 => ?_)
      obtain ⟨G4, S4, Mx6, Kx6, Px6⟩ := qx6
      have R4 := R2.call S4 (by decide +kernel)
      have A4 := A2.fr S4 (fun _ => rfl) rfl rfl rfl rfl rfl
      have Qx6 : Qm h4 = (nxt (h0 113) (h0 108 8) (nxt (h0 113) (h0 108 8) (nxt (h0 113) (h0 108 8) (Qm h0)))) := nx_mm (rowz R2 (fun _ => rfl)) (R2 108 8 rfl) Qx4 Kx6
      have Lx6 : h2 108 9 < h2 108 10 := Mx4.lt (by omega)
      have na4 : h4 108 16 = h2 108 16 := S4 108 16 rfl
      have V4 : vr h4 = (vr h0) := (vr_S S4 (fun _ => rfl) rfl (fun _ => rfl)).trans V2
      refine z_aload_n (M := M_X12_readShorter) 29 dX12_readShorter_29 rfl ?_
      refine z_getJV (M := M_X12_readShorter) 30 dX12_readShorter_30 f_X12_224 o_108 rfl (fun x7 ex7 => ?_)
      refine z_l2i (M := M_X12_readShorter) 33 dX12_readShorter_33 ?_
      refine z_topm (fun x8 ex8 ox8 => ?_)
      unfold m_32 at ox8
      refine z_istore_n (M := M_X12_readShorter) 34 dX12_readShorter_34 (ls' := [some (mR 108), some (mI x2), some (mI x4), some (mI x8)]) (by decide) rfl ?_
      refine z_aload_n (M := M_X12_readShorter) 35 dX12_readShorter_35 rfl ?_
      refine z_aload_n (M := M_X12_readShorter) 36 dX12_readShorter_36 rfl ?_
      refine z_getIG (M := M_X12_readShorter) 37 dX12_readShorter_37 f_X12_234 o_108 (by decide) (g_108_11 G4) (fun x9 ex9 ax9 bx9 => ?_)
      refine z_iconst (M := M_X12_readShorter) 40 dX12_readShorter_40 ?_
      refine z_icmp_ne (M := M_X12_readShorter) 41 dX12_readShorter_41 67 rfl (fun c10 => ?_) (fun c10 => ?_)
      · refine z_iconst (M := M_X12_readShorter) 67 dX12_readShorter_67 ?_
        have ek_ : h4 108 12 = x7 := ex7
        have nk_ := num_c (rowz R4 (fun _ => rfl)) (R4 108 8 rfl) Qx6 (nk (lo := 0) (hi := 3) (g_108_9 G4).1 Mx6.1 Mx6.2.1 (by omega) (by omega))
        have mw_ := m_w_or ex8
        refine z_vV (M := M_X12_readShorter) 68 dX12_readShorter_68 t_X12_must l_X12_247 (m_rr_of rfl) (rest := []) (c_X12_must_0 h4 0 G4 ⟨by omega, by omega⟩ ((S4 108 14 rfl).trans bx4)) o_108 rfl rfl rfl (Nat.le_of_ble_eq_true rfl) ⟨rfl, rfl⟩ (fun h5 qx11 => ?_)
        obtain ⟨G5, S5, bx11, fx11⟩ := qx11
        have R5 := R4.call S5 (by decide +kernel)
        have A5 := A4.fr S5 (fun _ => rfl) rfl rfl rfl rfl rfl
        have Px11 : h5 108 9 = h4 108 9 := S5 108 9 rfl
        have fpx11 : h5 108 13 = (nxt (h0 113) (h0 108 8) (nxt (h0 113) (h0 108 8) (nxt (h0 113) (h0 108 8) (Qm h0)))).1 := fx11.trans (fst_m Qx6)
        refine z_aload_n (M := M_X12_readShorter) 71 dX12_readShorter_71 rfl ?_
        refine z_getIE (M := M_X12_readShorter) 72 dX12_readShorter_72 f_X12_214 o_108 (by decide) bx11 ?_
        refine z_if_ne_T (M := M_X12_readShorter) 75 dX12_readShorter_75 87 rfl (by omega) ?_
        have bb_ : h5 108 14 = 1 := bx11
        exact z_retV (M := M_X12_readShorter) 87 dX12_readShorter_87 rfl ⟨G5, R5, md_er (by unfold rdShort; rw [cif_pos (Wx4), cif_pos ((iw_c (rowz R2 (fun _ => rfl)) Qx4 (mw_14 Mx4 (g_108_9 G2).1)).mpr cx5), cif_neg (fun z => by have z1 := nk_.1.mp z.1; have z2 := nk_.2 z1; exact z.2 (by rw [← z2, ← Nx4]; omega))]) bx11 fpx11, by omega, fun _ => by omega⟩
      · refine z_aload_n (M := M_X12_readShorter) 44 dX12_readShorter_44 rfl ?_
        refine z_getJE (M := M_X12_readShorter) 45 dX12_readShorter_45 f_X12_224 o_108 rfl ex7 ?_
        refine z_lconst (M := M_X12_readShorter) 48 dX12_readShorter_48 (v := 0) ?_
        refine z_ldc2 (M := M_X12_readShorter) 49 dX12_readShorter_49 k_X12_152 ?_
        refine z_sI (M := M_X12_readShorter) 52 dX12_readShorter_52 t_X12_in l_X12_143 (m_rr_of rfl) (rest := [mR 108]) (c_X12_in h4 x7 0 3 G4) rfl rfl (Nat.le_of_ble_eq_true rfl) ⟨rfl, rfl⟩ (fun x12 h6 qx12 => ?_)
        obtain ⟨rfl, ⟨rfl, cx12⟩ | ⟨rfl, cx12⟩⟩ := qx12
        · refine z_if_eq_F (M := M_X12_readShorter) 55 dX12_readShorter_55 67 rfl (by omega) ?_
          refine z_iload_n (M := M_X12_readShorter) 58 dX12_readShorter_58 rfl ?_
          refine z_iload_n (M := M_X12_readShorter) 59 dX12_readShorter_59 rfl ?_
          refine z_icmp_eq (M := M_X12_readShorter) 60 dX12_readShorter_60 67 rfl (fun c13 => ?_) (fun c13 => ?_)
          · refine z_iconst (M := M_X12_readShorter) 67 dX12_readShorter_67 ?_
            have ek_ : h4 108 12 = x7 := ex7
            have nk_ := num_c (rowz R4 (fun _ => rfl)) (R4 108 8 rfl) Qx6 (nk (lo := 0) (hi := 3) (g_108_9 G4).1 Mx6.1 Mx6.2.1 (by omega) (by omega))
            have mw_ := m_w_or ex8
            refine z_vV (M := M_X12_readShorter) 68 dX12_readShorter_68 t_X12_must l_X12_247 (m_rr_of rfl) (rest := []) (c_X12_must_0 h4 0 G4 ⟨by omega, by omega⟩ ((S4 108 14 rfl).trans bx4)) o_108 rfl rfl rfl (Nat.le_of_ble_eq_true rfl) ⟨rfl, rfl⟩ (fun h7 qx14 => ?_)
            obtain ⟨G7, S7, bx14, fx14⟩ := qx14
            have R7 := R4.call S7 (by decide +kernel)
            have A7 := A4.fr S7 (fun _ => rfl) rfl rfl rfl rfl rfl
            have Px14 : h7 108 9 = h4 108 9 := S7 108 9 rfl
            have fpx14 : h7 108 13 = (nxt (h0 113) (h0 108 8) (nxt (h0 113) (h0 108 8) (nxt (h0 113) (h0 108 8) (Qm h0)))).1 := fx14.trans (fst_m Qx6)
            refine z_aload_n (M := M_X12_readShorter) 71 dX12_readShorter_71 rfl ?_
            refine z_getIE (M := M_X12_readShorter) 72 dX12_readShorter_72 f_X12_214 o_108 (by decide) bx14 ?_
            refine z_if_ne_T (M := M_X12_readShorter) 75 dX12_readShorter_75 87 rfl (by omega) ?_
            have bb_ : h7 108 14 = 1 := bx14
            exact z_retV (M := M_X12_readShorter) 87 dX12_readShorter_87 rfl ⟨G7, R7, md_er (by unfold rdShort; rw [cif_pos (Wx4), cif_pos ((iw_c (rowz R2 (fun _ => rfl)) Qx4 (mw_14 Mx4 (g_108_9 G2).1)).mpr cx5), cif_neg (fun z => by have z1 := nk_.1.mp z.1; have z2 := nk_.2 z1; exact z.2 (by rw [← z2, ← Nx4]; omega))]) bx14 fpx14, by omega, fun _ => by omega⟩
          · refine z_iconst (M := M_X12_readShorter) 63 dX12_readShorter_63 ?_
            refine z_goto (M := M_X12_readShorter) 64 dX12_readShorter_64 68 rfl ?_
            have ek_ : h4 108 12 = x7 := ex7
            have nk_ := num_c (rowz R4 (fun _ => rfl)) (R4 108 8 rfl) Qx6 (nk (lo := 0) (hi := 3) (g_108_9 G4).1 Mx6.1 Mx6.2.1 (by omega) (by omega))
            have mw_ := m_w_or ex8
            have en_ : x8 = num (h0 113) (nxt (h0 113) (h0 108 8) (nxt (h0 113) (h0 108 8) (nxt (h0 113) (h0 108 8) (Qm h0)))) := (show x8 = h4 108 12 by omega).trans (nk_.2 ⟨by omega, by omega, by omega⟩)
            refine z_vV (M := M_X12_readShorter) 68 dX12_readShorter_68 t_X12_must l_X12_247 (m_rr_of rfl) (rest := []) (c_X12_must_1 h4 1 G4 ⟨by omega, by omega⟩ ((S4 108 14 rfl).trans bx4) Mx6 (by omega)) o_108 rfl rfl rfl (Nat.le_of_ble_eq_true rfl) ⟨rfl, rfl⟩ (fun h8 qx15 => ?_)
            obtain ⟨G8, S8, Mx15, Kx15, Px15⟩ := qx15
            have R8 := R4.call S8 (by decide +kernel)
            have A8 := A4.fr S8 (fun _ => rfl) rfl rfl rfl rfl rfl
            have Qx15 : Qm h8 = (nxt (h0 113) (h0 108 8) (nxt (h0 113) (h0 108 8) (nxt (h0 113) (h0 108 8) (nxt (h0 113) (h0 108 8) (Qm h0))))) := nx_mm (rowz R4 (fun _ => rfl)) (R4 108 8 rfl) Qx6 Kx15
            have Lx15 : h4 108 9 < h4 108 10 := Mx6.lt (by omega)
            have na8 : h8 108 16 = h4 108 16 := S8 108 16 rfl
            have V8 : vr h8 = (vr h0) := (vr_S S8 (fun _ => rfl) rfl (fun _ => rfl)).trans V4
            refine z_aload_n (M := M_X12_readShorter) 71 dX12_readShorter_71 rfl ?_
            refine z_getIE (M := M_X12_readShorter) 72 dX12_readShorter_72 f_X12_214 o_108 (by decide) ((S8 108 14 rfl).trans ((S4 108 14 rfl).trans bx4)) ?_
            refine z_if_ne_F (M := M_X12_readShorter) 75 dX12_readShorter_75 87 rfl (by omega) ?_
            refine z_aload_n (M := M_X12_readShorter) 78 dX12_readShorter_78 rfl ?_
            refine z_iload_n (M := M_X12_readShorter) 79 dX12_readShorter_79 rfl ?_
            refine z_iload_n (M := M_X12_readShorter) 80 dX12_readShorter_80 rfl ?_
            refine z_vI (M := M_X12_readShorter) 81 dX12_readShorter_81 t_X12_isDrafted l_X12_274 (m_rr_of rfl) (rest := []) (c_X12_isDrafted2 h8 x4 x8 G8 A8) o_108 rfl rfl rfl (Nat.le_of_ble_eq_true rfl) ⟨rfl, rfl⟩ (fun x16 h9 qx16 => ?_)
            obtain ⟨G9, S9, ax16, bx16, fx16⟩ := qx16
            have R9 := R8.call S9 (by decide +kernel)
            have A9 := A8.fr S9 (fun _ => rfl) rfl rfl rfl rfl rfl
            have na9 : h9 108 16 = h8 108 16 := S9 108 16 rfl
            have V9 : vr h9 = (vr h0) := (vr_S S9 (fun _ => rfl) rfl (fun _ => rfl)).trans V8
            have M9_ := MTk.same Mx15 (rowz S9 (fun _ => rfl)) (fun j u v => S9 108 j rfl)
            have Q9_ : Qm h9 = (nxt (h0 113) (h0 108 8) (nxt (h0 113) (h0 108 8) (nxt (h0 113) (h0 108 8) (nxt (h0 113) (h0 108 8) (Qm h0))))) := (Qm_S S9 rfl rfl).trans Qx15
            have P9_ : h9 108 9 = h8 108 9 := S9 108 9 rfl
            refine z_if_eq (M := M_X12_readShorter) 84 dX12_readShorter_84 88 rfl (fun c17 => ?_) (fun c17 => ?_)
            · have v01_ := vr_01 A9
              have e01_ : vr h9 1 = vr h0 1 := congrFun V9 1
              have e00_ : vr h9 0 = vr h0 0 := congrFun V9 0
              have rm_ := A9.rooms
              have hb_ : h9 108 14 = 0 := ((S9 108 14 rfl).trans ((S8 108 14 rfl).trans ((S4 108 14 rfl).trans bx4)))
              have g16_ := (g_108_16 G9).1
              refine z_aload_n (M := M_X12_readShorter) 88 dX12_readShorter_88 rfl ?_
              refine z_getR (M := M_X12_readShorter) 89 dX12_readShorter_89 f_X12_13 o_108 rfl (g_108_3 G9) ?_
              refine z_iconst (M := M_X12_readShorter) 92 dX12_readShorter_92 ?_
              refine z_ialdG (M := M_X12_readShorter) 93 dX12_readShorter_93 o_110 (by omega) (by omega) (gw_1 G9) (fun x18 ex18 ax18 bx18 => ?_)
              refine z_aload_n (M := M_X12_readShorter) 94 dX12_readShorter_94 rfl ?_
              refine z_getIG (M := M_X12_readShorter) 95 dX12_readShorter_95 f_X12_277 o_108 (by decide) (g_108_18 G9) (fun x19 ex19 ax19 bx19 => ?_)
              refine z_iaddN (M := M_X12_readShorter) 98 dX12_readShorter_98 (by omega) (by omega) ?_
              refine z_bipush (M := M_X12_readShorter) 99 dX12_readShorter_99 ?_
              have r1_ : h9 110 1 = x18 := ex18
              have s1_ : h9 108 18 = x19 := ex19
              refine z_icmp_ne (M := M_X12_readShorter) 101 dX12_readShorter_101 115 rfl (fun c20 => ?_) (fun c20 => ?_)
              · refine z_aload_n (M := M_X12_readShorter) 115 dX12_readShorter_115 rfl ?_
                refine z_dup (M := M_X12_readShorter) 116 dX12_readShorter_116 rfl ?_
                refine z_getIE (M := M_X12_readShorter) 117 dX12_readShorter_117 f_X12_277 o_108 (by decide) ex19 ?_
                refine z_iconst (M := M_X12_readShorter) 120 dX12_readShorter_120 ?_
                refine z_iaddN (M := M_X12_readShorter) 121 dX12_readShorter_121 (by omega) (by omega) ?_
                refine z_putIH (M := M_X12_readShorter) 122 dX12_readShorter_122 p_X12_277 o_108 rfl (u_108_18 G9 (by omega) (by omega)) (R9.up rfl) (fun h10 E10 G10 R10 => ?_)
                have M10_ := M9_.up E10 (by decide)
                have Q10_ : Qm h10 = (nxt (h0 113) (h0 108 8) (nxt (h0 113) (h0 108 8) (nxt (h0 113) (h0 108 8) (nxt (h0 113) (h0 108 8) (Qm h0))))) := (Qm_up E10 (by decide)).trans Q9_
                have V10 : vr h10 = (vr h0) := (vr_up E10 (by decide)).trans V9
                have P10_ : h10 108 9 = h9 108 9 := upN E10 (by decide)
                have na10 : h10 108 16 = h9 108 16 := upN E10 (by decide)
                refine z_aload_n (M := M_X12_readShorter) 125 dX12_readShorter_125 rfl ?_
                refine z_iconst (M := M_X12_readShorter) 126 dX12_readShorter_126 ?_
                refine z_iload_n (M := M_X12_readShorter) 127 dX12_readShorter_127 rfl ?_
                refine z_iload_n (M := M_X12_readShorter) 128 dX12_readShorter_128 rfl ?_
                refine z_iconst (M := M_X12_readShorter) 129 dX12_readShorter_129 ?_
                refine z_iconst (M := M_X12_readShorter) 130 dX12_readShorter_130 ?_
                have gb10 := (g_108_9 G10).2
                have ga10 := (g_108_16 G10).1
                have hb10_ : h10 108 14 = 0 := ((upN E10 (fun q => absurd q.2 (by decide))).trans ((S9 108 14 rfl).trans ((S8 108 14 rfl).trans ((S4 108 14 rfl).trans bx4))))
                refine z_vV (M := M_X12_readShorter) 131 dX12_readShorter_131 t_X12_act l_X12_268 (m_rr_of rfl) (rest := []) (c_X12_act h10 1 x4 x8 0 0 G10 (Or.inr (by omega))) o_108 rfl rfl rfl (Nat.le_of_ble_eq_true rfl) ⟨rfl, rfl⟩ (fun h11 qx21 => ?_)
                obtain ⟨G11, S11, fx21⟩ := qx21
                have R11 := R10.call S11 (by decide +kernel)
                have na11 : h11 108 16 = h10 108 16 + 1 := (fx21.resolve_left (fun z => z.1 ((upN E10 (fun q => absurd q.2 (by decide))).trans ((S9 108 14 rfl).trans ((S8 108 14 rfl).trans ((S4 108 14 rfl).trans bx4)))))).2.1
                have V11 : vr h11 = act1 1 x4 x8 0 0 (vr h0) := (vr_act fx21 ((upN E10 (fun q => absurd q.2 (by decide))).trans ((S9 108 14 rfl).trans ((S8 108 14 rfl).trans ((S4 108 14 rfl).trans bx4)))) (g_108_16 G10).1 S11 (fun _ => rfl)).trans (congrArg (act1 1 x4 x8 0 0) V10)
                have M11_ := MTk.same M10_ (rowz S11 (fun _ => rfl)) (fun j u v => S11 108 j (fr_j (by omega)))
                have Q11_ : Qm h11 = (nxt (h0 113) (h0 108 8) (nxt (h0 113) (h0 108 8) (nxt (h0 113) (h0 108 8) (nxt (h0 113) (h0 108 8) (Qm h0))))) := (Qm_S S11 rfl rfl).trans Q10_
                have P11_ : h11 108 9 = h10 108 9 := S11 108 9 rfl
                have A11 := AI_act1 A9 (by omega) E10 ex19 (by omega) (by omega) fx21 (by unfold okA; omega)
                exact z_retV (M := M_X12_readShorter) 134 dX12_readShorter_134 rfl ⟨G11, R11, md_ok (p := ((nxt (h0 113) (h0 108 8) (nxt (h0 113) (h0 108 8) (nxt (h0 113) (h0 108 8) (nxt (h0 113) (h0 108 8) (Qm h0))))), rS (vr h0) x4 x8)) (by unfold rdShort; rw [cif_pos (Wx4), cif_pos ((iw_c (rowz R2 (fun _ => rfl)) Qx4 (mw_14 Mx4 (g_108_9 G2).1)).mpr cx5), cif_pos (⟨nk_.1.mpr ⟨by omega, by omega, by omega⟩, by rw [← en_, ← Nx4]; omega⟩), ← Nx4, ← en_, cif_neg (fun z => by have := (iS_v V8 fx16).mpr z; omega), cif_pos (by omega)]) ((S11 108 14 rfl).trans ((upN E10 (fun q => absurd q.2 (by decide))).trans ((S9 108 14 rfl).trans ((S8 108 14 rfl).trans ((S4 108 14 rfl).trans bx4))))) M11_ A11 (by omega) Q11_ (V11.trans act1_k1) (((S11 108 13 rfl).trans ((upN E10 (fun q => absurd q.2 (by decide))).trans ((S9 108 13 rfl).trans ((S8 108 13 rfl).trans ((S4 108 13 rfl).trans (gx4.trans ((S1 108 13 rfl).trans ex1))))))).trans ex1.symm), by omega, fun _ => by omega⟩
              · refine z_aload_n (M := M_X12_readShorter) 104 dX12_readShorter_104 rfl ?_
                refine z_iconst (M := M_X12_readShorter) 105 dX12_readShorter_105 ?_
                refine z_putZH (M := M_X12_readShorter) 106 dX12_readShorter_106 p_X12_214 o_108 rfl (by omega) (u_108_14 G9 (by omega) (by omega)) (R9.up rfl) (fun h12 E12 G12 R12 => ?_)
                have A12 := A9.same (fun j => upN E12 (fun q => absurd q.1 (by decide))) (upN E12 (by decide)) (upN E12 (by decide)) (upN E12 (by decide)) (upN E12 (by decide)) (upN E12 (by decide))
                refine z_aload_n (M := M_X12_readShorter) 109 dX12_readShorter_109 rfl ?_
                refine z_iload_n (M := M_X12_readShorter) 110 dX12_readShorter_110 rfl ?_
                refine z_putIH (M := M_X12_readShorter) 111 dX12_readShorter_111 p_X12_26 o_108 rfl (u_108_13 G12) (R12.up rfl) (fun h13 E13 G13 R13 => ?_)
                have A13 := A12.same (fun j => upN E13 (fun q => absurd q.1 (by decide))) (upN E13 (by decide)) (upN E13 (by decide)) (upN E13 (by decide)) (upN E13 (by decide)) (upN E13 (by decide))
                have bb_ : h13 108 14 = 1 := ((upN E13 (fun q => absurd q.2 (by decide))).trans (upE E12))
                have pp_ : h13 108 9 = h9 108 9 := (upN E13 (by decide)).trans (upN E12 (by decide))
                exact z_retV (M := M_X12_readShorter) 114 dX12_readShorter_114 rfl ⟨G13, R13, md_er (by unfold rdShort; rw [cif_pos (Wx4), cif_pos ((iw_c (rowz R2 (fun _ => rfl)) Qx4 (mw_14 Mx4 (g_108_9 G2).1)).mpr cx5), cif_pos (⟨nk_.1.mpr ⟨by omega, by omega, by omega⟩, by rw [← en_, ← Nx4]; omega⟩), ← Nx4, ← en_, cif_neg (fun z => by have := (iS_v V8 fx16).mpr z; omega), cif_neg (by omega)]) ((upN E13 (fun q => absurd q.2 (by decide))).trans (upE E12)) ((upE E13).trans ex2.symm), by omega, fun _ => by omega⟩
            · exact z_retV (M := M_X12_readShorter) 87 dX12_readShorter_87 rfl ⟨G9, R9, md_ok (p := ((nxt (h0 113) (h0 108 8) (nxt (h0 113) (h0 108 8) (nxt (h0 113) (h0 108 8) (nxt (h0 113) (h0 108 8) (Qm h0))))), vr h0)) (by unfold rdShort; rw [cif_pos (Wx4), cif_pos ((iw_c (rowz R2 (fun _ => rfl)) Qx4 (mw_14 Mx4 (g_108_9 G2).1)).mpr cx5), cif_pos (⟨nk_.1.mpr ⟨by omega, by omega, by omega⟩, by rw [← en_, ← Nx4]; omega⟩), ← Nx4, ← en_, cif_pos ((iS_v V8 fx16).mp (by omega))]) ((S9 108 14 rfl).trans ((S8 108 14 rfl).trans ((S4 108 14 rfl).trans bx4))) M9_ A9 (by omega) Q9_ V9 (((S9 108 13 rfl).trans ((S8 108 13 rfl).trans ((S4 108 13 rfl).trans (gx4.trans ((S1 108 13 rfl).trans ex1))))).trans ex1.symm), by omega, fun _ => by omega⟩
        · refine z_if_eq_T (M := M_X12_readShorter) 55 dX12_readShorter_55 67 rfl (by omega) ?_
          refine z_iconst (M := M_X12_readShorter) 67 dX12_readShorter_67 ?_
          have ek_ : h4 108 12 = x7 := ex7
          have nk_ := num_c (rowz R4 (fun _ => rfl)) (R4 108 8 rfl) Qx6 (nk (lo := 0) (hi := 3) (g_108_9 G4).1 Mx6.1 Mx6.2.1 (by omega) (by omega))
          have mw_ := m_w_or ex8
          refine z_vV (M := M_X12_readShorter) 68 dX12_readShorter_68 t_X12_must l_X12_247 (m_rr_of rfl) (rest := []) (c_X12_must_0 h4 0 G4 ⟨by omega, by omega⟩ ((S4 108 14 rfl).trans bx4)) o_108 rfl rfl rfl (Nat.le_of_ble_eq_true rfl) ⟨rfl, rfl⟩ (fun h14 qx22 => ?_)
          obtain ⟨G14, S14, bx22, fx22⟩ := qx22
          have R14 := R4.call S14 (by decide +kernel)
          have A14 := A4.fr S14 (fun _ => rfl) rfl rfl rfl rfl rfl
          have Px22 : h14 108 9 = h4 108 9 := S14 108 9 rfl
          have fpx22 : h14 108 13 = (nxt (h0 113) (h0 108 8) (nxt (h0 113) (h0 108 8) (nxt (h0 113) (h0 108 8) (Qm h0)))).1 := fx22.trans (fst_m Qx6)
          refine z_aload_n (M := M_X12_readShorter) 71 dX12_readShorter_71 rfl ?_
          refine z_getIE (M := M_X12_readShorter) 72 dX12_readShorter_72 f_X12_214 o_108 (by decide) bx22 ?_
          refine z_if_ne_T (M := M_X12_readShorter) 75 dX12_readShorter_75 87 rfl (by omega) ?_
          have bb_ : h14 108 14 = 1 := bx22
          exact z_retV (M := M_X12_readShorter) 87 dX12_readShorter_87 rfl ⟨G14, R14, md_er (by unfold rdShort; rw [cif_pos (Wx4), cif_pos ((iw_c (rowz R2 (fun _ => rfl)) Qx4 (mw_14 Mx4 (g_108_9 G2).1)).mpr cx5), cif_neg (fun z => by have z1 := nk_.1.mp z.1; have z2 := nk_.2 z1; exact z.2 (by rw [← z2, ← Nx4]; omega))]) bx22 fpx22, by omega, fun _ => by omega⟩
    · refine z_vV (M := M_X12_readShorter) 26 dX12_readShorter_26 t_X12_must l_X12_247 (m_rr_of rfl) (rest := []) (c_X12_must_0 h2 0 G2 ⟨by omega, by omega⟩ bx4) o_108 rfl rfl rfl (Nat.le_of_ble_eq_true rfl) ⟨rfl, rfl⟩ (fun h15 qx23 => ?_)
      obtain ⟨G15, S15, bx23, fx23⟩ := qx23
      have R15 := R2.call S15 (by decide +kernel)
      have A15 := A2.fr S15 (fun _ => rfl) rfl rfl rfl rfl rfl
      have Px23 : h15 108 9 = h2 108 9 := S15 108 9 rfl
      have fpx23 : h15 108 13 = (nxt (h0 113) (h0 108 8) (nxt (h0 113) (h0 108 8) (Qm h0))).1 := fx23.trans (fst_m Qx4)
      refine z_aload_n (M := M_X12_readShorter) 29 dX12_readShorter_29 rfl ?_
      refine z_getJV (M := M_X12_readShorter) 30 dX12_readShorter_30 f_X12_224 o_108 rfl (fun x24 ex24 => ?_)
      refine z_l2i (M := M_X12_readShorter) 33 dX12_readShorter_33 ?_
      refine z_topm (fun x25 ex25 ox25 => ?_)
      unfold m_32 at ox25
      refine z_istore_n (M := M_X12_readShorter) 34 dX12_readShorter_34 (ls' := [some (mR 108), some (mI x2), some (mI x4), some (mI x25)]) (by decide) rfl ?_
      refine z_aload_n (M := M_X12_readShorter) 35 dX12_readShorter_35 rfl ?_
      refine z_aload_n (M := M_X12_readShorter) 36 dX12_readShorter_36 rfl ?_
      refine z_getIG (M := M_X12_readShorter) 37 dX12_readShorter_37 f_X12_234 o_108 (by decide) (g_108_11 G15) (fun x26 ex26 ax26 bx26 => ?_)
      refine z_iconst (M := M_X12_readShorter) 40 dX12_readShorter_40 ?_
      refine z_icmp_ne (M := M_X12_readShorter) 41 dX12_readShorter_41 67 rfl (fun c27 => ?_) (fun c27 => ?_)
      · refine z_iconst (M := M_X12_readShorter) 67 dX12_readShorter_67 ?_
        refine z_vV (M := M_X12_readShorter) 68 dX12_readShorter_68 t_X12_must l_X12_247 (m_rr_of rfl) (rest := []) (c_X12_must_b h15 0 G15 ⟨by omega, by omega⟩ bx23) o_108 rfl rfl rfl (Nat.le_of_ble_eq_true rfl) ⟨rfl, rfl⟩ (fun h16 qx28 => ?_)
        obtain ⟨G16, S16⟩ := qx28
        have R16 := R15.call S16 (by decide +kernel)
        have P16_ : h16 108 9 = h15 108 9 := S16 108 9 rfl
        refine z_aload_n (M := M_X12_readShorter) 71 dX12_readShorter_71 rfl ?_
        refine z_getIE (M := M_X12_readShorter) 72 dX12_readShorter_72 f_X12_214 o_108 (by decide) ((S16 108 14 rfl).trans bx23) ?_
        refine z_if_ne_T (M := M_X12_readShorter) 75 dX12_readShorter_75 87 rfl (by omega) ?_
        have bb_ : h16 108 14 = 1 := ((S16 108 14 rfl).trans bx23)
        exact z_retV (M := M_X12_readShorter) 87 dX12_readShorter_87 rfl ⟨G16, R16, md_er (by unfold rdShort; rw [cif_pos (Wx4), cif_neg (fun z => cx5 ((iw_c (rowz R2 (fun _ => rfl)) Qx4 (mw_14 Mx4 (g_108_9 G2).1)).mp z))]) ((S16 108 14 rfl).trans bx23) ((S16 108 13 rfl).trans fpx23), by omega, fun _ => by omega⟩
      · refine z_aload_n (M := M_X12_readShorter) 44 dX12_readShorter_44 rfl ?_
        refine z_getJE (M := M_X12_readShorter) 45 dX12_readShorter_45 f_X12_224 o_108 rfl ex24 ?_
        refine z_lconst (M := M_X12_readShorter) 48 dX12_readShorter_48 (v := 0) ?_
        refine z_ldc2 (M := M_X12_readShorter) 49 dX12_readShorter_49 k_X12_152 ?_
        refine z_sI (M := M_X12_readShorter) 52 dX12_readShorter_52 t_X12_in l_X12_143 (m_rr_of rfl) (rest := [mR 108]) (c_X12_in h15 x24 0 3 G15) rfl rfl (Nat.le_of_ble_eq_true rfl) ⟨rfl, rfl⟩ (fun x29 h17 qx29 => ?_)
        obtain ⟨rfl, ⟨rfl, cx29⟩ | ⟨rfl, cx29⟩⟩ := qx29
        · refine z_if_eq_F (M := M_X12_readShorter) 55 dX12_readShorter_55 67 rfl (by omega) ?_
          refine z_iload_n (M := M_X12_readShorter) 58 dX12_readShorter_58 rfl ?_
          refine z_iload_n (M := M_X12_readShorter) 59 dX12_readShorter_59 rfl ?_
          refine z_icmp_eq (M := M_X12_readShorter) 60 dX12_readShorter_60 67 rfl (fun c30 => ?_) (fun c30 => ?_)
          · refine z_iconst (M := M_X12_readShorter) 67 dX12_readShorter_67 ?_
            refine z_vV (M := M_X12_readShorter) 68 dX12_readShorter_68 t_X12_must l_X12_247 (m_rr_of rfl) (rest := []) (c_X12_must_b h15 0 G15 ⟨by omega, by omega⟩ bx23) o_108 rfl rfl rfl (Nat.le_of_ble_eq_true rfl) ⟨rfl, rfl⟩ (fun h18 qx31 => ?_)
            obtain ⟨G18, S18⟩ := qx31
            have R18 := R15.call S18 (by decide +kernel)
            have P18_ : h18 108 9 = h15 108 9 := S18 108 9 rfl
            refine z_aload_n (M := M_X12_readShorter) 71 dX12_readShorter_71 rfl ?_
            refine z_getIE (M := M_X12_readShorter) 72 dX12_readShorter_72 f_X12_214 o_108 (by decide) ((S18 108 14 rfl).trans bx23) ?_
            refine z_if_ne_T (M := M_X12_readShorter) 75 dX12_readShorter_75 87 rfl (by omega) ?_
            have bb_ : h18 108 14 = 1 := ((S18 108 14 rfl).trans bx23)
            exact z_retV (M := M_X12_readShorter) 87 dX12_readShorter_87 rfl ⟨G18, R18, md_er (by unfold rdShort; rw [cif_pos (Wx4), cif_neg (fun z => cx5 ((iw_c (rowz R2 (fun _ => rfl)) Qx4 (mw_14 Mx4 (g_108_9 G2).1)).mp z))]) ((S18 108 14 rfl).trans bx23) ((S18 108 13 rfl).trans fpx23), by omega, fun _ => by omega⟩
          · refine z_iconst (M := M_X12_readShorter) 63 dX12_readShorter_63 ?_
            refine z_goto (M := M_X12_readShorter) 64 dX12_readShorter_64 68 rfl ?_
            refine z_vV (M := M_X12_readShorter) 68 dX12_readShorter_68 t_X12_must l_X12_247 (m_rr_of rfl) (rest := []) (c_X12_must_b h15 1 G15 ⟨by omega, by omega⟩ bx23) o_108 rfl rfl rfl (Nat.le_of_ble_eq_true rfl) ⟨rfl, rfl⟩ (fun h19 qx32 => ?_)
            obtain ⟨G19, S19⟩ := qx32
            have R19 := R15.call S19 (by decide +kernel)
            have P19_ : h19 108 9 = h15 108 9 := S19 108 9 rfl
            refine z_aload_n (M := M_X12_readShorter) 71 dX12_readShorter_71 rfl ?_
            refine z_getIE (M := M_X12_readShorter) 72 dX12_readShorter_72 f_X12_214 o_108 (by decide) ((S19 108 14 rfl).trans bx23) ?_
            refine z_if_ne_T (M := M_X12_readShorter) 75 dX12_readShorter_75 87 rfl (by omega) ?_
            have bb_ : h19 108 14 = 1 := ((S19 108 14 rfl).trans bx23)
            exact z_retV (M := M_X12_readShorter) 87 dX12_readShorter_87 rfl ⟨G19, R19, md_er (by unfold rdShort; rw [cif_pos (Wx4), cif_neg (fun z => cx5 ((iw_c (rowz R2 (fun _ => rfl)) Qx4 (mw_14 Mx4 (g_108_9 G2).1)).mp z))]) ((S19 108 14 rfl).trans bx23) ((S19 108 13 rfl).trans fpx23), by omega, fun _ => by omega⟩
        · refine z_if_eq_T (M := M_X12_readShorter) 55 dX12_readShorter_55 67 rfl (by omega) ?_
          refine z_iconst (M := M_X12_readShorter) 67 dX12_readShorter_67 ?_
          refine z_vV (M := M_X12_readShorter) 68 dX12_readShorter_68 t_X12_must l_X12_247 (m_rr_of rfl) (rest := []) (c_X12_must_b h15 0 G15 ⟨by omega, by omega⟩ bx23) o_108 rfl rfl rfl (Nat.le_of_ble_eq_true rfl) ⟨rfl, rfl⟩ (fun h20 qx33 => ?_)
          obtain ⟨G20, S20⟩ := qx33
          have R20 := R15.call S20 (by decide +kernel)
          have P20_ : h20 108 9 = h15 108 9 := S20 108 9 rfl
          refine z_aload_n (M := M_X12_readShorter) 71 dX12_readShorter_71 rfl ?_
          refine z_getIE (M := M_X12_readShorter) 72 dX12_readShorter_72 f_X12_214 o_108 (by decide) ((S20 108 14 rfl).trans bx23) ?_
          refine z_if_ne_T (M := M_X12_readShorter) 75 dX12_readShorter_75 87 rfl (by omega) ?_
          have bb_ : h20 108 14 = 1 := ((S20 108 14 rfl).trans bx23)
          exact z_retV (M := M_X12_readShorter) 87 dX12_readShorter_87 rfl ⟨G20, R20, md_er (by unfold rdShort; rw [cif_pos (Wx4), cif_neg (fun z => cx5 ((iw_c (rowz R2 (fun _ => rfl)) Qx4 (mw_14 Mx4 (g_108_9 G2).1)).mp z))]) ((S20 108 14 rfl).trans bx23) ((S20 108 13 rfl).trans fpx23), by omega, fun _ => by omega⟩
  · have fpx4 : h2 108 13 = (nxt (h0 113) (h0 108 8) (Qm h0)).1 := fx4.trans (fst_m Qx3)
    refine z_ok (fun ox4 _ _ => ?_)
    have ox4 := ox4.1; unfold m_ok m_32 at ox4
    refine z_istore_n (M := M_X12_readShorter) 17 dX12_readShorter_17 (ls' := [some (mR 108), some (mI x2), some (mI x4), none]) (by decide) rfl ?_
    refine z_aload_n (M := M_X12_readShorter) 18 dX12_readShorter_18 rfl ?_
    refine z_aload_n (M := M_X12_readShorter) 19 dX12_readShorter_19 rfl ?_
    refine z_ldc2 (M := M_X12_readShorter) 20 dX12_readShorter_20 k_X12_272 ?_
    refine z_vI (M := M_X12_readShorter) 23 dX12_readShorter_23 t_X12_isWord l_X12_260 (m_rr_of rfl) (rest := [mR 108]) (c_X12_isWord h2 2273783 G2) o_108 rfl rfl rfl (Nat.le_of_ble_eq_true rfl) ⟨rfl, rfl⟩ (fun x34 h21 qx34 => ?_)
    obtain ⟨rfl, ⟨rfl, cx34⟩ | ⟨rfl, cx34⟩⟩ := qx34
    · refine z_vV (M := M_X12_readShorter) 26 dX12_readShorter_26 t_X12_must l_X12_247 (m_rr_of rfl) (rest := []) (c_X12_must_b h2 1 G2 ⟨by omega, by omega⟩ bx4) o_108 rfl rfl rfl (Nat.le_of_ble_eq_true rfl) ⟨rfl, rfl⟩ (fun h22 qx35 => ?_)
      obtain ⟨G22, S22⟩ := qx35
      have R22 := R2.call S22 (by decide +kernel)
      have P22_ : h22 108 9 = h2 108 9 := S22 108 9 rfl
      refine z_aload_n (M := M_X12_readShorter) 29 dX12_readShorter_29 rfl ?_
      refine z_getJV (M := M_X12_readShorter) 30 dX12_readShorter_30 f_X12_224 o_108 rfl (fun x36 ex36 => ?_)
      refine z_l2i (M := M_X12_readShorter) 33 dX12_readShorter_33 ?_
      refine z_topm (fun x37 ex37 ox37 => ?_)
      unfold m_32 at ox37
      refine z_istore_n (M := M_X12_readShorter) 34 dX12_readShorter_34 (ls' := [some (mR 108), some (mI x2), some (mI x4), some (mI x37)]) (by decide) rfl ?_
      refine z_aload_n (M := M_X12_readShorter) 35 dX12_readShorter_35 rfl ?_
      refine z_aload_n (M := M_X12_readShorter) 36 dX12_readShorter_36 rfl ?_
      refine z_getIG (M := M_X12_readShorter) 37 dX12_readShorter_37 f_X12_234 o_108 (by decide) (g_108_11 G22) (fun x38 ex38 ax38 bx38 => ?_)
      refine z_iconst (M := M_X12_readShorter) 40 dX12_readShorter_40 ?_
      refine z_icmp_ne (M := M_X12_readShorter) 41 dX12_readShorter_41 67 rfl (fun c39 => ?_) (fun c39 => ?_)
      · refine z_iconst (M := M_X12_readShorter) 67 dX12_readShorter_67 ?_
        refine z_vV (M := M_X12_readShorter) 68 dX12_readShorter_68 t_X12_must l_X12_247 (m_rr_of rfl) (rest := []) (c_X12_must_b h22 0 G22 ⟨by omega, by omega⟩ ((S22 108 14 rfl).trans bx4)) o_108 rfl rfl rfl (Nat.le_of_ble_eq_true rfl) ⟨rfl, rfl⟩ (fun h23 qx40 => ?_)
        obtain ⟨G23, S23⟩ := qx40
        have R23 := R22.call S23 (by decide +kernel)
        have P23_ : h23 108 9 = h22 108 9 := S23 108 9 rfl
        refine z_aload_n (M := M_X12_readShorter) 71 dX12_readShorter_71 rfl ?_
        refine z_getIE (M := M_X12_readShorter) 72 dX12_readShorter_72 f_X12_214 o_108 (by decide) ((S23 108 14 rfl).trans ((S22 108 14 rfl).trans bx4)) ?_
        refine z_if_ne_T (M := M_X12_readShorter) 75 dX12_readShorter_75 87 rfl (by omega) ?_
        have bb_ : h23 108 14 = 1 := ((S23 108 14 rfl).trans ((S22 108 14 rfl).trans bx4))
        exact z_retV (M := M_X12_readShorter) 87 dX12_readShorter_87 rfl ⟨G23, R23, md_er (by unfold rdShort; rw [cif_neg (Wx4)]) ((S23 108 14 rfl).trans ((S22 108 14 rfl).trans bx4)) ((S23 108 13 rfl).trans ((S22 108 13 rfl).trans fpx4)), by omega, fun _ => by omega⟩
      · refine z_aload_n (M := M_X12_readShorter) 44 dX12_readShorter_44 rfl ?_
        refine z_getJE (M := M_X12_readShorter) 45 dX12_readShorter_45 f_X12_224 o_108 rfl ex36 ?_
        refine z_lconst (M := M_X12_readShorter) 48 dX12_readShorter_48 (v := 0) ?_
        refine z_ldc2 (M := M_X12_readShorter) 49 dX12_readShorter_49 k_X12_152 ?_
        refine z_sI (M := M_X12_readShorter) 52 dX12_readShorter_52 t_X12_in l_X12_143 (m_rr_of rfl) (rest := [mR 108]) (c_X12_in h22 x36 0 3 G22) rfl rfl (Nat.le_of_ble_eq_true rfl) ⟨rfl, rfl⟩ (fun x41 h24 qx41 => ?_)
        obtain ⟨rfl, ⟨rfl, cx41⟩ | ⟨rfl, cx41⟩⟩ := qx41
        · refine z_if_eq_F (M := M_X12_readShorter) 55 dX12_readShorter_55 67 rfl (by omega) ?_
          refine z_iload_n (M := M_X12_readShorter) 58 dX12_readShorter_58 rfl ?_
          refine z_iload_n (M := M_X12_readShorter) 59 dX12_readShorter_59 rfl ?_
          refine z_icmp_eq (M := M_X12_readShorter) 60 dX12_readShorter_60 67 rfl (fun c42 => ?_) (fun c42 => ?_)
          · refine z_iconst (M := M_X12_readShorter) 67 dX12_readShorter_67 ?_
            refine z_vV (M := M_X12_readShorter) 68 dX12_readShorter_68 t_X12_must l_X12_247 (m_rr_of rfl) (rest := []) (c_X12_must_b h22 0 G22 ⟨by omega, by omega⟩ ((S22 108 14 rfl).trans bx4)) o_108 rfl rfl rfl (Nat.le_of_ble_eq_true rfl) ⟨rfl, rfl⟩ (fun h25 qx43 => ?_)
            obtain ⟨G25, S25⟩ := qx43
            have R25 := R22.call S25 (by decide +kernel)
            have P25_ : h25 108 9 = h22 108 9 := S25 108 9 rfl
            refine z_aload_n (M := M_X12_readShorter) 71 dX12_readShorter_71 rfl ?_
            refine z_getIE (M := M_X12_readShorter) 72 dX12_readShorter_72 f_X12_214 o_108 (by decide) ((S25 108 14 rfl).trans ((S22 108 14 rfl).trans bx4)) ?_
            refine z_if_ne_T (M := M_X12_readShorter) 75 dX12_readShorter_75 87 rfl (by omega) ?_
            have bb_ : h25 108 14 = 1 := ((S25 108 14 rfl).trans ((S22 108 14 rfl).trans bx4))
            exact z_retV (M := M_X12_readShorter) 87 dX12_readShorter_87 rfl ⟨G25, R25, md_er (by unfold rdShort; rw [cif_neg (Wx4)]) ((S25 108 14 rfl).trans ((S22 108 14 rfl).trans bx4)) ((S25 108 13 rfl).trans ((S22 108 13 rfl).trans fpx4)), by omega, fun _ => by omega⟩
          · refine z_iconst (M := M_X12_readShorter) 63 dX12_readShorter_63 ?_
            refine z_goto (M := M_X12_readShorter) 64 dX12_readShorter_64 68 rfl ?_
            refine z_vV (M := M_X12_readShorter) 68 dX12_readShorter_68 t_X12_must l_X12_247 (m_rr_of rfl) (rest := []) (c_X12_must_b h22 1 G22 ⟨by omega, by omega⟩ ((S22 108 14 rfl).trans bx4)) o_108 rfl rfl rfl (Nat.le_of_ble_eq_true rfl) ⟨rfl, rfl⟩ (fun h26 qx44 => ?_)
            obtain ⟨G26, S26⟩ := qx44
            have R26 := R22.call S26 (by decide +kernel)
            have P26_ : h26 108 9 = h22 108 9 := S26 108 9 rfl
            refine z_aload_n (M := M_X12_readShorter) 71 dX12_readShorter_71 rfl ?_
            refine z_getIE (M := M_X12_readShorter) 72 dX12_readShorter_72 f_X12_214 o_108 (by decide) ((S26 108 14 rfl).trans ((S22 108 14 rfl).trans bx4)) ?_
            refine z_if_ne_T (M := M_X12_readShorter) 75 dX12_readShorter_75 87 rfl (by omega) ?_
            have bb_ : h26 108 14 = 1 := ((S26 108 14 rfl).trans ((S22 108 14 rfl).trans bx4))
            exact z_retV (M := M_X12_readShorter) 87 dX12_readShorter_87 rfl ⟨G26, R26, md_er (by unfold rdShort; rw [cif_neg (Wx4)]) ((S26 108 14 rfl).trans ((S22 108 14 rfl).trans bx4)) ((S26 108 13 rfl).trans ((S22 108 13 rfl).trans fpx4)), by omega, fun _ => by omega⟩
        · refine z_if_eq_T (M := M_X12_readShorter) 55 dX12_readShorter_55 67 rfl (by omega) ?_
          refine z_iconst (M := M_X12_readShorter) 67 dX12_readShorter_67 ?_
          refine z_vV (M := M_X12_readShorter) 68 dX12_readShorter_68 t_X12_must l_X12_247 (m_rr_of rfl) (rest := []) (c_X12_must_b h22 0 G22 ⟨by omega, by omega⟩ ((S22 108 14 rfl).trans bx4)) o_108 rfl rfl rfl (Nat.le_of_ble_eq_true rfl) ⟨rfl, rfl⟩ (fun h27 qx45 => ?_)
          obtain ⟨G27, S27⟩ := qx45
          have R27 := R22.call S27 (by decide +kernel)
          have P27_ : h27 108 9 = h22 108 9 := S27 108 9 rfl
          refine z_aload_n (M := M_X12_readShorter) 71 dX12_readShorter_71 rfl ?_
          refine z_getIE (M := M_X12_readShorter) 72 dX12_readShorter_72 f_X12_214 o_108 (by decide) ((S27 108 14 rfl).trans ((S22 108 14 rfl).trans bx4)) ?_
          refine z_if_ne_T (M := M_X12_readShorter) 75 dX12_readShorter_75 87 rfl (by omega) ?_
          have bb_ : h27 108 14 = 1 := ((S27 108 14 rfl).trans ((S22 108 14 rfl).trans bx4))
          exact z_retV (M := M_X12_readShorter) 87 dX12_readShorter_87 rfl ⟨G27, R27, md_er (by unfold rdShort; rw [cif_neg (Wx4)]) ((S27 108 14 rfl).trans ((S22 108 14 rfl).trans bx4)) ((S27 108 13 rfl).trans ((S22 108 13 rfl).trans fpx4)), by omega, fun _ => by omega⟩
    · refine z_vV (M := M_X12_readShorter) 26 dX12_readShorter_26 t_X12_must l_X12_247 (m_rr_of rfl) (rest := []) (c_X12_must_b h2 0 G2 ⟨by omega, by omega⟩ bx4) o_108 rfl rfl rfl (Nat.le_of_ble_eq_true rfl) ⟨rfl, rfl⟩ (fun h28 qx46 => ?_)
      obtain ⟨G28, S28⟩ := qx46
      have R28 := R2.call S28 (by decide +kernel)
      have P28_ : h28 108 9 = h2 108 9 := S28 108 9 rfl
      refine z_aload_n (M := M_X12_readShorter) 29 dX12_readShorter_29 rfl ?_
      refine z_getJV (M := M_X12_readShorter) 30 dX12_readShorter_30 f_X12_224 o_108 rfl (fun x47 ex47 => ?_)
      refine z_l2i (M := M_X12_readShorter) 33 dX12_readShorter_33 ?_
      refine z_topm (fun x48 ex48 ox48 => ?_)
      unfold m_32 at ox48
      refine z_istore_n (M := M_X12_readShorter) 34 dX12_readShorter_34 (ls' := [some (mR 108), some (mI x2), some (mI x4), some (mI x48)]) (by decide) rfl ?_
      refine z_aload_n (M := M_X12_readShorter) 35 dX12_readShorter_35 rfl ?_
      refine z_aload_n (M := M_X12_readShorter) 36 dX12_readShorter_36 rfl ?_
      refine z_getIG (M := M_X12_readShorter) 37 dX12_readShorter_37 f_X12_234 o_108 (by decide) (g_108_11 G28) (fun x49 ex49 ax49 bx49 => ?_)
      refine z_iconst (M := M_X12_readShorter) 40 dX12_readShorter_40 ?_
      refine z_icmp_ne (M := M_X12_readShorter) 41 dX12_readShorter_41 67 rfl (fun c50 => ?_) (fun c50 => ?_)
      · refine z_iconst (M := M_X12_readShorter) 67 dX12_readShorter_67 ?_
        refine z_vV (M := M_X12_readShorter) 68 dX12_readShorter_68 t_X12_must l_X12_247 (m_rr_of rfl) (rest := []) (c_X12_must_b h28 0 G28 ⟨by omega, by omega⟩ ((S28 108 14 rfl).trans bx4)) o_108 rfl rfl rfl (Nat.le_of_ble_eq_true rfl) ⟨rfl, rfl⟩ (fun h29 qx51 => ?_)
        obtain ⟨G29, S29⟩ := qx51
        have R29 := R28.call S29 (by decide +kernel)
        have P29_ : h29 108 9 = h28 108 9 := S29 108 9 rfl
        refine z_aload_n (M := M_X12_readShorter) 71 dX12_readShorter_71 rfl ?_
        refine z_getIE (M := M_X12_readShorter) 72 dX12_readShorter_72 f_X12_214 o_108 (by decide) ((S29 108 14 rfl).trans ((S28 108 14 rfl).trans bx4)) ?_
        refine z_if_ne_T (M := M_X12_readShorter) 75 dX12_readShorter_75 87 rfl (by omega) ?_
        have bb_ : h29 108 14 = 1 := ((S29 108 14 rfl).trans ((S28 108 14 rfl).trans bx4))
        exact z_retV (M := M_X12_readShorter) 87 dX12_readShorter_87 rfl ⟨G29, R29, md_er (by unfold rdShort; rw [cif_neg (Wx4)]) ((S29 108 14 rfl).trans ((S28 108 14 rfl).trans bx4)) ((S29 108 13 rfl).trans ((S28 108 13 rfl).trans fpx4)), by omega, fun _ => by omega⟩
      · refine z_aload_n (M := M_X12_readShorter) 44 dX12_readShorter_44 rfl ?_
        refine z_getJE (M := M_X12_readShorter) 45 dX12_readShorter_45 f_X12_224 o_108 rfl ex47 ?_
        refine z_lconst (M := M_X12_readShorter) 48 dX12_readShorter_48 (v := 0) ?_
        refine z_ldc2 (M := M_X12_readShorter) 49 dX12_readShorter_49 k_X12_152 ?_
        refine z_sI (M := M_X12_readShorter) 52 dX12_readShorter_52 t_X12_in l_X12_143 (m_rr_of rfl) (rest := [mR 108]) (c_X12_in h28 x47 0 3 G28) rfl rfl (Nat.le_of_ble_eq_true rfl) ⟨rfl, rfl⟩ (fun x52 h30 qx52 => ?_)
        obtain ⟨rfl, ⟨rfl, cx52⟩ | ⟨rfl, cx52⟩⟩ := qx52
        · refine z_if_eq_F (M := M_X12_readShorter) 55 dX12_readShorter_55 67 rfl (by omega) ?_
          refine z_iload_n (M := M_X12_readShorter) 58 dX12_readShorter_58 rfl ?_
          refine z_iload_n (M := M_X12_readShorter) 59 dX12_readShorter_59 rfl ?_
          refine z_icmp_eq (M := M_X12_readShorter) 60 dX12_readShorter_60 67 rfl (fun c53 => ?_) (fun c53 => ?_)
          · refine z_iconst (M := M_X12_readShorter) 67 dX12_readShorter_67 ?_
            refine z_vV (M := M_X12_readShorter) 68 dX12_readShorter_68 t_X12_must l_X12_247 (m_rr_of rfl) (rest := []) (c_X12_must_b h28 0 G28 ⟨by omega, by omega⟩ ((S28 108 14 rfl).trans bx4)) o_108 rfl rfl rfl (Nat.le_of_ble_eq_true rfl) ⟨rfl, rfl⟩ (fun h31 qx54 => ?_)
            obtain ⟨G31, S31⟩ := qx54
            have R31 := R28.call S31 (by decide +kernel)
            have P31_ : h31 108 9 = h28 108 9 := S31 108 9 rfl
            refine z_aload_n (M := M_X12_readShorter) 71 dX12_readShorter_71 rfl ?_
            refine z_getIE (M := M_X12_readShorter) 72 dX12_readShorter_72 f_X12_214 o_108 (by decide) ((S31 108 14 rfl).trans ((S28 108 14 rfl).trans bx4)) ?_
            refine z_if_ne_T (M := M_X12_readShorter) 75 dX12_readShorter_75 87 rfl (by omega) ?_
            have bb_ : h31 108 14 = 1 := ((S31 108 14 rfl).trans ((S28 108 14 rfl).trans bx4))
            exact z_retV (M := M_X12_readShorter) 87 dX12_readShorter_87 rfl ⟨G31, R31, md_er (by unfold rdShort; rw [cif_neg (Wx4)]) ((S31 108 14 rfl).trans ((S28 108 14 rfl).trans bx4)) ((S31 108 13 rfl).trans ((S28 108 13 rfl).trans fpx4)), by omega, fun _ => by omega⟩
          · refine z_iconst (M := M_X12_readShorter) 63 dX12_readShorter_63 ?_
            refine z_goto (M := M_X12_readShorter) 64 dX12_readShorter_64 68 rfl ?_
            refine z_vV (M := M_X12_readShorter) 68 dX12_readShorter_68 t_X12_must l_X12_247 (m_rr_of rfl) (rest := []) (c_X12_must_b h28 1 G28 ⟨by omega, by omega⟩ ((S28 108 14 rfl).trans bx4)) o_108 rfl rfl rfl (Nat.le_of_ble_eq_true rfl) ⟨rfl, rfl⟩ (fun h32 qx55 => ?_)
            obtain ⟨G32, S32⟩ := qx55
            have R32 := R28.call S32 (by decide +kernel)
            have P32_ : h32 108 9 = h28 108 9 := S32 108 9 rfl
            refine z_aload_n (M := M_X12_readShorter) 71 dX12_readShorter_71 rfl ?_
            refine z_getIE (M := M_X12_readShorter) 72 dX12_readShorter_72 f_X12_214 o_108 (by decide) ((S32 108 14 rfl).trans ((S28 108 14 rfl).trans bx4)) ?_
            refine z_if_ne_T (M := M_X12_readShorter) 75 dX12_readShorter_75 87 rfl (by omega) ?_
            have bb_ : h32 108 14 = 1 := ((S32 108 14 rfl).trans ((S28 108 14 rfl).trans bx4))
            exact z_retV (M := M_X12_readShorter) 87 dX12_readShorter_87 rfl ⟨G32, R32, md_er (by unfold rdShort; rw [cif_neg (Wx4)]) ((S32 108 14 rfl).trans ((S28 108 14 rfl).trans bx4)) ((S32 108 13 rfl).trans ((S28 108 13 rfl).trans fpx4)), by omega, fun _ => by omega⟩
        · refine z_if_eq_T (M := M_X12_readShorter) 55 dX12_readShorter_55 67 rfl (by omega) ?_
          refine z_iconst (M := M_X12_readShorter) 67 dX12_readShorter_67 ?_
          refine z_vV (M := M_X12_readShorter) 68 dX12_readShorter_68 t_X12_must l_X12_247 (m_rr_of rfl) (rest := []) (c_X12_must_b h28 0 G28 ⟨by omega, by omega⟩ ((S28 108 14 rfl).trans bx4)) o_108 rfl rfl rfl (Nat.le_of_ble_eq_true rfl) ⟨rfl, rfl⟩ (fun h33 qx56 => ?_)
          obtain ⟨G33, S33⟩ := qx56
          have R33 := R28.call S33 (by decide +kernel)
          have P33_ : h33 108 9 = h28 108 9 := S33 108 9 rfl
          refine z_aload_n (M := M_X12_readShorter) 71 dX12_readShorter_71 rfl ?_
          refine z_getIE (M := M_X12_readShorter) 72 dX12_readShorter_72 f_X12_214 o_108 (by decide) ((S33 108 14 rfl).trans ((S28 108 14 rfl).trans bx4)) ?_
          refine z_if_ne_T (M := M_X12_readShorter) 75 dX12_readShorter_75 87 rfl (by omega) ?_
          have bb_ : h33 108 14 = 1 := ((S33 108 14 rfl).trans ((S28 108 14 rfl).trans bx4))
          exact z_retV (M := M_X12_readShorter) 87 dX12_readShorter_87 rfl ⟨G33, R33, md_er (by unfold rdShort; rw [cif_neg (Wx4)]) ((S33 108 14 rfl).trans ((S28 108 14 rfl).trans bx4)) ((S33 108 13 rfl).trans ((S28 108 13 rfl).trans fpx4)), by omega, fun _ => by omega⟩
abbrev P_X12_readMeasure2 (h0 : m_H) (a1 : Int) : m_H → Prop := fun h' => GI h' ∧ FR [114] [(108, 9), (108, 10), (108, 11), (108, 12), (108, 13), (108, 14), (108, 16), (108, 17)] h0 h' ∧ mdQ (rdMeas (h0 113) (h0 108 8) (Qm h0) (vr h0) a1) h0 h' ∧ h0 108 9 ≤ h' 108 9 ∧ (h' 108 14 = 0 → h0 108 9 + 1 ≤ h' 108 9)
set_option maxHeartbeats 4000000 in
set_option maxRecDepth 100000 in
theorem c_X12_readMeasure2 (h0 : m_H) (a1 : Int) (G0 : GI h0) (pa1 : 0 ≤ a1 ∧ a1 ≤ 5) (hb : h0 108 14 = 0) (M0 : MTk h0) (A0 : AI h0) (N0 : 2 * h0 108 16 ≤ h0 108 9) : m_CV M_X12_readMeasure [mR 108, mI a1] h0 (P_X12_readMeasure2 h0 a1) := by
  refine m_CV_of ⟨by decide, rfl, by simp [m_arg, m_isL, M_X12_readMeasure], ⟨rfl, rfl⟩, rfl, rfl⟩ (ls := [some (mR 108), some (mI a1), none, none, none]) rfl ?_
  obtain ⟨x1, ex1⟩ : ∃ y : Int, h0 108 13 = y := ⟨_, rfl⟩
  refine z_aload_n (M := M_X12_readMeasure) 0 dX12_readMeasure_0 rfl ?_
  refine z_aload_n (M := M_X12_readMeasure) 1 dX12_readMeasure_1 rfl ?_
  refine z_ldc2 (M := M_X12_readMeasure) 2 dX12_readMeasure_2 k_X12_280 ?_
  refine z_vI (M := M_X12_readMeasure) 5 dX12_readMeasure_5 t_X12_isWord l_X12_260 (m_rr_of rfl) (rest := [mR 108]) (c_X12_isWord h0 302 G0) o_108 rfl rfl rfl (Nat.le_of_ble_eq_true rfl) ⟨rfl, rfl⟩ (fun x2 h1 qx2 => ?_)
  obtain ⟨rfl, ⟨rfl, cx2⟩ | ⟨rfl, cx2⟩⟩ := qx2
  · refine z_if_eq_F (M := M_X12_readMeasure) 8 dX12_readMeasure_8 31 rfl (by omega) ?_
    refine z_aload_n (M := M_X12_readMeasure) 11 dX12_readMeasure_11 rfl ?_
    refine z_getR (M := M_X12_readMeasure) 12 dX12_readMeasure_12 f_X12_13 o_108 rfl (g_108_3 G0) ?_
    refine z_iconst (M := M_X12_readMeasure) 15 dX12_readMeasure_15 ?_
    refine z_ialdG (M := M_X12_readMeasure) 16 dX12_readMeasure_16 o_110 (by omega) (by omega) (gw_0 G0) (fun x3 ex3 ax3 bx3 => ?_)
    refine z_aload_n (M := M_X12_readMeasure) 17 dX12_readMeasure_17 rfl ?_
    refine z_getIG (M := M_X12_readMeasure) 18 dX12_readMeasure_18 f_X12_282 o_108 (by decide) (g_108_17 G0) (fun x4 ex4 ax4 bx4 => ?_)
    refine z_iaddN (M := M_X12_readMeasure) 21 dX12_readMeasure_21 (by omega) (by omega) ?_
    refine z_bipush (M := M_X12_readMeasure) 22 dX12_readMeasure_22 ?_
    have v01_ := vr_01 A0
    have e01_ : vr h0 1 = vr h0 1 := congrFun rfl 1
    have e00_ : vr h0 0 = vr h0 0 := congrFun rfl 0
    have rm_ := A0.rooms
    have hb_ : h0 108 14 = 0 := hb
    have g16_ := (g_108_16 G0).1
    have r0_ : h0 110 0 = x3 := ex3
    have s0_ : h0 108 17 = x4 := ex4
    refine z_icmp_ge (M := M_X12_readMeasure) 24 dX12_readMeasure_24 31 rfl (fun c5 => ?_) (fun c5 => ?_)
    · refine z_iconst (M := M_X12_readMeasure) 31 dX12_readMeasure_31 ?_
      refine z_vV (M := M_X12_readMeasure) 32 dX12_readMeasure_32 t_X12_must l_X12_247 (m_rr_of rfl) (rest := []) (c_X12_must_0 h0 0 G0 ⟨by omega, by omega⟩ hb) o_108 rfl rfl rfl (Nat.le_of_ble_eq_true rfl) ⟨rfl, rfl⟩ (fun h2 qx6 => ?_)
      obtain ⟨G2, S2, bx6, fx6⟩ := qx6
      have R2 := (FR.rf (cs := [114]) (ss := [(108, 9), (108, 10), (108, 11), (108, 12), (108, 13), (108, 14), (108, 16), (108, 17)]) (h := h0)).call S2 (by decide +kernel)
      have A2 := A0.fr S2 (fun _ => rfl) rfl rfl rfl rfl rfl
      have Px6 : h2 108 9 = h0 108 9 := S2 108 9 rfl
      have fpx6 : h2 108 13 = (Qm h0).1 := fx6.trans (fst_m rfl)
      refine z_aload_n (M := M_X12_readMeasure) 35 dX12_readMeasure_35 rfl ?_
      refine z_lconst (M := M_X12_readMeasure) 36 dX12_readMeasure_36 (v := 0) ?_
      refine z_ldc2 (M := M_X12_readMeasure) 37 dX12_readMeasure_37 k_X12_154 ?_
      refine z_vI (M := M_X12_readMeasure) 40 dX12_readMeasure_40 t_X12_number l_X12_254 (m_rr_of rfl) (rest := []) (c_X12_number_b h2 0 31 G2 ⟨by omega, by omega⟩ ⟨by omega, by omega⟩ bx6) o_108 rfl rfl rfl (Nat.le_of_ble_eq_true rfl) ⟨rfl, rfl⟩ (fun x7 h3 qx7 => ?_)
      obtain ⟨G3, S3⟩ := qx7
      have R3 := R2.call S3 (by decide +kernel)
      refine z_ok (fun ox7 _ _ => ?_)
      have ox7 := ox7.1; unfold m_ok m_32 at ox7
      have P3_ : h3 108 9 = h2 108 9 := S3 108 9 rfl
      refine z_istore_n (M := M_X12_readMeasure) 43 dX12_readMeasure_43 (ls' := [some (mR 108), some (mI a1), some (mI x7), none, none]) (by decide) rfl ?_
      refine z_aload_n (M := M_X12_readMeasure) 44 dX12_readMeasure_44 rfl ?_
      refine z_aload_n (M := M_X12_readMeasure) 45 dX12_readMeasure_45 rfl ?_
      refine z_ldc2 (M := M_X12_readMeasure) 46 dX12_readMeasure_46 k_X12_285 ?_
      refine z_vI (M := M_X12_readMeasure) 49 dX12_readMeasure_49 t_X12_isWord l_X12_260 (m_rr_of rfl) (rest := [mR 108]) (c_X12_isWord h3 307 G3) o_108 rfl rfl rfl (Nat.le_of_ble_eq_true rfl) ⟨rfl, rfl⟩ (fun x8 h4 qx8 => ?_)
      obtain ⟨rfl, ⟨rfl, cx8⟩ | ⟨rfl, cx8⟩⟩ := qx8
      · refine z_vV (M := M_X12_readMeasure) 52 dX12_readMeasure_52 t_X12_must l_X12_247 (m_rr_of rfl) (rest := []) (c_X12_must_b h3 1 G3 ⟨by omega, by omega⟩ ((S3 108 14 rfl).trans bx6)) o_108 rfl rfl rfl (Nat.le_of_ble_eq_true rfl) ⟨rfl, rfl⟩ (fun h5 qx9 => ?_)
        obtain ⟨G5, S5⟩ := qx9
        have R5 := R3.call S5 (by decide +kernel)
        have P5_ : h5 108 9 = h3 108 9 := S5 108 9 rfl
        refine z_aload_n (M := M_X12_readMeasure) 55 dX12_readMeasure_55 rfl ?_
        refine z_lconst (M := M_X12_readMeasure) 56 dX12_readMeasure_56 (v := 1) ?_
        refine z_ldc2 (M := M_X12_readMeasure) 57 dX12_readMeasure_57 k_X12_180 ?_
        refine z_vI (M := M_X12_readMeasure) 60 dX12_readMeasure_60 t_X12_number l_X12_254 (m_rr_of rfl) (rest := []) (c_X12_number_b h5 1 99 G5 ⟨by omega, by omega⟩ ⟨by omega, by omega⟩ ((S5 108 14 rfl).trans ((S3 108 14 rfl).trans bx6))) o_108 rfl rfl rfl (Nat.le_of_ble_eq_true rfl) ⟨rfl, rfl⟩ (fun x10 h6 qx10 => ?_)
        obtain ⟨G6, S6⟩ := qx10
        have R6 := R5.call S6 (by decide +kernel)
        refine z_ok (fun ox10 _ _ => ?_)
        have ox10 := ox10.1; unfold m_ok m_32 at ox10
        have P6_ : h6 108 9 = h5 108 9 := S6 108 9 rfl
        refine z_istore_n (M := M_X12_readMeasure) 63 dX12_readMeasure_63 (ls' := [some (mR 108), some (mI a1), some (mI x7), some (mI x10), none]) (by decide) rfl ?_
        refine z_iconst (M := M_X12_readMeasure) 64 dX12_readMeasure_64 ?_
        refine z_istore (M := M_X12_readMeasure) 65 dX12_readMeasure_65 (ls' := [some (mR 108), some (mI a1), some (mI x7), some (mI x10), some (mI 0)]) (by decide) rfl ?_
        refine z_aload_n (M := M_X12_readMeasure) 67 dX12_readMeasure_67 rfl ?_
        refine z_getIE (M := M_X12_readMeasure) 68 dX12_readMeasure_68 f_X12_214 o_108 (by decide) ((S6 108 14 rfl).trans ((S5 108 14 rfl).trans ((S3 108 14 rfl).trans bx6))) ?_
        refine z_if_ne_T (M := M_X12_readMeasure) 71 dX12_readMeasure_71 134 rfl (by omega) ?_
        refine z_aload_n (M := M_X12_readMeasure) 134 dX12_readMeasure_134 rfl ?_
        refine z_iconst (M := M_X12_readMeasure) 135 dX12_readMeasure_135 ?_
        refine z_iload_n (M := M_X12_readMeasure) 136 dX12_readMeasure_136 rfl ?_
        refine z_iload_n (M := M_X12_readMeasure) 137 dX12_readMeasure_137 rfl ?_
        refine z_iload_n (M := M_X12_readMeasure) 138 dX12_readMeasure_138 rfl ?_
        refine z_iload (M := M_X12_readMeasure) 139 dX12_readMeasure_139 rfl ?_
        refine z_vV (M := M_X12_readMeasure) 141 dX12_readMeasure_141 t_X12_act l_X12_268 (m_rr_of rfl) (rest := []) (c_X12_act_b h6 3 a1 x7 x10 0 G6 ((S6 108 14 rfl).trans ((S5 108 14 rfl).trans ((S3 108 14 rfl).trans bx6)))) o_108 rfl rfl rfl (Nat.le_of_ble_eq_true rfl) ⟨rfl, rfl⟩ (fun h7 qx11 => ?_)
        obtain ⟨G7, S7⟩ := qx11
        have R7 := R6.call S7 (by decide +kernel)
        have P7_ : h7 108 9 = h6 108 9 := S7 108 9 rfl
        have bb_ : h7 108 14 = 1 := ((S7 108 14 rfl).trans ((S6 108 14 rfl).trans ((S5 108 14 rfl).trans ((S3 108 14 rfl).trans bx6))))
        exact z_retV (M := M_X12_readMeasure) 144 dX12_readMeasure_144 rfl ⟨G7, R7, md_er (by unfold rdMeas; rw [cif_neg (fun z => by have := z.1; omega)]) ((S7 108 14 rfl).trans ((S6 108 14 rfl).trans ((S5 108 14 rfl).trans ((S3 108 14 rfl).trans bx6)))) ((S7 108 13 rfl).trans ((S6 108 13 rfl).trans ((S5 108 13 rfl).trans ((S3 108 13 rfl).trans fpx6)))), by omega, fun _ => by omega⟩
      · refine z_vV (M := M_X12_readMeasure) 52 dX12_readMeasure_52 t_X12_must l_X12_247 (m_rr_of rfl) (rest := []) (c_X12_must_b h3 0 G3 ⟨by omega, by omega⟩ ((S3 108 14 rfl).trans bx6)) o_108 rfl rfl rfl (Nat.le_of_ble_eq_true rfl) ⟨rfl, rfl⟩ (fun h8 qx12 => ?_)
        obtain ⟨G8, S8⟩ := qx12
        have R8 := R3.call S8 (by decide +kernel)
        have P8_ : h8 108 9 = h3 108 9 := S8 108 9 rfl
        refine z_aload_n (M := M_X12_readMeasure) 55 dX12_readMeasure_55 rfl ?_
        refine z_lconst (M := M_X12_readMeasure) 56 dX12_readMeasure_56 (v := 1) ?_
        refine z_ldc2 (M := M_X12_readMeasure) 57 dX12_readMeasure_57 k_X12_180 ?_
        refine z_vI (M := M_X12_readMeasure) 60 dX12_readMeasure_60 t_X12_number l_X12_254 (m_rr_of rfl) (rest := []) (c_X12_number_b h8 1 99 G8 ⟨by omega, by omega⟩ ⟨by omega, by omega⟩ ((S8 108 14 rfl).trans ((S3 108 14 rfl).trans bx6))) o_108 rfl rfl rfl (Nat.le_of_ble_eq_true rfl) ⟨rfl, rfl⟩ (fun x13 h9 qx13 => ?_)
        obtain ⟨G9, S9⟩ := qx13
        have R9 := R8.call S9 (by decide +kernel)
        refine z_ok (fun ox13 _ _ => ?_)
        have ox13 := ox13.1; unfold m_ok m_32 at ox13
        have P9_ : h9 108 9 = h8 108 9 := S9 108 9 rfl
        refine z_istore_n (M := M_X12_readMeasure) 63 dX12_readMeasure_63 (ls' := [some (mR 108), some (mI a1), some (mI x7), some (mI x13), none]) (by decide) rfl ?_
        refine z_iconst (M := M_X12_readMeasure) 64 dX12_readMeasure_64 ?_
        refine z_istore (M := M_X12_readMeasure) 65 dX12_readMeasure_65 (ls' := [some (mR 108), some (mI a1), some (mI x7), some (mI x13), some (mI 0)]) (by decide) rfl ?_
        refine z_aload_n (M := M_X12_readMeasure) 67 dX12_readMeasure_67 rfl ?_
        refine z_getIE (M := M_X12_readMeasure) 68 dX12_readMeasure_68 f_X12_214 o_108 (by decide) ((S9 108 14 rfl).trans ((S8 108 14 rfl).trans ((S3 108 14 rfl).trans bx6))) ?_
        refine z_if_ne_T (M := M_X12_readMeasure) 71 dX12_readMeasure_71 134 rfl (by omega) ?_
        refine z_aload_n (M := M_X12_readMeasure) 134 dX12_readMeasure_134 rfl ?_
        refine z_iconst (M := M_X12_readMeasure) 135 dX12_readMeasure_135 ?_
        refine z_iload_n (M := M_X12_readMeasure) 136 dX12_readMeasure_136 rfl ?_
        refine z_iload_n (M := M_X12_readMeasure) 137 dX12_readMeasure_137 rfl ?_
        refine z_iload_n (M := M_X12_readMeasure) 138 dX12_readMeasure_138 rfl ?_
        refine z_iload (M := M_X12_readMeasure) 139 dX12_readMeasure_139 rfl ?_
        refine z_vV (M := M_X12_readMeasure) 141 dX12_readMeasure_141 t_X12_act l_X12_268 (m_rr_of rfl) (rest := []) (c_X12_act_b h9 3 a1 x7 x13 0 G9 ((S9 108 14 rfl).trans ((S8 108 14 rfl).trans ((S3 108 14 rfl).trans bx6)))) o_108 rfl rfl rfl (Nat.le_of_ble_eq_true rfl) ⟨rfl, rfl⟩ (fun h10 qx14 => ?_)
        obtain ⟨G10, S10⟩ := qx14
        have R10 := R9.call S10 (by decide +kernel)
        have P10_ : h10 108 9 = h9 108 9 := S10 108 9 rfl
        have bb_ : h10 108 14 = 1 := ((S10 108 14 rfl).trans ((S9 108 14 rfl).trans ((S8 108 14 rfl).trans ((S3 108 14 rfl).trans bx6))))
        exact z_retV (M := M_X12_readMeasure) 144 dX12_readMeasure_144 rfl ⟨G10, R10, md_er (by unfold rdMeas; rw [cif_neg (fun z => by have := z.1; omega)]) ((S10 108 14 rfl).trans ((S9 108 14 rfl).trans ((S8 108 14 rfl).trans ((S3 108 14 rfl).trans bx6)))) ((S10 108 13 rfl).trans ((S9 108 13 rfl).trans ((S8 108 13 rfl).trans ((S3 108 13 rfl).trans fpx6)))), by omega, fun _ => by omega⟩
    · have room_ : vr h0 0 ≤ 23 := by omega
      refine z_iconst (M := M_X12_readMeasure) 27 dX12_readMeasure_27 ?_
      refine z_goto (M := M_X12_readMeasure) 28 dX12_readMeasure_28 32 rfl ?_
      refine z_vV (M := M_X12_readMeasure) 32 dX12_readMeasure_32 t_X12_must l_X12_247 (m_rr_of rfl) (rest := []) (c_X12_must_1 h0 1 G0 ⟨by omega, by omega⟩ hb M0 (by omega)) o_108 rfl rfl rfl (Nat.le_of_ble_eq_true rfl) ⟨rfl, rfl⟩ (fun h11 qx15 => ?_)
      obtain ⟨G11, S11, Mx15, Kx15, Px15⟩ := qx15
      have R11 := (FR.rf (cs := [114]) (ss := [(108, 9), (108, 10), (108, 11), (108, 12), (108, 13), (108, 14), (108, 16), (108, 17)]) (h := h0)).call S11 (by decide +kernel)
      have A11 := A0.fr S11 (fun _ => rfl) rfl rfl rfl rfl rfl
      have Qx15 : Qm h11 = (nxt (h0 113) (h0 108 8) (Qm h0)) := nx_mm (rowz (FR.rf (cs := [114]) (ss := [(108, 9), (108, 10), (108, 11), (108, 12), (108, 13), (108, 14), (108, 16), (108, 17)]) (h := h0)) (fun _ => rfl)) ((FR.rf (cs := [114]) (ss := [(108, 9), (108, 10), (108, 11), (108, 12), (108, 13), (108, 14), (108, 16), (108, 17)]) (h := h0)) 108 8 rfl) rfl Kx15
      have Lx15 : h0 108 9 < h0 108 10 := M0.lt (by omega)
      have na11 : h11 108 16 = h0 108 16 := S11 108 16 rfl
      have V11 : vr h11 = (vr h0) := (vr_S S11 (fun _ => rfl) rfl (fun _ => rfl)).trans rfl
      refine z_aload_n (M := M_X12_readMeasure) 35 dX12_readMeasure_35 rfl ?_
      refine z_lconst (M := M_X12_readMeasure) 36 dX12_readMeasure_36 (v := 0) ?_
      refine z_ldc2 (M := M_X12_readMeasure) 37 dX12_readMeasure_37 k_X12_154 ?_
      refine z_vI (M := M_X12_readMeasure) 40 dX12_readMeasure_40 t_X12_number l_X12_254 (m_rr_of rfl) (rest := []) (c_X12_number_g h11 0 31 G11 ⟨by omega, by omega⟩ ⟨by omega, by omega⟩ ((S11 108 14 rfl).trans hb) Mx15) o_108 rfl rfl rfl (Nat.le_of_ble_eq_true rfl) ⟨rfl, rfl⟩ (fun x16 h12 qx16 => ?_)
      obtain ⟨G12, S12, Dx16⟩ := qx16
      have R12 := R11.call S12 (by decide +kernel)
      have A12 := A11.fr S12 (fun _ => rfl) rfl rfl rfl rfl rfl
      rcases nm_c (rowz R11 (fun _ => rfl)) (R11 108 8 rfl) Qx15 Dx16 with ⟨Wx16, Nx16, bx16, Mx16, Qx16, Px16, Lx16, gx16⟩ | ⟨Wx16, bx16, fx16, Px16⟩
      · have na12 : h12 108 16 = h11 108 16 := S12 108 16 rfl
        have V12 : vr h12 = (vr h0) := (vr_S S12 (fun _ => rfl) rfl (fun _ => rfl)).trans V11
        have lx16 : 0 ≤ x16 ∧ x16 ≤ 31 := by rw [Nx16]; exact ⟨Wx16.2.2.1, Wx16.2.2.2⟩
        refine z_istore_n (M := M_X12_readMeasure) 43 dX12_readMeasure_43 (ls' := [some (mR 108), some (mI a1), some (mI x16), none, none]) (by decide) rfl ?_
        refine z_aload_n (M := M_X12_readMeasure) 44 dX12_readMeasure_44 rfl ?_
        refine z_aload_n (M := M_X12_readMeasure) 45 dX12_readMeasure_45 rfl ?_
        refine z_ldc2 (M := M_X12_readMeasure) 46 dX12_readMeasure_46 k_X12_285 ?_
        refine z_vI (M := M_X12_readMeasure) 49 dX12_readMeasure_49 t_X12_isWord l_X12_260 (m_rr_of rfl) (rest := [mR 108]) (c_X12_isWord h12 307 G12) o_108 rfl rfl rfl (Nat.le_of_ble_eq_true rfl) ⟨rfl, rfl⟩ (fun x17 h13 qx17 => ?_)
        obtain ⟨rfl, ⟨rfl, cx17⟩ | ⟨rfl, cx17⟩⟩ := qx17
        · refine z_vV (M := M_X12_readMeasure) 52 dX12_readMeasure_52 t_X12_must l_X12_247 (m_rr_of rfl) (rest := []) (c_X12_must_1 h12 1 G12 ⟨by omega, by omega⟩ bx16 Mx16 (by omega)) o_108 rfl rfl rfl (Nat.le_of_ble_eq_true rfl) ⟨rfl, rfl⟩ (fun h14 qx18 => ?_)
          obtain ⟨G14, S14, Mx18, Kx18, Px18⟩ := qx18
          have R14 := R12.call S14 (by decide +kernel)
          have A14 := A12.fr S14 (fun _ => rfl) rfl rfl rfl rfl rfl
          have Qx18 : Qm h14 = (nxt (h0 113) (h0 108 8) (nxt (h0 113) (h0 108 8) (nxt (h0 113) (h0 108 8) (Qm h0)))) := nx_mm (rowz R12 (fun _ => rfl)) (R12 108 8 rfl) Qx16 Kx18
          have Lx18 : h12 108 9 < h12 108 10 := Mx16.lt (by omega)
          have na14 : h14 108 16 = h12 108 16 := S14 108 16 rfl
          have V14 : vr h14 = (vr h0) := (vr_S S14 (fun _ => rfl) rfl (fun _ => rfl)).trans V12
          refine z_aload_n (M := M_X12_readMeasure) 55 dX12_readMeasure_55 rfl ?_
          refine z_lconst (M := M_X12_readMeasure) 56 dX12_readMeasure_56 (v := 1) ?_
          refine z_ldc2 (M := M_X12_readMeasure) 57 dX12_readMeasure_57 k_X12_180 ?_
          refine z_vI (M := M_X12_readMeasure) 60 dX12_readMeasure_60 t_X12_number l_X12_254 (m_rr_of rfl) (rest := []) (c_X12_number_g h14 1 99 G14 ⟨by omega, by omega⟩ ⟨by omega, by omega⟩ ((S14 108 14 rfl).trans bx16) Mx18) o_108 rfl rfl rfl (Nat.le_of_ble_eq_true rfl) ⟨rfl, rfl⟩ (fun x19 h15 qx19 => ?_)
          obtain ⟨G15, S15, Dx19⟩ := qx19
          have R15 := R14.call S15 (by decide +kernel)
          have A15 := A14.fr S15 (fun _ => rfl) rfl rfl rfl rfl rfl
          rcases nm_c (rowz R14 (fun _ => rfl)) (R14 108 8 rfl) Qx18 Dx19 with ⟨Wx19, Nx19, bx19, Mx19, Qx19, Px19, Lx19, gx19⟩ | ⟨Wx19, bx19, fx19, Px19⟩
          · have na15 : h15 108 16 = h14 108 16 := S15 108 16 rfl
            have V15 : vr h15 = (vr h0) := (vr_S S15 (fun _ => rfl) rfl (fun _ => rfl)).trans V14
            have lx19 : 1 ≤ x19 ∧ x19 ≤ 99 := by rw [Nx19]; exact ⟨Wx19.2.2.1, Wx19.2.2.2⟩
            refine z_istore_n (M := M_X12_readMeasure) 63 dX12_readMeasure_63 (ls' := [some (mR 108), some (mI a1), some (mI x16), some (mI x19), none]) (by decide) rfl ?_
            refine z_iconst (M := M_X12_readMeasure) 64 dX12_readMeasure_64 ?_
            refine z_istore (M := M_X12_readMeasure) 65 dX12_readMeasure_65 (ls' := [some (mR 108), some (mI a1), some (mI x16), some (mI x19), some (mI 0)]) (by decide) rfl ?_
            refine z_aload_n (M := M_X12_readMeasure) 67 dX12_readMeasure_67 rfl ?_
            refine z_getIE (M := M_X12_readMeasure) 68 dX12_readMeasure_68 f_X12_214 o_108 (by decide) bx19 ?_
            refine z_if_ne_F (M := M_X12_readMeasure) 71 dX12_readMeasure_71 134 rfl (by omega) ?_
            refine z_aload_n (M := M_X12_readMeasure) 74 dX12_readMeasure_74 rfl ?_
            refine z_ldc2 (M := M_X12_readMeasure) 75 dX12_readMeasure_75 k_X12_287 ?_
            refine z_vI (M := M_X12_readMeasure) 78 dX12_readMeasure_78 t_X12_isWord l_X12_260 (m_rr_of rfl) (rest := []) (c_X12_isWord h15 24395141 G15) o_108 rfl rfl rfl (Nat.le_of_ble_eq_true rfl) ⟨rfl, rfl⟩ (fun x20 h16 qx20 => ?_)
            obtain ⟨rfl, ⟨rfl, cx20⟩ | ⟨rfl, cx20⟩⟩ := qx20
            · refine z_if_eq_F (M := M_X12_readMeasure) 81 dX12_readMeasure_81 88 rfl (by omega) ?_
              refine z_iconst (M := M_X12_readMeasure) 84 dX12_readMeasure_84 ?_
              refine z_goto (M := M_X12_readMeasure) 85 dX12_readMeasure_85 103 rfl ?_
              refine z_istore (M := M_X12_readMeasure) 103 dX12_readMeasure_103 (ls' := [some (mR 108), some (mI a1), some (mI x16), some (mI x19), some (mI 1)]) (by decide) rfl ?_
              refine z_iload (M := M_X12_readMeasure) 105 dX12_readMeasure_105 rfl ?_
              refine z_if_gt_T (M := M_X12_readMeasure) 107 dX12_readMeasure_107 120 rfl (by omega) ?_
              refine z_aload_n (M := M_X12_readMeasure) 120 dX12_readMeasure_120 rfl ?_
              refine z_vV (M := M_X12_readMeasure) 121 dX12_readMeasure_121 t_X12_next l_X12_218 (m_rr_of rfl) (rest := []) (c_X12_next2 h15 G15 Mx19.2.2.2) o_108 rfl rfl rfl (Nat.le_of_ble_eq_true rfl) ⟨rfl, rfl⟩ (fun h17 qx21 => ?_)
              obtain ⟨G17, S17, Tx21, Mx21⟩ := qx21
              have R17 := R15.call S17 (by decide +kernel)
              have A17 := A15.fr S17 (fun _ => rfl) rfl rfl rfl rfl rfl
              have Qx21 : Qm h17 = (nxt (h0 113) (h0 108 8) (nxt (h0 113) (h0 108 8) (nxt (h0 113) (h0 108 8) (nxt (h0 113) (h0 108 8) (nxt (h0 113) (h0 108 8) (Qm h0)))))) := nx_m (rowz R15 (fun _ => rfl)) (R15 108 8 rfl) Qx19 (g_108_10 G15).1 Tx21
              have Px21 : h15 108 10 ≤ h17 108 9 := Tx21.1.1
              have Lx21 : h15 108 9 < h15 108 10 := Mx19.lt (by omega)
              have na17 : h17 108 16 = h15 108 16 := S17 108 16 rfl
              have V17 : vr h17 = (vr h0) := (vr_S S17 (fun _ => rfl) rfl (fun _ => rfl)).trans V15
              have v01_ := vr_01 A17
              have e01_ : vr h17 1 = vr h0 1 := congrFun V17 1
              have e00_ : vr h17 0 = vr h0 0 := congrFun V17 0
              have rm_ := A17.rooms
              have hb_ : h17 108 14 = 0 := ((S17 108 14 rfl).trans bx19)
              have g16_ := (g_108_16 G17).1
              have n17_ : h17 108 17 = x4 := ((S17 108 17 rfl).trans ((S15 108 17 rfl).trans ((S14 108 17 rfl).trans ((S12 108 17 rfl).trans ((S11 108 17 rfl).trans ex4)))))
              refine z_aload_n (M := M_X12_readMeasure) 124 dX12_readMeasure_124 rfl ?_
              refine z_dup (M := M_X12_readMeasure) 125 dX12_readMeasure_125 rfl ?_
              refine z_getIE (M := M_X12_readMeasure) 126 dX12_readMeasure_126 f_X12_282 o_108 (by decide) ((S17 108 17 rfl).trans ((S15 108 17 rfl).trans ((S14 108 17 rfl).trans ((S12 108 17 rfl).trans ((S11 108 17 rfl).trans ex4))))) ?_
              refine z_iconst (M := M_X12_readMeasure) 129 dX12_readMeasure_129 ?_
              refine z_iaddN (M := M_X12_readMeasure) 130 dX12_readMeasure_130 (by omega) (by omega) ?_
              refine z_putIH (M := M_X12_readMeasure) 131 dX12_readMeasure_131 p_X12_282 o_108 rfl (u_108_17 G17 (by omega) (by omega)) (R17.up rfl) (fun h18 E18 G18 R18 => ?_)
              have M18_ := Mx21.up E18 (by decide)
              have Q18_ : Qm h18 = (nxt (h0 113) (h0 108 8) (nxt (h0 113) (h0 108 8) (nxt (h0 113) (h0 108 8) (nxt (h0 113) (h0 108 8) (nxt (h0 113) (h0 108 8) (Qm h0)))))) := (Qm_up E18 (by decide)).trans Qx21
              have V18 : vr h18 = (vr h0) := (vr_up E18 (by decide)).trans V17
              have P18_ : h18 108 9 = h17 108 9 := upN E18 (by decide)
              have na18 : h18 108 16 = h17 108 16 := upN E18 (by decide)
              refine z_aload_n (M := M_X12_readMeasure) 134 dX12_readMeasure_134 rfl ?_
              refine z_iconst (M := M_X12_readMeasure) 135 dX12_readMeasure_135 ?_
              refine z_iload_n (M := M_X12_readMeasure) 136 dX12_readMeasure_136 rfl ?_
              refine z_iload_n (M := M_X12_readMeasure) 137 dX12_readMeasure_137 rfl ?_
              refine z_iload_n (M := M_X12_readMeasure) 138 dX12_readMeasure_138 rfl ?_
              refine z_iload (M := M_X12_readMeasure) 139 dX12_readMeasure_139 rfl ?_
              have gb18 := (g_108_9 G18).2
              have ga18 := (g_108_16 G18).1
              have hb18_ : h18 108 14 = 0 := ((upN E18 (fun q => absurd q.2 (by decide))).trans ((S17 108 14 rfl).trans bx19))
              refine z_vV (M := M_X12_readMeasure) 141 dX12_readMeasure_141 t_X12_act l_X12_268 (m_rr_of rfl) (rest := []) (c_X12_act h18 3 a1 x16 x19 1 G18 (Or.inr (by omega))) o_108 rfl rfl rfl (Nat.le_of_ble_eq_true rfl) ⟨rfl, rfl⟩ (fun h19 qx22 => ?_)
              obtain ⟨G19, S19, fx22⟩ := qx22
              have R19 := R18.call S19 (by decide +kernel)
              have na19 : h19 108 16 = h18 108 16 + 1 := (fx22.resolve_left (fun z => z.1 ((upN E18 (fun q => absurd q.2 (by decide))).trans ((S17 108 14 rfl).trans bx19)))).2.1
              have V19 : vr h19 = act1 3 a1 x16 x19 1 (vr h0) := (vr_act fx22 ((upN E18 (fun q => absurd q.2 (by decide))).trans ((S17 108 14 rfl).trans bx19)) (g_108_16 G18).1 S19 (fun _ => rfl)).trans (congrArg (act1 3 a1 x16 x19 1) V18)
              have M19_ := MTk.same M18_ (rowz S19 (fun _ => rfl)) (fun j u v => S19 108 j (fr_j (by omega)))
              have Q19_ : Qm h19 = (nxt (h0 113) (h0 108 8) (nxt (h0 113) (h0 108 8) (nxt (h0 113) (h0 108 8) (nxt (h0 113) (h0 108 8) (nxt (h0 113) (h0 108 8) (Qm h0)))))) := (Qm_S S19 rfl rfl).trans Q18_
              have P19_ : h19 108 9 = h18 108 9 := S19 108 9 rfl
              have A19 := AI_act3 A17 (by omega) E18 ((S17 108 17 rfl).trans ((S15 108 17 rfl).trans ((S14 108 17 rfl).trans ((S12 108 17 rfl).trans ((S11 108 17 rfl).trans ex4))))) (by omega) (by omega) fx22 (by unfold okA; omega)
              exact z_retV (M := M_X12_readMeasure) 144 dX12_readMeasure_144 rfl ⟨G19, R19, md_ok (p := ((nxt (h0 113) (h0 108 8) (nxt (h0 113) (h0 108 8) (nxt (h0 113) (h0 108 8) (nxt (h0 113) (h0 108 8) (nxt (h0 113) (h0 108 8) (Qm h0)))))), rE (vr h0) a1 x16 x19 1)) (by unfold rdMeas; rw [cif_pos (⟨room_, (iw_c (rowz (FR.rf (cs := [114]) (ss := [(108, 9), (108, 10), (108, 11), (108, 12), (108, 13), (108, 14), (108, 16), (108, 17)]) (h := h0)) (fun _ => rfl)) rfl (mw_7 M0 (g_108_9 G0).1)).mpr cx2⟩), cif_pos (Wx16), cif_pos ((iw_c (rowz R12 (fun _ => rfl)) Qx16 (mw_8 Mx16 (g_108_9 G12).1)).mpr cx17), cif_pos (Wx19), (kq_9 (n := h0 108 8) ((iw_c (rowz R15 (fun _ => rfl)) Qx19 (mw_9 Mx19 (g_108_9 G15).1)).mpr cx20)).1, (kq_9 (n := h0 108 8) ((iw_c (rowz R15 (fun _ => rfl)) Qx19 (mw_9 Mx19 (g_108_9 G15).1)).mpr cx20)).2, ← Nx16, ← Nx19]) ((S19 108 14 rfl).trans ((upN E18 (fun q => absurd q.2 (by decide))).trans ((S17 108 14 rfl).trans bx19))) M19_ A19 (by omega) Q19_ (V19.trans act1_k3) (((S19 108 13 rfl).trans ((upN E18 (fun q => absurd q.2 (by decide))).trans ((S17 108 13 rfl).trans (gx19.trans ((S14 108 13 rfl).trans (gx16.trans ((S11 108 13 rfl).trans ex1))))))).trans ex1.symm), by omega, fun _ => by omega⟩
            · refine z_if_eq_T (M := M_X12_readMeasure) 81 dX12_readMeasure_81 88 rfl (by omega) ?_
              refine z_aload_n (M := M_X12_readMeasure) 88 dX12_readMeasure_88 rfl ?_
              refine z_ldc2 (M := M_X12_readMeasure) 89 dX12_readMeasure_89 k_X12_289 ?_
              refine z_vI (M := M_X12_readMeasure) 92 dX12_readMeasure_92 t_X12_isWord l_X12_260 (m_rr_of rfl) (rest := []) (c_X12_isWord h15 263558 G15) o_108 rfl rfl rfl (Nat.le_of_ble_eq_true rfl) ⟨rfl, rfl⟩ (fun x23 h20 qx23 => ?_)
              obtain ⟨rfl, ⟨rfl, cx23⟩ | ⟨rfl, cx23⟩⟩ := qx23
              · refine z_if_eq_F (M := M_X12_readMeasure) 95 dX12_readMeasure_95 102 rfl (by omega) ?_
                refine z_iconst (M := M_X12_readMeasure) 98 dX12_readMeasure_98 ?_
                refine z_goto (M := M_X12_readMeasure) 99 dX12_readMeasure_99 103 rfl ?_
                refine z_istore (M := M_X12_readMeasure) 103 dX12_readMeasure_103 (ls' := [some (mR 108), some (mI a1), some (mI x16), some (mI x19), some (mI 2)]) (by decide) rfl ?_
                refine z_iload (M := M_X12_readMeasure) 105 dX12_readMeasure_105 rfl ?_
                refine z_if_gt_T (M := M_X12_readMeasure) 107 dX12_readMeasure_107 120 rfl (by omega) ?_
                refine z_aload_n (M := M_X12_readMeasure) 120 dX12_readMeasure_120 rfl ?_
                refine z_vV (M := M_X12_readMeasure) 121 dX12_readMeasure_121 t_X12_next l_X12_218 (m_rr_of rfl) (rest := []) (c_X12_next2 h15 G15 Mx19.2.2.2) o_108 rfl rfl rfl (Nat.le_of_ble_eq_true rfl) ⟨rfl, rfl⟩ (fun h21 qx24 => ?_)
                obtain ⟨G21, S21, Tx24, Mx24⟩ := qx24
                have R21 := R15.call S21 (by decide +kernel)
                have A21 := A15.fr S21 (fun _ => rfl) rfl rfl rfl rfl rfl
                have Qx24 : Qm h21 = (nxt (h0 113) (h0 108 8) (nxt (h0 113) (h0 108 8) (nxt (h0 113) (h0 108 8) (nxt (h0 113) (h0 108 8) (nxt (h0 113) (h0 108 8) (Qm h0)))))) := nx_m (rowz R15 (fun _ => rfl)) (R15 108 8 rfl) Qx19 (g_108_10 G15).1 Tx24
                have Px24 : h15 108 10 ≤ h21 108 9 := Tx24.1.1
                have Lx24 : h15 108 9 < h15 108 10 := Mx19.lt (by omega)
                have na21 : h21 108 16 = h15 108 16 := S21 108 16 rfl
                have V21 : vr h21 = (vr h0) := (vr_S S21 (fun _ => rfl) rfl (fun _ => rfl)).trans V15
                have v01_ := vr_01 A21
                have e01_ : vr h21 1 = vr h0 1 := congrFun V21 1
                have e00_ : vr h21 0 = vr h0 0 := congrFun V21 0
                have rm_ := A21.rooms
                have hb_ : h21 108 14 = 0 := ((S21 108 14 rfl).trans bx19)
                have g16_ := (g_108_16 G21).1
                have n17_ : h21 108 17 = x4 := ((S21 108 17 rfl).trans ((S15 108 17 rfl).trans ((S14 108 17 rfl).trans ((S12 108 17 rfl).trans ((S11 108 17 rfl).trans ex4)))))
                refine z_aload_n (M := M_X12_readMeasure) 124 dX12_readMeasure_124 rfl ?_
                refine z_dup (M := M_X12_readMeasure) 125 dX12_readMeasure_125 rfl ?_
                refine z_getIE (M := M_X12_readMeasure) 126 dX12_readMeasure_126 f_X12_282 o_108 (by decide) ((S21 108 17 rfl).trans ((S15 108 17 rfl).trans ((S14 108 17 rfl).trans ((S12 108 17 rfl).trans ((S11 108 17 rfl).trans ex4))))) ?_
                refine z_iconst (M := M_X12_readMeasure) 129 dX12_readMeasure_129 ?_
                refine z_iaddN (M := M_X12_readMeasure) 130 dX12_readMeasure_130 (by omega) (by omega) ?_
                refine z_putIH (M := M_X12_readMeasure) 131 dX12_readMeasure_131 p_X12_282 o_108 rfl (u_108_17 G21 (by omega) (by omega)) (R21.up rfl) (fun h22 E22 G22 R22 => ?_)
                have M22_ := Mx24.up E22 (by decide)
                have Q22_ : Qm h22 = (nxt (h0 113) (h0 108 8) (nxt (h0 113) (h0 108 8) (nxt (h0 113) (h0 108 8) (nxt (h0 113) (h0 108 8) (nxt (h0 113) (h0 108 8) (Qm h0)))))) := (Qm_up E22 (by decide)).trans Qx24
                have V22 : vr h22 = (vr h0) := (vr_up E22 (by decide)).trans V21
                have P22_ : h22 108 9 = h21 108 9 := upN E22 (by decide)
                have na22 : h22 108 16 = h21 108 16 := upN E22 (by decide)
                refine z_aload_n (M := M_X12_readMeasure) 134 dX12_readMeasure_134 rfl ?_
                refine z_iconst (M := M_X12_readMeasure) 135 dX12_readMeasure_135 ?_
                refine z_iload_n (M := M_X12_readMeasure) 136 dX12_readMeasure_136 rfl ?_
                refine z_iload_n (M := M_X12_readMeasure) 137 dX12_readMeasure_137 rfl ?_
                refine z_iload_n (M := M_X12_readMeasure) 138 dX12_readMeasure_138 rfl ?_
                refine z_iload (M := M_X12_readMeasure) 139 dX12_readMeasure_139 rfl ?_
                have gb22 := (g_108_9 G22).2
                have ga22 := (g_108_16 G22).1
                have hb22_ : h22 108 14 = 0 := ((upN E22 (fun q => absurd q.2 (by decide))).trans ((S21 108 14 rfl).trans bx19))
                refine z_vV (M := M_X12_readMeasure) 141 dX12_readMeasure_141 t_X12_act l_X12_268 (m_rr_of rfl) (rest := []) (c_X12_act h22 3 a1 x16 x19 2 G22 (Or.inr (by omega))) o_108 rfl rfl rfl (Nat.le_of_ble_eq_true rfl) ⟨rfl, rfl⟩ (fun h23 qx25 => ?_)
                obtain ⟨G23, S23, fx25⟩ := qx25
                have R23 := R22.call S23 (by decide +kernel)
                have na23 : h23 108 16 = h22 108 16 + 1 := (fx25.resolve_left (fun z => z.1 ((upN E22 (fun q => absurd q.2 (by decide))).trans ((S21 108 14 rfl).trans bx19)))).2.1
                have V23 : vr h23 = act1 3 a1 x16 x19 2 (vr h0) := (vr_act fx25 ((upN E22 (fun q => absurd q.2 (by decide))).trans ((S21 108 14 rfl).trans bx19)) (g_108_16 G22).1 S23 (fun _ => rfl)).trans (congrArg (act1 3 a1 x16 x19 2) V22)
                have M23_ := MTk.same M22_ (rowz S23 (fun _ => rfl)) (fun j u v => S23 108 j (fr_j (by omega)))
                have Q23_ : Qm h23 = (nxt (h0 113) (h0 108 8) (nxt (h0 113) (h0 108 8) (nxt (h0 113) (h0 108 8) (nxt (h0 113) (h0 108 8) (nxt (h0 113) (h0 108 8) (Qm h0)))))) := (Qm_S S23 rfl rfl).trans Q22_
                have P23_ : h23 108 9 = h22 108 9 := S23 108 9 rfl
                have A23 := AI_act3 A21 (by omega) E22 ((S21 108 17 rfl).trans ((S15 108 17 rfl).trans ((S14 108 17 rfl).trans ((S12 108 17 rfl).trans ((S11 108 17 rfl).trans ex4))))) (by omega) (by omega) fx25 (by unfold okA; omega)
                exact z_retV (M := M_X12_readMeasure) 144 dX12_readMeasure_144 rfl ⟨G23, R23, md_ok (p := ((nxt (h0 113) (h0 108 8) (nxt (h0 113) (h0 108 8) (nxt (h0 113) (h0 108 8) (nxt (h0 113) (h0 108 8) (nxt (h0 113) (h0 108 8) (Qm h0)))))), rE (vr h0) a1 x16 x19 2)) (by unfold rdMeas; rw [cif_pos (⟨room_, (iw_c (rowz (FR.rf (cs := [114]) (ss := [(108, 9), (108, 10), (108, 11), (108, 12), (108, 13), (108, 14), (108, 16), (108, 17)]) (h := h0)) (fun _ => rfl)) rfl (mw_7 M0 (g_108_9 G0).1)).mpr cx2⟩), cif_pos (Wx16), cif_pos ((iw_c (rowz R12 (fun _ => rfl)) Qx16 (mw_8 Mx16 (g_108_9 G12).1)).mpr cx17), cif_pos (Wx19), (kq_10 (n := h0 108 8) (fun z => cx20 ((iw_c (rowz R15 (fun _ => rfl)) Qx19 (mw_9 Mx19 (g_108_9 G15).1)).mp z)) ((iw_c (rowz R15 (fun _ => rfl)) Qx19 (mw_10 Mx19 (g_108_9 G15).1)).mpr cx23)).1, (kq_10 (n := h0 108 8) (fun z => cx20 ((iw_c (rowz R15 (fun _ => rfl)) Qx19 (mw_9 Mx19 (g_108_9 G15).1)).mp z)) ((iw_c (rowz R15 (fun _ => rfl)) Qx19 (mw_10 Mx19 (g_108_9 G15).1)).mpr cx23)).2, ← Nx16, ← Nx19]) ((S23 108 14 rfl).trans ((upN E22 (fun q => absurd q.2 (by decide))).trans ((S21 108 14 rfl).trans bx19))) M23_ A23 (by omega) Q23_ (V23.trans act1_k3) (((S23 108 13 rfl).trans ((upN E22 (fun q => absurd q.2 (by decide))).trans ((S21 108 13 rfl).trans (gx19.trans ((S14 108 13 rfl).trans (gx16.trans ((S11 108 13 rfl).trans ex1))))))).trans ex1.symm), by omega, fun _ => by omega⟩
              · refine z_if_eq_T (M := M_X12_readMeasure) 95 dX12_readMeasure_95 102 rfl (by omega) ?_
                refine z_iconst (M := M_X12_readMeasure) 102 dX12_readMeasure_102 ?_
                refine z_istore (M := M_X12_readMeasure) 103 dX12_readMeasure_103 (ls' := [some (mR 108), some (mI a1), some (mI x16), some (mI x19), some (mI 0)]) (by decide) rfl ?_
                refine z_iload (M := M_X12_readMeasure) 105 dX12_readMeasure_105 rfl ?_
                refine z_if_gt_F (M := M_X12_readMeasure) 107 dX12_readMeasure_107 120 rfl (by omega) ?_
                refine z_aload_n (M := M_X12_readMeasure) 110 dX12_readMeasure_110 rfl ?_
                refine z_ldc2 (M := M_X12_readMeasure) 111 dX12_readMeasure_111 k_X12_291 ?_
                refine z_vI (M := M_X12_readMeasure) 114 dX12_readMeasure_114 t_X12_isWord l_X12_260 (m_rr_of rfl) (rest := []) (c_X12_isWord h15 6030452 G15) o_108 rfl rfl rfl (Nat.le_of_ble_eq_true rfl) ⟨rfl, rfl⟩ (fun x26 h24 qx26 => ?_)
                obtain ⟨rfl, ⟨rfl, cx26⟩ | ⟨rfl, cx26⟩⟩ := qx26
                · refine z_if_eq_F (M := M_X12_readMeasure) 117 dX12_readMeasure_117 124 rfl (by omega) ?_
                  refine z_aload_n (M := M_X12_readMeasure) 120 dX12_readMeasure_120 rfl ?_
                  refine z_vV (M := M_X12_readMeasure) 121 dX12_readMeasure_121 t_X12_next l_X12_218 (m_rr_of rfl) (rest := []) (c_X12_next2 h15 G15 Mx19.2.2.2) o_108 rfl rfl rfl (Nat.le_of_ble_eq_true rfl) ⟨rfl, rfl⟩ (fun h25 qx27 => ?_)
                  obtain ⟨G25, S25, Tx27, Mx27⟩ := qx27
                  have R25 := R15.call S25 (by decide +kernel)
                  have A25 := A15.fr S25 (fun _ => rfl) rfl rfl rfl rfl rfl
                  have Qx27 : Qm h25 = (nxt (h0 113) (h0 108 8) (nxt (h0 113) (h0 108 8) (nxt (h0 113) (h0 108 8) (nxt (h0 113) (h0 108 8) (nxt (h0 113) (h0 108 8) (Qm h0)))))) := nx_m (rowz R15 (fun _ => rfl)) (R15 108 8 rfl) Qx19 (g_108_10 G15).1 Tx27
                  have Px27 : h15 108 10 ≤ h25 108 9 := Tx27.1.1
                  have Lx27 : h15 108 9 < h15 108 10 := Mx19.lt (by omega)
                  have na25 : h25 108 16 = h15 108 16 := S25 108 16 rfl
                  have V25 : vr h25 = (vr h0) := (vr_S S25 (fun _ => rfl) rfl (fun _ => rfl)).trans V15
                  have v01_ := vr_01 A25
                  have e01_ : vr h25 1 = vr h0 1 := congrFun V25 1
                  have e00_ : vr h25 0 = vr h0 0 := congrFun V25 0
                  have rm_ := A25.rooms
                  have hb_ : h25 108 14 = 0 := ((S25 108 14 rfl).trans bx19)
                  have g16_ := (g_108_16 G25).1
                  have n17_ : h25 108 17 = x4 := ((S25 108 17 rfl).trans ((S15 108 17 rfl).trans ((S14 108 17 rfl).trans ((S12 108 17 rfl).trans ((S11 108 17 rfl).trans ex4)))))
                  refine z_aload_n (M := M_X12_readMeasure) 124 dX12_readMeasure_124 rfl ?_
                  refine z_dup (M := M_X12_readMeasure) 125 dX12_readMeasure_125 rfl ?_
                  refine z_getIE (M := M_X12_readMeasure) 126 dX12_readMeasure_126 f_X12_282 o_108 (by decide) ((S25 108 17 rfl).trans ((S15 108 17 rfl).trans ((S14 108 17 rfl).trans ((S12 108 17 rfl).trans ((S11 108 17 rfl).trans ex4))))) ?_
                  refine z_iconst (M := M_X12_readMeasure) 129 dX12_readMeasure_129 ?_
                  refine z_iaddN (M := M_X12_readMeasure) 130 dX12_readMeasure_130 (by omega) (by omega) ?_
                  refine z_putIH (M := M_X12_readMeasure) 131 dX12_readMeasure_131 p_X12_282 o_108 rfl (u_108_17 G25 (by omega) (by omega)) (R25.up rfl) (fun h26 E26 G26 R26 => ?_)
                  have M26_ := Mx27.up E26 (by decide)
                  have Q26_ : Qm h26 = (nxt (h0 113) (h0 108 8) (nxt (h0 113) (h0 108 8) (nxt (h0 113) (h0 108 8) (nxt (h0 113) (h0 108 8) (nxt (h0 113) (h0 108 8) (Qm h0)))))) := (Qm_up E26 (by decide)).trans Qx27
                  have V26 : vr h26 = (vr h0) := (vr_up E26 (by decide)).trans V25
                  have P26_ : h26 108 9 = h25 108 9 := upN E26 (by decide)
                  have na26 : h26 108 16 = h25 108 16 := upN E26 (by decide)
                  refine z_aload_n (M := M_X12_readMeasure) 134 dX12_readMeasure_134 rfl ?_
                  refine z_iconst (M := M_X12_readMeasure) 135 dX12_readMeasure_135 ?_
                  refine z_iload_n (M := M_X12_readMeasure) 136 dX12_readMeasure_136 rfl ?_
                  refine z_iload_n (M := M_X12_readMeasure) 137 dX12_readMeasure_137 rfl ?_
                  refine z_iload_n (M := M_X12_readMeasure) 138 dX12_readMeasure_138 rfl ?_
                  refine z_iload (M := M_X12_readMeasure) 139 dX12_readMeasure_139 rfl ?_
                  have gb26 := (g_108_9 G26).2
                  have ga26 := (g_108_16 G26).1
                  have hb26_ : h26 108 14 = 0 := ((upN E26 (fun q => absurd q.2 (by decide))).trans ((S25 108 14 rfl).trans bx19))
                  refine z_vV (M := M_X12_readMeasure) 141 dX12_readMeasure_141 t_X12_act l_X12_268 (m_rr_of rfl) (rest := []) (c_X12_act h26 3 a1 x16 x19 0 G26 (Or.inr (by omega))) o_108 rfl rfl rfl (Nat.le_of_ble_eq_true rfl) ⟨rfl, rfl⟩ (fun h27 qx28 => ?_)
                  obtain ⟨G27, S27, fx28⟩ := qx28
                  have R27 := R26.call S27 (by decide +kernel)
                  have na27 : h27 108 16 = h26 108 16 + 1 := (fx28.resolve_left (fun z => z.1 ((upN E26 (fun q => absurd q.2 (by decide))).trans ((S25 108 14 rfl).trans bx19)))).2.1
                  have V27 : vr h27 = act1 3 a1 x16 x19 0 (vr h0) := (vr_act fx28 ((upN E26 (fun q => absurd q.2 (by decide))).trans ((S25 108 14 rfl).trans bx19)) (g_108_16 G26).1 S27 (fun _ => rfl)).trans (congrArg (act1 3 a1 x16 x19 0) V26)
                  have M27_ := MTk.same M26_ (rowz S27 (fun _ => rfl)) (fun j u v => S27 108 j (fr_j (by omega)))
                  have Q27_ : Qm h27 = (nxt (h0 113) (h0 108 8) (nxt (h0 113) (h0 108 8) (nxt (h0 113) (h0 108 8) (nxt (h0 113) (h0 108 8) (nxt (h0 113) (h0 108 8) (Qm h0)))))) := (Qm_S S27 rfl rfl).trans Q26_
                  have P27_ : h27 108 9 = h26 108 9 := S27 108 9 rfl
                  have A27 := AI_act3 A25 (by omega) E26 ((S25 108 17 rfl).trans ((S15 108 17 rfl).trans ((S14 108 17 rfl).trans ((S12 108 17 rfl).trans ((S11 108 17 rfl).trans ex4))))) (by omega) (by omega) fx28 (by unfold okA; omega)
                  exact z_retV (M := M_X12_readMeasure) 144 dX12_readMeasure_144 rfl ⟨G27, R27, md_ok (p := ((nxt (h0 113) (h0 108 8) (nxt (h0 113) (h0 108 8) (nxt (h0 113) (h0 108 8) (nxt (h0 113) (h0 108 8) (nxt (h0 113) (h0 108 8) (Qm h0)))))), rE (vr h0) a1 x16 x19 0)) (by unfold rdMeas; rw [cif_pos (⟨room_, (iw_c (rowz (FR.rf (cs := [114]) (ss := [(108, 9), (108, 10), (108, 11), (108, 12), (108, 13), (108, 14), (108, 16), (108, 17)]) (h := h0)) (fun _ => rfl)) rfl (mw_7 M0 (g_108_9 G0).1)).mpr cx2⟩), cif_pos (Wx16), cif_pos ((iw_c (rowz R12 (fun _ => rfl)) Qx16 (mw_8 Mx16 (g_108_9 G12).1)).mpr cx17), cif_pos (Wx19), (kq_11 (n := h0 108 8) (fun z => cx20 ((iw_c (rowz R15 (fun _ => rfl)) Qx19 (mw_9 Mx19 (g_108_9 G15).1)).mp z)) (fun z => cx23 ((iw_c (rowz R15 (fun _ => rfl)) Qx19 (mw_10 Mx19 (g_108_9 G15).1)).mp z)) ((iw_c (rowz R15 (fun _ => rfl)) Qx19 (mw_11 Mx19 (g_108_9 G15).1)).mpr cx26)).1, (kq_11 (n := h0 108 8) (fun z => cx20 ((iw_c (rowz R15 (fun _ => rfl)) Qx19 (mw_9 Mx19 (g_108_9 G15).1)).mp z)) (fun z => cx23 ((iw_c (rowz R15 (fun _ => rfl)) Qx19 (mw_10 Mx19 (g_108_9 G15).1)).mp z)) ((iw_c (rowz R15 (fun _ => rfl)) Qx19 (mw_11 Mx19 (g_108_9 G15).1)).mpr cx26)).2, ← Nx16, ← Nx19]) ((S27 108 14 rfl).trans ((upN E26 (fun q => absurd q.2 (by decide))).trans ((S25 108 14 rfl).trans bx19))) M27_ A27 (by omega) Q27_ (V27.trans act1_k3) (((S27 108 13 rfl).trans ((upN E26 (fun q => absurd q.2 (by decide))).trans ((S25 108 13 rfl).trans (gx19.trans ((S14 108 13 rfl).trans (gx16.trans ((S11 108 13 rfl).trans ex1))))))).trans ex1.symm), by omega, fun _ => by omega⟩
                · refine z_if_eq_T (M := M_X12_readMeasure) 117 dX12_readMeasure_117 124 rfl (by omega) ?_
                  have v01_ := vr_01 A15
                  have e01_ : vr h15 1 = vr h0 1 := congrFun V15 1
                  have e00_ : vr h15 0 = vr h0 0 := congrFun V15 0
                  have rm_ := A15.rooms
                  have hb_ : h15 108 14 = 0 := bx19
                  have g16_ := (g_108_16 G15).1
                  have n17_ : h15 108 17 = x4 := ((S15 108 17 rfl).trans ((S14 108 17 rfl).trans ((S12 108 17 rfl).trans ((S11 108 17 rfl).trans ex4))))
                  refine z_aload_n (M := M_X12_readMeasure) 124 dX12_readMeasure_124 rfl ?_
                  refine z_dup (M := M_X12_readMeasure) 125 dX12_readMeasure_125 rfl ?_
                  refine z_getIE (M := M_X12_readMeasure) 126 dX12_readMeasure_126 f_X12_282 o_108 (by decide) ((S15 108 17 rfl).trans ((S14 108 17 rfl).trans ((S12 108 17 rfl).trans ((S11 108 17 rfl).trans ex4)))) ?_
                  refine z_iconst (M := M_X12_readMeasure) 129 dX12_readMeasure_129 ?_
                  refine z_iaddN (M := M_X12_readMeasure) 130 dX12_readMeasure_130 (by omega) (by omega) ?_
                  refine z_putIH (M := M_X12_readMeasure) 131 dX12_readMeasure_131 p_X12_282 o_108 rfl (u_108_17 G15 (by omega) (by omega)) (R15.up rfl) (fun h28 E28 G28 R28 => ?_)
                  have M28_ := Mx19.up E28 (by decide)
                  have Q28_ : Qm h28 = (nxt (h0 113) (h0 108 8) (nxt (h0 113) (h0 108 8) (nxt (h0 113) (h0 108 8) (nxt (h0 113) (h0 108 8) (Qm h0))))) := (Qm_up E28 (by decide)).trans Qx19
                  have V28 : vr h28 = (vr h0) := (vr_up E28 (by decide)).trans V15
                  have P28_ : h28 108 9 = h15 108 9 := upN E28 (by decide)
                  have na28 : h28 108 16 = h15 108 16 := upN E28 (by decide)
                  refine z_aload_n (M := M_X12_readMeasure) 134 dX12_readMeasure_134 rfl ?_
                  refine z_iconst (M := M_X12_readMeasure) 135 dX12_readMeasure_135 ?_
                  refine z_iload_n (M := M_X12_readMeasure) 136 dX12_readMeasure_136 rfl ?_
                  refine z_iload_n (M := M_X12_readMeasure) 137 dX12_readMeasure_137 rfl ?_
                  refine z_iload_n (M := M_X12_readMeasure) 138 dX12_readMeasure_138 rfl ?_
                  refine z_iload (M := M_X12_readMeasure) 139 dX12_readMeasure_139 rfl ?_
                  have gb28 := (g_108_9 G28).2
                  have ga28 := (g_108_16 G28).1
                  have hb28_ : h28 108 14 = 0 := ((upN E28 (fun q => absurd q.2 (by decide))).trans bx19)
                  refine z_vV (M := M_X12_readMeasure) 141 dX12_readMeasure_141 t_X12_act l_X12_268 (m_rr_of rfl) (rest := []) (c_X12_act h28 3 a1 x16 x19 0 G28 (Or.inr (by omega))) o_108 rfl rfl rfl (Nat.le_of_ble_eq_true rfl) ⟨rfl, rfl⟩ (fun h29 qx29 => ?_)
                  obtain ⟨G29, S29, fx29⟩ := qx29
                  have R29 := R28.call S29 (by decide +kernel)
                  have na29 : h29 108 16 = h28 108 16 + 1 := (fx29.resolve_left (fun z => z.1 ((upN E28 (fun q => absurd q.2 (by decide))).trans bx19))).2.1
                  have V29 : vr h29 = act1 3 a1 x16 x19 0 (vr h0) := (vr_act fx29 ((upN E28 (fun q => absurd q.2 (by decide))).trans bx19) (g_108_16 G28).1 S29 (fun _ => rfl)).trans (congrArg (act1 3 a1 x16 x19 0) V28)
                  have M29_ := MTk.same M28_ (rowz S29 (fun _ => rfl)) (fun j u v => S29 108 j (fr_j (by omega)))
                  have Q29_ : Qm h29 = (nxt (h0 113) (h0 108 8) (nxt (h0 113) (h0 108 8) (nxt (h0 113) (h0 108 8) (nxt (h0 113) (h0 108 8) (Qm h0))))) := (Qm_S S29 rfl rfl).trans Q28_
                  have P29_ : h29 108 9 = h28 108 9 := S29 108 9 rfl
                  have A29 := AI_act3 A15 (by omega) E28 ((S15 108 17 rfl).trans ((S14 108 17 rfl).trans ((S12 108 17 rfl).trans ((S11 108 17 rfl).trans ex4)))) (by omega) (by omega) fx29 (by unfold okA; omega)
                  exact z_retV (M := M_X12_readMeasure) 144 dX12_readMeasure_144 rfl ⟨G29, R29, md_ok (p := ((nxt (h0 113) (h0 108 8) (nxt (h0 113) (h0 108 8) (nxt (h0 113) (h0 108 8) (nxt (h0 113) (h0 108 8) (Qm h0))))), rE (vr h0) a1 x16 x19 0)) (by unfold rdMeas; rw [cif_pos (⟨room_, (iw_c (rowz (FR.rf (cs := [114]) (ss := [(108, 9), (108, 10), (108, 11), (108, 12), (108, 13), (108, 14), (108, 16), (108, 17)]) (h := h0)) (fun _ => rfl)) rfl (mw_7 M0 (g_108_9 G0).1)).mpr cx2⟩), cif_pos (Wx16), cif_pos ((iw_c (rowz R12 (fun _ => rfl)) Qx16 (mw_8 Mx16 (g_108_9 G12).1)).mpr cx17), cif_pos (Wx19), (kq_0 (n := h0 108 8) (fun z => cx20 ((iw_c (rowz R15 (fun _ => rfl)) Qx19 (mw_9 Mx19 (g_108_9 G15).1)).mp z)) (fun z => cx23 ((iw_c (rowz R15 (fun _ => rfl)) Qx19 (mw_10 Mx19 (g_108_9 G15).1)).mp z)) (fun z => cx26 ((iw_c (rowz R15 (fun _ => rfl)) Qx19 (mw_11 Mx19 (g_108_9 G15).1)).mp z))).1, (kq_0 (n := h0 108 8) (fun z => cx20 ((iw_c (rowz R15 (fun _ => rfl)) Qx19 (mw_9 Mx19 (g_108_9 G15).1)).mp z)) (fun z => cx23 ((iw_c (rowz R15 (fun _ => rfl)) Qx19 (mw_10 Mx19 (g_108_9 G15).1)).mp z)) (fun z => cx26 ((iw_c (rowz R15 (fun _ => rfl)) Qx19 (mw_11 Mx19 (g_108_9 G15).1)).mp z))).2, ← Nx16, ← Nx19]) ((S29 108 14 rfl).trans ((upN E28 (fun q => absurd q.2 (by decide))).trans bx19)) M29_ A29 (by omega) Q29_ (V29.trans act1_k3) (((S29 108 13 rfl).trans ((upN E28 (fun q => absurd q.2 (by decide))).trans (gx19.trans ((S14 108 13 rfl).trans (gx16.trans ((S11 108 13 rfl).trans ex1)))))).trans ex1.symm), by omega, fun _ => by omega⟩
          · have fpx19 : h15 108 13 = (nxt (h0 113) (h0 108 8) (nxt (h0 113) (h0 108 8) (nxt (h0 113) (h0 108 8) (Qm h0)))).1 := fx19.trans (fst_m Qx18)
            refine z_ok (fun ox19 _ _ => ?_)
            have ox19 := ox19.1; unfold m_ok m_32 at ox19
            refine z_istore_n (M := M_X12_readMeasure) 63 dX12_readMeasure_63 (ls' := [some (mR 108), some (mI a1), some (mI x16), some (mI x19), none]) (by decide) rfl ?_
            refine z_iconst (M := M_X12_readMeasure) 64 dX12_readMeasure_64 ?_
            refine z_istore (M := M_X12_readMeasure) 65 dX12_readMeasure_65 (ls' := [some (mR 108), some (mI a1), some (mI x16), some (mI x19), some (mI 0)]) (by decide) rfl ?_
            refine z_aload_n (M := M_X12_readMeasure) 67 dX12_readMeasure_67 rfl ?_
            refine z_getIE (M := M_X12_readMeasure) 68 dX12_readMeasure_68 f_X12_214 o_108 (by decide) bx19 ?_
            refine z_if_ne_T (M := M_X12_readMeasure) 71 dX12_readMeasure_71 134 rfl (by omega) ?_
            refine z_aload_n (M := M_X12_readMeasure) 134 dX12_readMeasure_134 rfl ?_
            refine z_iconst (M := M_X12_readMeasure) 135 dX12_readMeasure_135 ?_
            refine z_iload_n (M := M_X12_readMeasure) 136 dX12_readMeasure_136 rfl ?_
            refine z_iload_n (M := M_X12_readMeasure) 137 dX12_readMeasure_137 rfl ?_
            refine z_iload_n (M := M_X12_readMeasure) 138 dX12_readMeasure_138 rfl ?_
            refine z_iload (M := M_X12_readMeasure) 139 dX12_readMeasure_139 rfl ?_
            refine z_vV (M := M_X12_readMeasure) 141 dX12_readMeasure_141 t_X12_act l_X12_268 (m_rr_of rfl) (rest := []) (c_X12_act_b h15 3 a1 x16 x19 0 G15 bx19) o_108 rfl rfl rfl (Nat.le_of_ble_eq_true rfl) ⟨rfl, rfl⟩ (fun h30 qx30 => ?_)
            obtain ⟨G30, S30⟩ := qx30
            have R30 := R15.call S30 (by decide +kernel)
            have P30_ : h30 108 9 = h15 108 9 := S30 108 9 rfl
            have bb_ : h30 108 14 = 1 := ((S30 108 14 rfl).trans bx19)
            exact z_retV (M := M_X12_readMeasure) 144 dX12_readMeasure_144 rfl ⟨G30, R30, md_er (by unfold rdMeas; rw [cif_pos (⟨room_, (iw_c (rowz (FR.rf (cs := [114]) (ss := [(108, 9), (108, 10), (108, 11), (108, 12), (108, 13), (108, 14), (108, 16), (108, 17)]) (h := h0)) (fun _ => rfl)) rfl (mw_7 M0 (g_108_9 G0).1)).mpr cx2⟩), cif_pos (Wx16), cif_pos ((iw_c (rowz R12 (fun _ => rfl)) Qx16 (mw_8 Mx16 (g_108_9 G12).1)).mpr cx17), cif_neg (Wx19)]) ((S30 108 14 rfl).trans bx19) ((S30 108 13 rfl).trans fpx19), by omega, fun _ => by omega⟩
        · refine z_vV (M := M_X12_readMeasure) 52 dX12_readMeasure_52 t_X12_must l_X12_247 (m_rr_of rfl) (rest := []) (c_X12_must_0 h12 0 G12 ⟨by omega, by omega⟩ bx16) o_108 rfl rfl rfl (Nat.le_of_ble_eq_true rfl) ⟨rfl, rfl⟩ (fun h31 qx31 => ?_)
          obtain ⟨G31, S31, bx31, fx31⟩ := qx31
          have R31 := R12.call S31 (by decide +kernel)
          have A31 := A12.fr S31 (fun _ => rfl) rfl rfl rfl rfl rfl
          have Px31 : h31 108 9 = h12 108 9 := S31 108 9 rfl
          have fpx31 : h31 108 13 = (nxt (h0 113) (h0 108 8) (nxt (h0 113) (h0 108 8) (Qm h0))).1 := fx31.trans (fst_m Qx16)
          refine z_aload_n (M := M_X12_readMeasure) 55 dX12_readMeasure_55 rfl ?_
          refine z_lconst (M := M_X12_readMeasure) 56 dX12_readMeasure_56 (v := 1) ?_
          refine z_ldc2 (M := M_X12_readMeasure) 57 dX12_readMeasure_57 k_X12_180 ?_
          refine z_vI (M := M_X12_readMeasure) 60 dX12_readMeasure_60 t_X12_number l_X12_254 (m_rr_of rfl) (rest := []) (c_X12_number_b h31 1 99 G31 ⟨by omega, by omega⟩ ⟨by omega, by omega⟩ bx31) o_108 rfl rfl rfl (Nat.le_of_ble_eq_true rfl) ⟨rfl, rfl⟩ (fun x32 h32 qx32 => ?_)
          obtain ⟨G32, S32⟩ := qx32
          have R32 := R31.call S32 (by decide +kernel)
          refine z_ok (fun ox32 _ _ => ?_)
          have ox32 := ox32.1; unfold m_ok m_32 at ox32
          have P32_ : h32 108 9 = h31 108 9 := S32 108 9 rfl
          refine z_istore_n (M := M_X12_readMeasure) 63 dX12_readMeasure_63 (ls' := [some (mR 108), some (mI a1), some (mI x16), some (mI x32), none]) (by decide) rfl ?_
          refine z_iconst (M := M_X12_readMeasure) 64 dX12_readMeasure_64 ?_
          refine z_istore (M := M_X12_readMeasure) 65 dX12_readMeasure_65 (ls' := [some (mR 108), some (mI a1), some (mI x16), some (mI x32), some (mI 0)]) (by decide) rfl ?_
          refine z_aload_n (M := M_X12_readMeasure) 67 dX12_readMeasure_67 rfl ?_
          refine z_getIE (M := M_X12_readMeasure) 68 dX12_readMeasure_68 f_X12_214 o_108 (by decide) ((S32 108 14 rfl).trans bx31) ?_
          refine z_if_ne_T (M := M_X12_readMeasure) 71 dX12_readMeasure_71 134 rfl (by omega) ?_
          refine z_aload_n (M := M_X12_readMeasure) 134 dX12_readMeasure_134 rfl ?_
          refine z_iconst (M := M_X12_readMeasure) 135 dX12_readMeasure_135 ?_
          refine z_iload_n (M := M_X12_readMeasure) 136 dX12_readMeasure_136 rfl ?_
          refine z_iload_n (M := M_X12_readMeasure) 137 dX12_readMeasure_137 rfl ?_
          refine z_iload_n (M := M_X12_readMeasure) 138 dX12_readMeasure_138 rfl ?_
          refine z_iload (M := M_X12_readMeasure) 139 dX12_readMeasure_139 rfl ?_
          refine z_vV (M := M_X12_readMeasure) 141 dX12_readMeasure_141 t_X12_act l_X12_268 (m_rr_of rfl) (rest := []) (c_X12_act_b h32 3 a1 x16 x32 0 G32 ((S32 108 14 rfl).trans bx31)) o_108 rfl rfl rfl (Nat.le_of_ble_eq_true rfl) ⟨rfl, rfl⟩ (fun h33 qx33 => ?_)
          obtain ⟨G33, S33⟩ := qx33
          have R33 := R32.call S33 (by decide +kernel)
          have P33_ : h33 108 9 = h32 108 9 := S33 108 9 rfl
          have bb_ : h33 108 14 = 1 := ((S33 108 14 rfl).trans ((S32 108 14 rfl).trans bx31))
          exact z_retV (M := M_X12_readMeasure) 144 dX12_readMeasure_144 rfl ⟨G33, R33, md_er (by unfold rdMeas; rw [cif_pos (⟨room_, (iw_c (rowz (FR.rf (cs := [114]) (ss := [(108, 9), (108, 10), (108, 11), (108, 12), (108, 13), (108, 14), (108, 16), (108, 17)]) (h := h0)) (fun _ => rfl)) rfl (mw_7 M0 (g_108_9 G0).1)).mpr cx2⟩), cif_pos (Wx16), cif_neg (fun z => cx17 ((iw_c (rowz R12 (fun _ => rfl)) Qx16 (mw_8 Mx16 (g_108_9 G12).1)).mp z))]) ((S33 108 14 rfl).trans ((S32 108 14 rfl).trans bx31)) ((S33 108 13 rfl).trans ((S32 108 13 rfl).trans fpx31)), by omega, fun _ => by omega⟩
      · have fpx16 : h12 108 13 = (nxt (h0 113) (h0 108 8) (Qm h0)).1 := fx16.trans (fst_m Qx15)
        refine z_ok (fun ox16 _ _ => ?_)
        have ox16 := ox16.1; unfold m_ok m_32 at ox16
        refine z_istore_n (M := M_X12_readMeasure) 43 dX12_readMeasure_43 (ls' := [some (mR 108), some (mI a1), some (mI x16), none, none]) (by decide) rfl ?_
        refine z_aload_n (M := M_X12_readMeasure) 44 dX12_readMeasure_44 rfl ?_
        refine z_aload_n (M := M_X12_readMeasure) 45 dX12_readMeasure_45 rfl ?_
        refine z_ldc2 (M := M_X12_readMeasure) 46 dX12_readMeasure_46 k_X12_285 ?_
        refine z_vI (M := M_X12_readMeasure) 49 dX12_readMeasure_49 t_X12_isWord l_X12_260 (m_rr_of rfl) (rest := [mR 108]) (c_X12_isWord h12 307 G12) o_108 rfl rfl rfl (Nat.le_of_ble_eq_true rfl) ⟨rfl, rfl⟩ (fun x34 h34 qx34 => ?_)
        obtain ⟨rfl, ⟨rfl, cx34⟩ | ⟨rfl, cx34⟩⟩ := qx34
        · refine z_vV (M := M_X12_readMeasure) 52 dX12_readMeasure_52 t_X12_must l_X12_247 (m_rr_of rfl) (rest := []) (c_X12_must_b h12 1 G12 ⟨by omega, by omega⟩ bx16) o_108 rfl rfl rfl (Nat.le_of_ble_eq_true rfl) ⟨rfl, rfl⟩ (fun h35 qx35 => ?_)
          obtain ⟨G35, S35⟩ := qx35
          have R35 := R12.call S35 (by decide +kernel)
          have P35_ : h35 108 9 = h12 108 9 := S35 108 9 rfl
          refine z_aload_n (M := M_X12_readMeasure) 55 dX12_readMeasure_55 rfl ?_
          refine z_lconst (M := M_X12_readMeasure) 56 dX12_readMeasure_56 (v := 1) ?_
          refine z_ldc2 (M := M_X12_readMeasure) 57 dX12_readMeasure_57 k_X12_180 ?_
          refine z_vI (M := M_X12_readMeasure) 60 dX12_readMeasure_60 t_X12_number l_X12_254 (m_rr_of rfl) (rest := []) (c_X12_number_b h35 1 99 G35 ⟨by omega, by omega⟩ ⟨by omega, by omega⟩ ((S35 108 14 rfl).trans bx16)) o_108 rfl rfl rfl (Nat.le_of_ble_eq_true rfl) ⟨rfl, rfl⟩ (fun x36 h36 qx36 => ?_)
          obtain ⟨G36, S36⟩ := qx36
          have R36 := R35.call S36 (by decide +kernel)
          refine z_ok (fun ox36 _ _ => ?_)
          have ox36 := ox36.1; unfold m_ok m_32 at ox36
          have P36_ : h36 108 9 = h35 108 9 := S36 108 9 rfl
          refine z_istore_n (M := M_X12_readMeasure) 63 dX12_readMeasure_63 (ls' := [some (mR 108), some (mI a1), some (mI x16), some (mI x36), none]) (by decide) rfl ?_
          refine z_iconst (M := M_X12_readMeasure) 64 dX12_readMeasure_64 ?_
          refine z_istore (M := M_X12_readMeasure) 65 dX12_readMeasure_65 (ls' := [some (mR 108), some (mI a1), some (mI x16), some (mI x36), some (mI 0)]) (by decide) rfl ?_
          refine z_aload_n (M := M_X12_readMeasure) 67 dX12_readMeasure_67 rfl ?_
          refine z_getIE (M := M_X12_readMeasure) 68 dX12_readMeasure_68 f_X12_214 o_108 (by decide) ((S36 108 14 rfl).trans ((S35 108 14 rfl).trans bx16)) ?_
          refine z_if_ne_T (M := M_X12_readMeasure) 71 dX12_readMeasure_71 134 rfl (by omega) ?_
          refine z_aload_n (M := M_X12_readMeasure) 134 dX12_readMeasure_134 rfl ?_
          refine z_iconst (M := M_X12_readMeasure) 135 dX12_readMeasure_135 ?_
          refine z_iload_n (M := M_X12_readMeasure) 136 dX12_readMeasure_136 rfl ?_
          refine z_iload_n (M := M_X12_readMeasure) 137 dX12_readMeasure_137 rfl ?_
          refine z_iload_n (M := M_X12_readMeasure) 138 dX12_readMeasure_138 rfl ?_
          refine z_iload (M := M_X12_readMeasure) 139 dX12_readMeasure_139 rfl ?_
          refine z_vV (M := M_X12_readMeasure) 141 dX12_readMeasure_141 t_X12_act l_X12_268 (m_rr_of rfl) (rest := []) (c_X12_act_b h36 3 a1 x16 x36 0 G36 ((S36 108 14 rfl).trans ((S35 108 14 rfl).trans bx16))) o_108 rfl rfl rfl (Nat.le_of_ble_eq_true rfl) ⟨rfl, rfl⟩ (fun h37 qx37 => ?_)
          obtain ⟨G37, S37⟩ := qx37
          have R37 := R36.call S37 (by decide +kernel)
          have P37_ : h37 108 9 = h36 108 9 := S37 108 9 rfl
          have bb_ : h37 108 14 = 1 := ((S37 108 14 rfl).trans ((S36 108 14 rfl).trans ((S35 108 14 rfl).trans bx16)))
          exact z_retV (M := M_X12_readMeasure) 144 dX12_readMeasure_144 rfl ⟨G37, R37, md_er (by unfold rdMeas; rw [cif_pos (⟨room_, (iw_c (rowz (FR.rf (cs := [114]) (ss := [(108, 9), (108, 10), (108, 11), (108, 12), (108, 13), (108, 14), (108, 16), (108, 17)]) (h := h0)) (fun _ => rfl)) rfl (mw_7 M0 (g_108_9 G0).1)).mpr cx2⟩), cif_neg (Wx16)]) ((S37 108 14 rfl).trans ((S36 108 14 rfl).trans ((S35 108 14 rfl).trans bx16))) ((S37 108 13 rfl).trans ((S36 108 13 rfl).trans ((S35 108 13 rfl).trans fpx16))), by omega, fun _ => by omega⟩
        · refine z_vV (M := M_X12_readMeasure) 52 dX12_readMeasure_52 t_X12_must l_X12_247 (m_rr_of rfl) (rest := []) (c_X12_must_b h12 0 G12 ⟨by omega, by omega⟩ bx16) o_108 rfl rfl rfl (Nat.le_of_ble_eq_true rfl) ⟨rfl, rfl⟩ (fun h38 qx38 => ?_)
          obtain ⟨G38, S38⟩ := qx38
          have R38 := R12.call S38 (by decide +kernel)
          have P38_ : h38 108 9 = h12 108 9 := S38 108 9 rfl
          refine z_aload_n (M := M_X12_readMeasure) 55 dX12_readMeasure_55 rfl ?_
          refine z_lconst (M := M_X12_readMeasure) 56 dX12_readMeasure_56 (v := 1) ?_
          refine z_ldc2 (M := M_X12_readMeasure) 57 dX12_readMeasure_57 k_X12_180 ?_
          refine z_vI (M := M_X12_readMeasure) 60 dX12_readMeasure_60 t_X12_number l_X12_254 (m_rr_of rfl) (rest := []) (c_X12_number_b h38 1 99 G38 ⟨by omega, by omega⟩ ⟨by omega, by omega⟩ ((S38 108 14 rfl).trans bx16)) o_108 rfl rfl rfl (Nat.le_of_ble_eq_true rfl) ⟨rfl, rfl⟩ (fun x39 h39 qx39 => ?_)
          obtain ⟨G39, S39⟩ := qx39
          have R39 := R38.call S39 (by decide +kernel)
          refine z_ok (fun ox39 _ _ => ?_)
          have ox39 := ox39.1; unfold m_ok m_32 at ox39
          have P39_ : h39 108 9 = h38 108 9 := S39 108 9 rfl
          refine z_istore_n (M := M_X12_readMeasure) 63 dX12_readMeasure_63 (ls' := [some (mR 108), some (mI a1), some (mI x16), some (mI x39), none]) (by decide) rfl ?_
          refine z_iconst (M := M_X12_readMeasure) 64 dX12_readMeasure_64 ?_
          refine z_istore (M := M_X12_readMeasure) 65 dX12_readMeasure_65 (ls' := [some (mR 108), some (mI a1), some (mI x16), some (mI x39), some (mI 0)]) (by decide) rfl ?_
          refine z_aload_n (M := M_X12_readMeasure) 67 dX12_readMeasure_67 rfl ?_
          refine z_getIE (M := M_X12_readMeasure) 68 dX12_readMeasure_68 f_X12_214 o_108 (by decide) ((S39 108 14 rfl).trans ((S38 108 14 rfl).trans bx16)) ?_
          refine z_if_ne_T (M := M_X12_readMeasure) 71 dX12_readMeasure_71 134 rfl (by omega) ?_
          refine z_aload_n (M := M_X12_readMeasure) 134 dX12_readMeasure_134 rfl ?_
          refine z_iconst (M := M_X12_readMeasure) 135 dX12_readMeasure_135 ?_
          refine z_iload_n (M := M_X12_readMeasure) 136 dX12_readMeasure_136 rfl ?_
          refine z_iload_n (M := M_X12_readMeasure) 137 dX12_readMeasure_137 rfl ?_
          refine z_iload_n (M := M_X12_readMeasure) 138 dX12_readMeasure_138 rfl ?_
          refine z_iload (M := M_X12_readMeasure) 139 dX12_readMeasure_139 rfl ?_
          refine z_vV (M := M_X12_readMeasure) 141 dX12_readMeasure_141 t_X12_act l_X12_268 (m_rr_of rfl) (rest := []) (c_X12_act_b h39 3 a1 x16 x39 0 G39 ((S39 108 14 rfl).trans ((S38 108 14 rfl).trans bx16))) o_108 rfl rfl rfl (Nat.le_of_ble_eq_true rfl) ⟨rfl, rfl⟩ (fun h40 qx40 => ?_)
          obtain ⟨G40, S40⟩ := qx40
          have R40 := R39.call S40 (by decide +kernel)
          have P40_ : h40 108 9 = h39 108 9 := S40 108 9 rfl
          have bb_ : h40 108 14 = 1 := ((S40 108 14 rfl).trans ((S39 108 14 rfl).trans ((S38 108 14 rfl).trans bx16)))
          exact z_retV (M := M_X12_readMeasure) 144 dX12_readMeasure_144 rfl ⟨G40, R40, md_er (by unfold rdMeas; rw [cif_pos (⟨room_, (iw_c (rowz (FR.rf (cs := [114]) (ss := [(108, 9), (108, 10), (108, 11), (108, 12), (108, 13), (108, 14), (108, 16), (108, 17)]) (h := h0)) (fun _ => rfl)) rfl (mw_7 M0 (g_108_9 G0).1)).mpr cx2⟩), cif_neg (Wx16)]) ((S40 108 14 rfl).trans ((S39 108 14 rfl).trans ((S38 108 14 rfl).trans bx16))) ((S40 108 13 rfl).trans ((S39 108 13 rfl).trans ((S38 108 13 rfl).trans fpx16))), by omega, fun _ => by omega⟩
  · refine z_if_eq_T (M := M_X12_readMeasure) 8 dX12_readMeasure_8 31 rfl (by omega) ?_
    refine z_iconst (M := M_X12_readMeasure) 31 dX12_readMeasure_31 ?_
    refine z_vV (M := M_X12_readMeasure) 32 dX12_readMeasure_32 t_X12_must l_X12_247 (m_rr_of rfl) (rest := []) (c_X12_must_0 h0 0 G0 ⟨by omega, by omega⟩ hb) o_108 rfl rfl rfl (Nat.le_of_ble_eq_true rfl) ⟨rfl, rfl⟩ (fun h41 qx41 => ?_)
    obtain ⟨G41, S41, bx41, fx41⟩ := qx41
    have R41 := (FR.rf (cs := [114]) (ss := [(108, 9), (108, 10), (108, 11), (108, 12), (108, 13), (108, 14), (108, 16), (108, 17)]) (h := h0)).call S41 (by decide +kernel)
    have A41 := A0.fr S41 (fun _ => rfl) rfl rfl rfl rfl rfl
    have Px41 : h41 108 9 = h0 108 9 := S41 108 9 rfl
    have fpx41 : h41 108 13 = (Qm h0).1 := fx41.trans (fst_m rfl)
    refine z_aload_n (M := M_X12_readMeasure) 35 dX12_readMeasure_35 rfl ?_
    refine z_lconst (M := M_X12_readMeasure) 36 dX12_readMeasure_36 (v := 0) ?_
    refine z_ldc2 (M := M_X12_readMeasure) 37 dX12_readMeasure_37 k_X12_154 ?_
    refine z_vI (M := M_X12_readMeasure) 40 dX12_readMeasure_40 t_X12_number l_X12_254 (m_rr_of rfl) (rest := []) (c_X12_number_b h41 0 31 G41 ⟨by omega, by omega⟩ ⟨by omega, by omega⟩ bx41) o_108 rfl rfl rfl (Nat.le_of_ble_eq_true rfl) ⟨rfl, rfl⟩ (fun x42 h42 qx42 => ?_)
    obtain ⟨G42, S42⟩ := qx42
    have R42 := R41.call S42 (by decide +kernel)
    refine z_ok (fun ox42 _ _ => ?_)
    have ox42 := ox42.1; unfold m_ok m_32 at ox42
    have P42_ : h42 108 9 = h41 108 9 := S42 108 9 rfl
    refine z_istore_n (M := M_X12_readMeasure) 43 dX12_readMeasure_43 (ls' := [some (mR 108), some (mI a1), some (mI x42), none, none]) (by decide) rfl ?_
    refine z_aload_n (M := M_X12_readMeasure) 44 dX12_readMeasure_44 rfl ?_
    refine z_aload_n (M := M_X12_readMeasure) 45 dX12_readMeasure_45 rfl ?_
    refine z_ldc2 (M := M_X12_readMeasure) 46 dX12_readMeasure_46 k_X12_285 ?_
    refine z_vI (M := M_X12_readMeasure) 49 dX12_readMeasure_49 t_X12_isWord l_X12_260 (m_rr_of rfl) (rest := [mR 108]) (c_X12_isWord h42 307 G42) o_108 rfl rfl rfl (Nat.le_of_ble_eq_true rfl) ⟨rfl, rfl⟩ (fun x43 h43 qx43 => ?_)
    obtain ⟨rfl, ⟨rfl, cx43⟩ | ⟨rfl, cx43⟩⟩ := qx43
    · refine z_vV (M := M_X12_readMeasure) 52 dX12_readMeasure_52 t_X12_must l_X12_247 (m_rr_of rfl) (rest := []) (c_X12_must_b h42 1 G42 ⟨by omega, by omega⟩ ((S42 108 14 rfl).trans bx41)) o_108 rfl rfl rfl (Nat.le_of_ble_eq_true rfl) ⟨rfl, rfl⟩ (fun h44 qx44 => ?_)
      obtain ⟨G44, S44⟩ := qx44
      have R44 := R42.call S44 (by decide +kernel)
      have P44_ : h44 108 9 = h42 108 9 := S44 108 9 rfl
      refine z_aload_n (M := M_X12_readMeasure) 55 dX12_readMeasure_55 rfl ?_
      refine z_lconst (M := M_X12_readMeasure) 56 dX12_readMeasure_56 (v := 1) ?_
      refine z_ldc2 (M := M_X12_readMeasure) 57 dX12_readMeasure_57 k_X12_180 ?_
      refine z_vI (M := M_X12_readMeasure) 60 dX12_readMeasure_60 t_X12_number l_X12_254 (m_rr_of rfl) (rest := []) (c_X12_number_b h44 1 99 G44 ⟨by omega, by omega⟩ ⟨by omega, by omega⟩ ((S44 108 14 rfl).trans ((S42 108 14 rfl).trans bx41))) o_108 rfl rfl rfl (Nat.le_of_ble_eq_true rfl) ⟨rfl, rfl⟩ (fun x45 h45 qx45 => ?_)
      obtain ⟨G45, S45⟩ := qx45
      have R45 := R44.call S45 (by decide +kernel)
      refine z_ok (fun ox45 _ _ => ?_)
      have ox45 := ox45.1; unfold m_ok m_32 at ox45
      have P45_ : h45 108 9 = h44 108 9 := S45 108 9 rfl
      refine z_istore_n (M := M_X12_readMeasure) 63 dX12_readMeasure_63 (ls' := [some (mR 108), some (mI a1), some (mI x42), some (mI x45), none]) (by decide) rfl ?_
      refine z_iconst (M := M_X12_readMeasure) 64 dX12_readMeasure_64 ?_
      refine z_istore (M := M_X12_readMeasure) 65 dX12_readMeasure_65 (ls' := [some (mR 108), some (mI a1), some (mI x42), some (mI x45), some (mI 0)]) (by decide) rfl ?_
      refine z_aload_n (M := M_X12_readMeasure) 67 dX12_readMeasure_67 rfl ?_
      refine z_getIE (M := M_X12_readMeasure) 68 dX12_readMeasure_68 f_X12_214 o_108 (by decide) ((S45 108 14 rfl).trans ((S44 108 14 rfl).trans ((S42 108 14 rfl).trans bx41))) ?_
      refine z_if_ne_T (M := M_X12_readMeasure) 71 dX12_readMeasure_71 134 rfl (by omega) ?_
      refine z_aload_n (M := M_X12_readMeasure) 134 dX12_readMeasure_134 rfl ?_
      refine z_iconst (M := M_X12_readMeasure) 135 dX12_readMeasure_135 ?_
      refine z_iload_n (M := M_X12_readMeasure) 136 dX12_readMeasure_136 rfl ?_
      refine z_iload_n (M := M_X12_readMeasure) 137 dX12_readMeasure_137 rfl ?_
      refine z_iload_n (M := M_X12_readMeasure) 138 dX12_readMeasure_138 rfl ?_
      refine z_iload (M := M_X12_readMeasure) 139 dX12_readMeasure_139 rfl ?_
      refine z_vV (M := M_X12_readMeasure) 141 dX12_readMeasure_141 t_X12_act l_X12_268 (m_rr_of rfl) (rest := []) (c_X12_act_b h45 3 a1 x42 x45 0 G45 ((S45 108 14 rfl).trans ((S44 108 14 rfl).trans ((S42 108 14 rfl).trans bx41)))) o_108 rfl rfl rfl (Nat.le_of_ble_eq_true rfl) ⟨rfl, rfl⟩ (fun h46 qx46 => ?_)
      obtain ⟨G46, S46⟩ := qx46
      have R46 := R45.call S46 (by decide +kernel)
      have P46_ : h46 108 9 = h45 108 9 := S46 108 9 rfl
      have bb_ : h46 108 14 = 1 := ((S46 108 14 rfl).trans ((S45 108 14 rfl).trans ((S44 108 14 rfl).trans ((S42 108 14 rfl).trans bx41))))
      exact z_retV (M := M_X12_readMeasure) 144 dX12_readMeasure_144 rfl ⟨G46, R46, md_er (by unfold rdMeas; rw [cif_neg (fun z => (fun z => cx2 ((iw_c (rowz (FR.rf (cs := [114]) (ss := [(108, 9), (108, 10), (108, 11), (108, 12), (108, 13), (108, 14), (108, 16), (108, 17)]) (h := h0)) (fun _ => rfl)) rfl (mw_7 M0 (g_108_9 G0).1)).mp z)) z.2)]) ((S46 108 14 rfl).trans ((S45 108 14 rfl).trans ((S44 108 14 rfl).trans ((S42 108 14 rfl).trans bx41)))) ((S46 108 13 rfl).trans ((S45 108 13 rfl).trans ((S44 108 13 rfl).trans ((S42 108 13 rfl).trans fpx41)))), by omega, fun _ => by omega⟩
    · refine z_vV (M := M_X12_readMeasure) 52 dX12_readMeasure_52 t_X12_must l_X12_247 (m_rr_of rfl) (rest := []) (c_X12_must_b h42 0 G42 ⟨by omega, by omega⟩ ((S42 108 14 rfl).trans bx41)) o_108 rfl rfl rfl (Nat.le_of_ble_eq_true rfl) ⟨rfl, rfl⟩ (fun h47 qx47 => ?_)
      obtain ⟨G47, S47⟩ := qx47
      have R47 := R42.call S47 (by decide +kernel)
      have P47_ : h47 108 9 = h42 108 9 := S47 108 9 rfl
      refine z_aload_n (M := M_X12_readMeasure) 55 dX12_readMeasure_55 rfl ?_
      refine z_lconst (M := M_X12_readMeasure) 56 dX12_readMeasure_56 (v := 1) ?_
      refine z_ldc2 (M := M_X12_readMeasure) 57 dX12_readMeasure_57 k_X12_180 ?_
      refine z_vI (M := M_X12_readMeasure) 60 dX12_readMeasure_60 t_X12_number l_X12_254 (m_rr_of rfl) (rest := []) (c_X12_number_b h47 1 99 G47 ⟨by omega, by omega⟩ ⟨by omega, by omega⟩ ((S47 108 14 rfl).trans ((S42 108 14 rfl).trans bx41))) o_108 rfl rfl rfl (Nat.le_of_ble_eq_true rfl) ⟨rfl, rfl⟩ (fun x48 h48 qx48 => ?_)
      obtain ⟨G48, S48⟩ := qx48
      have R48 := R47.call S48 (by decide +kernel)
      refine z_ok (fun ox48 _ _ => ?_)
      have ox48 := ox48.1; unfold m_ok m_32 at ox48
      have P48_ : h48 108 9 = h47 108 9 := S48 108 9 rfl
      refine z_istore_n (M := M_X12_readMeasure) 63 dX12_readMeasure_63 (ls' := [some (mR 108), some (mI a1), some (mI x42), some (mI x48), none]) (by decide) rfl ?_
      refine z_iconst (M := M_X12_readMeasure) 64 dX12_readMeasure_64 ?_
      refine z_istore (M := M_X12_readMeasure) 65 dX12_readMeasure_65 (ls' := [some (mR 108), some (mI a1), some (mI x42), some (mI x48), some (mI 0)]) (by decide) rfl ?_
      refine z_aload_n (M := M_X12_readMeasure) 67 dX12_readMeasure_67 rfl ?_
      refine z_getIE (M := M_X12_readMeasure) 68 dX12_readMeasure_68 f_X12_214 o_108 (by decide) ((S48 108 14 rfl).trans ((S47 108 14 rfl).trans ((S42 108 14 rfl).trans bx41))) ?_
      refine z_if_ne_T (M := M_X12_readMeasure) 71 dX12_readMeasure_71 134 rfl (by omega) ?_
      refine z_aload_n (M := M_X12_readMeasure) 134 dX12_readMeasure_134 rfl ?_
      refine z_iconst (M := M_X12_readMeasure) 135 dX12_readMeasure_135 ?_
      refine z_iload_n (M := M_X12_readMeasure) 136 dX12_readMeasure_136 rfl ?_
      refine z_iload_n (M := M_X12_readMeasure) 137 dX12_readMeasure_137 rfl ?_
      refine z_iload_n (M := M_X12_readMeasure) 138 dX12_readMeasure_138 rfl ?_
      refine z_iload (M := M_X12_readMeasure) 139 dX12_readMeasure_139 rfl ?_
      refine z_vV (M := M_X12_readMeasure) 141 dX12_readMeasure_141 t_X12_act l_X12_268 (m_rr_of rfl) (rest := []) (c_X12_act_b h48 3 a1 x42 x48 0 G48 ((S48 108 14 rfl).trans ((S47 108 14 rfl).trans ((S42 108 14 rfl).trans bx41)))) o_108 rfl rfl rfl (Nat.le_of_ble_eq_true rfl) ⟨rfl, rfl⟩ (fun h49 qx49 => ?_)
      obtain ⟨G49, S49⟩ := qx49
      have R49 := R48.call S49 (by decide +kernel)
      have P49_ : h49 108 9 = h48 108 9 := S49 108 9 rfl
      have bb_ : h49 108 14 = 1 := ((S49 108 14 rfl).trans ((S48 108 14 rfl).trans ((S47 108 14 rfl).trans ((S42 108 14 rfl).trans bx41))))
      exact z_retV (M := M_X12_readMeasure) 144 dX12_readMeasure_144 rfl ⟨G49, R49, md_er (by unfold rdMeas; rw [cif_neg (fun z => (fun z => cx2 ((iw_c (rowz (FR.rf (cs := [114]) (ss := [(108, 9), (108, 10), (108, 11), (108, 12), (108, 13), (108, 14), (108, 16), (108, 17)]) (h := h0)) (fun _ => rfl)) rfl (mw_7 M0 (g_108_9 G0).1)).mp z)) z.2)]) ((S49 108 14 rfl).trans ((S48 108 14 rfl).trans ((S47 108 14 rfl).trans ((S42 108 14 rfl).trans bx41)))) ((S49 108 13 rfl).trans ((S48 108 13 rfl).trans ((S47 108 13 rfl).trans ((S42 108 13 rfl).trans fpx41)))), by omega, fun _ => by omega⟩
abbrev P_X12_readMeasure_b (h0 : m_H) (a1 : Int) : m_H → Prop := fun h' => GI h' ∧ FR [] [] h0 h'
set_option maxHeartbeats 4000000 in
set_option maxRecDepth 100000 in
theorem c_X12_readMeasure_b (h0 : m_H) (a1 : Int) (G0 : GI h0) (hb1 : h0 108 14 = 1) : m_CV M_X12_readMeasure [mR 108, mI a1] h0 (P_X12_readMeasure_b h0 a1) := by
  refine m_CV_of ⟨by decide, rfl, by simp [m_arg, m_isL, M_X12_readMeasure], ⟨rfl, rfl⟩, rfl, rfl⟩ (ls := [some (mR 108), some (mI a1), none, none, none]) rfl ?_
  refine z_ok (fun _ _ ok => ?_)
  have oa1 : m_32 a1 := ok 1 _ rfl
  unfold m_32 at oa1
  refine z_aload_n (M := M_X12_readMeasure) 0 dX12_readMeasure_0 rfl ?_
  refine z_aload_n (M := M_X12_readMeasure) 1 dX12_readMeasure_1 rfl ?_
  refine z_ldc2 (M := M_X12_readMeasure) 2 dX12_readMeasure_2 k_X12_280 ?_
  refine z_vI (M := M_X12_readMeasure) 5 dX12_readMeasure_5 t_X12_isWord l_X12_260 (m_rr_of rfl) (rest := [mR 108]) (c_X12_isWord h0 302 G0) o_108 rfl rfl rfl (Nat.le_of_ble_eq_true rfl) ⟨rfl, rfl⟩ (fun x1 h1 qx1 => ?_)
  obtain ⟨rfl, ⟨rfl, cx1⟩ | ⟨rfl, cx1⟩⟩ := qx1
  · refine z_if_eq_F (M := M_X12_readMeasure) 8 dX12_readMeasure_8 31 rfl (by omega) ?_
    refine z_aload_n (M := M_X12_readMeasure) 11 dX12_readMeasure_11 rfl ?_
    refine z_getR (M := M_X12_readMeasure) 12 dX12_readMeasure_12 f_X12_13 o_108 rfl (g_108_3 G0) ?_
    refine z_iconst (M := M_X12_readMeasure) 15 dX12_readMeasure_15 ?_
    refine z_ialdG (M := M_X12_readMeasure) 16 dX12_readMeasure_16 o_110 (by omega) (by omega) (gw_0 G0) (fun x2 ex2 ax2 bx2 => ?_)
    refine z_aload_n (M := M_X12_readMeasure) 17 dX12_readMeasure_17 rfl ?_
    refine z_getIG (M := M_X12_readMeasure) 18 dX12_readMeasure_18 f_X12_282 o_108 (by decide) (g_108_17 G0) (fun x3 ex3 ax3 bx3 => ?_)
    refine z_iaddN (M := M_X12_readMeasure) 21 dX12_readMeasure_21 (by omega) (by omega) ?_
    refine z_bipush (M := M_X12_readMeasure) 22 dX12_readMeasure_22 ?_
    refine z_icmp_ge (M := M_X12_readMeasure) 24 dX12_readMeasure_24 31 rfl (fun c4 => ?_) (fun c4 => ?_)
    · refine z_iconst (M := M_X12_readMeasure) 31 dX12_readMeasure_31 ?_
      refine z_vV (M := M_X12_readMeasure) 32 dX12_readMeasure_32 t_X12_must l_X12_247 (m_rr_of rfl) (rest := []) (c_X12_must_b h0 0 G0 ⟨by omega, by omega⟩ hb1) o_108 rfl rfl rfl (Nat.le_of_ble_eq_true rfl) ⟨rfl, rfl⟩ (fun h2 qx5 => ?_)
      obtain ⟨G2, S2⟩ := qx5
      have R2 := (FR.rf (cs := []) (ss := []) (h := h0)).call S2 (by decide +kernel)
      have P2_ : h2 108 9 = h0 108 9 := S2 108 9 rfl
      refine z_aload_n (M := M_X12_readMeasure) 35 dX12_readMeasure_35 rfl ?_
      refine z_lconst (M := M_X12_readMeasure) 36 dX12_readMeasure_36 (v := 0) ?_
      refine z_ldc2 (M := M_X12_readMeasure) 37 dX12_readMeasure_37 k_X12_154 ?_
      refine z_vI (M := M_X12_readMeasure) 40 dX12_readMeasure_40 t_X12_number l_X12_254 (m_rr_of rfl) (rest := []) (c_X12_number_b h2 0 31 G2 ⟨by omega, by omega⟩ ⟨by omega, by omega⟩ ((S2 108 14 rfl).trans hb1)) o_108 rfl rfl rfl (Nat.le_of_ble_eq_true rfl) ⟨rfl, rfl⟩ (fun x6 h3 qx6 => ?_)
      obtain ⟨G3, S3⟩ := qx6
      have R3 := R2.call S3 (by decide +kernel)
      refine z_ok (fun ox6 _ _ => ?_)
      have ox6 := ox6.1; unfold m_ok m_32 at ox6
      have P3_ : h3 108 9 = h2 108 9 := S3 108 9 rfl
      refine z_istore_n (M := M_X12_readMeasure) 43 dX12_readMeasure_43 (ls' := [some (mR 108), some (mI a1), some (mI x6), none, none]) (by decide) rfl ?_
      refine z_aload_n (M := M_X12_readMeasure) 44 dX12_readMeasure_44 rfl ?_
      refine z_aload_n (M := M_X12_readMeasure) 45 dX12_readMeasure_45 rfl ?_
      refine z_ldc2 (M := M_X12_readMeasure) 46 dX12_readMeasure_46 k_X12_285 ?_
      refine z_vI (M := M_X12_readMeasure) 49 dX12_readMeasure_49 t_X12_isWord l_X12_260 (m_rr_of rfl) (rest := [mR 108]) (c_X12_isWord h3 307 G3) o_108 rfl rfl rfl (Nat.le_of_ble_eq_true rfl) ⟨rfl, rfl⟩ (fun x7 h4 qx7 => ?_)
      obtain ⟨rfl, ⟨rfl, cx7⟩ | ⟨rfl, cx7⟩⟩ := qx7
      · refine z_vV (M := M_X12_readMeasure) 52 dX12_readMeasure_52 t_X12_must l_X12_247 (m_rr_of rfl) (rest := []) (c_X12_must_b h3 1 G3 ⟨by omega, by omega⟩ ((S3 108 14 rfl).trans ((S2 108 14 rfl).trans hb1))) o_108 rfl rfl rfl (Nat.le_of_ble_eq_true rfl) ⟨rfl, rfl⟩ (fun h5 qx8 => ?_)
        obtain ⟨G5, S5⟩ := qx8
        have R5 := R3.call S5 (by decide +kernel)
        have P5_ : h5 108 9 = h3 108 9 := S5 108 9 rfl
        refine z_aload_n (M := M_X12_readMeasure) 55 dX12_readMeasure_55 rfl ?_
        refine z_lconst (M := M_X12_readMeasure) 56 dX12_readMeasure_56 (v := 1) ?_
        refine z_ldc2 (M := M_X12_readMeasure) 57 dX12_readMeasure_57 k_X12_180 ?_
        refine z_vI (M := M_X12_readMeasure) 60 dX12_readMeasure_60 t_X12_number l_X12_254 (m_rr_of rfl) (rest := []) (c_X12_number_b h5 1 99 G5 ⟨by omega, by omega⟩ ⟨by omega, by omega⟩ ((S5 108 14 rfl).trans ((S3 108 14 rfl).trans ((S2 108 14 rfl).trans hb1)))) o_108 rfl rfl rfl (Nat.le_of_ble_eq_true rfl) ⟨rfl, rfl⟩ (fun x9 h6 qx9 => ?_)
        obtain ⟨G6, S6⟩ := qx9
        have R6 := R5.call S6 (by decide +kernel)
        refine z_ok (fun ox9 _ _ => ?_)
        have ox9 := ox9.1; unfold m_ok m_32 at ox9
        have P6_ : h6 108 9 = h5 108 9 := S6 108 9 rfl
        refine z_istore_n (M := M_X12_readMeasure) 63 dX12_readMeasure_63 (ls' := [some (mR 108), some (mI a1), some (mI x6), some (mI x9), none]) (by decide) rfl ?_
        refine z_iconst (M := M_X12_readMeasure) 64 dX12_readMeasure_64 ?_
        refine z_istore (M := M_X12_readMeasure) 65 dX12_readMeasure_65 (ls' := [some (mR 108), some (mI a1), some (mI x6), some (mI x9), some (mI 0)]) (by decide) rfl ?_
        refine z_aload_n (M := M_X12_readMeasure) 67 dX12_readMeasure_67 rfl ?_
        refine z_getIE (M := M_X12_readMeasure) 68 dX12_readMeasure_68 f_X12_214 o_108 (by decide) ((S6 108 14 rfl).trans ((S5 108 14 rfl).trans ((S3 108 14 rfl).trans ((S2 108 14 rfl).trans hb1)))) ?_
        refine z_if_ne_T (M := M_X12_readMeasure) 71 dX12_readMeasure_71 134 rfl (by omega) ?_
        refine z_aload_n (M := M_X12_readMeasure) 134 dX12_readMeasure_134 rfl ?_
        refine z_iconst (M := M_X12_readMeasure) 135 dX12_readMeasure_135 ?_
        refine z_iload_n (M := M_X12_readMeasure) 136 dX12_readMeasure_136 rfl ?_
        refine z_iload_n (M := M_X12_readMeasure) 137 dX12_readMeasure_137 rfl ?_
        refine z_iload_n (M := M_X12_readMeasure) 138 dX12_readMeasure_138 rfl ?_
        refine z_iload (M := M_X12_readMeasure) 139 dX12_readMeasure_139 rfl ?_
        refine z_vV (M := M_X12_readMeasure) 141 dX12_readMeasure_141 t_X12_act l_X12_268 (m_rr_of rfl) (rest := []) (c_X12_act_b h6 3 a1 x6 x9 0 G6 ((S6 108 14 rfl).trans ((S5 108 14 rfl).trans ((S3 108 14 rfl).trans ((S2 108 14 rfl).trans hb1))))) o_108 rfl rfl rfl (Nat.le_of_ble_eq_true rfl) ⟨rfl, rfl⟩ (fun h7 qx10 => ?_)
        obtain ⟨G7, S7⟩ := qx10
        have R7 := R6.call S7 (by decide +kernel)
        have P7_ : h7 108 9 = h6 108 9 := S7 108 9 rfl
        exact z_retV (M := M_X12_readMeasure) 144 dX12_readMeasure_144 rfl ⟨G7, R7⟩
      · refine z_vV (M := M_X12_readMeasure) 52 dX12_readMeasure_52 t_X12_must l_X12_247 (m_rr_of rfl) (rest := []) (c_X12_must_b h3 0 G3 ⟨by omega, by omega⟩ ((S3 108 14 rfl).trans ((S2 108 14 rfl).trans hb1))) o_108 rfl rfl rfl (Nat.le_of_ble_eq_true rfl) ⟨rfl, rfl⟩ (fun h8 qx11 => ?_)
        obtain ⟨G8, S8⟩ := qx11
        have R8 := R3.call S8 (by decide +kernel)
        have P8_ : h8 108 9 = h3 108 9 := S8 108 9 rfl
        refine z_aload_n (M := M_X12_readMeasure) 55 dX12_readMeasure_55 rfl ?_
        refine z_lconst (M := M_X12_readMeasure) 56 dX12_readMeasure_56 (v := 1) ?_
        refine z_ldc2 (M := M_X12_readMeasure) 57 dX12_readMeasure_57 k_X12_180 ?_
        refine z_vI (M := M_X12_readMeasure) 60 dX12_readMeasure_60 t_X12_number l_X12_254 (m_rr_of rfl) (rest := []) (c_X12_number_b h8 1 99 G8 ⟨by omega, by omega⟩ ⟨by omega, by omega⟩ ((S8 108 14 rfl).trans ((S3 108 14 rfl).trans ((S2 108 14 rfl).trans hb1)))) o_108 rfl rfl rfl (Nat.le_of_ble_eq_true rfl) ⟨rfl, rfl⟩ (fun x12 h9 qx12 => ?_)
        obtain ⟨G9, S9⟩ := qx12
        have R9 := R8.call S9 (by decide +kernel)
        refine z_ok (fun ox12 _ _ => ?_)
        have ox12 := ox12.1; unfold m_ok m_32 at ox12
        have P9_ : h9 108 9 = h8 108 9 := S9 108 9 rfl
        refine z_istore_n (M := M_X12_readMeasure) 63 dX12_readMeasure_63 (ls' := [some (mR 108), some (mI a1), some (mI x6), some (mI x12), none]) (by decide) rfl ?_
        refine z_iconst (M := M_X12_readMeasure) 64 dX12_readMeasure_64 ?_
        refine z_istore (M := M_X12_readMeasure) 65 dX12_readMeasure_65 (ls' := [some (mR 108), some (mI a1), some (mI x6), some (mI x12), some (mI 0)]) (by decide) rfl ?_
        refine z_aload_n (M := M_X12_readMeasure) 67 dX12_readMeasure_67 rfl ?_
        refine z_getIE (M := M_X12_readMeasure) 68 dX12_readMeasure_68 f_X12_214 o_108 (by decide) ((S9 108 14 rfl).trans ((S8 108 14 rfl).trans ((S3 108 14 rfl).trans ((S2 108 14 rfl).trans hb1)))) ?_
        refine z_if_ne_T (M := M_X12_readMeasure) 71 dX12_readMeasure_71 134 rfl (by omega) ?_
        refine z_aload_n (M := M_X12_readMeasure) 134 dX12_readMeasure_134 rfl ?_
        refine z_iconst (M := M_X12_readMeasure) 135 dX12_readMeasure_135 ?_
        refine z_iload_n (M := M_X12_readMeasure) 136 dX12_readMeasure_136 rfl ?_
        refine z_iload_n (M := M_X12_readMeasure) 137 dX12_readMeasure_137 rfl ?_
        refine z_iload_n (M := M_X12_readMeasure) 138 dX12_readMeasure_138 rfl ?_
        refine z_iload (M := M_X12_readMeasure) 139 dX12_readMeasure_139 rfl ?_
        refine z_vV (M := M_X12_readMeasure) 141 dX12_readMeasure_141 t_X12_act l_X12_268 (m_rr_of rfl) (rest := []) (c_X12_act_b h9 3 a1 x6 x12 0 G9 ((S9 108 14 rfl).trans ((S8 108 14 rfl).trans ((S3 108 14 rfl).trans ((S2 108 14 rfl).trans hb1))))) o_108 rfl rfl rfl (Nat.le_of_ble_eq_true rfl) ⟨rfl, rfl⟩ (fun h10 qx13 => ?_)
        obtain ⟨G10, S10⟩ := qx13
        have R10 := R9.call S10 (by decide +kernel)
        have P10_ : h10 108 9 = h9 108 9 := S10 108 9 rfl
        exact z_retV (M := M_X12_readMeasure) 144 dX12_readMeasure_144 rfl ⟨G10, R10⟩
    · refine z_iconst (M := M_X12_readMeasure) 27 dX12_readMeasure_27 ?_
      refine z_goto (M := M_X12_readMeasure) 28 dX12_readMeasure_28 32 rfl ?_
      refine z_vV (M := M_X12_readMeasure) 32 dX12_readMeasure_32 t_X12_must l_X12_247 (m_rr_of rfl) (rest := []) (c_X12_must_b h0 1 G0 ⟨by omega, by omega⟩ hb1) o_108 rfl rfl rfl (Nat.le_of_ble_eq_true rfl) ⟨rfl, rfl⟩ (fun h11 qx14 => ?_)
      obtain ⟨G11, S11⟩ := qx14
      have R11 := (FR.rf (cs := []) (ss := []) (h := h0)).call S11 (by decide +kernel)
      have P11_ : h11 108 9 = h0 108 9 := S11 108 9 rfl
      refine z_aload_n (M := M_X12_readMeasure) 35 dX12_readMeasure_35 rfl ?_
      refine z_lconst (M := M_X12_readMeasure) 36 dX12_readMeasure_36 (v := 0) ?_
      refine z_ldc2 (M := M_X12_readMeasure) 37 dX12_readMeasure_37 k_X12_154 ?_
      refine z_vI (M := M_X12_readMeasure) 40 dX12_readMeasure_40 t_X12_number l_X12_254 (m_rr_of rfl) (rest := []) (c_X12_number_b h11 0 31 G11 ⟨by omega, by omega⟩ ⟨by omega, by omega⟩ ((S11 108 14 rfl).trans hb1)) o_108 rfl rfl rfl (Nat.le_of_ble_eq_true rfl) ⟨rfl, rfl⟩ (fun x15 h12 qx15 => ?_)
      obtain ⟨G12, S12⟩ := qx15
      have R12 := R11.call S12 (by decide +kernel)
      refine z_ok (fun ox15 _ _ => ?_)
      have ox15 := ox15.1; unfold m_ok m_32 at ox15
      have P12_ : h12 108 9 = h11 108 9 := S12 108 9 rfl
      refine z_istore_n (M := M_X12_readMeasure) 43 dX12_readMeasure_43 (ls' := [some (mR 108), some (mI a1), some (mI x15), none, none]) (by decide) rfl ?_
      refine z_aload_n (M := M_X12_readMeasure) 44 dX12_readMeasure_44 rfl ?_
      refine z_aload_n (M := M_X12_readMeasure) 45 dX12_readMeasure_45 rfl ?_
      refine z_ldc2 (M := M_X12_readMeasure) 46 dX12_readMeasure_46 k_X12_285 ?_
      refine z_vI (M := M_X12_readMeasure) 49 dX12_readMeasure_49 t_X12_isWord l_X12_260 (m_rr_of rfl) (rest := [mR 108]) (c_X12_isWord h12 307 G12) o_108 rfl rfl rfl (Nat.le_of_ble_eq_true rfl) ⟨rfl, rfl⟩ (fun x16 h13 qx16 => ?_)
      obtain ⟨rfl, ⟨rfl, cx16⟩ | ⟨rfl, cx16⟩⟩ := qx16
      · refine z_vV (M := M_X12_readMeasure) 52 dX12_readMeasure_52 t_X12_must l_X12_247 (m_rr_of rfl) (rest := []) (c_X12_must_b h12 1 G12 ⟨by omega, by omega⟩ ((S12 108 14 rfl).trans ((S11 108 14 rfl).trans hb1))) o_108 rfl rfl rfl (Nat.le_of_ble_eq_true rfl) ⟨rfl, rfl⟩ (fun h14 qx17 => ?_)
        obtain ⟨G14, S14⟩ := qx17
        have R14 := R12.call S14 (by decide +kernel)
        have P14_ : h14 108 9 = h12 108 9 := S14 108 9 rfl
        refine z_aload_n (M := M_X12_readMeasure) 55 dX12_readMeasure_55 rfl ?_
        refine z_lconst (M := M_X12_readMeasure) 56 dX12_readMeasure_56 (v := 1) ?_
        refine z_ldc2 (M := M_X12_readMeasure) 57 dX12_readMeasure_57 k_X12_180 ?_
        refine z_vI (M := M_X12_readMeasure) 60 dX12_readMeasure_60 t_X12_number l_X12_254 (m_rr_of rfl) (rest := []) (c_X12_number_b h14 1 99 G14 ⟨by omega, by omega⟩ ⟨by omega, by omega⟩ ((S14 108 14 rfl).trans ((S12 108 14 rfl).trans ((S11 108 14 rfl).trans hb1)))) o_108 rfl rfl rfl (Nat.le_of_ble_eq_true rfl) ⟨rfl, rfl⟩ (fun x18 h15 qx18 => ?_)
        obtain ⟨G15, S15⟩ := qx18
        have R15 := R14.call S15 (by decide +kernel)
        refine z_ok (fun ox18 _ _ => ?_)
        have ox18 := ox18.1; unfold m_ok m_32 at ox18
        have P15_ : h15 108 9 = h14 108 9 := S15 108 9 rfl
        refine z_istore_n (M := M_X12_readMeasure) 63 dX12_readMeasure_63 (ls' := [some (mR 108), some (mI a1), some (mI x15), some (mI x18), none]) (by decide) rfl ?_
        refine z_iconst (M := M_X12_readMeasure) 64 dX12_readMeasure_64 ?_
        refine z_istore (M := M_X12_readMeasure) 65 dX12_readMeasure_65 (ls' := [some (mR 108), some (mI a1), some (mI x15), some (mI x18), some (mI 0)]) (by decide) rfl ?_
        refine z_aload_n (M := M_X12_readMeasure) 67 dX12_readMeasure_67 rfl ?_
        refine z_getIE (M := M_X12_readMeasure) 68 dX12_readMeasure_68 f_X12_214 o_108 (by decide) ((S15 108 14 rfl).trans ((S14 108 14 rfl).trans ((S12 108 14 rfl).trans ((S11 108 14 rfl).trans hb1)))) ?_
        refine z_if_ne_T (M := M_X12_readMeasure) 71 dX12_readMeasure_71 134 rfl (by omega) ?_
        refine z_aload_n (M := M_X12_readMeasure) 134 dX12_readMeasure_134 rfl ?_
        refine z_iconst (M := M_X12_readMeasure) 135 dX12_readMeasure_135 ?_
        refine z_iload_n (M := M_X12_readMeasure) 136 dX12_readMeasure_136 rfl ?_
        refine z_iload_n (M := M_X12_readMeasure) 137 dX12_readMeasure_137 rfl ?_
        refine z_iload_n (M := M_X12_readMeasure) 138 dX12_readMeasure_138 rfl ?_
        refine z_iload (M := M_X12_readMeasure) 139 dX12_readMeasure_139 rfl ?_
        refine z_vV (M := M_X12_readMeasure) 141 dX12_readMeasure_141 t_X12_act l_X12_268 (m_rr_of rfl) (rest := []) (c_X12_act_b h15 3 a1 x15 x18 0 G15 ((S15 108 14 rfl).trans ((S14 108 14 rfl).trans ((S12 108 14 rfl).trans ((S11 108 14 rfl).trans hb1))))) o_108 rfl rfl rfl (Nat.le_of_ble_eq_true rfl) ⟨rfl, rfl⟩ (fun h16 qx19 => ?_)
        obtain ⟨G16, S16⟩ := qx19
        have R16 := R15.call S16 (by decide +kernel)
        have P16_ : h16 108 9 = h15 108 9 := S16 108 9 rfl
        exact z_retV (M := M_X12_readMeasure) 144 dX12_readMeasure_144 rfl ⟨G16, R16⟩
      · refine z_vV (M := M_X12_readMeasure) 52 dX12_readMeasure_52 t_X12_must l_X12_247 (m_rr_of rfl) (rest := []) (c_X12_must_b h12 0 G12 ⟨by omega, by omega⟩ ((S12 108 14 rfl).trans ((S11 108 14 rfl).trans hb1))) o_108 rfl rfl rfl (Nat.le_of_ble_eq_true rfl) ⟨rfl, rfl⟩ (fun h17 qx20 => ?_)
        obtain ⟨G17, S17⟩ := qx20
        have R17 := R12.call S17 (by decide +kernel)
        have P17_ : h17 108 9 = h12 108 9 := S17 108 9 rfl
        refine z_aload_n (M := M_X12_readMeasure) 55 dX12_readMeasure_55 rfl ?_
        refine z_lconst (M := M_X12_readMeasure) 56 dX12_readMeasure_56 (v := 1) ?_
        refine z_ldc2 (M := M_X12_readMeasure) 57 dX12_readMeasure_57 k_X12_180 ?_
        refine z_vI (M := M_X12_readMeasure) 60 dX12_readMeasure_60 t_X12_number l_X12_254 (m_rr_of rfl) (rest := []) (c_X12_number_b h17 1 99 G17 ⟨by omega, by omega⟩ ⟨by omega, by omega⟩ ((S17 108 14 rfl).trans ((S12 108 14 rfl).trans ((S11 108 14 rfl).trans hb1)))) o_108 rfl rfl rfl (Nat.le_of_ble_eq_true rfl) ⟨rfl, rfl⟩ (fun x21 h18 qx21 => ?_)
        obtain ⟨G18, S18⟩ := qx21
        have R18 := R17.call S18 (by decide +kernel)
        refine z_ok (fun ox21 _ _ => ?_)
        have ox21 := ox21.1; unfold m_ok m_32 at ox21
        have P18_ : h18 108 9 = h17 108 9 := S18 108 9 rfl
        refine z_istore_n (M := M_X12_readMeasure) 63 dX12_readMeasure_63 (ls' := [some (mR 108), some (mI a1), some (mI x15), some (mI x21), none]) (by decide) rfl ?_
        refine z_iconst (M := M_X12_readMeasure) 64 dX12_readMeasure_64 ?_
        refine z_istore (M := M_X12_readMeasure) 65 dX12_readMeasure_65 (ls' := [some (mR 108), some (mI a1), some (mI x15), some (mI x21), some (mI 0)]) (by decide) rfl ?_
        refine z_aload_n (M := M_X12_readMeasure) 67 dX12_readMeasure_67 rfl ?_
        refine z_getIE (M := M_X12_readMeasure) 68 dX12_readMeasure_68 f_X12_214 o_108 (by decide) ((S18 108 14 rfl).trans ((S17 108 14 rfl).trans ((S12 108 14 rfl).trans ((S11 108 14 rfl).trans hb1)))) ?_
        refine z_if_ne_T (M := M_X12_readMeasure) 71 dX12_readMeasure_71 134 rfl (by omega) ?_
        refine z_aload_n (M := M_X12_readMeasure) 134 dX12_readMeasure_134 rfl ?_
        refine z_iconst (M := M_X12_readMeasure) 135 dX12_readMeasure_135 ?_
        refine z_iload_n (M := M_X12_readMeasure) 136 dX12_readMeasure_136 rfl ?_
        refine z_iload_n (M := M_X12_readMeasure) 137 dX12_readMeasure_137 rfl ?_
        refine z_iload_n (M := M_X12_readMeasure) 138 dX12_readMeasure_138 rfl ?_
        refine z_iload (M := M_X12_readMeasure) 139 dX12_readMeasure_139 rfl ?_
        refine z_vV (M := M_X12_readMeasure) 141 dX12_readMeasure_141 t_X12_act l_X12_268 (m_rr_of rfl) (rest := []) (c_X12_act_b h18 3 a1 x15 x21 0 G18 ((S18 108 14 rfl).trans ((S17 108 14 rfl).trans ((S12 108 14 rfl).trans ((S11 108 14 rfl).trans hb1))))) o_108 rfl rfl rfl (Nat.le_of_ble_eq_true rfl) ⟨rfl, rfl⟩ (fun h19 qx22 => ?_)
        obtain ⟨G19, S19⟩ := qx22
        have R19 := R18.call S19 (by decide +kernel)
        have P19_ : h19 108 9 = h18 108 9 := S19 108 9 rfl
        exact z_retV (M := M_X12_readMeasure) 144 dX12_readMeasure_144 rfl ⟨G19, R19⟩
  · refine z_if_eq_T (M := M_X12_readMeasure) 8 dX12_readMeasure_8 31 rfl (by omega) ?_
    refine z_iconst (M := M_X12_readMeasure) 31 dX12_readMeasure_31 ?_
    refine z_vV (M := M_X12_readMeasure) 32 dX12_readMeasure_32 t_X12_must l_X12_247 (m_rr_of rfl) (rest := []) (c_X12_must_b h0 0 G0 ⟨by omega, by omega⟩ hb1) o_108 rfl rfl rfl (Nat.le_of_ble_eq_true rfl) ⟨rfl, rfl⟩ (fun h20 qx23 => ?_)
    obtain ⟨G20, S20⟩ := qx23
    have R20 := (FR.rf (cs := []) (ss := []) (h := h0)).call S20 (by decide +kernel)
    have P20_ : h20 108 9 = h0 108 9 := S20 108 9 rfl
    refine z_aload_n (M := M_X12_readMeasure) 35 dX12_readMeasure_35 rfl ?_
    refine z_lconst (M := M_X12_readMeasure) 36 dX12_readMeasure_36 (v := 0) ?_
    refine z_ldc2 (M := M_X12_readMeasure) 37 dX12_readMeasure_37 k_X12_154 ?_
    refine z_vI (M := M_X12_readMeasure) 40 dX12_readMeasure_40 t_X12_number l_X12_254 (m_rr_of rfl) (rest := []) (c_X12_number_b h20 0 31 G20 ⟨by omega, by omega⟩ ⟨by omega, by omega⟩ ((S20 108 14 rfl).trans hb1)) o_108 rfl rfl rfl (Nat.le_of_ble_eq_true rfl) ⟨rfl, rfl⟩ (fun x24 h21 qx24 => ?_)
    obtain ⟨G21, S21⟩ := qx24
    have R21 := R20.call S21 (by decide +kernel)
    refine z_ok (fun ox24 _ _ => ?_)
    have ox24 := ox24.1; unfold m_ok m_32 at ox24
    have P21_ : h21 108 9 = h20 108 9 := S21 108 9 rfl
    refine z_istore_n (M := M_X12_readMeasure) 43 dX12_readMeasure_43 (ls' := [some (mR 108), some (mI a1), some (mI x24), none, none]) (by decide) rfl ?_
    refine z_aload_n (M := M_X12_readMeasure) 44 dX12_readMeasure_44 rfl ?_
    refine z_aload_n (M := M_X12_readMeasure) 45 dX12_readMeasure_45 rfl ?_
    refine z_ldc2 (M := M_X12_readMeasure) 46 dX12_readMeasure_46 k_X12_285 ?_
    refine z_vI (M := M_X12_readMeasure) 49 dX12_readMeasure_49 t_X12_isWord l_X12_260 (m_rr_of rfl) (rest := [mR 108]) (c_X12_isWord h21 307 G21) o_108 rfl rfl rfl (Nat.le_of_ble_eq_true rfl) ⟨rfl, rfl⟩ (fun x25 h22 qx25 => ?_)
    obtain ⟨rfl, ⟨rfl, cx25⟩ | ⟨rfl, cx25⟩⟩ := qx25
    · refine z_vV (M := M_X12_readMeasure) 52 dX12_readMeasure_52 t_X12_must l_X12_247 (m_rr_of rfl) (rest := []) (c_X12_must_b h21 1 G21 ⟨by omega, by omega⟩ ((S21 108 14 rfl).trans ((S20 108 14 rfl).trans hb1))) o_108 rfl rfl rfl (Nat.le_of_ble_eq_true rfl) ⟨rfl, rfl⟩ (fun h23 qx26 => ?_)
      obtain ⟨G23, S23⟩ := qx26
      have R23 := R21.call S23 (by decide +kernel)
      have P23_ : h23 108 9 = h21 108 9 := S23 108 9 rfl
      refine z_aload_n (M := M_X12_readMeasure) 55 dX12_readMeasure_55 rfl ?_
      refine z_lconst (M := M_X12_readMeasure) 56 dX12_readMeasure_56 (v := 1) ?_
      refine z_ldc2 (M := M_X12_readMeasure) 57 dX12_readMeasure_57 k_X12_180 ?_
      refine z_vI (M := M_X12_readMeasure) 60 dX12_readMeasure_60 t_X12_number l_X12_254 (m_rr_of rfl) (rest := []) (c_X12_number_b h23 1 99 G23 ⟨by omega, by omega⟩ ⟨by omega, by omega⟩ ((S23 108 14 rfl).trans ((S21 108 14 rfl).trans ((S20 108 14 rfl).trans hb1)))) o_108 rfl rfl rfl (Nat.le_of_ble_eq_true rfl) ⟨rfl, rfl⟩ (fun x27 h24 qx27 => ?_)
      obtain ⟨G24, S24⟩ := qx27
      have R24 := R23.call S24 (by decide +kernel)
      refine z_ok (fun ox27 _ _ => ?_)
      have ox27 := ox27.1; unfold m_ok m_32 at ox27
      have P24_ : h24 108 9 = h23 108 9 := S24 108 9 rfl
      refine z_istore_n (M := M_X12_readMeasure) 63 dX12_readMeasure_63 (ls' := [some (mR 108), some (mI a1), some (mI x24), some (mI x27), none]) (by decide) rfl ?_
      refine z_iconst (M := M_X12_readMeasure) 64 dX12_readMeasure_64 ?_
      refine z_istore (M := M_X12_readMeasure) 65 dX12_readMeasure_65 (ls' := [some (mR 108), some (mI a1), some (mI x24), some (mI x27), some (mI 0)]) (by decide) rfl ?_
      refine z_aload_n (M := M_X12_readMeasure) 67 dX12_readMeasure_67 rfl ?_
      refine z_getIE (M := M_X12_readMeasure) 68 dX12_readMeasure_68 f_X12_214 o_108 (by decide) ((S24 108 14 rfl).trans ((S23 108 14 rfl).trans ((S21 108 14 rfl).trans ((S20 108 14 rfl).trans hb1)))) ?_
      refine z_if_ne_T (M := M_X12_readMeasure) 71 dX12_readMeasure_71 134 rfl (by omega) ?_
      refine z_aload_n (M := M_X12_readMeasure) 134 dX12_readMeasure_134 rfl ?_
      refine z_iconst (M := M_X12_readMeasure) 135 dX12_readMeasure_135 ?_
      refine z_iload_n (M := M_X12_readMeasure) 136 dX12_readMeasure_136 rfl ?_
      refine z_iload_n (M := M_X12_readMeasure) 137 dX12_readMeasure_137 rfl ?_
      refine z_iload_n (M := M_X12_readMeasure) 138 dX12_readMeasure_138 rfl ?_
      refine z_iload (M := M_X12_readMeasure) 139 dX12_readMeasure_139 rfl ?_
      refine z_vV (M := M_X12_readMeasure) 141 dX12_readMeasure_141 t_X12_act l_X12_268 (m_rr_of rfl) (rest := []) (c_X12_act_b h24 3 a1 x24 x27 0 G24 ((S24 108 14 rfl).trans ((S23 108 14 rfl).trans ((S21 108 14 rfl).trans ((S20 108 14 rfl).trans hb1))))) o_108 rfl rfl rfl (Nat.le_of_ble_eq_true rfl) ⟨rfl, rfl⟩ (fun h25 qx28 => ?_)
      obtain ⟨G25, S25⟩ := qx28
      have R25 := R24.call S25 (by decide +kernel)
      have P25_ : h25 108 9 = h24 108 9 := S25 108 9 rfl
      exact z_retV (M := M_X12_readMeasure) 144 dX12_readMeasure_144 rfl ⟨G25, R25⟩
    · refine z_vV (M := M_X12_readMeasure) 52 dX12_readMeasure_52 t_X12_must l_X12_247 (m_rr_of rfl) (rest := []) (c_X12_must_b h21 0 G21 ⟨by omega, by omega⟩ ((S21 108 14 rfl).trans ((S20 108 14 rfl).trans hb1))) o_108 rfl rfl rfl (Nat.le_of_ble_eq_true rfl) ⟨rfl, rfl⟩ (fun h26 qx29 => ?_)
      obtain ⟨G26, S26⟩ := qx29
      have R26 := R21.call S26 (by decide +kernel)
      have P26_ : h26 108 9 = h21 108 9 := S26 108 9 rfl
      refine z_aload_n (M := M_X12_readMeasure) 55 dX12_readMeasure_55 rfl ?_
      refine z_lconst (M := M_X12_readMeasure) 56 dX12_readMeasure_56 (v := 1) ?_
      refine z_ldc2 (M := M_X12_readMeasure) 57 dX12_readMeasure_57 k_X12_180 ?_
      refine z_vI (M := M_X12_readMeasure) 60 dX12_readMeasure_60 t_X12_number l_X12_254 (m_rr_of rfl) (rest := []) (c_X12_number_b h26 1 99 G26 ⟨by omega, by omega⟩ ⟨by omega, by omega⟩ ((S26 108 14 rfl).trans ((S21 108 14 rfl).trans ((S20 108 14 rfl).trans hb1)))) o_108 rfl rfl rfl (Nat.le_of_ble_eq_true rfl) ⟨rfl, rfl⟩ (fun x30 h27 qx30 => ?_)
      obtain ⟨G27, S27⟩ := qx30
      have R27 := R26.call S27 (by decide +kernel)
      refine z_ok (fun ox30 _ _ => ?_)
      have ox30 := ox30.1; unfold m_ok m_32 at ox30
      have P27_ : h27 108 9 = h26 108 9 := S27 108 9 rfl
      refine z_istore_n (M := M_X12_readMeasure) 63 dX12_readMeasure_63 (ls' := [some (mR 108), some (mI a1), some (mI x24), some (mI x30), none]) (by decide) rfl ?_
      refine z_iconst (M := M_X12_readMeasure) 64 dX12_readMeasure_64 ?_
      refine z_istore (M := M_X12_readMeasure) 65 dX12_readMeasure_65 (ls' := [some (mR 108), some (mI a1), some (mI x24), some (mI x30), some (mI 0)]) (by decide) rfl ?_
      refine z_aload_n (M := M_X12_readMeasure) 67 dX12_readMeasure_67 rfl ?_
      refine z_getIE (M := M_X12_readMeasure) 68 dX12_readMeasure_68 f_X12_214 o_108 (by decide) ((S27 108 14 rfl).trans ((S26 108 14 rfl).trans ((S21 108 14 rfl).trans ((S20 108 14 rfl).trans hb1)))) ?_
      refine z_if_ne_T (M := M_X12_readMeasure) 71 dX12_readMeasure_71 134 rfl (by omega) ?_
      refine z_aload_n (M := M_X12_readMeasure) 134 dX12_readMeasure_134 rfl ?_
      refine z_iconst (M := M_X12_readMeasure) 135 dX12_readMeasure_135 ?_
      refine z_iload_n (M := M_X12_readMeasure) 136 dX12_readMeasure_136 rfl ?_
      refine z_iload_n (M := M_X12_readMeasure) 137 dX12_readMeasure_137 rfl ?_
      refine z_iload_n (M := M_X12_readMeasure) 138 dX12_readMeasure_138 rfl ?_
      refine z_iload (M := M_X12_readMeasure) 139 dX12_readMeasure_139 rfl ?_
      refine z_vV (M := M_X12_readMeasure) 141 dX12_readMeasure_141 t_X12_act l_X12_268 (m_rr_of rfl) (rest := []) (c_X12_act_b h27 3 a1 x24 x30 0 G27 ((S27 108 14 rfl).trans ((S26 108 14 rfl).trans ((S21 108 14 rfl).trans ((S20 108 14 rfl).trans hb1))))) o_108 rfl rfl rfl (Nat.le_of_ble_eq_true rfl) ⟨rfl, rfl⟩ (fun h28 qx31 => ?_)
      obtain ⟨G28, S28⟩ := qx31
      have R28 := R27.call S28 (by decide +kernel)
      have P28_ : h28 108 9 = h27 108 9 := S28 108 9 rfl
      exact z_retV (M := M_X12_readMeasure) 144 dX12_readMeasure_144 rfl ⟨G28, R28⟩
theorem ms_un {b : Nat → Int} {n t : Int} {f : Nat} {q : Int × Int} {r : Nat → Int} {p : (Int × Int) × (Nat → Int)} (M : rdMeas b n q r t = .ok p) : rdMs b n t (f + 1) q r = cif (isW b p.1 12) (rdMs b n t f (nxt b n p.1) p.2) (.ok p) := by
  conv => lhs; unfold rdMs
  rw [M]
def thM (z : Except Int ((Int × Int) × (Nat → Int))) (b : Nat → Int) (n t : Int) (f : Nat) (p : (Int × Int) × (Nat → Int)) (h : m_H) : Prop := MTk h ∧ AI h ∧ 2 * h 108 16 ≤ h 108 9 ∧ Qm h = p.1 ∧ vr h = p.2 ∧ z = cif (isW b p.1 12) (rdMs b n t f (nxt b n p.1) p.2) (.ok p) ∧ 25 - (f : Int) ≤ p.2 0
theorem thM.f1 {z : Except Int ((Int × Int) × (Nat → Int))} {b : Nat → Int} {n t : Int} {f : Nat} {p : (Int × Int) × (Nat → Int)} {h : m_H} (A : AI h) (v : vr h = p.2) (hf : 25 - (f : Int) ≤ p.2 0) : 1 ≤ f := by
  have z := vr_01 A
  have r := A.rooms
  rw [v] at z
  omega
theorem er_e {z : Except Int ((Int × Int) × (Nat → Int))} {e e' : Int} (ez : z = .error e) (f : e' = e) : z = .error e' := by rw [f]; exact ez
abbrev P_X12_readThing2 (h0 : m_H) : m_H → Prop := fun h' => GI h' ∧ FR [114] [(108, 9), (108, 10), (108, 11), (108, 12), (108, 13), (108, 14), (108, 16), (108, 17), (108, 18)] h0 h' ∧ mdQ (rdThing (h0 113) (h0 108 8) (nxt (h0 113) (h0 108 8) (Qm h0)) (vr h0)) h0 h' ∧ h0 108 9 ≤ h' 108 9 ∧ (h' 108 14 = 0 → h0 108 9 + 1 ≤ h' 108 9)
def q_X12_readThing2 (h0 : m_H) (n : Nat) : Prop := (∀ (l1 y_108_9 y_108_14 : Int) (h : m_H), GI h → FR [114] [(108, 9), (108, 10), (108, 11), (108, 12), (108, 13), (108, 14), (108, 16), (108, 17), (108, 18)] h0 h → 0 ≤ y_108_9 → y_108_9 ≤ 400 → 0 ≤ y_108_14 → y_108_14 ≤ 1 → (h 108 9 = y_108_9) → (h 108 14 = y_108_14) → (y_108_14 = 1 → (rdThing (h0 113) (h0 108 8) (nxt (h0 113) (h0 108 8) (Qm h0)) (vr h0)) = .error (h 108 13)) → (y_108_14 = 0 → ∃ p f, thM (rdThing (h0 113) (h0 108 8) (nxt (h0 113) (h0 108 8) (Qm h0)) (vr h0)) (h0 113) (h0 108 8) l1 f p h) → (y_108_14 = 0 → 0 ≤ l1 ∧ l1 ≤ 5) → (h0 108 9 ≤ y_108_9) → (y_108_14 = 0 → h0 108 9 + 1 ≤ y_108_9) → (y_108_14 = 0 → h 108 13 = h0 108 13) → 2 * (400 - y_108_9) + (1) ≤ (n : Int) → m_Z oF M_X12_readThing 93 [some (mR 108), some (mI l1)] [] h (m_QV (P_X12_readThing2 h0)))
set_option maxHeartbeats 4000000 in
set_option maxRecDepth 100000 in
theorem s_X12_readThing2_93 (h0 : m_H) (G0 : GI h0) (hb : h0 108 14 = 0) (M0 : MTk h0) (A0 : AI h0) (N0 : 2 * h0 108 16 ≤ h0 108 9) (hs : h0 108 11 ≠ 0) (n : Nat) (ih : q_X12_readThing2 h0 n) : ∀ (l1 y_108_9 y_108_14 : Int) (h : m_H), GI h → FR [114] [(108, 9), (108, 10), (108, 11), (108, 12), (108, 13), (108, 14), (108, 16), (108, 17), (108, 18)] h0 h → 0 ≤ y_108_9 → y_108_9 ≤ 400 → 0 ≤ y_108_14 → y_108_14 ≤ 1 → (h 108 9 = y_108_9) → (h 108 14 = y_108_14) → (y_108_14 = 1 → (rdThing (h0 113) (h0 108 8) (nxt (h0 113) (h0 108 8) (Qm h0)) (vr h0)) = .error (h 108 13)) → (y_108_14 = 0 → ∃ p f, thM (rdThing (h0 113) (h0 108 8) (nxt (h0 113) (h0 108 8) (Qm h0)) (vr h0)) (h0 113) (h0 108 8) l1 f p h) → (y_108_14 = 0 → 0 ≤ l1 ∧ l1 ≤ 5) → (h0 108 9 ≤ y_108_9) → (y_108_14 = 0 → h0 108 9 + 1 ≤ y_108_9) → (y_108_14 = 0 → h 108 13 = h0 108 13) → 2 * (400 - y_108_9) + (1) ≤ ((n + 1 : Nat) : Int) → m_Z oF M_X12_readThing 93 [some (mR 108), some (mI l1)] [] h (m_QV (P_X12_readThing2 h0)) := by
  intro l1 y_108_9 y_108_14 h G R v0 v1 v2 v3 t_108_9 t_108_14 i0 i1 i2 i3 i4 i5 hr
  refine z_ok (fun ostk _ olocs => ?_)
  have ol1 : m_32 l1 := olocs 1 _ rfl
  unfold m_32 at ol1
  refine z_aload_n (M := M_X12_readThing) 93 dX12_readThing_93 rfl ?_
  refine z_getIE (M := M_X12_readThing) 94 dX12_readThing_94 f_X12_214 o_108 (by decide) t_108_14 ?_
  refine z_if_ne (M := M_X12_readThing) 97 dX12_readThing_97 121 rfl (fun c1 => ?_) (fun c1 => ?_)
  · have bb_ : h 108 14 = 1 := t_108_14.trans (by omega)
    exact z_retV (M := M_X12_readThing) 121 dX12_readThing_121 rfl ⟨G, R, md_er (i0 (by omega)) bb_ rfl, by omega, fun _ => by omega⟩
  · obtain ⟨p_, f_, M_, A_, N_, Q_, V_, Z_, F_⟩ := i1 (by omega)
    have f1_ := thM.f1 (z := (rdThing (h0 113) (h0 108 8) (nxt (h0 113) (h0 108 8) (Qm h0)) (vr h0))) (b := h0 113) (n := h0 108 8) (t := l1) A_ V_ F_
    have ef_ : f_ = (f_ - 1) + 1 := by omega
    have lb_ := i2 (by omega)
    have hb0_ : h 108 14 = 0 := t_108_14.trans (by omega)
    refine z_aload_n (M := M_X12_readThing) 100 dX12_readThing_100 rfl ?_
    refine z_bipush (M := M_X12_readThing) 101 dX12_readThing_101 ?_
    refine z_vI (M := M_X12_readThing) 103 dX12_readThing_103 t_X12_isSign l_X12_300 (m_rr_of rfl) (rest := []) (c_X12_isSign h 44 G) o_108 rfl rfl rfl (Nat.le_of_ble_eq_true rfl) ⟨rfl, rfl⟩ (fun x2 h1 qx2 => ?_)
    obtain ⟨rfl, ⟨rfl, cx2⟩ | ⟨rfl, cx2⟩⟩ := qx2
    · refine z_if_eq_F (M := M_X12_readThing) 106 dX12_readThing_106 121 rfl (by omega) ?_
      refine z_aload_n (M := M_X12_readThing) 109 dX12_readThing_109 rfl ?_
      refine z_vV (M := M_X12_readThing) 110 dX12_readThing_110 t_X12_next l_X12_218 (m_rr_of rfl) (rest := []) (c_X12_next2 h G M_.2.2.2) o_108 rfl rfl rfl (Nat.le_of_ble_eq_true rfl) ⟨rfl, rfl⟩ (fun h2 qx3 => ?_)
      obtain ⟨G2, S2, Tx3, Mx3⟩ := qx3
      have R2 := R.call S2 (by decide +kernel)
      have A2 := A_.fr S2 (fun _ => rfl) rfl rfl rfl rfl rfl
      have Qx3 : Qm h2 = (nxt (h0 113) (h0 108 8) p_.1) := nx_m (rowz R (fun _ => rfl)) (R 108 8 rfl) Q_ (g_108_10 G).1 Tx3
      have Px3 : h 108 10 ≤ h2 108 9 := Tx3.1.1
      have Lx3 : h 108 9 < h 108 10 := M_.lt (by omega)
      have na2 : h2 108 16 = h 108 16 := S2 108 16 rfl
      have V2 : vr h2 = p_.2 := (vr_S S2 (fun _ => rfl) rfl (fun _ => rfl)).trans V_
      refine z_aload_n (M := M_X12_readThing) 113 dX12_readThing_113 rfl ?_
      refine z_iload_n (M := M_X12_readThing) 114 dX12_readThing_114 rfl ?_
      have nn2 : 2 * h2 108 16 ≤ h2 108 9 := by omega
      refine z_vV (M := M_X12_readThing) 115 dX12_readThing_115 t_X12_readMeasure l_X12_297 (m_rr_of rfl) (rest := []) (c_X12_readMeasure2 h2 l1 G2 ⟨by omega, by omega⟩ ((S2 108 14 rfl).trans hb0_) Mx3 A2 nn2) o_108 rfl rfl rfl (Nat.le_of_ble_eq_true rfl) ⟨rfl, rfl⟩ (fun h3 qx4 => ?_)
      obtain ⟨G3, S3, Kx4, Jx4, Ix4⟩ := qx4
      have R3 := R2.call S3 (by decide +kernel)
      rcases md_cs (md_c (F := fun b n q r => rdMeas b n q r l1) (rowz R2 (fun _ => rfl)) (R2 108 8 rfl) Qx3 V2 Kx4) with ⟨px4, Zx4, bx4, Mx4, Ax4, Px4_, Qx4, Vx4, flx4⟩ | ⟨ex4, Zx4, bx4, fx4⟩
      · have Ix4_ := Ix4 bx4
        refine z_goto (M := M_X12_readThing) 118 dX12_readThing_118 93 rfl ?_
        obtain ⟨x5, ex5⟩ : ∃ y : Int, h3 108 9 = y := ⟨_, rfl⟩
        have bx5 : 0 ≤ x5 ∧ x5 ≤ 400 := ex5 ▸ g_108_9 G3
        have bb_ : h3 108 14 = 0 := bx4
        have gf_ := (g_108_9 G3).2
        exact z_mask [true, true] rfl (ih l1 x5 0 h3 G3 R3 (by omega) (by omega) (by omega) (by omega) ex5 bx4 (fun q => by omega) (fun _ => ⟨px4, f_ - 1, Mx4, Ax4, (by omega), Qx4, Vx4, (Z_.trans ((cif_pos ((iw_c (rowz R (fun _ => rfl)) Q_ (mw_12 M_ (g_108_9 G).1)).mpr cx2)).trans (by rw [ef_]; exact ms_un Zx4))), (by have := rdMeas_0 Zx4; omega)⟩) (fun _ => by omega) (by omega) (fun _ => by omega) (fun _ => (flx4.trans ((S2 108 13 rfl).trans (i5 (by omega))))) (by omega))
      · refine z_goto (M := M_X12_readThing) 118 dX12_readThing_118 93 rfl ?_
        obtain ⟨x6, ex6⟩ : ∃ y : Int, h3 108 9 = y := ⟨_, rfl⟩
        have bx6 : 0 ≤ x6 ∧ x6 ≤ 400 := ex6 ▸ g_108_9 G3
        have bb_ : h3 108 14 = 1 := bx4
        have gf_ := (g_108_9 G3).2
        exact z_mask [true, true] rfl (ih l1 x6 1 h3 G3 R3 (by omega) (by omega) (by omega) (by omega) ex6 bx4 (fun _ => er_e (Z_.trans ((cif_pos ((iw_c (rowz R (fun _ => rfl)) Q_ (mw_12 M_ (g_108_9 G).1)).mpr cx2)).trans (by rw [ef_]; exact ms_er Zx4))) fx4) (fun q => by omega) (fun q => by omega) (by omega) (fun q => by omega) (fun q => by omega) (by omega))
    · refine z_if_eq_T (M := M_X12_readThing) 106 dX12_readThing_106 121 rfl (by omega) ?_
      exact z_retV (M := M_X12_readThing) 121 dX12_readThing_121 rfl ⟨G, R, md_ok (Z_.trans (cif_neg (fun z => cx2 ((iw_c (rowz R (fun _ => rfl)) Q_ (mw_12 M_ (g_108_9 G).1)).mp z)))) hb0_ M_ A_ N_ Q_ V_ (i5 (by omega)), by omega, fun _ => by omega⟩
theorem a_X12_readThing2 (h0 : m_H) (G0 : GI h0) (hb : h0 108 14 = 0) (M0 : MTk h0) (A0 : AI h0) (N0 : 2 * h0 108 16 ≤ h0 108 9) (hs : h0 108 11 ≠ 0) : ∀ n, q_X12_readThing2 h0 n := by
  intro n
  induction n with
  | zero => unfold q_X12_readThing2; intros; omega
  | succ n ih => exact s_X12_readThing2_93 h0 G0 hb M0 A0 N0 hs n ih
set_option maxHeartbeats 4000000 in
set_option maxRecDepth 100000 in
theorem c_X12_readThing2 (h0 : m_H) (G0 : GI h0) (hb : h0 108 14 = 0) (M0 : MTk h0) (A0 : AI h0) (N0 : 2 * h0 108 16 ≤ h0 108 9) (hs : h0 108 11 ≠ 0) : m_CV M_X12_readThing [mR 108] h0 (P_X12_readThing2 h0) := by
  refine m_CV_of ⟨by decide, rfl, by simp [m_arg, m_isL, M_X12_readThing], ⟨rfl, rfl⟩, rfl, rfl⟩ (ls := [some (mR 108), none]) rfl ?_
  have ih := a_X12_readThing2 h0 G0 hb M0 A0 N0 hs 808
  obtain ⟨x1, ex1⟩ : ∃ y : Int, h0 108 13 = y := ⟨_, rfl⟩
  refine z_aload_n (M := M_X12_readThing) 0 dX12_readThing_0 rfl ?_
  refine z_vV (M := M_X12_readThing) 1 dX12_readThing_1 t_X12_next l_X12_218 (m_rr_of rfl) (rest := []) (c_X12_next2 h0 G0 M0.2.2.2) o_108 rfl rfl rfl (Nat.le_of_ble_eq_true rfl) ⟨rfl, rfl⟩ (fun h1 qx2 => ?_)
  obtain ⟨G1, S1, Tx2, Mx2⟩ := qx2
  have R1 := (FR.rf (cs := [114]) (ss := [(108, 9), (108, 10), (108, 11), (108, 12), (108, 13), (108, 14), (108, 16), (108, 17), (108, 18)]) (h := h0)).call S1 (by decide +kernel)
  have A1 := A0.fr S1 (fun _ => rfl) rfl rfl rfl rfl rfl
  have Qx2 : Qm h1 = (nxt (h0 113) (h0 108 8) (Qm h0)) := nx_m (rowz (FR.rf (cs := [114]) (ss := [(108, 9), (108, 10), (108, 11), (108, 12), (108, 13), (108, 14), (108, 16), (108, 17), (108, 18)]) (h := h0)) (fun _ => rfl)) ((FR.rf (cs := [114]) (ss := [(108, 9), (108, 10), (108, 11), (108, 12), (108, 13), (108, 14), (108, 16), (108, 17), (108, 18)]) (h := h0)) 108 8 rfl) rfl (g_108_10 G0).1 Tx2
  have Px2 : h0 108 10 ≤ h1 108 9 := Tx2.1.1
  have Lx2 : h0 108 9 < h0 108 10 := M0.lt (by omega)
  have na1 : h1 108 16 = h0 108 16 := S1 108 16 rfl
  have V1 : vr h1 = (vr h0) := (vr_S S1 (fun _ => rfl) rfl (fun _ => rfl)).trans rfl
  refine z_aload_n (M := M_X12_readThing) 4 dX12_readThing_4 rfl ?_
  refine z_lconst (M := M_X12_readThing) 5 dX12_readThing_5 (v := 0) ?_
  refine z_ldc2 (M := M_X12_readThing) 6 dX12_readThing_6 k_X12_150 ?_
  refine z_vI (M := M_X12_readThing) 9 dX12_readThing_9 t_X12_number l_X12_254 (m_rr_of rfl) (rest := []) (c_X12_number_g h1 0 5 G1 ⟨by omega, by omega⟩ ⟨by omega, by omega⟩ ((S1 108 14 rfl).trans hb) Mx2) o_108 rfl rfl rfl (Nat.le_of_ble_eq_true rfl) ⟨rfl, rfl⟩ (fun x3 h2 qx3 => ?_)
  obtain ⟨G2, S2, Dx3⟩ := qx3
  have R2 := R1.call S2 (by decide +kernel)
  have A2 := A1.fr S2 (fun _ => rfl) rfl rfl rfl rfl rfl
  rcases nm_c (rowz R1 (fun _ => rfl)) (R1 108 8 rfl) Qx2 Dx3 with ⟨Wx3, Nx3, bx3, Mx3, Qx3, Px3, Lx3, gx3⟩ | ⟨Wx3, bx3, fx3, Px3⟩
  · have na2 : h2 108 16 = h1 108 16 := S2 108 16 rfl
    have V2 : vr h2 = (vr h0) := (vr_S S2 (fun _ => rfl) rfl (fun _ => rfl)).trans V1
    have lx3 : 0 ≤ x3 ∧ x3 ≤ 5 := by rw [Nx3]; exact ⟨Wx3.2.2.1, Wx3.2.2.2⟩
    refine z_istore_n (M := M_X12_readThing) 12 dX12_readThing_12 (ls' := [some (mR 108), some (mI x3)]) (by decide) rfl ?_
    refine z_aload_n (M := M_X12_readThing) 13 dX12_readThing_13 rfl ?_
    refine z_getIE (M := M_X12_readThing) 14 dX12_readThing_14 f_X12_214 o_108 (by decide) bx3 ?_
    refine z_if_ne_F (M := M_X12_readThing) 17 dX12_readThing_17 88 rfl (by omega) ?_
    refine z_aload_n (M := M_X12_readThing) 20 dX12_readThing_20 rfl ?_
    refine z_ldc2 (M := M_X12_readThing) 21 dX12_readThing_21 k_X12_293 ?_
    refine z_vI (M := M_X12_readThing) 24 dX12_readThing_24 t_X12_isWord l_X12_260 (m_rr_of rfl) (rest := []) (c_X12_isWord h2 3764 G2) o_108 rfl rfl rfl (Nat.le_of_ble_eq_true rfl) ⟨rfl, rfl⟩ (fun x4 h3 qx4 => ?_)
    obtain ⟨rfl, ⟨rfl, cx4⟩ | ⟨rfl, cx4⟩⟩ := qx4
    · refine z_if_eq_F (M := M_X12_readThing) 27 dX12_readThing_27 88 rfl (by omega) ?_
      refine z_aload_n (M := M_X12_readThing) 30 dX12_readThing_30 rfl ?_
      refine z_vV (M := M_X12_readThing) 31 dX12_readThing_31 t_X12_next l_X12_218 (m_rr_of rfl) (rest := []) (c_X12_next2 h2 G2 Mx3.2.2.2) o_108 rfl rfl rfl (Nat.le_of_ble_eq_true rfl) ⟨rfl, rfl⟩ (fun h4 qx5 => ?_)
      obtain ⟨G4, S4, Tx5, Mx5⟩ := qx5
      have R4 := R2.call S4 (by decide +kernel)
      have A4 := A2.fr S4 (fun _ => rfl) rfl rfl rfl rfl rfl
      have Qx5 : Qm h4 = (nxt (h0 113) (h0 108 8) (nxt (h0 113) (h0 108 8) (nxt (h0 113) (h0 108 8) (Qm h0)))) := nx_m (rowz R2 (fun _ => rfl)) (R2 108 8 rfl) Qx3 (g_108_10 G2).1 Tx5
      have Px5 : h2 108 10 ≤ h4 108 9 := Tx5.1.1
      have Lx5 : h2 108 9 < h2 108 10 := Mx3.lt (by omega)
      have na4 : h4 108 16 = h2 108 16 := S4 108 16 rfl
      have V4 : vr h4 = (vr h0) := (vr_S S4 (fun _ => rfl) rfl (fun _ => rfl)).trans V2
      refine z_aload_n (M := M_X12_readThing) 34 dX12_readThing_34 rfl ?_
      refine z_ldc2 (M := M_X12_readThing) 35 dX12_readThing_35 k_X12_295 ?_
      refine z_vI (M := M_X12_readThing) 38 dX12_readThing_38 t_X12_isWord l_X12_260 (m_rr_of rfl) (rest := []) (c_X12_isWord h4 14866610 G4) o_108 rfl rfl rfl (Nat.le_of_ble_eq_true rfl) ⟨rfl, rfl⟩ (fun x6 h5 qx6 => ?_)
      obtain ⟨rfl, ⟨rfl, cx6⟩ | ⟨rfl, cx6⟩⟩ := qx6
      · refine z_if_eq_F (M := M_X12_readThing) 41 dX12_readThing_41 60 rfl (by omega) ?_
        refine z_aload_n (M := M_X12_readThing) 44 dX12_readThing_44 rfl ?_
        refine z_vV (M := M_X12_readThing) 45 dX12_readThing_45 t_X12_next l_X12_218 (m_rr_of rfl) (rest := []) (c_X12_next2 h4 G4 Mx5.2.2.2) o_108 rfl rfl rfl (Nat.le_of_ble_eq_true rfl) ⟨rfl, rfl⟩ (fun h6 qx7 => ?_)
        obtain ⟨G6, S6, Tx7, Mx7⟩ := qx7
        have R6 := R4.call S6 (by decide +kernel)
        have A6 := A4.fr S6 (fun _ => rfl) rfl rfl rfl rfl rfl
        have Qx7 : Qm h6 = (nxt (h0 113) (h0 108 8) (nxt (h0 113) (h0 108 8) (nxt (h0 113) (h0 108 8) (nxt (h0 113) (h0 108 8) (Qm h0))))) := nx_m (rowz R4 (fun _ => rfl)) (R4 108 8 rfl) Qx5 (g_108_10 G4).1 Tx7
        have Px7 : h4 108 10 ≤ h6 108 9 := Tx7.1.1
        have Lx7 : h4 108 9 < h4 108 10 := Mx5.lt (by omega)
        have na6 : h6 108 16 = h4 108 16 := S6 108 16 rfl
        have V6 : vr h6 = (vr h0) := (vr_S S6 (fun _ => rfl) rfl (fun _ => rfl)).trans V4
        refine z_aload_n (M := M_X12_readThing) 48 dX12_readThing_48 rfl ?_
        refine z_iconst (M := M_X12_readThing) 49 dX12_readThing_49 ?_
        refine z_iload_n (M := M_X12_readThing) 50 dX12_readThing_50 rfl ?_
        refine z_iconst (M := M_X12_readThing) 51 dX12_readThing_51 ?_
        refine z_iconst (M := M_X12_readThing) 52 dX12_readThing_52 ?_
        refine z_iconst (M := M_X12_readThing) 53 dX12_readThing_53 ?_
        have gb6 := (g_108_9 G6).2
        have ga6 := (g_108_16 G6).1
        have hb6_ : h6 108 14 = 0 := ((S6 108 14 rfl).trans ((S4 108 14 rfl).trans bx3))
        refine z_vV (M := M_X12_readThing) 54 dX12_readThing_54 t_X12_act l_X12_268 (m_rr_of rfl) (rest := []) (c_X12_act h6 2 x3 (-1) 0 0 G6 (Or.inr (by omega))) o_108 rfl rfl rfl (Nat.le_of_ble_eq_true rfl) ⟨rfl, rfl⟩ (fun h7 qx8 => ?_)
        obtain ⟨G7, S7, fx8⟩ := qx8
        have R7 := R6.call S7 (by decide +kernel)
        have na7 : h7 108 16 = h6 108 16 + 1 := (fx8.resolve_left (fun z => z.1 ((S6 108 14 rfl).trans ((S4 108 14 rfl).trans bx3)))).2.1
        have V7 : vr h7 = act1 2 x3 (-1) 0 0 (vr h0) := (vr_act fx8 ((S6 108 14 rfl).trans ((S4 108 14 rfl).trans bx3)) (g_108_16 G6).1 S7 (fun _ => rfl)).trans (congrArg (act1 2 x3 (-1) 0 0) V6)
        have M7_ := MTk.same Mx7 (rowz S7 (fun _ => rfl)) (fun j u v => S7 108 j (fr_j (by omega)))
        have Q7_ : Qm h7 = (nxt (h0 113) (h0 108 8) (nxt (h0 113) (h0 108 8) (nxt (h0 113) (h0 108 8) (nxt (h0 113) (h0 108 8) (Qm h0))))) := (Qm_S S7 rfl rfl).trans Qx7
        have P7_ : h7 108 9 = h6 108 9 := S7 108 9 rfl
        have A7 := AI_act A6 (by omega) fx8 (by omega) (fun _ => by unfold okA; omega)
        refine z_goto (M := M_X12_readThing) 57 dX12_readThing_57 87 rfl ?_
        exact z_retV (M := M_X12_readThing) 87 dX12_readThing_87 rfl ⟨G7, R7, md_ok (p := ((nxt (h0 113) (h0 108 8) (nxt (h0 113) (h0 108 8) (nxt (h0 113) (h0 108 8) (nxt (h0 113) (h0 108 8) (Qm h0))))), rU (vr h0) (42 + x3).toNat (-1))) (by unfold rdThing rdCut; rw [cif_pos (Wx3), cif_pos ((iw_c (rowz R2 (fun _ => rfl)) Qx3 (mw_5 Mx3 (g_108_9 G2).1)).mpr cx4), cif_pos ((iw_c (rowz R4 (fun _ => rfl)) Qx5 (mw_6 Mx5 (g_108_9 G4).1)).mpr cx6), ← Nx3]) ((S7 108 14 rfl).trans ((S6 108 14 rfl).trans ((S4 108 14 rfl).trans bx3))) M7_ A7 (by omega) Q7_ (V7.trans act1_k2) (((S7 108 13 rfl).trans ((S6 108 13 rfl).trans ((S4 108 13 rfl).trans (gx3.trans ((S1 108 13 rfl).trans ex1))))).trans ex1.symm), by omega, fun _ => by omega⟩
      · refine z_if_eq_T (M := M_X12_readThing) 41 dX12_readThing_41 60 rfl (by omega) ?_
        refine z_aload_n (M := M_X12_readThing) 60 dX12_readThing_60 rfl ?_
        refine z_aload_n (M := M_X12_readThing) 61 dX12_readThing_61 rfl ?_
        refine z_ldc2 (M := M_X12_readThing) 62 dX12_readThing_62 k_X12_280 ?_
        refine z_vI (M := M_X12_readThing) 65 dX12_readThing_65 t_X12_isWord l_X12_260 (m_rr_of rfl) (rest := [mR 108]) (c_X12_isWord h4 302 G4) o_108 rfl rfl rfl (Nat.le_of_ble_eq_true rfl) ⟨rfl, rfl⟩ (fun x9 h8 qx9 => ?_)
        obtain ⟨rfl, ⟨rfl, cx9⟩ | ⟨rfl, cx9⟩⟩ := qx9
        · refine z_vV (M := M_X12_readThing) 68 dX12_readThing_68 t_X12_must l_X12_247 (m_rr_of rfl) (rest := []) (c_X12_must_1 h4 1 G4 ⟨by omega, by omega⟩ ((S4 108 14 rfl).trans bx3) Mx5 (by omega)) o_108 rfl rfl rfl (Nat.le_of_ble_eq_true rfl) ⟨rfl, rfl⟩ (fun h9 qx10 => ?_)
          obtain ⟨G9, S9, Mx10, Kx10, Px10⟩ := qx10
          have R9 := R4.call S9 (by decide +kernel)
          have A9 := A4.fr S9 (fun _ => rfl) rfl rfl rfl rfl rfl
          have Qx10 : Qm h9 = (nxt (h0 113) (h0 108 8) (nxt (h0 113) (h0 108 8) (nxt (h0 113) (h0 108 8) (nxt (h0 113) (h0 108 8) (Qm h0))))) := nx_mm (rowz R4 (fun _ => rfl)) (R4 108 8 rfl) Qx5 Kx10
          have Lx10 : h4 108 9 < h4 108 10 := Mx5.lt (by omega)
          have na9 : h9 108 16 = h4 108 16 := S9 108 16 rfl
          have V9 : vr h9 = (vr h0) := (vr_S S9 (fun _ => rfl) rfl (fun _ => rfl)).trans V4
          refine z_aload_n (M := M_X12_readThing) 71 dX12_readThing_71 rfl ?_
          refine z_iconst (M := M_X12_readThing) 72 dX12_readThing_72 ?_
          refine z_iload_n (M := M_X12_readThing) 73 dX12_readThing_73 rfl ?_
          refine z_aload_n (M := M_X12_readThing) 74 dX12_readThing_74 rfl ?_
          refine z_lconst (M := M_X12_readThing) 75 dX12_readThing_75 (v := 1) ?_
          refine z_ldc2 (M := M_X12_readThing) 76 dX12_readThing_76 k_X12_154 ?_
          refine z_vI (M := M_X12_readThing) 79 dX12_readThing_79 t_X12_number l_X12_254 (m_rr_of rfl) (rest := [mI x3, mI 2, mR 108]) (c_X12_number_g h9 1 31 G9 ⟨by omega, by omega⟩ ⟨by omega, by omega⟩ ((S9 108 14 rfl).trans ((S4 108 14 rfl).trans bx3)) Mx10) o_108 rfl rfl rfl (Nat.le_of_ble_eq_true rfl) ⟨rfl, rfl⟩ (fun x11 h10 qx11 => ?_)
          obtain ⟨G10, S10, Dx11⟩ := qx11
          have R10 := R9.call S10 (by decide +kernel)
          have A10 := A9.fr S10 (fun _ => rfl) rfl rfl rfl rfl rfl
          rcases nm_c (rowz R9 (fun _ => rfl)) (R9 108 8 rfl) Qx10 Dx11 with ⟨Wx11, Nx11, bx11, Mx11, Qx11, Px11, Lx11, gx11⟩ | ⟨Wx11, bx11, fx11, Px11⟩
          · have na10 : h10 108 16 = h9 108 16 := S10 108 16 rfl
            have V10 : vr h10 = (vr h0) := (vr_S S10 (fun _ => rfl) rfl (fun _ => rfl)).trans V9
            have lx11 : 1 ≤ x11 ∧ x11 ≤ 31 := by rw [Nx11]; exact ⟨Wx11.2.2.1, Wx11.2.2.2⟩
            refine z_iconst (M := M_X12_readThing) 82 dX12_readThing_82 ?_
            refine z_iconst (M := M_X12_readThing) 83 dX12_readThing_83 ?_
            have gb10 := (g_108_9 G10).2
            have ga10 := (g_108_16 G10).1
            have hb10_ : h10 108 14 = 0 := bx11
            refine z_vV (M := M_X12_readThing) 84 dX12_readThing_84 t_X12_act l_X12_268 (m_rr_of rfl) (rest := []) (c_X12_act h10 2 x3 x11 0 0 G10 (Or.inr (by omega))) o_108 rfl rfl rfl (Nat.le_of_ble_eq_true rfl) ⟨rfl, rfl⟩ (fun h11 qx12 => ?_)
            obtain ⟨G11, S11, fx12⟩ := qx12
            have R11 := R10.call S11 (by decide +kernel)
            have na11 : h11 108 16 = h10 108 16 + 1 := (fx12.resolve_left (fun z => z.1 bx11)).2.1
            have V11 : vr h11 = act1 2 x3 x11 0 0 (vr h0) := (vr_act fx12 bx11 (g_108_16 G10).1 S11 (fun _ => rfl)).trans (congrArg (act1 2 x3 x11 0 0) V10)
            have M11_ := MTk.same Mx11 (rowz S11 (fun _ => rfl)) (fun j u v => S11 108 j (fr_j (by omega)))
            have Q11_ : Qm h11 = (nxt (h0 113) (h0 108 8) (nxt (h0 113) (h0 108 8) (nxt (h0 113) (h0 108 8) (nxt (h0 113) (h0 108 8) (nxt (h0 113) (h0 108 8) (Qm h0)))))) := (Qm_S S11 rfl rfl).trans Qx11
            have P11_ : h11 108 9 = h10 108 9 := S11 108 9 rfl
            have A11 := AI_act A10 (by omega) fx12 (by omega) (fun _ => by unfold okA; omega)
            exact z_retV (M := M_X12_readThing) 87 dX12_readThing_87 rfl ⟨G11, R11, md_ok (p := ((nxt (h0 113) (h0 108 8) (nxt (h0 113) (h0 108 8) (nxt (h0 113) (h0 108 8) (nxt (h0 113) (h0 108 8) (nxt (h0 113) (h0 108 8) (Qm h0)))))), rU (vr h0) (42 + x3).toNat x11)) (by unfold rdThing rdCut; rw [cif_pos (Wx3), cif_pos ((iw_c (rowz R2 (fun _ => rfl)) Qx3 (mw_5 Mx3 (g_108_9 G2).1)).mpr cx4), cif_neg (fun z => cx6 ((iw_c (rowz R4 (fun _ => rfl)) Qx5 (mw_6 Mx5 (g_108_9 G4).1)).mp z)), cif_pos ((iw_c (rowz R4 (fun _ => rfl)) Qx5 (mw_7 Mx5 (g_108_9 G4).1)).mpr cx9), cif_pos (Wx11), ← Nx3, ← Nx11]) ((S11 108 14 rfl).trans bx11) M11_ A11 (by omega) Q11_ (V11.trans act1_k2) (((S11 108 13 rfl).trans (gx11.trans ((S9 108 13 rfl).trans ((S4 108 13 rfl).trans (gx3.trans ((S1 108 13 rfl).trans ex1)))))).trans ex1.symm), by omega, fun _ => by omega⟩
          · have fpx11 : h10 108 13 = (nxt (h0 113) (h0 108 8) (nxt (h0 113) (h0 108 8) (nxt (h0 113) (h0 108 8) (nxt (h0 113) (h0 108 8) (Qm h0))))).1 := fx11.trans (fst_m Qx10)
            refine z_ok (fun ox11 _ _ => ?_)
            have ox11 := ox11.1; unfold m_ok m_32 at ox11
            refine z_iconst (M := M_X12_readThing) 82 dX12_readThing_82 ?_
            refine z_iconst (M := M_X12_readThing) 83 dX12_readThing_83 ?_
            refine z_vV (M := M_X12_readThing) 84 dX12_readThing_84 t_X12_act l_X12_268 (m_rr_of rfl) (rest := []) (c_X12_act_b h10 2 x3 x11 0 0 G10 bx11) o_108 rfl rfl rfl (Nat.le_of_ble_eq_true rfl) ⟨rfl, rfl⟩ (fun h12 qx13 => ?_)
            obtain ⟨G12, S12⟩ := qx13
            have R12 := R10.call S12 (by decide +kernel)
            have P12_ : h12 108 9 = h10 108 9 := S12 108 9 rfl
            have bb_ : h12 108 14 = 1 := ((S12 108 14 rfl).trans bx11)
            exact z_retV (M := M_X12_readThing) 87 dX12_readThing_87 rfl ⟨G12, R12, md_er (by unfold rdThing rdCut; rw [cif_pos (Wx3), cif_pos ((iw_c (rowz R2 (fun _ => rfl)) Qx3 (mw_5 Mx3 (g_108_9 G2).1)).mpr cx4), cif_neg (fun z => cx6 ((iw_c (rowz R4 (fun _ => rfl)) Qx5 (mw_6 Mx5 (g_108_9 G4).1)).mp z)), cif_pos ((iw_c (rowz R4 (fun _ => rfl)) Qx5 (mw_7 Mx5 (g_108_9 G4).1)).mpr cx9), cif_neg (Wx11)]) ((S12 108 14 rfl).trans bx11) ((S12 108 13 rfl).trans fpx11), by omega, fun _ => by omega⟩
        · refine z_vV (M := M_X12_readThing) 68 dX12_readThing_68 t_X12_must l_X12_247 (m_rr_of rfl) (rest := []) (c_X12_must_0 h4 0 G4 ⟨by omega, by omega⟩ ((S4 108 14 rfl).trans bx3)) o_108 rfl rfl rfl (Nat.le_of_ble_eq_true rfl) ⟨rfl, rfl⟩ (fun h13 qx14 => ?_)
          obtain ⟨G13, S13, bx14, fx14⟩ := qx14
          have R13 := R4.call S13 (by decide +kernel)
          have A13 := A4.fr S13 (fun _ => rfl) rfl rfl rfl rfl rfl
          have Px14 : h13 108 9 = h4 108 9 := S13 108 9 rfl
          have fpx14 : h13 108 13 = (nxt (h0 113) (h0 108 8) (nxt (h0 113) (h0 108 8) (nxt (h0 113) (h0 108 8) (Qm h0)))).1 := fx14.trans (fst_m Qx5)
          refine z_aload_n (M := M_X12_readThing) 71 dX12_readThing_71 rfl ?_
          refine z_iconst (M := M_X12_readThing) 72 dX12_readThing_72 ?_
          refine z_iload_n (M := M_X12_readThing) 73 dX12_readThing_73 rfl ?_
          refine z_aload_n (M := M_X12_readThing) 74 dX12_readThing_74 rfl ?_
          refine z_lconst (M := M_X12_readThing) 75 dX12_readThing_75 (v := 1) ?_
          refine z_ldc2 (M := M_X12_readThing) 76 dX12_readThing_76 k_X12_154 ?_
          refine z_vI (M := M_X12_readThing) 79 dX12_readThing_79 t_X12_number l_X12_254 (m_rr_of rfl) (rest := [mI x3, mI 2, mR 108]) (c_X12_number_b h13 1 31 G13 ⟨by omega, by omega⟩ ⟨by omega, by omega⟩ bx14) o_108 rfl rfl rfl (Nat.le_of_ble_eq_true rfl) ⟨rfl, rfl⟩ (fun x15 h14 qx15 => ?_)
          obtain ⟨G14, S14⟩ := qx15
          have R14 := R13.call S14 (by decide +kernel)
          refine z_ok (fun ox15 _ _ => ?_)
          have ox15 := ox15.1; unfold m_ok m_32 at ox15
          have P14_ : h14 108 9 = h13 108 9 := S14 108 9 rfl
          refine z_iconst (M := M_X12_readThing) 82 dX12_readThing_82 ?_
          refine z_iconst (M := M_X12_readThing) 83 dX12_readThing_83 ?_
          refine z_vV (M := M_X12_readThing) 84 dX12_readThing_84 t_X12_act l_X12_268 (m_rr_of rfl) (rest := []) (c_X12_act_b h14 2 x3 x15 0 0 G14 ((S14 108 14 rfl).trans bx14)) o_108 rfl rfl rfl (Nat.le_of_ble_eq_true rfl) ⟨rfl, rfl⟩ (fun h15 qx16 => ?_)
          obtain ⟨G15, S15⟩ := qx16
          have R15 := R14.call S15 (by decide +kernel)
          have P15_ : h15 108 9 = h14 108 9 := S15 108 9 rfl
          have bb_ : h15 108 14 = 1 := ((S15 108 14 rfl).trans ((S14 108 14 rfl).trans bx14))
          exact z_retV (M := M_X12_readThing) 87 dX12_readThing_87 rfl ⟨G15, R15, md_er (by unfold rdThing rdCut; rw [cif_pos (Wx3), cif_pos ((iw_c (rowz R2 (fun _ => rfl)) Qx3 (mw_5 Mx3 (g_108_9 G2).1)).mpr cx4), cif_neg (fun z => cx6 ((iw_c (rowz R4 (fun _ => rfl)) Qx5 (mw_6 Mx5 (g_108_9 G4).1)).mp z)), cif_neg (fun z => cx9 ((iw_c (rowz R4 (fun _ => rfl)) Qx5 (mw_7 Mx5 (g_108_9 G4).1)).mp z))]) ((S15 108 14 rfl).trans ((S14 108 14 rfl).trans bx14)) ((S15 108 13 rfl).trans ((S14 108 13 rfl).trans fpx14)), by omega, fun _ => by omega⟩
    · refine z_if_eq_T (M := M_X12_readThing) 27 dX12_readThing_27 88 rfl (by omega) ?_
      refine z_aload_n (M := M_X12_readThing) 88 dX12_readThing_88 rfl ?_
      refine z_iload_n (M := M_X12_readThing) 89 dX12_readThing_89 rfl ?_
      have nn2 : 2 * h2 108 16 ≤ h2 108 9 := by omega
      refine z_vV (M := M_X12_readThing) 90 dX12_readThing_90 t_X12_readMeasure l_X12_297 (m_rr_of rfl) (rest := []) (c_X12_readMeasure2 h2 x3 G2 ⟨by omega, by omega⟩ bx3 Mx3 A2 nn2) o_108 rfl rfl rfl (Nat.le_of_ble_eq_true rfl) ⟨rfl, rfl⟩ (fun h16 qx17 => ?_)
      obtain ⟨G16, S16, Kx17, Jx17, Ix17⟩ := qx17
      have R16 := R2.call S16 (by decide +kernel)
      rcases md_cs (md_c (F := fun b n q r => rdMeas b n q r x3) (rowz R2 (fun _ => rfl)) (R2 108 8 rfl) Qx3 V2 Kx17) with ⟨px17, Zx17, bx17, Mx17, Ax17, Px17_, Qx17, Vx17, flx17⟩ | ⟨ex17, Zx17, bx17, fx17⟩
      · have Ix17_ := Ix17 bx17
        obtain ⟨x18, ex18⟩ : ∃ y : Int, h16 108 9 = y := ⟨_, rfl⟩
        have bx18 : 0 ≤ x18 ∧ x18 ≤ 400 := ex18 ▸ g_108_9 G16
        have bb_ : h16 108 14 = 0 := bx17
        have gf_ := (g_108_9 G16).2
        have v00_ := vr_01 A0
        have b00_ : 0 ≤ h0 110 0 := (gw_0 G0).1
        have b17_ := (g_108_17 G0).1
        exact z_mask [true, true] rfl (ih x3 x18 0 h16 G16 R16 (by omega) (by omega) (by omega) (by omega) ex18 bx17 (fun q => by omega) (fun _ => ⟨px17, 24, Mx17, Ax17, (by omega), Qx17, Vx17, (by unfold rdThing; rw [cif_pos (Wx3), cif_neg (fun z => cx4 ((iw_c (rowz R2 (fun _ => rfl)) Qx3 (mw_5 Mx3 (g_108_9 G2).1)).mp z)), ← Nx3]; exact ms_un Zx17), (by have := rdMeas_0 Zx17; omega)⟩) (fun _ => by omega) (by omega) (fun _ => by omega) (fun _ => ((flx17.trans (gx3.trans ((S1 108 13 rfl).trans ex1))).trans ex1.symm)) (by omega))
      · obtain ⟨x19, ex19⟩ : ∃ y : Int, h16 108 9 = y := ⟨_, rfl⟩
        have bx19 : 0 ≤ x19 ∧ x19 ≤ 400 := ex19 ▸ g_108_9 G16
        have bb_ : h16 108 14 = 1 := bx17
        have gf_ := (g_108_9 G16).2
        exact z_mask [true, true] rfl (ih x3 x19 1 h16 G16 R16 (by omega) (by omega) (by omega) (by omega) ex19 bx17 (fun _ => er_e (by unfold rdThing; rw [cif_pos (Wx3), cif_neg (fun z => cx4 ((iw_c (rowz R2 (fun _ => rfl)) Qx3 (mw_5 Mx3 (g_108_9 G2).1)).mp z)), ← Nx3]; exact ms_er Zx17) fx17) (fun q => by omega) (fun q => by omega) (by omega) (fun q => by omega) (fun q => by omega) (by omega))
  · have fpx3 : h2 108 13 = (nxt (h0 113) (h0 108 8) (Qm h0)).1 := fx3.trans (fst_m Qx2)
    refine z_ok (fun ox3 _ _ => ?_)
    have ox3 := ox3.1; unfold m_ok m_32 at ox3
    refine z_istore_n (M := M_X12_readThing) 12 dX12_readThing_12 (ls' := [some (mR 108), some (mI x3)]) (by decide) rfl ?_
    refine z_aload_n (M := M_X12_readThing) 13 dX12_readThing_13 rfl ?_
    refine z_getIE (M := M_X12_readThing) 14 dX12_readThing_14 f_X12_214 o_108 (by decide) bx3 ?_
    refine z_if_ne_T (M := M_X12_readThing) 17 dX12_readThing_17 88 rfl (by omega) ?_
    refine z_aload_n (M := M_X12_readThing) 88 dX12_readThing_88 rfl ?_
    refine z_iload_n (M := M_X12_readThing) 89 dX12_readThing_89 rfl ?_
    refine z_vV (M := M_X12_readThing) 90 dX12_readThing_90 t_X12_readMeasure l_X12_297 (m_rr_of rfl) (rest := []) (c_X12_readMeasure_b h2 x3 G2 bx3) o_108 rfl rfl rfl (Nat.le_of_ble_eq_true rfl) ⟨rfl, rfl⟩ (fun h17 qx20 => ?_)
    obtain ⟨G17, S17⟩ := qx20
    have R17 := R2.call S17 (by decide +kernel)
    have P17_ : h17 108 9 = h2 108 9 := S17 108 9 rfl
    obtain ⟨x21, ex21⟩ : ∃ y : Int, h17 108 9 = y := ⟨_, rfl⟩
    have bx21 : 0 ≤ x21 ∧ x21 ≤ 400 := ex21 ▸ g_108_9 G17
    have bb_ : h17 108 14 = 1 := ((S17 108 14 rfl).trans bx3)
    have gf_ := (g_108_9 G17).2
    exact z_mask [true, true] rfl (ih x3 x21 1 h17 G17 R17 (by omega) (by omega) (by omega) (by omega) ex21 ((S17 108 14 rfl).trans bx3) (fun _ => er_e (by unfold rdThing; rw [cif_neg (Wx3)]) ((S17 108 13 rfl).trans fpx3)) (fun q => by omega) (fun q => by omega) (by omega) (fun q => by omega) (fun q => by omega) (by omega))
theorem w_13 {b : Nat → Int} {q : Int × Int} (w : isW b q 13) : ¬ isW b q 4 := fun z => by
  have a := w.1.symm.trans z.1
  have e1 : slen 13 = 6 := by decide +kernel
  have e2 : slen 4 = 5 := by decide +kernel
  omega
abbrev P_X12_readClause2 (h0 : m_H) : m_H → Prop := fun h' => GI h' ∧ FR [114] [(108, 9), (108, 10), (108, 11), (108, 12), (108, 13), (108, 14), (108, 16), (108, 17), (108, 18)] h0 h' ∧ mdQ (rdCl (h0 113) (h0 108 8) (Qm h0) (vr h0)) h0 h' ∧ h0 108 9 ≤ h' 108 9 ∧ (h' 108 14 = 0 → h0 108 9 + 1 ≤ h' 108 9)
set_option maxHeartbeats 4000000 in
set_option maxRecDepth 100000 in
theorem c_X12_readClause2 (h0 : m_H) (G0 : GI h0) (hb : h0 108 14 = 0) (M0 : MTk h0) (A0 : AI h0) (N0 : 2 * h0 108 16 ≤ h0 108 9) : m_CV M_X12_readClause [mR 108] h0 (P_X12_readClause2 h0) := by
  refine m_CV_of ⟨by decide, rfl, by simp [m_arg, m_isL, M_X12_readClause], ⟨rfl, rfl⟩, rfl, rfl⟩ (ls := [some (mR 108)]) rfl ?_
  obtain ⟨x1, ex1⟩ : ∃ y : Int, h0 108 13 = y := ⟨_, rfl⟩
  refine z_aload_n (M := M_X12_readClause) 0 dX12_readClause_0 rfl ?_
  refine z_ldc2 (M := M_X12_readClause) 1 dX12_readClause_1 k_X12_303 ?_
  refine z_vI (M := M_X12_readClause) 4 dX12_readClause_4 t_X12_isWord l_X12_260 (m_rr_of rfl) (rest := []) (c_X12_isWord h0 758955 G0) o_108 rfl rfl rfl (Nat.le_of_ble_eq_true rfl) ⟨rfl, rfl⟩ (fun x2 h1 qx2 => ?_)
  obtain ⟨rfl, ⟨rfl, cx2⟩ | ⟨rfl, cx2⟩⟩ := qx2
  · refine z_if_eq_F (M := M_X12_readClause) 7 dX12_readClause_7 17 rfl (by omega) ?_
    refine z_aload_n (M := M_X12_readClause) 10 dX12_readClause_10 rfl ?_
    have nn0 : 2 * h0 108 16 ≤ h0 108 9 := by omega
    refine z_vV (M := M_X12_readClause) 11 dX12_readClause_11 t_X12_readWeeks l_X12_305 (m_rr_of rfl) (rest := []) (c_X12_readWeeks2 h0 G0 hb M0 A0 nn0 (by omega)) o_108 rfl rfl rfl (Nat.le_of_ble_eq_true rfl) ⟨rfl, rfl⟩ (fun h2 qx3 => ?_)
    obtain ⟨G2, S2, Kx3, Jx3, Ix3⟩ := qx3
    have R2 := (FR.rf (cs := [114]) (ss := [(108, 9), (108, 10), (108, 11), (108, 12), (108, 13), (108, 14), (108, 16), (108, 17), (108, 18)]) (h := h0)).call S2 (by decide +kernel)
    rcases md_cs (md_c (F := fun b n q r => rdWeeks b n (nxt b n q) r) (rowz (FR.rf (cs := [114]) (ss := [(108, 9), (108, 10), (108, 11), (108, 12), (108, 13), (108, 14), (108, 16), (108, 17), (108, 18)]) (h := h0)) (fun _ => rfl)) ((FR.rf (cs := [114]) (ss := [(108, 9), (108, 10), (108, 11), (108, 12), (108, 13), (108, 14), (108, 16), (108, 17), (108, 18)]) (h := h0)) 108 8 rfl) rfl rfl Kx3) with ⟨px3, Zx3, bx3, Mx3, Ax3, Px3_, Qx3, Vx3, flx3⟩ | ⟨ex3, Zx3, bx3, fx3⟩
    · have Ix3_ := Ix3 bx3
      refine z_goto (M := M_X12_readClause) 14 dX12_readClause_14 56 rfl ?_
      have bb_ : h2 108 14 = 0 := bx3
      exact z_retV (M := M_X12_readClause) 56 dX12_readClause_56 rfl ⟨G2, R2, md_ok (by unfold rdCl; rw [cif_pos ((iw_c (rowz (FR.rf (cs := [114]) (ss := [(108, 9), (108, 10), (108, 11), (108, 12), (108, 13), (108, 14), (108, 16), (108, 17), (108, 18)]) (h := h0)) (fun _ => rfl)) rfl (mw_0 M0 (g_108_9 G0).1)).mpr cx2)]; exact Zx3) bx3 Mx3 Ax3 (by omega) Qx3 Vx3 ((flx3.trans ex1).trans ex1.symm), by omega, fun _ => by omega⟩
    · refine z_goto (M := M_X12_readClause) 14 dX12_readClause_14 56 rfl ?_
      have bb_ : h2 108 14 = 1 := bx3
      exact z_retV (M := M_X12_readClause) 56 dX12_readClause_56 rfl ⟨G2, R2, md_er (by unfold rdCl; rw [cif_pos ((iw_c (rowz (FR.rf (cs := [114]) (ss := [(108, 9), (108, 10), (108, 11), (108, 12), (108, 13), (108, 14), (108, 16), (108, 17), (108, 18)]) (h := h0)) (fun _ => rfl)) rfl (mw_0 M0 (g_108_9 G0).1)).mpr cx2)]; exact Zx3) bx3 fx3, by omega, fun _ => by omega⟩
  · refine z_if_eq_T (M := M_X12_readClause) 7 dX12_readClause_7 17 rfl (by omega) ?_
    refine z_aload_n (M := M_X12_readClause) 17 dX12_readClause_17 rfl ?_
    refine z_ldc2 (M := M_X12_readClause) 18 dX12_readClause_18 k_X12_308 ?_
    refine z_vI (M := M_X12_readClause) 21 dX12_readClause_21 t_X12_isWord l_X12_260 (m_rr_of rfl) (rest := []) (c_X12_isWord h0 374522034 G0) o_108 rfl rfl rfl (Nat.le_of_ble_eq_true rfl) ⟨rfl, rfl⟩ (fun x4 h3 qx4 => ?_)
    obtain ⟨rfl, ⟨rfl, cx4⟩ | ⟨rfl, cx4⟩⟩ := qx4
    · refine z_if_eq_F (M := M_X12_readClause) 24 dX12_readClause_24 34 rfl (by omega) ?_
      refine z_aload_n (M := M_X12_readClause) 27 dX12_readClause_27 rfl ?_
      have nn0 : 2 * h0 108 16 ≤ h0 108 9 := by omega
      refine z_vV (M := M_X12_readClause) 28 dX12_readClause_28 t_X12_readShorter l_X12_310 (m_rr_of rfl) (rest := []) (c_X12_readShorter2 h0 G0 hb M0 A0 nn0 (by omega)) o_108 rfl rfl rfl (Nat.le_of_ble_eq_true rfl) ⟨rfl, rfl⟩ (fun h4 qx5 => ?_)
      obtain ⟨G4, S4, Kx5, Jx5, Ix5⟩ := qx5
      have R4 := (FR.rf (cs := [114]) (ss := [(108, 9), (108, 10), (108, 11), (108, 12), (108, 13), (108, 14), (108, 16), (108, 17), (108, 18)]) (h := h0)).call S4 (by decide +kernel)
      rcases md_cs (md_c (F := fun b n q r => rdShort b n q.1 (nxt b n q) r) (rowz (FR.rf (cs := [114]) (ss := [(108, 9), (108, 10), (108, 11), (108, 12), (108, 13), (108, 14), (108, 16), (108, 17), (108, 18)]) (h := h0)) (fun _ => rfl)) ((FR.rf (cs := [114]) (ss := [(108, 9), (108, 10), (108, 11), (108, 12), (108, 13), (108, 14), (108, 16), (108, 17), (108, 18)]) (h := h0)) 108 8 rfl) rfl rfl Kx5) with ⟨px5, Zx5, bx5, Mx5, Ax5, Px5_, Qx5, Vx5, flx5⟩ | ⟨ex5, Zx5, bx5, fx5⟩
      · have Ix5_ := Ix5 bx5
        refine z_goto (M := M_X12_readClause) 31 dX12_readClause_31 56 rfl ?_
        have bb_ : h4 108 14 = 0 := bx5
        exact z_retV (M := M_X12_readClause) 56 dX12_readClause_56 rfl ⟨G4, R4, md_ok (by unfold rdCl; rw [cif_neg (fun z => cx2 ((iw_c (rowz (FR.rf (cs := [114]) (ss := [(108, 9), (108, 10), (108, 11), (108, 12), (108, 13), (108, 14), (108, 16), (108, 17), (108, 18)]) (h := h0)) (fun _ => rfl)) rfl (mw_0 M0 (g_108_9 G0).1)).mp z)), cif_neg (w_13 ((iw_c (rowz (FR.rf (cs := [114]) (ss := [(108, 9), (108, 10), (108, 11), (108, 12), (108, 13), (108, 14), (108, 16), (108, 17), (108, 18)]) (h := h0)) (fun _ => rfl)) rfl (mw_13 M0 (g_108_9 G0).1)).mpr cx4)), cif_pos ((iw_c (rowz (FR.rf (cs := [114]) (ss := [(108, 9), (108, 10), (108, 11), (108, 12), (108, 13), (108, 14), (108, 16), (108, 17), (108, 18)]) (h := h0)) (fun _ => rfl)) rfl (mw_13 M0 (g_108_9 G0).1)).mpr cx4)]; exact Zx5) bx5 Mx5 Ax5 (by omega) Qx5 Vx5 ((flx5.trans ex1).trans ex1.symm), by omega, fun _ => by omega⟩
      · refine z_goto (M := M_X12_readClause) 31 dX12_readClause_31 56 rfl ?_
        have bb_ : h4 108 14 = 1 := bx5
        exact z_retV (M := M_X12_readClause) 56 dX12_readClause_56 rfl ⟨G4, R4, md_er (by unfold rdCl; rw [cif_neg (fun z => cx2 ((iw_c (rowz (FR.rf (cs := [114]) (ss := [(108, 9), (108, 10), (108, 11), (108, 12), (108, 13), (108, 14), (108, 16), (108, 17), (108, 18)]) (h := h0)) (fun _ => rfl)) rfl (mw_0 M0 (g_108_9 G0).1)).mp z)), cif_neg (w_13 ((iw_c (rowz (FR.rf (cs := [114]) (ss := [(108, 9), (108, 10), (108, 11), (108, 12), (108, 13), (108, 14), (108, 16), (108, 17), (108, 18)]) (h := h0)) (fun _ => rfl)) rfl (mw_13 M0 (g_108_9 G0).1)).mpr cx4)), cif_pos ((iw_c (rowz (FR.rf (cs := [114]) (ss := [(108, 9), (108, 10), (108, 11), (108, 12), (108, 13), (108, 14), (108, 16), (108, 17), (108, 18)]) (h := h0)) (fun _ => rfl)) rfl (mw_13 M0 (g_108_9 G0).1)).mpr cx4)]; exact Zx5) bx5 fx5, by omega, fun _ => by omega⟩
    · refine z_if_eq_T (M := M_X12_readClause) 24 dX12_readClause_24 34 rfl (by omega) ?_
      refine z_aload_n (M := M_X12_readClause) 34 dX12_readClause_34 rfl ?_
      refine z_ldc2 (M := M_X12_readClause) 35 dX12_readClause_35 k_X12_313 ?_
      refine z_vI (M := M_X12_readClause) 38 dX12_readClause_38 t_X12_isWord l_X12_260 (m_rr_of rfl) (rest := []) (c_X12_isWord h0 21243335 G0) o_108 rfl rfl rfl (Nat.le_of_ble_eq_true rfl) ⟨rfl, rfl⟩ (fun x6 h5 qx6 => ?_)
      obtain ⟨rfl, ⟨rfl, cx6⟩ | ⟨rfl, cx6⟩⟩ := qx6
      · refine z_if_eq_F (M := M_X12_readClause) 41 dX12_readClause_41 51 rfl (by omega) ?_
        refine z_aload_n (M := M_X12_readClause) 44 dX12_readClause_44 rfl ?_
        have nn0 : 2 * h0 108 16 ≤ h0 108 9 := by omega
        refine z_vV (M := M_X12_readClause) 45 dX12_readClause_45 t_X12_readThing l_X12_315 (m_rr_of rfl) (rest := []) (c_X12_readThing2 h0 G0 hb M0 A0 nn0 (by omega)) o_108 rfl rfl rfl (Nat.le_of_ble_eq_true rfl) ⟨rfl, rfl⟩ (fun h6 qx7 => ?_)
        obtain ⟨G6, S6, Kx7, Jx7, Ix7⟩ := qx7
        have R6 := (FR.rf (cs := [114]) (ss := [(108, 9), (108, 10), (108, 11), (108, 12), (108, 13), (108, 14), (108, 16), (108, 17), (108, 18)]) (h := h0)).call S6 (by decide +kernel)
        rcases md_cs (md_c (F := fun b n q r => rdThing b n (nxt b n q) r) (rowz (FR.rf (cs := [114]) (ss := [(108, 9), (108, 10), (108, 11), (108, 12), (108, 13), (108, 14), (108, 16), (108, 17), (108, 18)]) (h := h0)) (fun _ => rfl)) ((FR.rf (cs := [114]) (ss := [(108, 9), (108, 10), (108, 11), (108, 12), (108, 13), (108, 14), (108, 16), (108, 17), (108, 18)]) (h := h0)) 108 8 rfl) rfl rfl Kx7) with ⟨px7, Zx7, bx7, Mx7, Ax7, Px7_, Qx7, Vx7, flx7⟩ | ⟨ex7, Zx7, bx7, fx7⟩
        · have Ix7_ := Ix7 bx7
          refine z_goto (M := M_X12_readClause) 48 dX12_readClause_48 56 rfl ?_
          have bb_ : h6 108 14 = 0 := bx7
          exact z_retV (M := M_X12_readClause) 56 dX12_readClause_56 rfl ⟨G6, R6, md_ok (by unfold rdCl; rw [cif_neg (fun z => cx2 ((iw_c (rowz (FR.rf (cs := [114]) (ss := [(108, 9), (108, 10), (108, 11), (108, 12), (108, 13), (108, 14), (108, 16), (108, 17), (108, 18)]) (h := h0)) (fun _ => rfl)) rfl (mw_0 M0 (g_108_9 G0).1)).mp z)), cif_pos ((iw_c (rowz (FR.rf (cs := [114]) (ss := [(108, 9), (108, 10), (108, 11), (108, 12), (108, 13), (108, 14), (108, 16), (108, 17), (108, 18)]) (h := h0)) (fun _ => rfl)) rfl (mw_4 M0 (g_108_9 G0).1)).mpr cx6)]; exact Zx7) bx7 Mx7 Ax7 (by omega) Qx7 Vx7 ((flx7.trans ex1).trans ex1.symm), by omega, fun _ => by omega⟩
        · refine z_goto (M := M_X12_readClause) 48 dX12_readClause_48 56 rfl ?_
          have bb_ : h6 108 14 = 1 := bx7
          exact z_retV (M := M_X12_readClause) 56 dX12_readClause_56 rfl ⟨G6, R6, md_er (by unfold rdCl; rw [cif_neg (fun z => cx2 ((iw_c (rowz (FR.rf (cs := [114]) (ss := [(108, 9), (108, 10), (108, 11), (108, 12), (108, 13), (108, 14), (108, 16), (108, 17), (108, 18)]) (h := h0)) (fun _ => rfl)) rfl (mw_0 M0 (g_108_9 G0).1)).mp z)), cif_pos ((iw_c (rowz (FR.rf (cs := [114]) (ss := [(108, 9), (108, 10), (108, 11), (108, 12), (108, 13), (108, 14), (108, 16), (108, 17), (108, 18)]) (h := h0)) (fun _ => rfl)) rfl (mw_4 M0 (g_108_9 G0).1)).mpr cx6)]; exact Zx7) bx7 fx7, by omega, fun _ => by omega⟩
      · refine z_if_eq_T (M := M_X12_readClause) 41 dX12_readClause_41 51 rfl (by omega) ?_
        refine z_aload_n (M := M_X12_readClause) 51 dX12_readClause_51 rfl ?_
        refine z_iconst (M := M_X12_readClause) 52 dX12_readClause_52 ?_
        refine z_vV (M := M_X12_readClause) 53 dX12_readClause_53 t_X12_must l_X12_247 (m_rr_of rfl) (rest := []) (c_X12_must_0 h0 0 G0 ⟨by omega, by omega⟩ hb) o_108 rfl rfl rfl (Nat.le_of_ble_eq_true rfl) ⟨rfl, rfl⟩ (fun h7 qx8 => ?_)
        obtain ⟨G7, S7, bx8, fx8⟩ := qx8
        have R7 := (FR.rf (cs := [114]) (ss := [(108, 9), (108, 10), (108, 11), (108, 12), (108, 13), (108, 14), (108, 16), (108, 17), (108, 18)]) (h := h0)).call S7 (by decide +kernel)
        have A7 := A0.fr S7 (fun _ => rfl) rfl rfl rfl rfl rfl
        have Px8 : h7 108 9 = h0 108 9 := S7 108 9 rfl
        have fpx8 : h7 108 13 = (Qm h0).1 := fx8.trans (fst_m rfl)
        have bb_ : h7 108 14 = 1 := bx8
        exact z_retV (M := M_X12_readClause) 56 dX12_readClause_56 rfl ⟨G7, R7, md_er (by unfold rdCl; rw [cif_neg (fun z => cx2 ((iw_c (rowz (FR.rf (cs := [114]) (ss := [(108, 9), (108, 10), (108, 11), (108, 12), (108, 13), (108, 14), (108, 16), (108, 17), (108, 18)]) (h := h0)) (fun _ => rfl)) rfl (mw_0 M0 (g_108_9 G0).1)).mp z)), cif_neg (fun z => cx6 ((iw_c (rowz (FR.rf (cs := [114]) (ss := [(108, 9), (108, 10), (108, 11), (108, 12), (108, 13), (108, 14), (108, 16), (108, 17), (108, 18)]) (h := h0)) (fun _ => rfl)) rfl (mw_4 M0 (g_108_9 G0).1)).mp z)), cif_neg (fun z => cx4 ((iw_c (rowz (FR.rf (cs := [114]) (ss := [(108, 9), (108, 10), (108, 11), (108, 12), (108, 13), (108, 14), (108, 16), (108, 17), (108, 18)]) (h := h0)) (fun _ => rfl)) rfl (mw_13 M0 (g_108_9 G0).1)).mp z))]) bx8 fpx8, by omega, fun _ => by omega⟩
