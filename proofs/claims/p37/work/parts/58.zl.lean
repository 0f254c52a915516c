abbrev P_X12_readWeeks2 (h0 : m_H) : m_H → Prop := fun h' => GI h' ∧ FR [114] [(108, 9), (108, 10), (108, 11), (108, 12), (108, 13), (108, 14), (108, 16)] h0 h' ∧ mdQ (rdWeeks (h0 113) (h0 108 8) (nxt (h0 113) (h0 108 8) (Qm h0)) (vr h0)) h0 h' ∧ h0 108 9 ≤ h' 108 9 ∧ (h' 108 14 = 0 → h0 108 9 + 1 ≤ h' 108 9)
set_option maxHeartbeats 4000000 in
set_option maxRecDepth 100000 in
theorem c_X12_readWeeks2 (h0 : m_H) (G0 : GI h0) (hb : h0 108 14 = 0) (M0 : MTk h0) (A0 : AI h0) (N0 : 2 * h0 108 16 ≤ h0 108 9) (hs : h0 108 11 ≠ 0) : m_CV M_X12_readWeeks [mR 108] h0 (P_X12_readWeeks2 h0) := by
  refine m_CV_of ⟨by decide, rfl, by simp [m_arg, m_isL, M_X12_readWeeks], ⟨rfl, rfl⟩, rfl, rfl⟩ (ls := [some (mR 108), none, none]) rfl ?_
  obtain ⟨x1, ex1⟩ : ∃ y : Int, h0 108 13 = y := ⟨_, rfl⟩
  refine z_aload_n (M := M_X12_readWeeks) 0 dX12_readWeeks_0 rfl ?_
  refine z_vV (M := M_X12_readWeeks) 1 dX12_readWeeks_1 t_X12_next l_X12_218 (m_rr_of rfl) (rest := []) (c_X12_next2 h0 G0 M0.2.2.2) o_108 rfl rfl rfl (Nat.le_of_ble_eq_true rfl) ⟨rfl, rfl⟩ (fun h1 qx2 => ?_)
  obtain ⟨G1, S1, Tx2, Mx2⟩ := qx2
  have R1 := (FR.rf (cs := [114]) (ss := [(108, 9), (108, 10), (108, 11), (108, 12), (108, 13), (108, 14), (108, 16)]) (h := h0)).call S1 (by decide +kernel)
  have A1 := A0.fr S1 (fun _ => rfl) rfl rfl rfl rfl rfl
  have Qx2 : Qm h1 = (nxt (h0 113) (h0 108 8) (Qm h0)) := nx_m (rowz (FR.rf (cs := [114]) (ss := [(108, 9), (108, 10), (108, 11), (108, 12), (108, 13), (108, 14), (108, 16)]) (h := h0)) (fun _ => rfl)) ((FR.rf (cs := [114]) (ss := [(108, 9), (108, 10), (108, 11), (108, 12), (108, 13), (108, 14), (108, 16)]) (h := h0)) 108 8 rfl) rfl (g_108_10 G0).1 Tx2
  have Px2 : h0 108 10 ≤ h1 108 9 := Tx2.1.1
  have Lx2 : h0 108 9 < h0 108 10 := M0.lt (by omega)
  have na1 : h1 108 16 = h0 108 16 := S1 108 16 rfl
  have V1 : vr h1 = (vr h0) := (vr_S S1 (fun _ => rfl) rfl (fun _ => rfl)).trans rfl
  refine z_aload_n (M := M_X12_readWeeks) 4 dX12_readWeeks_4 rfl ?_
  refine z_lconst (M := M_X12_readWeeks) 5 dX12_readWeeks_5 (v := 0) ?_
  refine z_ldc2 (M := M_X12_readWeeks) 6 dX12_readWeeks_6 k_X12_154 ?_
  refine z_vI (M := M_X12_readWeeks) 9 dX12_readWeeks_9 t_X12_number l_X12_254 (m_rr_of rfl) (rest := []) (c_X12_number_g h1 0 31 G1 ⟨by omega, by omega⟩ ⟨by omega, by omega⟩ ((S1 108 14 rfl).trans hb) Mx2) o_108 rfl rfl rfl (Nat.le_of_ble_eq_true rfl) ⟨rfl, rfl⟩ (fun x3 h2 qx3 => ?_)
  obtain ⟨G2, S2, Dx3⟩ := qx3
  have R2 := R1.call S2 (by decide +kernel)
  have A2 := A1.fr S2 (fun _ => rfl) rfl rfl rfl rfl rfl
  rcases nm_c (rowz R1 (fun _ => rfl)) (R1 108 8 rfl) Qx2 Dx3 with ⟨Wx3, Nx3, bx3, Mx3, Qx3, Px3, Lx3, gx3⟩ | ⟨Wx3, bx3, fx3, Px3⟩
  · have na2 : h2 108 16 = h1 108 16 := S2 108 16 rfl
    have V2 : vr h2 = (vr h0) := (vr_S S2 (fun _ => rfl) rfl (fun _ => rfl)).trans V1
    have lx3 : 0 ≤ x3 ∧ x3 ≤ 31 := by rw [Nx3]; exact ⟨Wx3.2.2.1, Wx3.2.2.2⟩
    refine z_istore_n (M := M_X12_readWeeks) 12 dX12_readWeeks_12 (ls' := [some (mR 108), some (mI x3), none]) (by decide) rfl ?_
    refine z_iload_n (M := M_X12_readWeeks) 13 dX12_readWeeks_13 rfl ?_
    refine z_istore_n (M := M_X12_readWeeks) 14 dX12_readWeeks_14 (ls' := [some (mR 108), some (mI x3), some (mI x3)]) (by decide) rfl ?_
    refine z_aload_n (M := M_X12_readWeeks) 15 dX12_readWeeks_15 rfl ?_
    refine z_getIE (M := M_X12_readWeeks) 16 dX12_readWeeks_16 f_X12_214 o_108 (by decide) bx3 ?_
    refine z_if_ne_F (M := M_X12_readWeeks) 19 dX12_readWeeks_19 46 rfl (by omega) ?_
    refine z_aload_n (M := M_X12_readWeeks) 22 dX12_readWeeks_22 rfl ?_
    refine z_ldc2 (M := M_X12_readWeeks) 23 dX12_readWeeks_23 k_X12_258 ?_
    refine z_vI (M := M_X12_readWeeks) 26 dX12_readWeeks_26 t_X12_isWord l_X12_260 (m_rr_of rfl) (rest := []) (c_X12_isWord h2 655 G2) o_108 rfl rfl rfl (Nat.le_of_ble_eq_true rfl) ⟨rfl, rfl⟩ (fun x4 h3 qx4 => ?_)
    obtain ⟨rfl, ⟨rfl, cx4⟩ | ⟨rfl, cx4⟩⟩ := qx4
    · refine z_if_eq_F (M := M_X12_readWeeks) 29 dX12_readWeeks_29 46 rfl (by omega) ?_
      refine z_aload_n (M := M_X12_readWeeks) 32 dX12_readWeeks_32 rfl ?_
      refine z_vV (M := M_X12_readWeeks) 33 dX12_readWeeks_33 t_X12_next l_X12_218 (m_rr_of rfl) (rest := []) (c_X12_next2 h2 G2 Mx3.2.2.2) o_108 rfl rfl rfl (Nat.le_of_ble_eq_true rfl) ⟨rfl, rfl⟩ (fun h4 qx5 => ?_)
      obtain ⟨G4, S4, Tx5, Mx5⟩ := qx5
      have R4 := R2.call S4 (by decide +kernel)
      have A4 := A2.fr S4 (fun _ => rfl) rfl rfl rfl rfl rfl
      have Qx5 : Qm h4 = (nxt (h0 113) (h0 108 8) (nxt (h0 113) (h0 108 8) (nxt (h0 113) (h0 108 8) (Qm h0)))) := nx_m (rowz R2 (fun _ => rfl)) (R2 108 8 rfl) Qx3 (g_108_10 G2).1 Tx5
      have Px5 : h2 108 10 ≤ h4 108 9 := Tx5.1.1
      have Lx5 : h2 108 9 < h2 108 10 := Mx3.lt (by omega)
      have na4 : h4 108 16 = h2 108 16 := S4 108 16 rfl
      have V4 : vr h4 = (vr h0) := (vr_S S4 (fun _ => rfl) rfl (fun _ => rfl)).trans V2
      refine z_aload_n (M := M_X12_readWeeks) 36 dX12_readWeeks_36 rfl ?_
      refine z_iload_n (M := M_X12_readWeeks) 37 dX12_readWeeks_37 rfl ?_
      refine z_i2l (M := M_X12_readWeeks) 38 dX12_readWeeks_38 ?_
      refine z_ldc2 (M := M_X12_readWeeks) 39 dX12_readWeeks_39 k_X12_154 ?_
      refine z_vI (M := M_X12_readWeeks) 42 dX12_readWeeks_42 t_X12_number l_X12_254 (m_rr_of rfl) (rest := []) (c_X12_number_g h4 x3 31 G4 ⟨by omega, by omega⟩ ⟨by omega, by omega⟩ ((S4 108 14 rfl).trans bx3) Mx5) o_108 rfl rfl rfl (Nat.le_of_ble_eq_true rfl) ⟨rfl, rfl⟩ (fun x6 h5 qx6 => ?_)
      obtain ⟨G5, S5, Dx6⟩ := qx6
      have R5 := R4.call S5 (by decide +kernel)
      have A5 := A4.fr S5 (fun _ => rfl) rfl rfl rfl rfl rfl
      rcases nm_c (rowz R4 (fun _ => rfl)) (R4 108 8 rfl) Qx5 Dx6 with ⟨Wx6, Nx6, bx6, Mx6, Qx6, Px6, Lx6, gx6⟩ | ⟨Wx6, bx6, fx6, Px6⟩
      · have na5 : h5 108 16 = h4 108 16 := S5 108 16 rfl
        have V5 : vr h5 = (vr h0) := (vr_S S5 (fun _ => rfl) rfl (fun _ => rfl)).trans V4
        have lx6 : x3 ≤ x6 ∧ x6 ≤ 31 := by rw [Nx6]; exact ⟨Wx6.2.2.1, Wx6.2.2.2⟩
        refine z_istore_n (M := M_X12_readWeeks) 45 dX12_readWeeks_45 (ls' := [some (mR 108), some (mI x3), some (mI x6)]) (by decide) rfl ?_
        refine z_aload_n (M := M_X12_readWeeks) 46 dX12_readWeeks_46 rfl ?_
        refine z_aload_n (M := M_X12_readWeeks) 47 dX12_readWeeks_47 rfl ?_
        refine z_ldc2 (M := M_X12_readWeeks) 48 dX12_readWeeks_48 k_X12_264 ?_
        refine z_vI (M := M_X12_readWeeks) 51 dX12_readWeeks_51 t_X12_isWord l_X12_260 (m_rr_of rfl) (rest := [mR 108]) (c_X12_isWord h5 89 G5) o_108 rfl rfl rfl (Nat.le_of_ble_eq_true rfl) ⟨rfl, rfl⟩ (fun x7 h6 qx7 => ?_)
        obtain ⟨rfl, ⟨rfl, cx7⟩ | ⟨rfl, cx7⟩⟩ := qx7
        · refine z_vV (M := M_X12_readWeeks) 54 dX12_readWeeks_54 t_X12_must l_X12_247 (m_rr_of rfl) (rest := []) (c_X12_must_1 h5 1 G5 ⟨by omega, by omega⟩ bx6 Mx6 (by omega)) o_108 rfl rfl rfl (Nat.le_of_ble_eq_true rfl) ⟨rfl, rfl⟩ (fun h7 qx8 => ?_)
          obtain ⟨G7, S7, Mx8, Kx8, Px8⟩ := qx8
          have R7 := R5.call S7 (by decide +kernel)
          have A7 := A5.fr S7 (fun _ => rfl) rfl rfl rfl rfl rfl
          have Qx8 : Qm h7 = (nxt (h0 113) (h0 108 8) (nxt (h0 113) (h0 108 8) (nxt (h0 113) (h0 108 8) (nxt (h0 113) (h0 108 8) (nxt (h0 113) (h0 108 8) (Qm h0)))))) := nx_mm (rowz R5 (fun _ => rfl)) (R5 108 8 rfl) Qx6 Kx8
          have Lx8 : h5 108 9 < h5 108 10 := Mx6.lt (by omega)
          have na7 : h7 108 16 = h5 108 16 := S7 108 16 rfl
          have V7 : vr h7 = (vr h0) := (vr_S S7 (fun _ => rfl) rfl (fun _ => rfl)).trans V5
          refine z_aload_n (M := M_X12_readWeeks) 57 dX12_readWeeks_57 rfl ?_
          refine z_getIE (M := M_X12_readWeeks) 58 dX12_readWeeks_58 f_X12_214 o_108 (by decide) ((S7 108 14 rfl).trans bx6) ?_
          refine z_if_ne_F (M := M_X12_readWeeks) 61 dX12_readWeeks_61 90 rfl (by omega) ?_
          refine z_aload_n (M := M_X12_readWeeks) 64 dX12_readWeeks_64 rfl ?_
          refine z_ldc2 (M := M_X12_readWeeks) 65 dX12_readWeeks_65 k_X12_266 ?_
          refine z_vI (M := M_X12_readWeeks) 68 dX12_readWeeks_68 t_X12_isWord l_X12_260 (m_rr_of rfl) (rest := []) (c_X12_isWord h7 485571737 G7) o_108 rfl rfl rfl (Nat.le_of_ble_eq_true rfl) ⟨rfl, rfl⟩ (fun x9 h8 qx9 => ?_)
          obtain ⟨rfl, ⟨rfl, cx9⟩ | ⟨rfl, cx9⟩⟩ := qx9
          · refine z_if_eq_F (M := M_X12_readWeeks) 71 dX12_readWeeks_71 90 rfl (by omega) ?_
            refine z_aload_n (M := M_X12_readWeeks) 74 dX12_readWeeks_74 rfl ?_
            refine z_vV (M := M_X12_readWeeks) 75 dX12_readWeeks_75 t_X12_next l_X12_218 (m_rr_of rfl) (rest := []) (c_X12_next2 h7 G7 Mx8.2.2.2) o_108 rfl rfl rfl (Nat.le_of_ble_eq_true rfl) ⟨rfl, rfl⟩ (fun h9 qx10 => ?_)
            obtain ⟨G9, S9, Tx10, Mx10⟩ := qx10
            have R9 := R7.call S9 (by decide +kernel)
            have A9 := A7.fr S9 (fun _ => rfl) rfl rfl rfl rfl rfl
            have Qx10 : Qm h9 = (nxt (h0 113) (h0 108 8) (nxt (h0 113) (h0 108 8) (nxt (h0 113) (h0 108 8) (nxt (h0 113) (h0 108 8) (nxt (h0 113) (h0 108 8) (nxt (h0 113) (h0 108 8) (Qm h0))))))) := nx_m (rowz R7 (fun _ => rfl)) (R7 108 8 rfl) Qx8 (g_108_10 G7).1 Tx10
            have Px10 : h7 108 10 ≤ h9 108 9 := Tx10.1.1
            have Lx10 : h7 108 9 < h7 108 10 := Mx8.lt (by omega)
            have na9 : h9 108 16 = h7 108 16 := S9 108 16 rfl
            have V9 : vr h9 = (vr h0) := (vr_S S9 (fun _ => rfl) rfl (fun _ => rfl)).trans V7
            refine z_aload_n (M := M_X12_readWeeks) 78 dX12_readWeeks_78 rfl ?_
            refine z_iconst (M := M_X12_readWeeks) 79 dX12_readWeeks_79 ?_
            refine z_iload_n (M := M_X12_readWeeks) 80 dX12_readWeeks_80 rfl ?_
            refine z_iload_n (M := M_X12_readWeeks) 81 dX12_readWeeks_81 rfl ?_
            refine z_iconst (M := M_X12_readWeeks) 82 dX12_readWeeks_82 ?_
            refine z_iconst (M := M_X12_readWeeks) 83 dX12_readWeeks_83 ?_
            have gb9 := (g_108_9 G9).2
            have ga9 := (g_108_16 G9).1
            have hb9_ : h9 108 14 = 0 := ((S9 108 14 rfl).trans ((S7 108 14 rfl).trans bx6))
            refine z_vV (M := M_X12_readWeeks) 84 dX12_readWeeks_84 t_X12_act l_X12_268 (m_rr_of rfl) (rest := []) (c_X12_act h9 0 x3 x6 (-1) 0 G9 (Or.inr (by omega))) o_108 rfl rfl rfl (Nat.le_of_ble_eq_true rfl) ⟨rfl, rfl⟩ (fun h10 qx11 => ?_)
            obtain ⟨G10, S10, fx11⟩ := qx11
            have R10 := R9.call S10 (by decide +kernel)
            have na10 : h10 108 16 = h9 108 16 + 1 := (fx11.resolve_left (fun z => z.1 ((S9 108 14 rfl).trans ((S7 108 14 rfl).trans bx6)))).2.1
            have V10 : vr h10 = act1 0 x3 x6 (-1) 0 (vr h0) := (vr_act fx11 ((S9 108 14 rfl).trans ((S7 108 14 rfl).trans bx6)) (g_108_16 G9).1 S10 (fun _ => rfl)).trans (congrArg (act1 0 x3 x6 (-1) 0) V9)
            have M10_ := MTk.same Mx10 (rowz S10 (fun _ => rfl)) (fun j u v => S10 108 j (fr_j (by omega)))
            have Q10_ : Qm h10 = (nxt (h0 113) (h0 108 8) (nxt (h0 113) (h0 108 8) (nxt (h0 113) (h0 108 8) (nxt (h0 113) (h0 108 8) (nxt (h0 113) (h0 108 8) (nxt (h0 113) (h0 108 8) (Qm h0))))))) := (Qm_S S10 rfl rfl).trans Qx10
            have P10_ : h10 108 9 = h9 108 9 := S10 108 9 rfl
            have A10 := AI_act A9 (by omega) fx11 (by omega) (fun _ => by unfold okA; omega)
            refine z_goto (M := M_X12_readWeeks) 87 dX12_readWeeks_87 113 rfl ?_
            exact z_retV (M := M_X12_readWeeks) 113 dX12_readWeeks_113 rfl ⟨G10, R10, md_ok (p := ((nxt (h0 113) (h0 108 8) (nxt (h0 113) (h0 108 8) (nxt (h0 113) (h0 108 8) (nxt (h0 113) (h0 108 8) (nxt (h0 113) (h0 108 8) (nxt (h0 113) (h0 108 8) (Qm h0))))))), rW (vr h0) x3 x6 (-1))) (by unfold rdWeeks rdBy; rw [cif_pos (Wx3), cif_pos ((iw_c (rowz R2 (fun _ => rfl)) Qx3 (mw_1 Mx3 (g_108_9 G2).1)).mpr cx4), cif_pos (Nx3 ▸ Wx6), cif_pos ((iw_c (rowz R5 (fun _ => rfl)) Qx6 (mw_2 Mx6 (g_108_9 G5).1)).mpr cx7), cif_pos ((iw_c (rowz R7 (fun _ => rfl)) Qx8 (mw_3 Mx8 (g_108_9 G7).1)).mpr cx9), ← Nx3, ← Nx6]) ((S10 108 14 rfl).trans ((S9 108 14 rfl).trans ((S7 108 14 rfl).trans bx6))) M10_ A10 (by omega) Q10_ (V10.trans act1_k0) (((S10 108 13 rfl).trans ((S9 108 13 rfl).trans ((S7 108 13 rfl).trans (gx6.trans ((S4 108 13 rfl).trans (gx3.trans ((S1 108 13 rfl).trans ex1))))))).trans ex1.symm), by omega, fun _ => by omega⟩
          · refine z_if_eq_T (M := M_X12_readWeeks) 71 dX12_readWeeks_71 90 rfl (by omega) ?_
            refine z_aload_n (M := M_X12_readWeeks) 90 dX12_readWeeks_90 rfl ?_
            refine z_getIE (M := M_X12_readWeeks) 91 dX12_readWeeks_91 f_X12_214 o_108 (by decide) ((S7 108 14 rfl).trans bx6) ?_
            refine z_if_ne_F (M := M_X12_readWeeks) 94 dX12_readWeeks_94 113 rfl (by omega) ?_
            refine z_aload_n (M := M_X12_readWeeks) 97 dX12_readWeeks_97 rfl ?_
            refine z_iconst (M := M_X12_readWeeks) 98 dX12_readWeeks_98 ?_
            refine z_iload_n (M := M_X12_readWeeks) 99 dX12_readWeeks_99 rfl ?_
            refine z_iload_n (M := M_X12_readWeeks) 100 dX12_readWeeks_100 rfl ?_
            refine z_aload_n (M := M_X12_readWeeks) 101 dX12_readWeeks_101 rfl ?_
            refine z_lconst (M := M_X12_readWeeks) 102 dX12_readWeeks_102 (v := 0) ?_
            refine z_ldc2 (M := M_X12_readWeeks) 103 dX12_readWeeks_103 k_X12_152 ?_
            refine z_vI (M := M_X12_readWeeks) 106 dX12_readWeeks_106 t_X12_number l_X12_254 (m_rr_of rfl) (rest := [mI x6, mI x3, mI 0, mR 108]) (c_X12_number_g h7 0 3 G7 ⟨by omega, by omega⟩ ⟨by omega, by omega⟩ ((S7 108 14 rfl).trans bx6) Mx8) o_108 rfl rfl rfl (Nat.le_of_ble_eq_true rfl) ⟨rfl, rfl⟩ (fun x12 h11 qx12 => ?_)
            obtain ⟨G11, S11, Dx12⟩ := qx12
            have R11 := R7.call S11 (by decide +kernel)
            have A11 := A7.fr S11 (fun _ => rfl) rfl rfl rfl rfl rfl
            rcases nm_c (rowz R7 (fun _ => rfl)) (R7 108 8 rfl) Qx8 Dx12 with ⟨Wx12, Nx12, bx12, Mx12, Qx12, Px12, Lx12, gx12⟩ | ⟨Wx12, bx12, fx12, Px12⟩
            · have na11 : h11 108 16 = h7 108 16 := S11 108 16 rfl
              have V11 : vr h11 = (vr h0) := (vr_S S11 (fun _ => rfl) rfl (fun _ => rfl)).trans V7
              have lx12 : 0 ≤ x12 ∧ x12 ≤ 3 := by rw [Nx12]; exact ⟨Wx12.2.2.1, Wx12.2.2.2⟩
              refine z_iconst (M := M_X12_readWeeks) 109 dX12_readWeeks_109 ?_
              have gb11 := (g_108_9 G11).2
              have ga11 := (g_108_16 G11).1
              have hb11_ : h11 108 14 = 0 := bx12
              refine z_vV (M := M_X12_readWeeks) 110 dX12_readWeeks_110 t_X12_act l_X12_268 (m_rr_of rfl) (rest := []) (c_X12_act h11 0 x3 x6 x12 0 G11 (Or.inr (by omega))) o_108 rfl rfl rfl (Nat.le_of_ble_eq_true rfl) ⟨rfl, rfl⟩ (fun h12 qx13 => ?_)
              obtain ⟨G12, S12, fx13⟩ := qx13
              have R12 := R11.call S12 (by decide +kernel)
              have na12 : h12 108 16 = h11 108 16 + 1 := (fx13.resolve_left (fun z => z.1 bx12)).2.1
              have V12 : vr h12 = act1 0 x3 x6 x12 0 (vr h0) := (vr_act fx13 bx12 (g_108_16 G11).1 S12 (fun _ => rfl)).trans (congrArg (act1 0 x3 x6 x12 0) V11)
              have M12_ := MTk.same Mx12 (rowz S12 (fun _ => rfl)) (fun j u v => S12 108 j (fr_j (by omega)))
              have Q12_ : Qm h12 = (nxt (h0 113) (h0 108 8) (nxt (h0 113) (h0 108 8) (nxt (h0 113) (h0 108 8) (nxt (h0 113) (h0 108 8) (nxt (h0 113) (h0 108 8) (nxt (h0 113) (h0 108 8) (Qm h0))))))) := (Qm_S S12 rfl rfl).trans Qx12
              have P12_ : h12 108 9 = h11 108 9 := S12 108 9 rfl
              have A12 := AI_act A11 (by omega) fx13 (by omega) (fun _ => by unfold okA; omega)
              exact z_retV (M := M_X12_readWeeks) 113 dX12_readWeeks_113 rfl ⟨G12, R12, md_ok (p := ((nxt (h0 113) (h0 108 8) (nxt (h0 113) (h0 108 8) (nxt (h0 113) (h0 108 8) (nxt (h0 113) (h0 108 8) (nxt (h0 113) (h0 108 8) (nxt (h0 113) (h0 108 8) (Qm h0))))))), rW (vr h0) x3 x6 x12)) (by unfold rdWeeks rdBy; rw [cif_pos (Wx3), cif_pos ((iw_c (rowz R2 (fun _ => rfl)) Qx3 (mw_1 Mx3 (g_108_9 G2).1)).mpr cx4), cif_pos (Nx3 ▸ Wx6), cif_pos ((iw_c (rowz R5 (fun _ => rfl)) Qx6 (mw_2 Mx6 (g_108_9 G5).1)).mpr cx7), cif_neg (fun z => cx9 ((iw_c (rowz R7 (fun _ => rfl)) Qx8 (mw_3 Mx8 (g_108_9 G7).1)).mp z)), cif_pos (Wx12), ← Nx3, ← Nx6, ← Nx12]) ((S12 108 14 rfl).trans bx12) M12_ A12 (by omega) Q12_ (V12.trans act1_k0) (((S12 108 13 rfl).trans (gx12.trans ((S7 108 13 rfl).trans (gx6.trans ((S4 108 13 rfl).trans (gx3.trans ((S1 108 13 rfl).trans ex1))))))).trans ex1.symm), by omega, fun _ => by omega⟩
            · have fpx12 : h11 108 13 = (nxt (h0 113) (h0 108 8) (nxt (h0 113) (h0 108 8) (nxt (h0 113) (h0 108 8) (nxt (h0 113) (h0 108 8) (nxt (h0 113) (h0 108 8) (Qm h0)))))).1 := fx12.trans (fst_m Qx8)
              refine z_ok (fun ox12 _ _ => ?_)
              have ox12 := ox12.1; unfold m_ok m_32 at ox12
              refine z_iconst (M := M_X12_readWeeks) 109 dX12_readWeeks_109 ?_
              refine z_vV (M := M_X12_readWeeks) 110 dX12_readWeeks_110 t_X12_act l_X12_268 (m_rr_of rfl) (rest := []) (c_X12_act_b h11 0 x3 x6 x12 0 G11 bx12) o_108 rfl rfl rfl (Nat.le_of_ble_eq_true rfl) ⟨rfl, rfl⟩ (fun h13 qx14 => ?_)
              obtain ⟨G13, S13⟩ := qx14
              have R13 := R11.call S13 (by decide +kernel)
              have P13_ : h13 108 9 = h11 108 9 := S13 108 9 rfl
              have bb_ : h13 108 14 = 1 := ((S13 108 14 rfl).trans bx12)
              exact z_retV (M := M_X12_readWeeks) 113 dX12_readWeeks_113 rfl ⟨G13, R13, md_er (by unfold rdWeeks rdBy; rw [cif_pos (Wx3), cif_pos ((iw_c (rowz R2 (fun _ => rfl)) Qx3 (mw_1 Mx3 (g_108_9 G2).1)).mpr cx4), cif_pos (Nx3 ▸ Wx6), cif_pos ((iw_c (rowz R5 (fun _ => rfl)) Qx6 (mw_2 Mx6 (g_108_9 G5).1)).mpr cx7), cif_neg (fun z => cx9 ((iw_c (rowz R7 (fun _ => rfl)) Qx8 (mw_3 Mx8 (g_108_9 G7).1)).mp z)), cif_neg (Wx12)]) ((S13 108 14 rfl).trans bx12) ((S13 108 13 rfl).trans fpx12), by omega, fun _ => by omega⟩
        · refine z_vV (M := M_X12_readWeeks) 54 dX12_readWeeks_54 t_X12_must l_X12_247 (m_rr_of rfl) (rest := []) (c_X12_must_0 h5 0 G5 ⟨by omega, by omega⟩ bx6) o_108 rfl rfl rfl (Nat.le_of_ble_eq_true rfl) ⟨rfl, rfl⟩ (fun h14 qx15 => ?_)
          obtain ⟨G14, S14, bx15, fx15⟩ := qx15
          have R14 := R5.call S14 (by decide +kernel)
          have A14 := A5.fr S14 (fun _ => rfl) rfl rfl rfl rfl rfl
          have Px15 : h14 108 9 = h5 108 9 := S14 108 9 rfl
          have fpx15 : h14 108 13 = (nxt (h0 113) (h0 108 8) (nxt (h0 113) (h0 108 8) (nxt (h0 113) (h0 108 8) (nxt (h0 113) (h0 108 8) (Qm h0))))).1 := fx15.trans (fst_m Qx6)
          refine z_aload_n (M := M_X12_readWeeks) 57 dX12_readWeeks_57 rfl ?_
          refine z_getIE (M := M_X12_readWeeks) 58 dX12_readWeeks_58 f_X12_214 o_108 (by decide) bx15 ?_
          refine z_if_ne_T (M := M_X12_readWeeks) 61 dX12_readWeeks_61 90 rfl (by omega) ?_
          refine z_aload_n (M := M_X12_readWeeks) 90 dX12_readWeeks_90 rfl ?_
          refine z_getIE (M := M_X12_readWeeks) 91 dX12_readWeeks_91 f_X12_214 o_108 (by decide) bx15 ?_
          refine z_if_ne_T (M := M_X12_readWeeks) 94 dX12_readWeeks_94 113 rfl (by omega) ?_
          have bb_ : h14 108 14 = 1 := bx15
          exact z_retV (M := M_X12_readWeeks) 113 dX12_readWeeks_113 rfl ⟨G14, R14, md_er (by unfold rdWeeks rdBy; rw [cif_pos (Wx3), cif_pos ((iw_c (rowz R2 (fun _ => rfl)) Qx3 (mw_1 Mx3 (g_108_9 G2).1)).mpr cx4), cif_pos (Nx3 ▸ Wx6), cif_neg (fun z => cx7 ((iw_c (rowz R5 (fun _ => rfl)) Qx6 (mw_2 Mx6 (g_108_9 G5).1)).mp z))]) bx15 fpx15, by omega, fun _ => by omega⟩
      · have fpx6 : h5 108 13 = (nxt (h0 113) (h0 108 8) (nxt (h0 113) (h0 108 8) (nxt (h0 113) (h0 108 8) (Qm h0)))).1 := fx6.trans (fst_m Qx5)
        refine z_ok (fun ox6 _ _ => ?_)
        have ox6 := ox6.1; unfold m_ok m_32 at ox6
        refine z_istore_n (M := M_X12_readWeeks) 45 dX12_readWeeks_45 (ls' := [some (mR 108), some (mI x3), some (mI x6)]) (by decide) rfl ?_
        refine z_aload_n (M := M_X12_readWeeks) 46 dX12_readWeeks_46 rfl ?_
        refine z_aload_n (M := M_X12_readWeeks) 47 dX12_readWeeks_47 rfl ?_
        refine z_ldc2 (M := M_X12_readWeeks) 48 dX12_readWeeks_48 k_X12_264 ?_
        refine z_vI (M := M_X12_readWeeks) 51 dX12_readWeeks_51 t_X12_isWord l_X12_260 (m_rr_of rfl) (rest := [mR 108]) (c_X12_isWord h5 89 G5) o_108 rfl rfl rfl (Nat.le_of_ble_eq_true rfl) ⟨rfl, rfl⟩ (fun x16 h15 qx16 => ?_)
        obtain ⟨rfl, ⟨rfl, cx16⟩ | ⟨rfl, cx16⟩⟩ := qx16
        · refine z_vV (M := M_X12_readWeeks) 54 dX12_readWeeks_54 t_X12_must l_X12_247 (m_rr_of rfl) (rest := []) (c_X12_must_b h5 1 G5 ⟨by omega, by omega⟩ bx6) o_108 rfl rfl rfl (Nat.le_of_ble_eq_true rfl) ⟨rfl, rfl⟩ (fun h16 qx17 => ?_)
          obtain ⟨G16, S16⟩ := qx17
          have R16 := R5.call S16 (by decide +kernel)
          have P16_ : h16 108 9 = h5 108 9 := S16 108 9 rfl
          refine z_aload_n (M := M_X12_readWeeks) 57 dX12_readWeeks_57 rfl ?_
          refine z_getIE (M := M_X12_readWeeks) 58 dX12_readWeeks_58 f_X12_214 o_108 (by decide) ((S16 108 14 rfl).trans bx6) ?_
          refine z_if_ne_T (M := M_X12_readWeeks) 61 dX12_readWeeks_61 90 rfl (by omega) ?_
          refine z_aload_n (M := M_X12_readWeeks) 90 dX12_readWeeks_90 rfl ?_
          refine z_getIE (M := M_X12_readWeeks) 91 dX12_readWeeks_91 f_X12_214 o_108 (by decide) ((S16 108 14 rfl).trans bx6) ?_
          refine z_if_ne_T (M := M_X12_readWeeks) 94 dX12_readWeeks_94 113 rfl (by omega) ?_
          have bb_ : h16 108 14 = 1 := ((S16 108 14 rfl).trans bx6)
          exact z_retV (M := M_X12_readWeeks) 113 dX12_readWeeks_113 rfl ⟨G16, R16, md_er (by unfold rdWeeks rdBy; rw [cif_pos (Wx3), cif_pos ((iw_c (rowz R2 (fun _ => rfl)) Qx3 (mw_1 Mx3 (g_108_9 G2).1)).mpr cx4), cif_neg (Nx3 ▸ Wx6)]) ((S16 108 14 rfl).trans bx6) ((S16 108 13 rfl).trans fpx6), by omega, fun _ => by omega⟩
        · refine z_vV (M := M_X12_readWeeks) 54 dX12_readWeeks_54 t_X12_must l_X12_247 (m_rr_of rfl) (rest := []) (c_X12_must_b h5 0 G5 ⟨by omega, by omega⟩ bx6) o_108 rfl rfl rfl (Nat.le_of_ble_eq_true rfl) ⟨rfl, rfl⟩ (fun h17 qx18 => ?_)
          obtain ⟨G17, S17⟩ := qx18
          have R17 := R5.call S17 (by decide +kernel)
          have P17_ : h17 108 9 = h5 108 9 := S17 108 9 rfl
          refine z_aload_n (M := M_X12_readWeeks) 57 dX12_readWeeks_57 rfl ?_
          refine z_getIE (M := M_X12_readWeeks) 58 dX12_readWeeks_58 f_X12_214 o_108 (by decide) ((S17 108 14 rfl).trans bx6) ?_
          refine z_if_ne_T (M := M_X12_readWeeks) 61 dX12_readWeeks_61 90 rfl (by omega) ?_
          refine z_aload_n (M := M_X12_readWeeks) 90 dX12_readWeeks_90 rfl ?_
          refine z_getIE (M := M_X12_readWeeks) 91 dX12_readWeeks_91 f_X12_214 o_108 (by decide) ((S17 108 14 rfl).trans bx6) ?_
          refine z_if_ne_T (M := M_X12_readWeeks) 94 dX12_readWeeks_94 113 rfl (by omega) ?_
          have bb_ : h17 108 14 = 1 := ((S17 108 14 rfl).trans bx6)
          exact z_retV (M := M_X12_readWeeks) 113 dX12_readWeeks_113 rfl ⟨G17, R17, md_er (by unfold rdWeeks rdBy; rw [cif_pos (Wx3), cif_pos ((iw_c (rowz R2 (fun _ => rfl)) Qx3 (mw_1 Mx3 (g_108_9 G2).1)).mpr cx4), cif_neg (Nx3 ▸ Wx6)]) ((S17 108 14 rfl).trans bx6) ((S17 108 13 rfl).trans fpx6), by omega, fun _ => by omega⟩
    · refine z_if_eq_T (M := M_X12_readWeeks) 29 dX12_readWeeks_29 46 rfl (by omega) ?_
      refine z_aload_n (M := M_X12_readWeeks) 46 dX12_readWeeks_46 rfl ?_
      refine z_aload_n (M := M_X12_readWeeks) 47 dX12_readWeeks_47 rfl ?_
      refine z_ldc2 (M := M_X12_readWeeks) 48 dX12_readWeeks_48 k_X12_264 ?_
      refine z_vI (M := M_X12_readWeeks) 51 dX12_readWeeks_51 t_X12_isWord l_X12_260 (m_rr_of rfl) (rest := [mR 108]) (c_X12_isWord h2 89 G2) o_108 rfl rfl rfl (Nat.le_of_ble_eq_true rfl) ⟨rfl, rfl⟩ (fun x19 h18 qx19 => ?_)
      obtain ⟨rfl, ⟨rfl, cx19⟩ | ⟨rfl, cx19⟩⟩ := qx19
      · refine z_vV (M := M_X12_readWeeks) 54 dX12_readWeeks_54 t_X12_must l_X12_247 (m_rr_of rfl) (rest := []) (c_X12_must_1 h2 1 G2 ⟨by omega, by omega⟩ bx3 Mx3 (by omega)) o_108 rfl rfl rfl (Nat.le_of_ble_eq_true rfl) ⟨rfl, rfl⟩ (fun h19 qx20 => ?_)
        obtain ⟨G19, S19, Mx20, Kx20, Px20⟩ := qx20
        have R19 := R2.call S19 (by decide +kernel)
        have A19 := A2.fr S19 (fun _ => rfl) rfl rfl rfl rfl rfl
        have Qx20 : Qm h19 = (nxt (h0 113) (h0 108 8) (nxt (h0 113) (h0 108 8) (nxt (h0 113) (h0 108 8) (Qm h0)))) := nx_mm (rowz R2 (fun _ => rfl)) (R2 108 8 rfl) Qx3 Kx20
        have Lx20 : h2 108 9 < h2 108 10 := Mx3.lt (by omega)
        have na19 : h19 108 16 = h2 108 16 := S19 108 16 rfl
        have V19 : vr h19 = (vr h0) := (vr_S S19 (fun _ => rfl) rfl (fun _ => rfl)).trans V2
        refine z_aload_n (M := M_X12_readWeeks) 57 dX12_readWeeks_57 rfl ?_
        refine z_getIE (M := M_X12_readWeeks) 58 dX12_readWeeks_58 f_X12_214 o_108 (by decide) ((S19 108 14 rfl).trans bx3) ?_
        refine z_if_ne_F (M := M_X12_readWeeks) 61 dX12_readWeeks_61 90 rfl (by omega) ?_
        refine z_aload_n (M := M_X12_readWeeks) 64 dX12_readWeeks_64 rfl ?_
        refine z_ldc2 (M := M_X12_readWeeks) 65 dX12_readWeeks_65 k_X12_266 ?_
        refine z_vI (M := M_X12_readWeeks) 68 dX12_readWeeks_68 t_X12_isWord l_X12_260 (m_rr_of rfl) (rest := []) (c_X12_isWord h19 485571737 G19) o_108 rfl rfl rfl (Nat.le_of_ble_eq_true rfl) ⟨rfl, rfl⟩ (fun x21 h20 qx21 => ?_)
        obtain ⟨rfl, ⟨rfl, cx21⟩ | ⟨rfl, cx21⟩⟩ := qx21
        · refine z_if_eq_F (M := M_X12_readWeeks) 71 dX12_readWeeks_71 90 rfl (by omega) ?_
          refine z_aload_n (M := M_X12_readWeeks) 74 dX12_readWeeks_74 rfl ?_
          refine z_vV (M := M_X12_readWeeks) 75 dX12_readWeeks_75 t_X12_next l_X12_218 (m_rr_of rfl) (rest := []) (c_X12_next2 h19 G19 Mx20.2.2.2) o_108 rfl rfl rfl (Nat.le_of_ble_eq_true rfl) ⟨rfl, rfl⟩ (fun h21 qx22 => ?_)
          obtain ⟨G21, S21, Tx22, Mx22⟩ := qx22
          have R21 := R19.call S21 (by decide +kernel)
          have A21 := A19.fr S21 (fun _ => rfl) rfl rfl rfl rfl rfl
          have Qx22 : Qm h21 = (nxt (h0 113) (h0 108 8) (nxt (h0 113) (h0 108 8) (nxt (h0 113) (h0 108 8) (nxt (h0 113) (h0 108 8) (Qm h0))))) := nx_m (rowz R19 (fun _ => rfl)) (R19 108 8 rfl) Qx20 (g_108_10 G19).1 Tx22
          have Px22 : h19 108 10 ≤ h21 108 9 := Tx22.1.1
          have Lx22 : h19 108 9 < h19 108 10 := Mx20.lt (by omega)
          have na21 : h21 108 16 = h19 108 16 := S21 108 16 rfl
          have V21 : vr h21 = (vr h0) := (vr_S S21 (fun _ => rfl) rfl (fun _ => rfl)).trans V19
          refine z_aload_n (M := M_X12_readWeeks) 78 dX12_readWeeks_78 rfl ?_
          refine z_iconst (M := M_X12_readWeeks) 79 dX12_readWeeks_79 ?_
          refine z_iload_n (M := M_X12_readWeeks) 80 dX12_readWeeks_80 rfl ?_
          refine z_iload_n (M := M_X12_readWeeks) 81 dX12_readWeeks_81 rfl ?_
          refine z_iconst (M := M_X12_readWeeks) 82 dX12_readWeeks_82 ?_
          refine z_iconst (M := M_X12_readWeeks) 83 dX12_readWeeks_83 ?_
          have gb21 := (g_108_9 G21).2
          have ga21 := (g_108_16 G21).1
          have hb21_ : h21 108 14 = 0 := ((S21 108 14 rfl).trans ((S19 108 14 rfl).trans bx3))
          refine z_vV (M := M_X12_readWeeks) 84 dX12_readWeeks_84 t_X12_act l_X12_268 (m_rr_of rfl) (rest := []) (c_X12_act h21 0 x3 x3 (-1) 0 G21 (Or.inr (by omega))) o_108 rfl rfl rfl (Nat.le_of_ble_eq_true rfl) ⟨rfl, rfl⟩ (fun h22 qx23 => ?_)
          obtain ⟨G22, S22, fx23⟩ := qx23
          have R22 := R21.call S22 (by decide +kernel)
          have na22 : h22 108 16 = h21 108 16 + 1 := (fx23.resolve_left (fun z => z.1 ((S21 108 14 rfl).trans ((S19 108 14 rfl).trans bx3)))).2.1
          have V22 : vr h22 = act1 0 x3 x3 (-1) 0 (vr h0) := (vr_act fx23 ((S21 108 14 rfl).trans ((S19 108 14 rfl).trans bx3)) (g_108_16 G21).1 S22 (fun _ => rfl)).trans (congrArg (act1 0 x3 x3 (-1) 0) V21)
          have M22_ := MTk.same Mx22 (rowz S22 (fun _ => rfl)) (fun j u v => S22 108 j (fr_j (by omega)))
          have Q22_ : Qm h22 = (nxt (h0 113) (h0 108 8) (nxt (h0 113) (h0 108 8) (nxt (h0 113) (h0 108 8) (nxt (h0 113) (h0 108 8) (Qm h0))))) := (Qm_S S22 rfl rfl).trans Qx22
          have P22_ : h22 108 9 = h21 108 9 := S22 108 9 rfl
          have A22 := AI_act A21 (by omega) fx23 (by omega) (fun _ => by unfold okA; omega)
          refine z_goto (M := M_X12_readWeeks) 87 dX12_readWeeks_87 113 rfl ?_
          exact z_retV (M := M_X12_readWeeks) 113 dX12_readWeeks_113 rfl ⟨G22, R22, md_ok (p := ((nxt (h0 113) (h0 108 8) (nxt (h0 113) (h0 108 8) (nxt (h0 113) (h0 108 8) (nxt (h0 113) (h0 108 8) (Qm h0))))), rW (vr h0) x3 x3 (-1))) (by unfold rdWeeks rdBy; rw [cif_pos (Wx3), cif_neg (fun z => cx4 ((iw_c (rowz R2 (fun _ => rfl)) Qx3 (mw_1 Mx3 (g_108_9 G2).1)).mp z)), cif_pos ((iw_c (rowz R2 (fun _ => rfl)) Qx3 (mw_2 Mx3 (g_108_9 G2).1)).mpr cx19), cif_pos ((iw_c (rowz R19 (fun _ => rfl)) Qx20 (mw_3 Mx20 (g_108_9 G19).1)).mpr cx21), ← Nx3]) ((S22 108 14 rfl).trans ((S21 108 14 rfl).trans ((S19 108 14 rfl).trans bx3))) M22_ A22 (by omega) Q22_ (V22.trans act1_k0) (((S22 108 13 rfl).trans ((S21 108 13 rfl).trans ((S19 108 13 rfl).trans (gx3.trans ((S1 108 13 rfl).trans ex1))))).trans ex1.symm), by omega, fun _ => by omega⟩
        · refine z_if_eq_T (M := M_X12_readWeeks) 71 dX12_readWeeks_71 90 rfl (by omega) ?_
          refine z_aload_n (M := M_X12_readWeeks) 90 dX12_readWeeks_90 rfl ?_
          refine z_getIE (M := M_X12_readWeeks) 91 dX12_readWeeks_91 f_X12_214 o_108 (by decide) ((S19 108 14 rfl).trans bx3) ?_
          refine z_if_ne_F (M := M_X12_readWeeks) 94 dX12_readWeeks_94 113 rfl (by omega) ?_
          refine z_aload_n (M := M_X12_readWeeks) 97 dX12_readWeeks_97 rfl ?_
          refine z_iconst (M := M_X12_readWeeks) 98 dX12_readWeeks_98 ?_
          refine z_iload_n (M := M_X12_readWeeks) 99 dX12_readWeeks_99 rfl ?_
          refine z_iload_n (M := M_X12_readWeeks) 100 dX12_readWeeks_100 rfl ?_
          refine z_aload_n (M := M_X12_readWeeks) 101 dX12_readWeeks_101 rfl ?_
          refine z_lconst (M := M_X12_readWeeks) 102 dX12_readWeeks_102 (v := 0) ?_
          refine z_ldc2 (M := M_X12_readWeeks) 103 dX12_readWeeks_103 k_X12_152 ?_
          refine z_vI (M := M_X12_readWeeks) 106 dX12_readWeeks_106 t_X12_number l_X12_254 (m_rr_of rfl) (rest := [mI x3, mI x3, mI 0, mR 108]) (c_X12_number_g h19 0 3 G19 ⟨by omega, by omega⟩ ⟨by omega, by omega⟩ ((S19 108 14 rfl).trans bx3) Mx20) o_108 rfl rfl rfl (Nat.le_of_ble_eq_true rfl) ⟨rfl, rfl⟩ (fun x24 h23 qx24 => ?_)
          obtain ⟨G23, S23, Dx24⟩ := qx24
          have R23 := R19.call S23 (by decide +kernel)
          have A23 := A19.fr S23 (fun _ => rfl) rfl rfl rfl rfl rfl
          rcases nm_c (rowz R19 (fun _ => rfl)) (R19 108 8 rfl) Qx20 Dx24 with ⟨Wx24, Nx24, bx24, Mx24, Qx24, Px24, Lx24, gx24⟩ | ⟨Wx24, bx24, fx24, Px24⟩
          · have na23 : h23 108 16 = h19 108 16 := S23 108 16 rfl
            have V23 : vr h23 = (vr h0) := (vr_S S23 (fun _ => rfl) rfl (fun _ => rfl)).trans V19
            have lx24 : 0 ≤ x24 ∧ x24 ≤ 3 := by rw [Nx24]; exact ⟨Wx24.2.2.1, Wx24.2.2.2⟩
            refine z_iconst (M := M_X12_readWeeks) 109 dX12_readWeeks_109 ?_
            have gb23 := (g_108_9 G23).2
            have ga23 := (g_108_16 G23).1
            have hb23_ : h23 108 14 = 0 := bx24
            refine z_vV (M := M_X12_readWeeks) 110 dX12_readWeeks_110 t_X12_act l_X12_268 (m_rr_of rfl) (rest := []) (c_X12_act h23 0 x3 x3 x24 0 G23 (Or.inr (by omega))) o_108 rfl rfl rfl (Nat.le_of_ble_eq_true rfl) ⟨rfl, rfl⟩ (fun h24 qx25 => ?_)
            obtain ⟨G24, S24, fx25⟩ := qx25
            have R24 := R23.call S24 (by decide +kernel)
            have na24 : h24 108 16 = h23 108 16 + 1 := (fx25.resolve_left (fun z => z.1 bx24)).2.1
            have V24 : vr h24 = act1 0 x3 x3 x24 0 (vr h0) := (vr_act fx25 bx24 (g_108_16 G23).1 S24 (fun _ => rfl)).trans (congrArg (act1 0 x3 x3 x24 0) V23)
            have M24_ := MTk.same Mx24 (rowz S24 (fun _ => rfl)) (fun j u v => S24 108 j (fr_j (by omega)))
            have Q24_ : Qm h24 = (nxt (h0 113) (h0 108 8) (nxt (h0 113) (h0 108 8) (nxt (h0 113) (h0 108 8) (nxt (h0 113) (h0 108 8) (Qm h0))))) := (Qm_S S24 rfl rfl).trans Qx24
            have P24_ : h24 108 9 = h23 108 9 := S24 108 9 rfl
            have A24 := AI_act A23 (by omega) fx25 (by omega) (fun _ => by unfold okA; omega)
            exact z_retV (M := M_X12_readWeeks) 113 dX12_readWeeks_113 rfl ⟨G24, R24, md_ok (p := ((nxt (h0 113) (h0 108 8) (nxt (h0 113) (h0 108 8) (nxt (h0 113) (h0 108 8) (nxt (h0 113) (h0 108 8) (Qm h0))))), rW (vr h0) x3 x3 x24)) (by unfold rdWeeks rdBy; rw [cif_pos (Wx3), cif_neg (fun z => cx4 ((iw_c (rowz R2 (fun _ => rfl)) Qx3 (mw_1 Mx3 (g_108_9 G2).1)).mp z)), cif_pos ((iw_c (rowz R2 (fun _ => rfl)) Qx3 (mw_2 Mx3 (g_108_9 G2).1)).mpr cx19), cif_neg (fun z => cx21 ((iw_c (rowz R19 (fun _ => rfl)) Qx20 (mw_3 Mx20 (g_108_9 G19).1)).mp z)), cif_pos (Wx24), ← Nx3, ← Nx24]) ((S24 108 14 rfl).trans bx24) M24_ A24 (by omega) Q24_ (V24.trans act1_k0) (((S24 108 13 rfl).trans (gx24.trans ((S19 108 13 rfl).trans (gx3.trans ((S1 108 13 rfl).trans ex1))))).trans ex1.symm), by omega, fun _ => by omega⟩
          · have fpx24 : h23 108 13 = (nxt (h0 113) (h0 108 8) (nxt (h0 113) (h0 108 8) (nxt (h0 113) (h0 108 8) (Qm h0)))).1 := fx24.trans (fst_m Qx20)
            refine z_ok (fun ox24 _ _ => ?_)
            have ox24 := ox24.1; unfold m_ok m_32 at ox24
            refine z_iconst (M := M_X12_readWeeks) 109 dX12_readWeeks_109 ?_
            refine z_vV (M := M_X12_readWeeks) 110 dX12_readWeeks_110 t_X12_act l_X12_268 (m_rr_of rfl) (rest := []) (c_X12_act_b h23 0 x3 x3 x24 0 G23 bx24) o_108 rfl rfl rfl (Nat.le_of_ble_eq_true rfl) ⟨rfl, rfl⟩ (fun h25 qx26 => ?_)
            obtain ⟨G25, S25⟩ := qx26
            have R25 := R23.call S25 (by decide +kernel)
            have P25_ : h25 108 9 = h23 108 9 := S25 108 9 rfl
            have bb_ : h25 108 14 = 1 := ((S25 108 14 rfl).trans bx24)
            exact z_retV (M := M_X12_readWeeks) 113 dX12_readWeeks_113 rfl ⟨G25, R25, md_er (by unfold rdWeeks rdBy; rw [cif_pos (Wx3), cif_neg (fun z => cx4 ((iw_c (rowz R2 (fun _ => rfl)) Qx3 (mw_1 Mx3 (g_108_9 G2).1)).mp z)), cif_pos ((iw_c (rowz R2 (fun _ => rfl)) Qx3 (mw_2 Mx3 (g_108_9 G2).1)).mpr cx19), cif_neg (fun z => cx21 ((iw_c (rowz R19 (fun _ => rfl)) Qx20 (mw_3 Mx20 (g_108_9 G19).1)).mp z)), cif_neg (Wx24)]) ((S25 108 14 rfl).trans bx24) ((S25 108 13 rfl).trans fpx24), by omega, fun _ => by omega⟩
      · refine z_vV (M := M_X12_readWeeks) 54 dX12_readWeeks_54 t_X12_must l_X12_247 (m_rr_of rfl) (rest := []) (c_X12_must_0 h2 0 G2 ⟨by omega, by omega⟩ bx3) o_108 rfl rfl rfl (Nat.le_of_ble_eq_true rfl) ⟨rfl, rfl⟩ (fun h26 qx27 => ?_)
        obtain ⟨G26, S26, bx27, fx27⟩ := qx27
        have R26 := R2.call S26 (by decide +kernel)
        have A26 := A2.fr S26 (fun _ => rfl) rfl rfl rfl rfl rfl
        have Px27 : h26 108 9 = h2 108 9 := S26 108 9 rfl
        have fpx27 : h26 108 13 = (nxt (h0 113) (h0 108 8) (nxt (h0 113) (h0 108 8) (Qm h0))).1 := fx27.trans (fst_m Qx3)
        refine z_aload_n (M := M_X12_readWeeks) 57 dX12_readWeeks_57 rfl ?_
        refine z_getIE (M := M_X12_readWeeks) 58 dX12_readWeeks_58 f_X12_214 o_108 (by decide) bx27 ?_
        refine z_if_ne_T (M := M_X12_readWeeks) 61 dX12_readWeeks_61 90 rfl (by omega) ?_
        refine z_aload_n (M := M_X12_readWeeks) 90 dX12_readWeeks_90 rfl ?_
        refine z_getIE (M := M_X12_readWeeks) 91 dX12_readWeeks_91 f_X12_214 o_108 (by decide) bx27 ?_
        refine z_if_ne_T (M := M_X12_readWeeks) 94 dX12_readWeeks_94 113 rfl (by omega) ?_
        have bb_ : h26 108 14 = 1 := bx27
        exact z_retV (M := M_X12_readWeeks) 113 dX12_readWeeks_113 rfl ⟨G26, R26, md_er (by unfold rdWeeks rdBy; rw [cif_pos (Wx3), cif_neg (fun z => cx4 ((iw_c (rowz R2 (fun _ => rfl)) Qx3 (mw_1 Mx3 (g_108_9 G2).1)).mp z)), cif_neg (fun z => cx19 ((iw_c (rowz R2 (fun _ => rfl)) Qx3 (mw_2 Mx3 (g_108_9 G2).1)).mp z))]) bx27 fpx27, by omega, fun _ => by omega⟩
  · have fpx3 : h2 108 13 = (nxt (h0 113) (h0 108 8) (Qm h0)).1 := fx3.trans (fst_m Qx2)
    refine z_ok (fun ox3 _ _ => ?_)
    have ox3 := ox3.1; unfold m_ok m_32 at ox3
    refine z_istore_n (M := M_X12_readWeeks) 12 dX12_readWeeks_12 (ls' := [some (mR 108), some (mI x3), none]) (by decide) rfl ?_
    refine z_iload_n (M := M_X12_readWeeks) 13 dX12_readWeeks_13 rfl ?_
    refine z_istore_n (M := M_X12_readWeeks) 14 dX12_readWeeks_14 (ls' := [some (mR 108), some (mI x3), some (mI x3)]) (by decide) rfl ?_
    refine z_aload_n (M := M_X12_readWeeks) 15 dX12_readWeeks_15 rfl ?_
    refine z_getIE (M := M_X12_readWeeks) 16 dX12_readWeeks_16 f_X12_214 o_108 (by decide) bx3 ?_
    refine z_if_ne_T (M := M_X12_readWeeks) 19 dX12_readWeeks_19 46 rfl (by omega) ?_
    refine z_aload_n (M := M_X12_readWeeks) 46 dX12_readWeeks_46 rfl ?_
    refine z_aload_n (M := M_X12_readWeeks) 47 dX12_readWeeks_47 rfl ?_
    refine z_ldc2 (M := M_X12_readWeeks) 48 dX12_readWeeks_48 k_X12_264 ?_
    refine z_vI (M := M_X12_readWeeks) 51 dX12_readWeeks_51 t_X12_isWord l_X12_260 (m_rr_of rfl) (rest := [mR 108]) (c_X12_isWord h2 89 G2) o_108 rfl rfl rfl (Nat.le_of_ble_eq_true rfl) ⟨rfl, rfl⟩ (fun x28 h27 qx28 => ?_)
    obtain ⟨rfl, ⟨rfl, cx28⟩ | ⟨rfl, cx28⟩⟩ := qx28
    · refine z_vV (M := M_X12_readWeeks) 54 dX12_readWeeks_54 t_X12_must l_X12_247 (m_rr_of rfl) (rest := []) (c_X12_must_b h2 1 G2 ⟨by omega, by omega⟩ bx3) o_108 rfl rfl rfl (Nat.le_of_ble_eq_true rfl) ⟨rfl, rfl⟩ (fun h28 qx29 => ?_)
      obtain ⟨G28, S28⟩ := qx29
      have R28 := R2.call S28 (by decide +kernel)
      have P28_ : h28 108 9 = h2 108 9 := S28 108 9 rfl
      refine z_aload_n (M := M_X12_readWeeks) 57 dX12_readWeeks_57 rfl ?_
      refine z_getIE (M := M_X12_readWeeks) 58 dX12_readWeeks_58 f_X12_214 o_108 (by decide) ((S28 108 14 rfl).trans bx3) ?_
      refine z_if_ne_T (M := M_X12_readWeeks) 61 dX12_readWeeks_61 90 rfl (by omega) ?_
      refine z_aload_n (M := M_X12_readWeeks) 90 dX12_readWeeks_90 rfl ?_
      refine z_getIE (M := M_X12_readWeeks) 91 dX12_readWeeks_91 f_X12_214 o_108 (by decide) ((S28 108 14 rfl).trans bx3) ?_
      refine z_if_ne_T (M := M_X12_readWeeks) 94 dX12_readWeeks_94 113 rfl (by omega) ?_
      have bb_ : h28 108 14 = 1 := ((S28 108 14 rfl).trans bx3)
      exact z_retV (M := M_X12_readWeeks) 113 dX12_readWeeks_113 rfl ⟨G28, R28, md_er (by unfold rdWeeks rdBy; rw [cif_neg (Wx3)]) ((S28 108 14 rfl).trans bx3) ((S28 108 13 rfl).trans fpx3), by omega, fun _ => by omega⟩
    · refine z_vV (M := M_X12_readWeeks) 54 dX12_readWeeks_54 t_X12_must l_X12_247 (m_rr_of rfl) (rest := []) (c_X12_must_b h2 0 G2 ⟨by omega, by omega⟩ bx3) o_108 rfl rfl rfl (Nat.le_of_ble_eq_true rfl) ⟨rfl, rfl⟩ (fun h29 qx30 => ?_)
      obtain ⟨G29, S29⟩ := qx30
      have R29 := R2.call S29 (by decide +kernel)
      have P29_ : h29 108 9 = h2 108 9 := S29 108 9 rfl
      refine z_aload_n (M := M_X12_readWeeks) 57 dX12_readWeeks_57 rfl ?_
      refine z_getIE (M := M_X12_readWeeks) 58 dX12_readWeeks_58 f_X12_214 o_108 (by decide) ((S29 108 14 rfl).trans bx3) ?_
      refine z_if_ne_T (M := M_X12_readWeeks) 61 dX12_readWeeks_61 90 rfl (by omega) ?_
      refine z_aload_n (M := M_X12_readWeeks) 90 dX12_readWeeks_90 rfl ?_
      refine z_getIE (M := M_X12_readWeeks) 91 dX12_readWeeks_91 f_X12_214 o_108 (by decide) ((S29 108 14 rfl).trans bx3) ?_
      refine z_if_ne_T (M := M_X12_readWeeks) 94 dX12_readWeeks_94 113 rfl (by omega) ?_
      have bb_ : h29 108 14 = 1 := ((S29 108 14 rfl).trans bx3)
      exact z_retV (M := M_X12_readWeeks) 113 dX12_readWeeks_113 rfl ⟨G29, R29, md_er (by unfold rdWeeks rdBy; rw [cif_neg (Wx3)]) ((S29 108 14 rfl).trans bx3) ((S29 108 13 rfl).trans fpx3), by omega, fun _ => by omega⟩
abbrev P_X12_readShorter2 (h0 : m_H) : m_H → Prop := fun h' => GI h' ∧ FR [114] [(108, 9), (108, 10), (108, 11), (108, 12), (108, 13), (108, 14), (108, 16), (108, 18)] h0 h' ∧ mdQ (rdShort (h0 113) (h0 108 8) (h0 108 9) (nxt (h0 113) (h0 108 8) (Qm h0)) (vr h0)) h0 h' ∧ h0 108 9 ≤ h' 108 9 ∧ (h' 108 14 = 0 → h0 108 9 + 1 ≤ h' 108 9)
set_option maxHeartbeats 4000000 in
set_option maxRecDepth 100000 in
theorem c_X12_readShorter2 (h0 : m_H) (G0 : GI h0) (hb : h0 108 14 = 0) (M0 : MTk h0) (A0 : AI h0) (N0 : 2 * h0 108 16 ≤ h0 108 9) (hs : h0 108 11 ≠ 0) : m_CV M_X12_readShorter [mR 108] h0 (P_X12_readShorter2 h0) := by
  refine m_CV_of ⟨by decide, rfl, by simp [m_arg, m_isL, M_X12_readShorter], ⟨rfl, rfl⟩, rfl, rfl⟩ (ls := [some (mR 108), none, none, none]) rfl ?_
  obtain ⟨x1, ex1⟩ : ∃ y : Int, h0 108 13 = y := ⟨_, rfl⟩
  refine z_aload_n (M := M_X12_readShorter) 0 dX12_readShorter_0 rfl ?_
  refine z_getIG (M := M_X12_readShorter) 1 dX12_readShorter_1 f_X12_221 o_108 (by decide) (g_108_9 G0) (fun x2 ex2 ax2 bx2 => ?_)
  refine z_istore_n (M := M_X12_readShorter) 4 dX12_readShorter_4 (ls' := [some (mR 108), some (mI x2), none, none]) (by decide) rfl ?_
  refine z_aload_n (M := M_X12_readShorter) 5 dX12_readShorter_5 rfl ?_
  refine z_vV (M := M_X12_readShorter) 6 dX12_readShorter_6 t_X12_next l_X12_218 (m_rr_of rfl) (rest := []) (c_X12_next2 h0 G0 M0.2.2.2) o_108 rfl rfl rfl (Nat.le_of_ble_eq_true rfl) ⟨rfl, rfl⟩ (fun h1 qx3 => ?_)
  obtain ⟨G1, S1, Tx3, Mx3⟩ := qx3
  have R1 := (FR.rf (cs := [114]) (ss := [(108, 9), (108, 10), (108, 11), (108, 12), (108, 13), (108, 14), (108, 16), (108, 18)]) (h := h0)).call S1 (by decide +kernel)
  have A1 := A0.fr S1 (fun _ => rfl) rfl rfl rfl rfl rfl
  have Qx3 : Qm h1 = (nxt (h0 113) (h0 108 8) (Qm h0)) := nx_m (rowz (FR.rf (cs := [114]) (ss := [(108, 9), (108, 10), (108, 11), (108, 12), (108, 13), (108, 14), (108, 16), (108, 18)]) (h := h0)) (fun _ => rfl)) ((FR.rf (cs := [114]) (ss := [(108, 9), (108, 10), (108, 11), (108, 12), (108, 13), (108, 14), (108, 16), (108, 18)]) (h := h0)) 108 8 rfl) rfl (g_108_10 G0).1 Tx3
  have Px3 : h0 108 10 ≤ h1 108 9 := Tx3.1.1
  have Lx3 : h0 108 9 < h0 108 10 := M0.lt (by omega)
  have na1 : h1 108 16 = h0 108 16 := S1 108 16 rfl
  have V1 : vr h1 = (vr h0) := (vr_S S1 (fun _ => rfl) rfl (fun _ => rfl)).trans rfl
  refine z_aload_n (M := M_X12_readShorter) 9 dX12_readShorter_9 rfl ?_
  refine z_lconst (M := M_X12_readShorter) 10 dX12_readShorter_10 (v := 0) ?_
  refine z_ldc2 (M := M_X12_readShorter) 11 dX12_readShorter_11 k_X12_152 ?_
  refine z_vI (M := M_X12_readShorter) 14 dX12_readShorter_14 t_X12_number l_X12_254 (m_rr_of rfl) (rest := []) (c_X12_number_g h1 0 3 G1 ⟨by omega, by omega⟩ ⟨by omega, by omega⟩ ((S1 108 14 rfl).trans hb) Mx3) o_108 rfl rfl rfl (Nat.le_of_ble_eq_true rfl) ⟨rfl, rfl⟩ (fun x4 h2 qx4 => ?_)
  obtain ⟨G2, S2, Dx4⟩ := qx4
  have R2 := R1.call S2 (by decide +kernel)
  have A2 := A1.fr S2 (fun _ => rfl) rfl rfl rfl rfl rfl
  rcases nm_c (rowz R1 (fun _ => rfl)) (R1 108 8 rfl) Qx3 Dx4 with ⟨Wx4, Nx4, bx4, Mx4, Qx4, Px4, Lx4, gx4⟩ | ⟨Wx4, bx4, fx4, Px4⟩
  · have na2 : h2 108 16 = h1 108 16 := S2 108 16 rfl
    have V2 : vr h2 = (vr h0) := (vr_S S2 (fun _ => rfl) rfl (fun _ => rfl)).trans V1
    have lx4 : 0 ≤ x4 ∧ x4 ≤ 3 := by rw [Nx4]; exact ⟨Wx4.2.2.1, Wx4.2.2.2⟩
    refine z_istore_n (M := M_X12_readShorter) 17 dX12_readShorter_17 (ls' := [some (mR 108), some (mI x2), some (mI x4), none]) (by decide) rfl ?_
    refine z_aload_n (M := M_X12_readShorter) 18 dX12_readShorter_18 rfl ?_
    refine z_aload_n (M := M_X12_readShorter) 19 dX12_readShorter_19 rfl ?_
    refine z_ldc2 (M := M_X12_readShorter) 20 dX12_readShorter_20 k_X12_272 ?_
    refine z_vI (M := M_X12_readShorter) 23 dX12_readShorter_23 t_X12_isWord l_X12_260 (m_rr_of rfl) (rest := [mR 108]) (c_X12_isWord h2 2273783 G2) o_108 rfl rfl rfl (Nat.le_of_ble_eq_true rfl) ⟨rfl, rfl⟩ (fun x5 h3 qx5 => ?_)
    obtain ⟨rfl, ⟨rfl, cx5⟩ | ⟨rfl, cx5⟩⟩ := qx5
    · refine z_vV (M := M_X12_readShorter) 26 dX12_readShorter_26 t_X12_must l_X12_247 (m_rr_of rfl) (rest := []) (c_X12_must_1 h2 1 G2 ⟨by omega, by omega⟩ bx4 Mx4 (by omega)) o_108 rfl rfl rfl (Nat.le_of_ble_eq_true rfl) ⟨rfl, rfl⟩ (fun h4 qx6 => ?_)
      obtain ⟨G4, S4, Mx6, Kx6, Px6⟩ := qx6
      have R4 := R2.call S4 (by decide +kernel)
      have A4 := A2.fr S4 (fun _ => rfl) rfl rfl rfl rfl rfl
      have Qx6 : Qm h4 = (nxt (h0 113) (h0 108 8) (nxt (h0 113) (h0 108 8) (nxt (h0 113) (h0 108 8) (Qm h0)))) := nx_mm (rowz R2 (fun _ => rfl)) (R2 108 8 rfl) Qx4 Kx6
      have Lx6 : h2 108 9 < h2 108 10 := Mx4.lt (by omega)
      have na4 : h4 108 16 = h2 108 16 := S4 108 16 rfl
      have V4 : vr h4 = (vr h0) := (vr_S S4 (fun _ => rfl) rfl (fun _ => rfl)).trans V2
      refine z_aload_n (M := M_X12_readShorter) 29 dX12_readShorter_29 rfl ?_
      refine z_getJV (M := M_X12_readShorter) 30 dX12_readShorter_30 f_X12_224 o_108 rfl (fun x7 ex7 => ?_)
      refine z_l2i (M := M_X12_readShorter) 33 dX12_readShorter_33 ?_
      refine z_topm (fun x8 ex8 ox8 => ?_)
      unfold m_32 at ox8
      refine z_istore_n (M := M_X12_readShorter) 34 dX12_readShorter_34 (ls' := [some (mR 108), some (mI x2), some (mI x4), some (mI x8)]) (by decide) rfl ?_
      refine z_aload_n (M := M_X12_readShorter) 35 dX12_readShorter_35 rfl ?_
      refine z_aload_n (M := M_X12_readShorter) 36 dX12_readShorter_36 rfl ?_
      refine z_getIG (M := M_X12_readShorter) 37 dX12_readShorter_37 f_X12_234 o_108 (by decide) (g_108_11 G4) (fun x9 ex9 ax9 bx9 => ?_)
      refine z_iconst (M := M_X12_readShorter) 40 dX12_readShorter_40 ?_
      refine z_icmp_ne (M := M_X12_readShorter) 41 dX12_readShorter_41 67 rfl (fun c10 => ?_) (fun c10 => ?_)
      · refine z_iconst (M := M_X12_readShorter) 67 dX12_readShorter_67 ?_
        have ek_ : h4 108 12 = x7 := ex7
        have nk_ := num_c (rowz R4 (fun _ => rfl)) (R4 108 8 rfl) Qx6 (nk (lo := 0) (hi := 3) (g_108_9 G4).1 Mx6.1 Mx6.2.1 (by omega) (by omega))
        have mw_ := m_w_or ex8
        refine z_vV (M := M_X12_readShorter) 68 dX12_readShorter_68 t_X12_must l_X12_247 (m_rr_of rfl) (rest := []) (c_X12_must_0 h4 0 G4 ⟨by omega, by omega⟩ ((S4 108 14 rfl).trans bx4)) o_108 rfl rfl rfl (Nat.le_of_ble_eq_true rfl) ⟨rfl, rfl⟩ (fun h5 qx11 => ?_)
        obtain ⟨G5, S5, bx11, fx11⟩ := qx11
        have R5 := R4.call S5 (by decide +kernel)
        have A5 := A4.fr S5 (fun _ => rfl) rfl rfl rfl rfl rfl
        have Px11 : h5 108 9 = h4 108 9 := S5 108 9 rfl
        have fpx11 : h5 108 13 = (nxt (h0 113) (h0 108 8) (nxt (h0 113) (h0 108 8) (nxt (h0 113) (h0 108 8) (Qm h0)))).1 := fx11.trans (fst_m Qx6)
        refine z_aload_n (M := M_X12_readShorter) 71 dX12_readShorter_71 rfl ?_
        refine z_getIE (M := M_X12_readShorter) 72 dX12_readShorter_72 f_X12_214 o_108 (by decide) bx11 ?_
        refine z_if_ne_T (M := M_X12_readShorter) 75 dX12_readShorter_75 87 rfl (by omega) ?_
        have bb_ : h5 108 14 = 1 := bx11
        exact z_retV (M := M_X12_readShorter) 87 dX12_readShorter_87 rfl ⟨G5, R5, md_er (by unfold rdShort; rw [cif_pos (Wx4), cif_pos ((iw_c (rowz R2 (fun _ => rfl)) Qx4 (mw_14 Mx4 (g_108_9 G2).1)).mpr cx5), cif_neg (fun z => by have z1 := nk_.1.mp z.1; have z2 := nk_.2 z1; exact z.2 (by rw [← z2, ← Nx4]; omega))]) bx11 fpx11, by omega, fun _ => by omega⟩
      · refine z_aload_n (M := M_X12_readShorter) 44 dX12_readShorter_44 rfl ?_
        refine z_getJE (M := M_X12_readShorter) 45 dX12_readShorter_45 f_X12_224 o_108 rfl ex7 ?_
        refine z_lconst (M := M_X12_readShorter) 48 dX12_readShorter_48 (v := 0) ?_
        refine z_ldc2 (M := M_X12_readShorter) 49 dX12_readShorter_49 k_X12_152 ?_
        refine z_sI (M := M_X12_readShorter) 52 dX12_readShorter_52 t_X12_in l_X12_143 (m_rr_of rfl) (rest := [mR 108]) (c_X12_in h4 x7 0 3 G4) rfl rfl (Nat.le_of_ble_eq_true rfl) ⟨rfl, rfl⟩ (fun x12 h6 qx12 => ?_)
        obtain ⟨rfl, ⟨rfl, cx12⟩ | ⟨rfl, cx12⟩⟩ := qx12
        · refine z_if_eq_F (M := M_X12_readShorter) 55 dX12_readShorter_55 67 rfl (by omega) ?_
          refine z_iload_n (M := M_X12_readShorter) 58 dX12_readShorter_58 rfl ?_
          refine z_iload_n (M := M_X12_readShorter) 59 dX12_readShorter_59 rfl ?_
          refine z_icmp_eq (M := M_X12_readShorter) 60 dX12_readShorter_60 67 rfl (fun c13 => ?_) (fun c13 => ?_)
          · refine z_iconst (M := M_X12_readShorter) 67 dX12_readShorter_67 ?_
            have ek_ : h4 108 12 = x7 := ex7
            have nk_ := num_c (rowz R4 (fun _ => rfl)) (R4 108 8 rfl) Qx6 (nk (lo := 0) (hi := 3) (g_108_9 G4).1 Mx6.1 Mx6.2.1 (by omega) (by omega))
            have mw_ := m_w_or ex8
            refine z_vV (M := M_X12_readShorter) 68 dX12_readShorter_68 t_X12_must l_X12_247 (m_rr_of rfl) (rest := []) (c_X12_must_0 h4 0 G4 ⟨by omega, by omega⟩ ((S4 108 14 rfl).trans bx4)) o_108 rfl rfl rfl (Nat.le_of_ble_eq_true rfl) ⟨rfl, rfl⟩ (fun h7 qx14 => ?_)
            obtain ⟨G7, S7, bx14, fx14⟩ := qx14
            have R7 := R4.call S7 (by decide +kernel)
            have A7 := A4.fr S7 (fun _ => rfl) rfl rfl rfl rfl rfl
            have Px14 : h7 108 9 = h4 108 9 := S7 108 9 rfl
            have fpx14 : h7 108 13 = (nxt (h0 113) (h0 108 8) (nxt (h0 113) (h0 108 8) (nxt (h0 113) (h0 108 8) (Qm h0)))).1 := fx14.trans (fst_m Qx6)
            refine z_aload_n (M := M_X12_readShorter) 71 dX12_readShorter_71 rfl ?_
            refine z_getIE (M := M_X12_readShorter) 72 dX12_readShorter_72 f_X12_214 o_108 (by decide) bx14 ?_
            refine z_if_ne_T (M := M_X12_readShorter) 75 dX12_readShorter_75 87 rfl (by omega) ?_
            have bb_ : h7 108 14 = 1 := bx14
            exact z_retV (M := M_X12_readShorter) 87 dX12_readShorter_87 rfl ⟨G7, R7, md_er (by unfold rdShort; rw [cif_pos (Wx4), cif_pos ((iw_c (rowz R2 (fun _ => rfl)) Qx4 (mw_14 Mx4 (g_108_9 G2).1)).mpr cx5), cif_neg (fun z => by have z1 := nk_.1.mp z.1; have z2 := nk_.2 z1; exact z.2 (by rw [← z2, ← Nx4]; omega))]) bx14 fpx14, by omega, fun _ => by omega⟩
          · refine z_iconst (M := M_X12_readShorter) 63 dX12_readShorter_63 ?_
            refine z_goto (M := M_X12_readShorter) 64 dX12_readShorter_64 68 rfl ?_
            have ek_ : h4 108 12 = x7 := ex7
            have nk_ := num_c (rowz R4 (fun _ => rfl)) (R4 108 8 rfl) Qx6 (nk (lo := 0) (hi := 3) (g_108_9 G4).1 Mx6.1 Mx6.2.1 (by omega) (by omega))
            have mw_ := m_w_or ex8
            have en_ : x8 = num (h0 113) (nxt (h0 113) (h0 108 8) (nxt (h0 113) (h0 108 8) (nxt (h0 113) (h0 108 8) (Qm h0)))) := (show x8 = h4 108 12 by omega).trans (nk_.2 ⟨by omega, by omega, by omega⟩)
            refine z_vV (M := M_X12_readShorter) 68 dX12_readShorter_68 t_X12_must l_X12_247 (m_rr_of rfl) (rest := []) (c_X12_must_1 h4 1 G4 ⟨by omega, by omega⟩ ((S4 108 14 rfl).trans bx4) Mx6 (by omega)) o_108 rfl rfl rfl (Nat.le_of_ble_eq_true rfl) ⟨rfl, rfl⟩ (fun h8 qx15 => ?_)
            obtain ⟨G8, S8, Mx15, Kx15, Px15⟩ := qx15
            have R8 := R4.call S8 (by decide +kernel)
            have A8 := A4.fr S8 (fun _ => rfl) rfl rfl rfl rfl rfl
            have Qx15 : Qm h8 = (nxt (h0 113) (h0 108 8) (nxt (h0 113) (h0 108 8) (nxt (h0 113) (h0 108 8) (nxt (h0 113) (h0 108 8) (Qm h0))))) := nx_mm (rowz R4 (fun _ => rfl)) (R4 108 8 rfl) Qx6 Kx15
            have Lx15 : h4 108 9 < h4 108 10 := Mx6.lt (by omega)
            have na8 : h8 108 16 = h4 108 16 := S8 108 16 rfl
            have V8 : vr h8 = (vr h0) := (vr_S S8 (fun _ => rfl) rfl (fun _ => rfl)).trans V4
            refine z_aload_n (M := M_X12_readShorter) 71 dX12_readShorter_71 rfl ?_
            refine z_getIE (M := M_X12_readShorter) 72 dX12_readShorter_72 f_X12_214 o_108 (by decide) ((S8 108 14 rfl).trans ((S4 108 14 rfl).trans bx4)) ?_
            refine z_if_ne_F (M := M_X12_readShorter) 75 dX12_readShorter_75 87 rfl (by omega) ?_
            refine z_aload_n (M := M_X12_readShorter) 78 dX12_readShorter_78 rfl ?_
            refine z_iload_n (M := M_X12_readShorter) 79 dX12_readShorter_79 rfl ?_
            refine z_iload_n (M := M_X12_readShorter) 80 dX12_readShorter_80 rfl ?_
            refine z_vI (M := M_X12_readShorter) 81 dX12_readShorter_81 t_X12_isDrafted l_X12_274 (m_rr_of rfl) (rest := []) (c_X12_isDrafted2 h8 x4 x8 G8 A8) o_108 rfl rfl rfl (Nat.le_of_ble_eq_true rfl) ⟨rfl, rfl⟩ (fun x16 h9 qx16 => ?_)
            obtain ⟨G9, S9, ax16, bx16, fx16⟩ := qx16
            have R9 := R8.call S9 (by decide +kernel)
            have A9 := A8.fr S9 (fun _ => rfl) rfl rfl rfl rfl rfl
            have na9 : h9 108 16 = h8 108 16 := S9 108 16 rfl
            have V9 : vr h9 = (vr h0) := (vr_S S9 (fun _ => rfl) rfl (fun _ => rfl)).trans V8
            have M9_ := MTk.same Mx15 (rowz S9 (fun _ => rfl)) (fun j u v => S9 108 j rfl)
            have Q9_ : Qm h9 = (nxt (h0 113) (h0 108 8) (nxt (h0 113) (h0 108 8) (nxt (h0 113) (h0 108 8) (nxt (h0 113) (h0 108 8) (Qm h0))))) := (Qm_S S9 rfl rfl).trans Qx15
            have P9_ : h9 108 9 = h8 108 9 := S9 108 9 rfl
            refine z_if_eq (M := M_X12_readShorter) 84 dX12_readShorter_84 88 rfl (fun c17 => ?_) (fun c17 => ?_)
            · have v01_ := vr_01 A9
              have e01_ : vr h9 1 = vr h0 1 := congrFun V9 1
              have e00_ : vr h9 0 = vr h0 0 := congrFun V9 0
              have rm_ := A9.rooms
              have hb_ : h9 108 14 = 0 := ((S9 108 14 rfl).trans ((S8 108 14 rfl).trans ((S4 108 14 rfl).trans bx4)))
              have g16_ := (g_108_16 G9).1
              refine z_aload_n (M := M_X12_readShorter) 88 dX12_readShorter_88 rfl ?_
              refine z_getR (M := M_X12_readShorter) 89 dX12_readShorter_89 f_X12_13 o_108 rfl (g_108_3 G9) ?_
              refine z_iconst (M := M_X12_readShorter) 92 dX12_readShorter_92 ?_
              refine z_ialdG (M := M_X12_readShorter) 93 dX12_readShorter_93 o_110 (by omega) (by omega) (gw_1 G9) (fun x18 ex18 ax18 bx18 => ?_)
              refine z_aload_n (M := M_X12_readShorter) 94 dX12_readShorter_94 rfl ?_
              refine z_getIG (M := M_X12_readShorter) 95 dX12_readShorter_95 f_X12_277 o_108 (by decide) (g_108_18 G9) (fun x19 ex19 ax19 bx19 => ?_)
              refine z_iaddN (M := M_X12_readShorter) 98 dX12_readShorter_98 (by omega) (by omega) ?_
              refine z_bipush (M := M_X12_readShorter) 99 dX12_readShorter_99 ?_
              have r1_ : h9 110 1 = x18 := ex18
              have s1_ : h9 108 18 = x19 := ex19
              refine z_icmp_ne (M := M_X12_readShorter) 101 dX12_readShorter_101 115 rfl (fun c20 => ?_) (fun c20 => ?_)
              · refine z_aload_n (M := M_X12_readShorter) 115 dX12_readShorter_115 rfl ?_
                refine z_dup (M := M_X12_readShorter) 116 dX12_readShorter_116 rfl ?_
                refine z_getIE (M := M_X12_readShorter) 117 dX12_readShorter_117 f_X12_277 o_108 (by decide) ex19 ?_
                refine z_iconst (M := M_X12_readShorter) 120 dX12_readShorter_120 ?_
                refine z_iaddN (M := M_X12_readShorter) 121 dX12_readShorter_121 (by omega) (by omega) ?_
                refine z_putIH (M := M_X12_readShorter) 122 dX12_readShorter_122 p_X12_277 o_108 rfl (u_108_18 G9 (by omega) (by omega)) (R9.up rfl) (fun h10 E10 G10 R10 => ?_)
                have M10_ := M9_.up E10 (by decide)
                have Q10_ : Qm h10 = (nxt (h0 113) (h0 108 8) (nxt (h0 113) (h0 108 8) (nxt (h0 113) (h0 108 8) (nxt (h0 113) (h0 108 8) (Qm h0))))) := (Qm_up E10 (by decide)).trans Q9_
                have V10 : vr h10 = (vr h0) := (vr_up E10 (by decide)).trans V9
                have P10_ : h10 108 9 = h9 108 9 := upN E10 (by decide)
                have na10 : h10 108 16 = h9 108 16 := upN E10 (by decide)
                refine z_aload_n (M := M_X12_readShorter) 125 dX12_readShorter_125 rfl ?_
                refine z_iconst (M := M_X12_readShorter) 126 dX12_readShorter_126 ?_
                refine z_iload_n (M := M_X12_readShorter) 127 dX12_readShorter_127 rfl ?_
                refine z_iload_n (M := M_X12_readShorter) 128 dX12_readShorter_128 rfl ?_
                refine z_iconst (M := M_X12_readShorter) 129 dX12_readShorter_129 ?_
                refine z_iconst (M := M_X12_readShorter) 130 dX12_readShorter_130 ?_
                have gb10 := (g_108_9 G10).2
                have ga10 := (g_108_16 G10).1
                have hb10_ : h10 108 14 = 0 := ((upN E10 (fun q => absurd q.2 (by decide))).trans ((S9 108 14 rfl).trans ((S8 108 14 rfl).trans ((S4 108 14 rfl).trans bx4))))
                refine z_vV (M := M_X12_readShorter) 131 dX12_readShorter_131 t_X12_act l_X12_268 (m_rr_of rfl) (rest := []) (c_X12_act h10 1 x4 x8 0 0 G10 (Or.inr (by omega))) o_108 rfl rfl rfl (Nat.le_of_ble_eq_true rfl) ⟨rfl, rfl⟩ (fun h11 qx21 => ?_)
                obtain ⟨G11, S11, fx21⟩ := qx21
                have R11 := R10.call S11 (by decide +kernel)
                have na11 : h11 108 16 = h10 108 16 + 1 := (fx21.resolve_left (fun z => z.1 ((upN E10 (fun q => absurd q.2 (by decide))).trans ((S9 108 14 rfl).trans ((S8 108 14 rfl).trans ((S4 108 14 rfl).trans bx4)))))).2.1
                have V11 : vr h11 = act1 1 x4 x8 0 0 (vr h0) := (vr_act fx21 ((upN E10 (fun q => absurd q.2 (by decide))).trans ((S9 108 14 rfl).trans ((S8 108 14 rfl).trans ((S4 108 14 rfl).trans bx4)))) (g_108_16 G10).1 S11 (fun _ => rfl)).trans (congrArg (act1 1 x4 x8 0 0) V10)
                have M11_ := MTk.same M10_ (rowz S11 (fun _ => rfl)) (fun j u v => S11 108 j (fr_j (by omega)))
                have Q11_ : Qm h11 = (nxt (h0 113) (h0 108 8) (nxt (h0 113) (h0 108 8) (nxt (h0 113) (h0 108 8) (nxt (h0 113) (h0 108 8) (Qm h0))))) := (Qm_S S11 rfl rfl).trans Q10_
                have P11_ : h11 108 9 = h10 108 9 := S11 108 9 rfl
                have A11 := AI_act1 A9 (by omega) E10 ex19 (by omega) (by omega) fx21 (by unfold okA; omega)
                exact z_retV (M := M_X12_readShorter) 134 dX12_readShorter_134 rfl ⟨G11, R11, md_ok (p := ((nxt (h0 113) (h0 108 8) (nxt (h0 113) (h0 108 8) (nxt (h0 113) (h0 108 8) (nxt (h0 113) (h0 108 8) (Qm h0))))), rS (vr h0) x4 x8)) (by unfold rdShort; rw [cif_pos (Wx4), cif_pos ((iw_c (rowz R2 (fun _ => rfl)) Qx4 (mw_14 Mx4 (g_108_9 G2).1)).mpr cx5), cif_pos (⟨nk_.1.mpr ⟨by omega, by omega, by omega⟩, by rw [← en_, ← Nx4]; omega⟩), ← Nx4, ← en_, cif_neg (fun z => by have := (iS_v V8 fx16).mpr z; omega), cif_pos (by omega)]) ((S11 108 14 rfl).trans ((upN E10 (fun q => absurd q.2 (by decide))).trans ((S9 108 14 rfl).trans ((S8 108 14 rfl).trans ((S4 108 14 rfl).trans bx4))))) M11_ A11 (by omega) Q11_ (V11.trans act1_k1) (((S11 108 13 rfl).trans ((upN E10 (fun q => absurd q.2 (by decide))).trans ((S9 108 13 rfl).trans ((S8 108 13 rfl).trans ((S4 108 13 rfl).trans (gx4.trans ((S1 108 13 rfl).trans ex1))))))).trans ex1.symm), by omega, fun _ => by omega⟩
              · refine z_aload_n (M := M_X12_readShorter) 104 dX12_readShorter_104 rfl ?_
                refine z_iconst (M := M_X12_readShorter) 105 dX12_readShorter_105 ?_
                refine z_putZH (M := M_X12_readShorter) 106 dX12_readShorter_106 p_X12_214 o_108 rfl (by omega) (u_108_14 G9 (by omega) (by omega)) (R9.up rfl) (fun h12 E12 G12 R12 => ?_)
                have A12 := A9.same (fun j => upN E12 (fun q => absurd q.1 (by decide))) (upN E12 (by decide)) (upN E12 (by decide)) (upN E12 (by decide)) (upN E12 (by decide)) (upN E12 (by decide))
                refine z_aload_n (M := M_X12_readShorter) 109 dX12_readShorter_109 rfl ?_
                refine z_iload_n (M := M_X12_readShorter) 110 dX12_readShorter_110 rfl ?_
                refine z_putIH (M := M_X12_readShorter) 111 dX12_readShorter_111 p_X12_26 o_108 rfl (u_108_13 G12) (R12.up rfl) (fun h13 E13 G13 R13 => ?_)
                have A13 := A12.same (fun j => upN E13 (fun q => absurd q.1 (by decide))) (upN E13 (by decide)) (upN E13 (by decide)) (upN E13 (by decide)) (upN E13 (by decide)) (upN E13 (by decide))
                have bb_ : h13 108 14 = 1 := ((upN E13 (fun q => absurd q.2 (by decide))).trans (upE E12))
                have pp_ : h13 108 9 = h9 108 9 := (upN E13 (by decide)).trans (upN E12 (by decide))
                exact z_retV (M := M_X12_readShorter) 114 dX12_readShorter_114 rfl ⟨G13, R13, md_er (by unfold rdShort; rw [cif_pos (Wx4), cif_pos ((iw_c (rowz R2 (fun _ => rfl)) Qx4 (mw_14 Mx4 (g_108_9 G2).1)).mpr cx5), cif_pos (⟨nk_.1.mpr ⟨by omega, by omega, by omega⟩, by rw [← en_, ← Nx4]; omega⟩), ← Nx4, ← en_, cif_neg (fun z => by have := (iS_v V8 fx16).mpr z; omega), cif_neg (by omega)]) ((upN E13 (fun q => absurd q.2 (by decide))).trans (upE E12)) ((upE E13).trans ex2.symm), by omega, fun _ => by omega⟩
            · exact z_retV (M := M_X12_readShorter) 87 dX12_readShorter_87 rfl ⟨G9, R9, md_ok (p := ((nxt (h0 113) (h0 108 8) (nxt (h0 113) (h0 108 8) (nxt (h0 113) (h0 108 8) (nxt (h0 113) (h0 108 8) (Qm h0))))), vr h0)) (by unfold rdShort; rw [cif_pos (Wx4), cif_pos ((iw_c (rowz R2 (fun _ => rfl)) Qx4 (mw_14 Mx4 (g_108_9 G2).1)).mpr cx5), cif_pos (⟨nk_.1.mpr ⟨by omega, by omega, by omega⟩, by rw [← en_, ← Nx4]; omega⟩), ← Nx4, ← en_, cif_pos ((iS_v V8 fx16).mp (by omega))]) ((S9 108 14 rfl).trans ((S8 108 14 rfl).trans ((S4 108 14 rfl).trans bx4))) M9_ A9 (by omega) Q9_ V9 (((S9 108 13 rfl).trans ((S8 108 13 rfl).trans ((S4 108 13 rfl).trans (gx4.trans ((S1 108 13 rfl).trans ex1))))).trans ex1.symm), by omega, fun _ => by omega⟩
        · refine z_if_eq_T (M := M_X12_readShorter) 55 dX12_readShorter_55 67 rfl (by omega) ?_
          refine z_iconst (M := M_X12_readShorter) 67 dX12_readShorter_67 ?_
          have ek_ : h4 108 12 = x7 := ex7
          have nk_ := num_c (rowz R4 (fun _ => rfl)) (R4 108 8 rfl) Qx6 (nk (lo := 0) (hi := 3) (g_108_9 G4).1 Mx6.1 Mx6.2.1 (by omega) (by omega))
          have mw_ := m_w_or ex8
          refine z_vV (M := M_X12_readShorter) 68 dX12_readShorter_68 t_X12_must l_X12_247 (m_rr_of rfl) (rest := []) (c_X12_must_0 h4 0 G4 ⟨by omega, by omega⟩ ((S4 108 14 rfl).trans bx4)) o_108 rfl rfl rfl (Nat.le_of_ble_eq_true rfl) ⟨rfl, rfl⟩ (fun h14 qx22 => ?_)
          obtain ⟨G14, S14, bx22, fx22⟩ := qx22
          have R14 := R4.call S14 (by decide +kernel)
          have A14 := A4.fr S14 (fun _ => rfl) rfl rfl rfl rfl rfl
          have Px22 : h14 108 9 = h4 108 9 := S14 108 9 rfl
          have fpx22 : h14 108 13 = (nxt (h0 113) (h0 108 8) (nxt (h0 113) (h0 108 8) (nxt (h0 113) (h0 108 8) (Qm h0)))).1 := fx22.trans (fst_m Qx6)
          refine z_aload_n (M := M_X12_readShorter) 71 dX12_readShorter_71 rfl ?_
          refine z_getIE (M := M_X12_readShorter) 72 dX12_readShorter_72 f_X12_214 o_108 (by decide) bx22 ?_
          refine z_if_ne_T (M := M_X12_readShorter) 75 dX12_readShorter_75 87 rfl (by omega) ?_
          have bb_ : h14 108 14 = 1 := bx22
          exact z_retV (M := M_X12_readShorter) 87 dX12_readShorter_87 rfl ⟨G14, R14, md_er (by unfold rdShort; rw [cif_pos (Wx4), cif_pos ((iw_c (rowz R2 (fun _ => rfl)) Qx4 (mw_14 Mx4 (g_108_9 G2).1)).mpr cx5), cif_neg (fun z => by have z1 := nk_.1.mp z.1; have z2 := nk_.2 z1; exact z.2 (by rw [← z2, ← Nx4]; omega))]) bx22 fpx22, by omega, fun _ => by omega⟩
    · refine z_vV (M := M_X12_readShorter) 26 dX12_readShorter_26 t_X12_must l_X12_247 (m_rr_of rfl) (rest := []) (c_X12_must_0 h2 0 G2 ⟨by omega, by omega⟩ bx4) o_108 rfl rfl rfl (Nat.le_of_ble_eq_true rfl) ⟨rfl, rfl⟩ (fun h15 qx23 => ?_)
      obtain ⟨G15, S15, bx23, fx23⟩ := qx23
      have R15 := R2.call S15 (by decide +kernel)
      have A15 := A2.fr S15 (fun _ => rfl) rfl rfl rfl rfl rfl
      have Px23 : h15 108 9 = h2 108 9 := S15 108 9 rfl
      have fpx23 : h15 108 13 = (nxt (h0 113) (h0 108 8) (nxt (h0 113) (h0 108 8) (Qm h0))).1 := fx23.trans (fst_m Qx4)
      refine z_aload_n (M := M_X12_readShorter) 29 dX12_readShorter_29 rfl ?_
      refine z_getJV (M := M_X12_readShorter) 30 dX12_readShorter_30 f_X12_224 o_108 rfl (fun x24 ex24 => ?_)
      refine z_l2i (M := M_X12_readShorter) 33 dX12_readShorter_33 ?_
      refine z_topm (fun x25 ex25 ox25 => ?_)
      unfold m_32 at ox25
      refine z_istore_n (M := M_X12_readShorter) 34 dX12_readShorter_34 (ls' := [some (mR 108), some (mI x2), some (mI x4), some (mI x25)]) (by decide) rfl ?_
      refine z_aload_n (M := M_X12_readShorter) 35 dX12_readShorter_35 rfl ?_
      refine z_aload_n (M := M_X12_readShorter) 36 dX12_readShorter_36 rfl ?_
      refine z_getIG (M := M_X12_readShorter) 37 dX12_readShorter_37 f_X12_234 o_108 (by decide) (g_108_11 G15) (fun x26 ex26 ax26 bx26 => ?_)
      refine z_iconst (M := M_X12_readShorter) 40 dX12_readShorter_40 ?_
      refine z_icmp_ne (M := M_X12_readShorter) 41 dX12_readShorter_41 67 rfl (fun c27 => ?_) (fun c27 => ?_)
      · refine z_iconst (M := M_X12_readShorter) 67 dX12_readShorter_67 ?_
        refine z_vV (M := M_X12_readShorter) 68 dX12_readShorter_68 t_X12_must l_X12_247 (m_rr_of rfl) (rest := []) (c_X12_must_b h15 0 G15 ⟨by omega, by omega⟩ bx23) o_108 rfl rfl rfl (Nat.le_of_ble_eq_true rfl) ⟨rfl, rfl⟩ (fun h16 qx28 => ?_)
        obtain ⟨G16, S16⟩ := qx28
        have R16 := R15.call S16 (by decide +kernel)
        have P16_ : h16 108 9 = h15 108 9 := S16 108 9 rfl
        refine z_aload_n (M := M_X12_readShorter) 71 dX12_readShorter_71 rfl ?_
        refine z_getIE (M := M_X12_readShorter) 72 dX12_readShorter_72 f_X12_214 o_108 (by decide) ((S16 108 14 rfl).trans bx23) ?_
        refine z_if_ne_T (M := M_X12_readShorter) 75 dX12_readShorter_75 87 rfl (by omega) ?_
        have bb_ : h16 108 14 = 1 := ((S16 108 14 rfl).trans bx23)
        exact z_retV (M := M_X12_readShorter) 87 dX12_readShorter_87 rfl ⟨G16, R16, md_er (by unfold rdShort; rw [cif_pos (Wx4), cif_neg (fun z => cx5 ((iw_c (rowz R2 (fun _ => rfl)) Qx4 (mw_14 Mx4 (g_108_9 G2).1)).mp z))]) ((S16 108 14 rfl).trans bx23) ((S16 108 13 rfl).trans fpx23), by omega, fun _ => by omega⟩
      · refine z_aload_n (M := M_X12_readShorter) 44 dX12_readShorter_44 rfl ?_
        refine z_getJE (M := M_X12_readShorter) 45 dX12_readShorter_45 f_X12_224 o_108 rfl ex24 ?_
        refine z_lconst (M := M_X12_readShorter) 48 dX12_readShorter_48 (v := 0) ?_
        refine z_ldc2 (M := M_X12_readShorter) 49 dX12_readShorter_49 k_X12_152 ?_
        refine z_sI (M := M_X12_readShorter) 52 dX12_readShorter_52 t_X12_in l_X12_143 (m_rr_of rfl) (rest := [mR 108]) (c_X12_in h15 x24 0 3 G15) rfl rfl (Nat.le_of_ble_eq_true rfl) ⟨rfl, rfl⟩ (fun x29 h17 qx29 => ?_)
        obtain ⟨rfl, ⟨rfl, cx29⟩ | ⟨rfl, cx29⟩⟩ := qx29
        · refine z_if_eq_F (M := M_X12_readShorter) 55 dX12_readShorter_55 67 rfl (by omega) ?_
          refine z_iload_n (M := M_X12_readShorter) 58 dX12_readShorter_58 rfl ?_
          refine z_iload_n (M := M_X12_readShorter) 59 dX12_readShorter_59 rfl ?_
          refine z_icmp_eq (M := M_X12_readShorter) 60 dX12_readShorter_60 67 rfl (fun c30 => ?_) (fun c30 => ?_)
          · refine z_iconst (M := M_X12_readShorter) 67 dX12_readShorter_67 ?_
            refine z_vV (M := M_X12_readShorter) 68 dX12_readShorter_68 t_X12_must l_X12_247 (m_rr_of rfl) (rest := []) (c_X12_must_b h15 0 G15 ⟨by omega, by omega⟩ bx23) o_108 rfl rfl rfl (Nat.le_of_ble_eq_true rfl) ⟨rfl, rfl⟩ (fun h18 qx31 => ?_)
            obtain ⟨G18, S18⟩ := qx31
            have R18 := R15.call S18 (by decide +kernel)
            have P18_ : h18 108 9 = h15 108 9 := S18 108 9 rfl
            refine z_aload_n (M := M_X12_readShorter) 71 dX12_readShorter_71 rfl ?_
            refine z_getIE (M := M_X12_readShorter) 72 dX12_readShorter_72 f_X12_214 o_108 (by decide) ((S18 108 14 rfl).trans bx23) ?_
            refine z_if_ne_T (M := M_X12_readShorter) 75 dX12_readShorter_75 87 rfl (by omega) ?_
            have bb_ : h18 108 14 = 1 := ((S18 108 14 rfl).trans bx23)
            exact z_retV (M := M_X12_readShorter) 87 dX12_readShorter_87 rfl ⟨G18, R18, md_er (by unfold rdShort; rw [cif_pos (Wx4), cif_neg (fun z => cx5 ((iw_c (rowz R2 (fun _ => rfl)) Qx4 (mw_14 Mx4 (g_108_9 G2).1)).mp z))]) ((S18 108 14 rfl).trans bx23) ((S18 108 13 rfl).trans fpx23), by omega, fun _ => by omega⟩
          · refine z_iconst (M := M_X12_readShorter) 63 dX12_readShorter_63 ?_
            refine z_goto (M := M_X12_readShorter) 64 dX12_readShorter_64 68 rfl ?_
            refine z_vV (M := M_X12_readShorter) 68 dX12_readShorter_68 t_X12_must l_X12_247 (m_rr_of rfl) (rest := []) (c_X12_must_b h15 1 G15 ⟨by omega, by omega⟩ bx23) o_108 rfl rfl rfl (Nat.le_of_ble_eq_true rfl) ⟨rfl, rfl⟩ (fun h19 qx32 => ?_)
            obtain ⟨G19, S19⟩ := qx32
            have R19 := R15.call S19 (by decide +kernel)
            have P19_ : h19 108 9 = h15 108 9 := S19 108 9 rfl
            refine z_aload_n (M := M_X12_readShorter) 71 dX12_readShorter_71 rfl ?_
            refine z_getIE (M := M_X12_readShorter) 72 dX12_readShorter_72 f_X12_214 o_108 (by decide) ((S19 108 14 rfl).trans bx23) ?_
            refine z_if_ne_T (M := M_X12_readShorter) 75 dX12_readShorter_75 87 rfl (by omega) ?_
            have bb_ : h19 108 14 = 1 := ((S19 108 14 rfl).trans bx23)
            exact z_retV (M := M_X12_readShorter) 87 dX12_readShorter_87 rfl ⟨G19, R19, md_er (by unfold rdShort; rw [cif_pos (Wx4), cif_neg (fun z => cx5 ((iw_c (rowz R2 (fun _ => rfl)) Qx4 (mw_14 Mx4 (g_108_9 G2).1)).mp z))]) ((S19 108 14 rfl).trans bx23) ((S19 108 13 rfl).trans fpx23), by omega, fun _ => by omega⟩
        · refine z_if_eq_T (M := M_X12_readShorter) 55 dX12_readShorter_55 67 rfl (by omega) ?_
          refine z_iconst (M := M_X12_readShorter) 67 dX12_readShorter_67 ?_
          refine z_vV (M := M_X12_readShorter) 68 dX12_readShorter_68 t_X12_must l_X12_247 (m_rr_of rfl) (rest := []) (c_X12_must_b h15 0 G15 ⟨by omega, by omega⟩ bx23) o_108 rfl rfl rfl (Nat.le_of_ble_eq_true rfl) ⟨rfl, rfl⟩ (fun h20 qx33 => ?_)
          obtain ⟨G20, S20⟩ := qx33
          have R20 := R15.call S20 (by decide +kernel)
          have P20_ : h20 108 9 = h15 108 9 := S20 108 9 rfl
          refine z_aload_n (M := M_X12_readShorter) 71 dX12_readShorter_71 rfl ?_
          refine z_getIE (M := M_X12_readShorter) 72 dX12_readShorter_72 f_X12_214 o_108 (by decide) ((S20 108 14 rfl).trans bx23) ?_
          refine z_if_ne_T (M := M_X12_readShorter) 75 dX12_readShorter_75 87 rfl (by omega) ?_
          have bb_ : h20 108 14 = 1 := ((S20 108 14 rfl).trans bx23)
          exact z_retV (M := M_X12_readShorter) 87 dX12_readShorter_87 rfl ⟨G20, R20, md_er (by unfold rdShort; rw [cif_pos (Wx4), cif_neg (fun z => cx5 ((iw_c (rowz R2 (fun _ => rfl)) Qx4 (mw_14 Mx4 (g_108_9 G2).1)).mp z))]) ((S20 108 14 rfl).trans bx23) ((S20 108 13 rfl).trans fpx23), by omega, fun _ => by omega⟩
  · have fpx4 : h2 108 13 = (nxt (h0 113) (h0 108 8) (Qm h0)).1 := fx4.trans (fst_m Qx3)
    refine z_ok (fun ox4 _ _ => ?_)
    have ox4 := ox4.1; unfold m_ok m_32 at ox4
    refine z_istore_n (M := M_X12_readShorter) 17 dX12_readShorter_17 (ls' := [some (mR 108), some (mI x2), some (mI x4), none]) (by decide) rfl ?_
    refine z_aload_n (M := M_X12_readShorter) 18 dX12_readShorter_18 rfl ?_
    refine z_aload_n (M := M_X12_readShorter) 19 dX12_readShorter_19 rfl ?_
    refine z_ldc2 (M := M_X12_readShorter) 20 dX12_readShorter_20 k_X12_272 ?_
    refine z_vI (M := M_X12_readShorter) 23 dX12_readShorter_23 t_X12_isWord l_X12_260 (m_rr_of rfl) (rest := [mR 108]) (c_X12_isWord h2 2273783 G2) o_108 rfl rfl rfl (Nat.le_of_ble_eq_true rfl) ⟨rfl, rfl⟩ (fun x34 h21 qx34 => ?_)
    obtain ⟨rfl, ⟨rfl, cx34⟩ | ⟨rfl, cx34⟩⟩ := qx34
    · refine z_vV (M := M_X12_readShorter) 26 dX12_readShorter_26 t_X12_must l_X12_247 (m_rr_of rfl) (rest := []) (c_X12_must_b h2 1 G2 ⟨by omega, by omega⟩ bx4) o_108 rfl rfl rfl (Nat.le_of_ble_eq_true rfl) ⟨rfl, rfl⟩ (fun h22 qx35 => ?_)
      obtain ⟨G22, S22⟩ := qx35
      have R22 := R2.call S22 (by decide +kernel)
      have P22_ : h22 108 9 = h2 108 9 := S22 108 9 rfl
      refine z_aload_n (M := M_X12_readShorter) 29 dX12_readShorter_29 rfl ?_
      refine z_getJV (M := M_X12_readShorter) 30 dX12_readShorter_30 f_X12_224 o_108 rfl (fun x36 ex36 => ?_)
      refine z_l2i (M := M_X12_readShorter) 33 dX12_readShorter_33 ?_
      refine z_topm (fun x37 ex37 ox37 => ?_)
      unfold m_32 at ox37
      refine z_istore_n (M := M_X12_readShorter) 34 dX12_readShorter_34 (ls' := [some (mR 108), some (mI x2), some (mI x4), some (mI x37)]) (by decide) rfl ?_
      refine z_aload_n (M := M_X12_readShorter) 35 dX12_readShorter_35 rfl ?_
      refine z_aload_n (M := M_X12_readShorter) 36 dX12_readShorter_36 rfl ?_
      refine z_getIG (M := M_X12_readShorter) 37 dX12_readShorter_37 f_X12_234 o_108 (by decide) (g_108_11 G22) (fun x38 ex38 ax38 bx38 => ?_)
      refine z_iconst (M := M_X12_readShorter) 40 dX12_readShorter_40 ?_
      refine z_icmp_ne (M := M_X12_readShorter) 41 dX12_readShorter_41 67 rfl (fun c39 => ?_) (fun c39 => ?_)
      · refine z_iconst (M := M_X12_readShorter) 67 dX12_readShorter_67 ?_
        refine z_vV (M := M_X12_readShorter) 68 dX12_readShorter_68 t_X12_must l_X12_247 (m_rr_of rfl) (rest := []) (c_X12_must_b h22 0 G22 ⟨by omega, by omega⟩ ((S22 108 14 rfl).trans bx4)) o_108 rfl rfl rfl (Nat.le_of_ble_eq_true rfl) ⟨rfl, rfl⟩ (fun h23 qx40 => ?_)
        obtain ⟨G23, S23⟩ := qx40
        have R23 := R22.call S23 (by decide +kernel)
        have P23_ : h23 108 9 = h22 108 9 := S23 108 9 rfl
        refine z_aload_n (M := M_X12_readShorter) 71 dX12_readShorter_71 rfl ?_
        refine z_getIE (M := M_X12_readShorter) 72 dX12_readShorter_72 f_X12_214 o_108 (by decide) ((S23 108 14 rfl).trans ((S22 108 14 rfl).trans bx4)) ?_
        refine z_if_ne_T (M := M_X12_readShorter) 75 dX12_readShorter_75 87 rfl (by omega) ?_
        have bb_ : h23 108 14 = 1 := ((S23 108 14 rfl).trans ((S22 108 14 rfl).trans bx4))
        exact z_retV (M := M_X12_readShorter) 87 dX12_readShorter_87 rfl ⟨G23, R23, md_er (by unfold rdShort; rw [cif_neg (Wx4)]) ((S23 108 14 rfl).trans ((S22 108 14 rfl).trans bx4)) ((S23 108 13 rfl).trans ((S22 108 13 rfl).trans fpx4)), by omega, fun _ => by omega⟩
      · refine z_aload_n (M := M_X12_readShorter) 44 dX12_readShorter_44 rfl ?_
        refine z_getJE (M := M_X12_readShorter) 45 dX12_readShorter_45 f_X12_224 o_108 rfl ex36 ?_
        refine z_lconst (M := M_X12_readShorter) 48 dX12_readShorter_48 (v := 0) ?_
        refine z_ldc2 (M := M_X12_readShorter) 49 dX12_readShorter_49 k_X12_152 ?_
        refine z_sI (M := M_X12_readShorter) 52 dX12_readShorter_52 t_X12_in l_X12_143 (m_rr_of rfl) (rest := [mR 108]) (c_X12_in h22 x36 0 3 G22) rfl rfl (Nat.le_of_ble_eq_true rfl) ⟨rfl, rfl⟩ (fun x41 h24 qx41 => ?_)
        obtain ⟨rfl, ⟨rfl, cx41⟩ | ⟨rfl, cx41⟩⟩ := qx41
        · refine z_if_eq_F (M := M_X12_readShorter) 55 dX12_readShorter_55 67 rfl (by omega) ?_
          refine z_iload_n (M := M_X12_readShorter) 58 dX12_readShorter_58 rfl ?_
          refine z_iload_n (M := M_X12_readShorter) 59 dX12_readShorter_59 rfl ?_
          refine z_icmp_eq (M := M_X12_readShorter) 60 dX12_readShorter_60 67 rfl (fun c42 => ?_) (fun c42 => ?_)
          · refine z_iconst (M := M_X12_readShorter) 67 dX12_readShorter_67 ?_
            refine z_vV (M := M_X12_readShorter) 68 dX12_readShorter_68 t_X12_must l_X12_247 (m_rr_of rfl) (rest := []) (c_X12_must_b h22 0 G22 ⟨by omega, by omega⟩ ((S22 108 14 rfl).trans bx4)) o_108 rfl rfl rfl (Nat.le_of_ble_eq_true rfl) ⟨rfl, rfl⟩ (fun h25 qx43 => ?_)
            obtain ⟨G25, S25⟩ := qx43
            have R25 := R22.call S25 (by decide +kernel)
            have P25_ : h25 108 9 = h22 108 9 := S25 108 9 rfl
            refine z_aload_n (M := M_X12_readShorter) 71 dX12_readShorter_71 rfl ?_
            refine z_getIE (M := M_X12_readShorter) 72 dX12_readShorter_72 f_X12_214 o_108 (by decide) ((S25 108 14 rfl).trans ((S22 108 14 rfl).trans bx4)) ?_
            refine z_if_ne_T (M := M_X12_readShorter) 75 dX12_readShorter_75 87 rfl (by omega) ?_
            have bb_ : h25 108 14 = 1 := ((S25 108 14 rfl).trans ((S22 108 14 rfl).trans bx4))
            exact z_retV (M := M_X12_readShorter) 87 dX12_readShorter_87 rfl ⟨G25, R25, md_er (by unfold rdShort; rw [cif_neg (Wx4)]) ((S25 108 14 rfl).trans ((S22 108 14 rfl).trans bx4)) ((S25 108 13 rfl).trans ((S22 108 13 rfl).trans fpx4)), by omega, fun _ => by omega⟩
          · refine z_iconst (M := M_X12_readShorter) 63 dX12_readShorter_63 ?_
            refine z_goto (M := M_X12_readShorter) 64 dX12_readShorter_64 68 rfl ?_
            refine z_vV (M := M_X12_readShorter) 68 dX12_readShorter_68 t_X12_must l_X12_247 (m_rr_of rfl) (rest := []) (c_X12_must_b h22 1 G22 ⟨by omega, by omega⟩ ((S22 108 14 rfl).trans bx4)) o_108 rfl rfl rfl (Nat.le_of_ble_eq_true rfl) ⟨rfl, rfl⟩ (fun h26 qx44 => ?_)
            obtain ⟨G26, S26⟩ := qx44
            have R26 := R22.call S26 (by decide +kernel)
            have P26_ : h26 108 9 = h22 108 9 := S26 108 9 rfl
            refine z_aload_n (M := M_X12_readShorter) 71 dX12_readShorter_71 rfl ?_
            refine z_getIE (M := M_X12_readShorter) 72 dX12_readShorter_72 f_X12_214 o_108 (by decide) ((S26 108 14 rfl).trans ((S22 108 14 rfl).trans bx4)) ?_
            refine z_if_ne_T (M := M_X12_readShorter) 75 dX12_readShorter_75 87 rfl (by omega) ?_
            have bb_ : h26 108 14 = 1 := ((S26 108 14 rfl).trans ((S22 108 14 rfl).trans bx4))
            exact z_retV (M := M_X12_readShorter) 87 dX12_readShorter_87 rfl ⟨G26, R26, md_er (by unfold rdShort; rw [cif_neg (Wx4)]) ((S26 108 14 rfl).trans ((S22 108 14 rfl).trans bx4)) ((S26 108 13 rfl).trans ((S22 108 13 rfl).trans fpx4)), by omega, fun _ => by omega⟩
        · refine z_if_eq_T (M := M_X12_readShorter) 55 dX12_readShorter_55 67 rfl (by omega) ?_
          refine z_iconst (M := M_X12_readShorter) 67 dX12_readShorter_67 ?_
          refine z_vV (M := M_X12_readShorter) 68 dX12_readShorter_68 t_X12_must l_X12_247 (m_rr_of rfl) (rest := []) (c_X12_must_b h22 0 G22 ⟨by omega, by omega⟩ ((S22 108 14 rfl).trans bx4)) o_108 rfl rfl rfl (Nat.le_of_ble_eq_true rfl) ⟨rfl, rfl⟩ (fun h27 qx45 => ?_)
          obtain ⟨G27, S27⟩ := qx45
          have R27 := R22.call S27 (by decide +kernel)
          have P27_ : h27 108 9 = h22 108 9 := S27 108 9 rfl
          refine z_aload_n (M := M_X12_readShorter) 71 dX12_readShorter_71 rfl ?_
          refine z_getIE (M := M_X12_readShorter) 72 dX12_readShorter_72 f_X12_214 o_108 (by decide) ((S27 108 14 rfl).trans ((S22 108 14 rfl).trans bx4)) ?_
          refine z_if_ne_T (M := M_X12_readShorter) 75 dX12_readShorter_75 87 rfl (by omega) ?_
          have bb_ : h27 108 14 = 1 := ((S27 108 14 rfl).trans ((S22 108 14 rfl).trans bx4))
          exact z_retV (M := M_X12_readShorter) 87 dX12_readShorter_87 rfl ⟨G27, R27, md_er (by unfold rdShort; rw [cif_neg (Wx4)]) ((S27 108 14 rfl).trans ((S22 108 14 rfl).trans bx4)) ((S27 108 13 rfl).trans ((S22 108 13 rfl).trans fpx4)), by omega, fun _ => by omega⟩
    · refine z_vV (M := M_X12_readShorter) 26 dX12_readShorter_26 t_X12_must l_X12_247 (m_rr_of rfl) (rest := []) (c_X12_must_b h2 0 G2 ⟨by omega, by omega⟩ bx4) o_108 rfl rfl rfl (Nat.le_of_ble_eq_true rfl) ⟨rfl, rfl⟩ (fun h28 qx46 => ?_)
      obtain ⟨G28, S28⟩ := qx46
      have R28 := R2.call S28 (by decide +kernel)
      have P28_ : h28 108 9 = h2 108 9 := S28 108 9 rfl
      refine z_aload_n (M := M_X12_readShorter) 29 dX12_readShorter_29 rfl ?_
      refine z_getJV (M := M_X12_readShorter) 30 dX12_readShorter_30 f_X12_224 o_108 rfl (fun x47 ex47 => ?_)
      refine z_l2i (M := M_X12_readShorter) 33 dX12_readShorter_33 ?_
      refine z_topm (fun x48 ex48 ox48 => ?_)
      unfold m_32 at ox48
      refine z_istore_n (M := M_X12_readShorter) 34 dX12_readShorter_34 (ls' := [some (mR 108), some (mI x2), some (mI x4), some (mI x48)]) (by decide) rfl ?_
      refine z_aload_n (M := M_X12_readShorter) 35 dX12_readShorter_35 rfl ?_
      refine z_aload_n (M := M_X12_readShorter) 36 dX12_readShorter_36 rfl ?_
      refine z_getIG (M := M_X12_readShorter) 37 dX12_readShorter_37 f_X12_234 o_108 (by decide) (g_108_11 G28) (fun x49 ex49 ax49 bx49 => ?_)
      refine z_iconst (M := M_X12_readShorter) 40 dX12_readShorter_40 ?_
      refine z_icmp_ne (M := M_X12_readShorter) 41 dX12_readShorter_41 67 rfl (fun c50 => ?_) (fun c50 => ?_)
      · refine z_iconst (M := M_X12_readShorter) 67 dX12_readShorter_67 ?_
        refine z_vV (M := M_X12_readShorter) 68 dX12_readShorter_68 t_X12_must l_X12_247 (m_rr_of rfl) (rest := []) (c_X12_must_b h28 0 G28 ⟨by omega, by omega⟩ ((S28 108 14 rfl).trans bx4)) o_108 rfl rfl rfl (Nat.le_of_ble_eq_true rfl) ⟨rfl, rfl⟩ (fun h29 qx51 => ?_)
        obtain ⟨G29, S29⟩ := qx51
        have R29 := R28.call S29 (by decide +kernel)
        have P29_ : h29 108 9 = h28 108 9 := S29 108 9 rfl
        refine z_aload_n (M := M_X12_readShorter) 71 dX12_readShorter_71 rfl ?_
        refine z_getIE (M := M_X12_readShorter) 72 dX12_readShorter_72 f_X12_214 o_108 (by decide) ((S29 108 14 rfl).trans ((S28 108 14 rfl).trans bx4)) ?_
        refine z_if_ne_T (M := M_X12_readShorter) 75 dX12_readShorter_75 87 rfl (by omega) ?_
        have bb_ : h29 108 14 = 1 := ((S29 108 14 rfl).trans ((S28 108 14 rfl).trans bx4))
        exact z_retV (M := M_X12_readShorter) 87 dX12_readShorter_87 rfl ⟨G29, R29, md_er (by unfold rdShort; rw [cif_neg (Wx4)]) ((S29 108 14 rfl).trans ((S28 108 14 rfl).trans bx4)) ((S29 108 13 rfl).trans ((S28 108 13 rfl).trans fpx4)), by omega, fun _ => by omega⟩
      · refine z_aload_n (M := M_X12_readShorter) 44 dX12_readShorter_44 rfl ?_
        refine z_getJE (M := M_X12_readShorter) 45 dX12_readShorter_45 f_X12_224 o_108 rfl ex47 ?_
        refine z_lconst (M := M_X12_readShorter) 48 dX12_readShorter_48 (v := 0) ?_
        refine z_ldc2 (M := M_X12_readShorter) 49 dX12_readShorter_49 k_X12_152 ?_
        refine z_sI (M := M_X12_readShorter) 52 dX12_readShorter_52 t_X12_in l_X12_143 (m_rr_of rfl) (rest := [mR 108]) (c_X12_in h28 x47 0 3 G28) rfl rfl (Nat.le_of_ble_eq_true rfl) ⟨rfl, rfl⟩ (fun x52 h30 qx52 => ?_)
        obtain ⟨rfl, ⟨rfl, cx52⟩ | ⟨rfl, cx52⟩⟩ := qx52
        · refine z_if_eq_F (M := M_X12_readShorter) 55 dX12_readShorter_55 67 rfl (by omega) ?_
          refine z_iload_n (M := M_X12_readShorter) 58 dX12_readShorter_58 rfl ?_
          refine z_iload_n (M := M_X12_readShorter) 59 dX12_readShorter_59 rfl ?_
          refine z_icmp_eq (M := M_X12_readShorter) 60 dX12_readShorter_60 67 rfl (fun c53 => ?_) (fun c53 => ?_)
          · refine z_iconst (M := M_X12_readShorter) 67 dX12_readShorter_67 ?_
            refine z_vV (M := M_X12_readShorter) 68 dX12_readShorter_68 t_X12_must l_X12_247 (m_rr_of rfl) (rest := []) (c_X12_must_b h28 0 G28 ⟨by omega, by omega⟩ ((S28 108 14 rfl).trans bx4)) o_108 rfl rfl rfl (Nat.le_of_ble_eq_true rfl) ⟨rfl, rfl⟩ (fun h31 qx54 => ?_)
            obtain ⟨G31, S31⟩ := qx54
            have R31 := R28.call S31 (by decide +kernel)
            have P31_ : h31 108 9 = h28 108 9 := S31 108 9 rfl
            refine z_aload_n (M := M_X12_readShorter) 71 dX12_readShorter_71 rfl ?_
            refine z_getIE (M := M_X12_readShorter) 72 dX12_readShorter_72 f_X12_214 o_108 (by decide) ((S31 108 14 rfl).trans ((S28 108 14 rfl).trans bx4)) ?_
            refine z_if_ne_T (M := M_X12_readShorter) 75 dX12_readShorter_75 87 rfl (by omega) ?_
            have bb_ : h31 108 14 = 1 := ((S31 108 14 rfl).trans ((S28 108 14 rfl).trans bx4))
            exact z_retV (M := M_X12_readShorter) 87 dX12_readShorter_87 rfl ⟨G31, R31, md_er (by unfold rdShort; rw [cif_neg (Wx4)]) ((S31 108 14 rfl).trans ((S28 108 14 rfl).trans bx4)) ((S31 108 13 rfl).trans ((S28 108 13 rfl).trans fpx4)), by omega, fun _ => by omega⟩
          · refine z_iconst (M := M_X12_readShorter) 63 dX12_readShorter_63 ?_
            refine z_goto (M := M_X12_readShorter) 64 dX12_readShorter_64 68 rfl ?_
            refine z_vV (M := M_X12_readShorter) 68 dX12_readShorter_68 t_X12_must l_X12_247 (m_rr_of rfl) (rest := []) (c_X12_must_b h28 1 G28 ⟨by omega, by omega⟩ ((S28 108 14 rfl).trans bx4)) o_108 rfl rfl rfl (Nat.le_of_ble_eq_true rfl) ⟨rfl, rfl⟩ (fun h32 qx55 => ?_)
            obtain ⟨G32, S32⟩ := qx55
            have R32 := R28.call S32 (by decide +kernel)
            have P32_ : h32 108 9 = h28 108 9 := S32 108 9 rfl
            refine z_aload_n (M := M_X12_readShorter) 71 dX12_readShorter_71 rfl ?_
            refine z_getIE (M := M_X12_readShorter) 72 dX12_readShorter_72 f_X12_214 o_108 (by decide) ((S32 108 14 rfl).trans ((S28 108 14 rfl).trans bx4)) ?_
            refine z_if_ne_T (M := M_X12_readShorter) 75 dX12_readShorter_75 87 rfl (by omega) ?_
            have bb_ : h32 108 14 = 1 := ((S32 108 14 rfl).trans ((S28 108 14 rfl).trans bx4))
            exact z_retV (M := M_X12_readShorter) 87 dX12_readShorter_87 rfl ⟨G32, R32, md_er (by unfold rdShort; rw [cif_neg (Wx4)]) ((S32 108 14 rfl).trans ((S28 108 14 rfl).trans bx4)) ((S32 108 13 rfl).trans ((S28 108 13 rfl).trans fpx4)), by omega, fun _ => by omega⟩
        · refine z_if_eq_T (M := M_X12_readShorter) 55 dX12_readShorter_55 67 rfl (by omega) ?_
          refine z_iconst (M := M_X12_readShorter) 67 dX12_readShorter_67 ?_
          refine z_vV (M := M_X12_readShorter) 68 dX12_readShorter_68 t_X12_must l_X12_247 (m_rr_of rfl) (rest := []) (c_X12_must_b h28 0 G28 ⟨by omega, by omega⟩ ((S28 108 14 rfl).trans bx4)) o_108 rfl rfl rfl (Nat.le_of_ble_eq_true rfl) ⟨rfl, rfl⟩ (fun h33 qx56 => ?_)
          obtain ⟨G33, S33⟩ := qx56
          have R33 := R28.call S33 (by decide +kernel)
          have P33_ : h33 108 9 = h28 108 9 := S33 108 9 rfl
          refine z_aload_n (M := M_X12_readShorter) 71 dX12_readShorter_71 rfl ?_
          refine z_getIE (M := M_X12_readShorter) 72 dX12_readShorter_72 f_X12_214 o_108 (by decide) ((S33 108 14 rfl).trans ((S28 108 14 rfl).trans bx4)) ?_
          refine z_if_ne_T (M := M_X12_readShorter) 75 dX12_readShorter_75 87 rfl (by omega) ?_
          have bb_ : h33 108 14 = 1 := ((S33 108 14 rfl).trans ((S28 108 14 rfl).trans bx4))
          exact z_retV (M := M_X12_readShorter) 87 dX12_readShorter_87 rfl ⟨G33, R33, md_er (by unfold rdShort; rw [cif_neg (Wx4)]) ((S33 108 14 rfl).trans ((S28 108 14 rfl).trans bx4)) ((S33 108 13 rfl).trans ((S28 108 13 rfl).trans fpx4)), by omega, fun _ => by omega⟩
abbrev P_X12_readMeasure2 (h0 : m_H) (a1 : Int) : m_H → Prop := fun h' => GI h' ∧ FR [114] [(108, 9), (108, 10), (108, 11), (108, 12), (108, 13), (108, 14), (108, 16), (108, 17)] h0 h' ∧ mdQ (rdMeas (h0 113) (h0 108 8) (Qm h0) (vr h0) a1) h0 h' ∧ h0 108 9 ≤ h' 108 9 ∧ (h' 108 14 = 0 → h0 108 9 + 1 ≤ h' 108 9)
set_option maxHeartbeats 4000000 in
set_option maxRecDepth 100000 in
theorem c_X12_readMeasure2 (h0 : m_H) (a1 : Int) (G0 : GI h0) (pa1 : 0 ≤ a1 ∧ a1 ≤ 5) (hb : h0 108 14 = 0) (M0 : MTk h0) (A0 : AI h0) (N0 : 2 * h0 108 16 ≤ h0 108 9) : m_CV M_X12_readMeasure [mR 108, mI a1] h0 (P_X12_readMeasure2 h0 a1) := by
  refine m_CV_of ⟨by decide, rfl, by simp [m_arg, m_isL, M_X12_readMeasure], ⟨rfl, rfl⟩, rfl, rfl⟩ (ls := [some (mR 108), some (mI a1), none, none, none]) rfl ?_
  obtain ⟨x1, ex1⟩ : ∃ y : Int, h0 108 13 = y := ⟨_, rfl⟩
  refine z_aload_n (M := M_X12_readMeasure) 0 dX12_readMeasure_0 rfl ?_
  refine z_aload_n (M := M_X12_readMeasure) 1 dX12_readMeasure_1 rfl ?_
  refine z_ldc2 (M := M_X12_readMeasure) 2 dX12_readMeasure_2 k_X12_280 ?_
  refine z_vI (M := M_X12_readMeasure) 5 dX12_readMeasure_5 t_X12_isWord l_X12_260 (m_rr_of rfl) (rest := [mR 108]) (c_X12_isWord h0 302 G0) o_108 rfl rfl rfl (Nat.le_of_ble_eq_true rfl) ⟨rfl, rfl⟩ (fun x2 h1 qx2 => ?_)
  obtain ⟨rfl, ⟨rfl, cx2⟩ | ⟨rfl, cx2⟩⟩ := qx2
  · refine z_if_eq_F (M := M_X12_readMeasure) 8 dX12_readMeasure_8 31 rfl (by omega) ?_
    refine z_aload_n (M := M_X12_readMeasure) 11 dX12_readMeasure_11 rfl ?_
    refine z_getR (M := M_X12_readMeasure) 12 dX12_readMeasure_12 f_X12_13 o_108 rfl (g_108_3 G0) ?_
    refine z_iconst (M := M_X12_readMeasure) 15 dX12_readMeasure_15 ?_
    refine z_ialdG (M := M_X12_readMeasure) 16 dX12_readMeasure_16 o_110 (by omega) (by omega) (gw_0 G0) (fun x3 ex3 ax3 bx3 => ?_)
    refine z_aload_n (M := M_X12_readMeasure) 17 dX12_readMeasure_17 rfl ?_
    refine z_getIG (M := M_X12_readMeasure) 18 dX12_readMeasure_18 f_X12_282 o_108 (by decide) (g_108_17 G0) (fun x4 ex4 ax4 bx4 => ?_)
    refine z_iaddN (M := M_X12_readMeasure) 21 dX12_readMeasure_21 (by omega) (by omega) ?_
    refine z_bipush (M := M_X12_readMeasure) 22 dX12_readMeasure_22 ?_
    have v01_ := vr_01 A0
    have e01_ : vr h0 1 = vr h0 1 := congrFun rfl 1
    have e00_ : vr h0 0 = vr h0 0 := congrFun rfl 0
    have rm_ := A0.rooms
    have hb_ : h0 108 14 = 0 := hb
    have g16_ := (g_108_16 G0).1
    have r0_ : h0 110 0 = x3 := ex3
    have s0_ : h0 108 17 = x4 := ex4
    refine z_icmp_ge (M := M_X12_readMeasure) 24 dX12_readMeasure_24 31 rfl (fun c5 => ?_) (fun c5 => ?_)
    · refine z_iconst (M := M_X12_readMeasure) 31 dX12_readMeasure_31 ?_
      refine z_vV (M := M_X12_readMeasure) 32 dX12_readMeasure_32 t_X12_must l_X12_247 (m_rr_of rfl) (rest := []) (c_X12_must_0 h0 0 G0 ⟨by omega, by omega⟩ hb) o_108 rfl rfl rfl (Nat.le_of_ble_eq_true rfl) ⟨rfl, rfl⟩ (fun h2 qx6 => ?_)
      obtain ⟨G2, S2, bx6, fx6⟩ := qx6
      have R2 := (FR.rf (cs := [114]) (ss := [(108, 9), (108, 10), (108, 11), (108, 12), (108, 13), (108, 14), (108, 16), (108, 17)]) (h := h0)).call S2 (by decide +kernel)
      have A2 := A0.fr S2 (fun _ => rfl) rfl rfl rfl rfl rfl
      have Px6 : h2 108 9 = h0 108 9 := S2 108 9 rfl
      have fpx6 : h2 108 13 = (Qm h0).1 := fx6.trans (fst_m rfl)
      refine z_aload_n (M := M_X12_readMeasure) 35 dX12_readMeasure_35 rfl ?_
      refine z_lconst (M := M_X12_readMeasure) 36 dX12_readMeasure_36 (v := 0) ?_
      refine z_ldc2 (M := M_X12_readMeasure) 37 dX12_readMeasure_37 k_X12_154 ?_
      refine z_vI (M := M_X12_readMeasure) 40 dX12_readMeasure_40 t_X12_number l_X12_254 (m_rr_of rfl) (rest := []) (c_X12_number_b h2 0 31 G2 ⟨by omega, by omega⟩ ⟨by omega, by omega⟩ bx6) o_108 rfl rfl rfl (Nat.le_of_ble_eq_true rfl) ⟨rfl, rfl⟩ (fun x7 h3 qx7 => ?_)
      obtain ⟨G3, S3⟩ := qx7
      have R3 := R2.call S3 (by decide +kernel)
      refine z_ok (fun ox7 _ _ => ?_)
      have ox7 := ox7.1; unfold m_ok m_32 at ox7
      have P3_ : h3 108 9 = h2 108 9 := S3 108 9 rfl
      refine z_istore_n (M := M_X12_readMeasure) 43 dX12_readMeasure_43 (ls' := [some (mR 108), some (mI a1), some (mI x7), none, none]) (by decide) rfl ?_
      refine z_aload_n (M := M_X12_readMeasure) 44 dX12_readMeasure_44 rfl ?_
      refine z_aload_n (M := M_X12_readMeasure) 45 dX12_readMeasure_45 rfl ?_
      refine z_ldc2 (M := M_X12_readMeasure) 46 dX12_readMeasure_46 k_X12_285 ?_
      refine z_vI (M := M_X12_readMeasure) 49 dX12_readMeasure_49 t_X12_isWord l_X12_260 (m_rr_of rfl) (rest := [mR 108]) (c_X12_isWord h3 307 G3) o_108 rfl rfl rfl (Nat.le_of_ble_eq_true rfl) ⟨rfl, rfl⟩ (fun x8 h4 qx8 => ?_)
      obtain ⟨rfl, ⟨rfl, cx8⟩ | ⟨rfl, cx8⟩⟩ := qx8
      · refine z_vV (M := M_X12_readMeasure) 52 dX12_readMeasure_52 t_X12_must l_X12_247 (m_rr_of rfl) (rest := []) (c_X12_must_b h3 1 G3 ⟨by omega, by omega⟩ ((S3 108 14 rfl).trans bx6)) o_108 rfl rfl rfl (Nat.le_of_ble_eq_true rfl) ⟨rfl, rfl⟩ (fun h5 qx9 => ?_)
        obtain ⟨G5, S5⟩ := qx9
        have R5 := R3.call S5 (by decide +kernel)
        have P5_ : h5 108 9 = h3 108 9 := S5 108 9 rfl
        refine z_aload_n (M := M_X12_readMeasure) 55 dX12_readMeasure_55 rfl ?_
        refine z_lconst (M := M_X12_readMeasure) 56 dX12_readMeasure_56 (v := 1) ?_
        refine z_ldc2 (M := M_X12_readMeasure) 57 dX12_readMeasure_57 k_X12_180 ?_
        refine z_vI (M := M_X12_readMeasure) 60 dX12_readMeasure_60 t_X12_number l_X12_254 (m_rr_of rfl) (rest := []) (c_X12_number_b h5 1 99 G5 ⟨by omega, by omega⟩ ⟨by omega, by omega⟩ ((S5 108 14 rfl).trans ((S3 108 14 rfl).trans bx6))) o_108 rfl rfl rfl (Nat.le_of_ble_eq_true rfl) ⟨rfl, rfl⟩ (fun x10 h6 qx10 => ?_)
        obtain ⟨G6, S6⟩ := qx10
        have R6 := R5.call S6 (by decide +kernel)
        refine z_ok (fun ox10 _ _ => ?_)
        have ox10 := ox10.1; unfold m_ok m_32 at ox10
        have P6_ : h6 108 9 = h5 108 9 := S6 108 9 rfl
        refine z_istore_n (M := M_X12_readMeasure) 63 dX12_readMeasure_63 (ls' := [some (mR 108), some (mI a1), some (mI x7), some (mI x10), none]) (by decide) rfl ?_
        refine z_iconst (M := M_X12_readMeasure) 64 dX12_readMeasure_64 ?_
        refine z_istore (M := M_X12_readMeasure) 65 dX12_readMeasure_65 (ls' := [some (mR 108), some (mI a1), some (mI x7), some (mI x10), some (mI 0)]) (by decide) rfl ?_
        refine z_aload_n (M := M_X12_readMeasure) 67 dX12_readMeasure_67 rfl ?_
        refine z_getIE (M := M_X12_readMeasure) 68 dX12_readMeasure_68 f_X12_214 o_108 (by decide) ((S6 108 14 rfl).trans ((S5 108 14 rfl).trans ((S3 108 14 rfl).trans bx6))) ?_
        refine z_if_ne_T (M := M_X12_readMeasure) 71 dX12_readMeasure_71 134 rfl (by omega) ?_
        refine z_aload_n (M := M_X12_readMeasure) 134 dX12_readMeasure_134 rfl ?_
        refine z_iconst (M := M_X12_readMeasure) 135 dX12_readMeasure_135 ?_
        refine z_iload_n (M := M_X12_readMeasure) 136 dX12_readMeasure_136 rfl ?_
        refine z_iload_n (M := M_X12_readMeasure) 137 dX12_readMeasure_137 rfl ?_
        refine z_iload_n (M := M_X12_readMeasure) 138 dX12_readMeasure_138 rfl ?_
        refine z_iload (M := M_X12_readMeasure) 139 dX12_readMeasure_139 rfl ?_
        refine z_vV (M := M_X12_readMeasure) 141 dX12_readMeasure_141 t_X12_act l_X12_268 (m_rr_of rfl) (rest := []) (c_X12_act_b h6 3 a1 x7 x10 0 G6 ((S6 108 14 rfl).trans ((S5 108 14 rfl).trans ((S3 108 14 rfl).trans bx6)))) o_108 rfl rfl rfl (Nat.le_of_ble_eq_true rfl) ⟨rfl, rfl⟩ (fun h7 qx11 => ?_)
        obtain ⟨G7, S7⟩ := qx11
        have R7 := R6.call S7 (by decide +kernel)
        have P7_ : h7 108 9 = h6 108 9 := S7 108 9 rfl
        have bb_ : h7 108 14 = 1 := ((S7 108 14 rfl).trans ((S6 108 14 rfl).trans ((S5 108 14 rfl).trans ((S3 108 14 rfl).trans bx6))))
        exact z_retV (M := M_X12_readMeasure) 144 dX12_readMeasure_144 rfl ⟨G7, R7, md_er (by unfold rdMeas; rw [cif_neg (fun z => by have := z.1; omega)]) ((S7 108 14 rfl).trans ((S6 108 14 rfl).trans ((S5 108 14 rfl).trans ((S3 108 14 rfl).trans bx6)))) ((S7 108 13 rfl).trans ((S6 108 13 rfl).trans ((S5 108 13 rfl).trans ((S3 108 13 rfl).trans fpx6)))), by omega, fun _ => by omega⟩
      · refine z_vV (M := M_X12_readMeasure) 52 dX12_readMeasure_52 t_X12_must l_X12_247 (m_rr_of rfl) (rest := []) (c_X12_must_b h3 0 G3 ⟨by omega, by omega⟩ ((S3 108 14 rfl).trans bx6)) o_108 rfl rfl rfl (Nat.le_of_ble_eq_true rfl) ⟨rfl, rfl⟩ (fun h8 qx12 => ?_)
        obtain ⟨G8, S8⟩ := qx12
        have R8 := R3.call S8 (by decide +kernel)
        have P8_ : h8 108 9 = h3 108 9 := S8 108 9 rfl
        refine z_aload_n (M := M_X12_readMeasure) 55 dX12_readMeasure_55 rfl ?_
        refine z_lconst (M := M_X12_readMeasure) 56 dX12_readMeasure_56 (v := 1) ?_
        refine z_ldc2 (M := M_X12_readMeasure) 57 dX12_readMeasure_57 k_X12_180 ?_
        refine z_vI (M := M_X12_readMeasure) 60 dX12_readMeasure_60 t_X12_number l_X12_254 (m_rr_of rfl) (rest := []) (c_X12_number_b h8 1 99 G8 ⟨by omega, by omega⟩ ⟨by omega, by omega⟩ ((S8 108 14 rfl).trans ((S3 108 14 rfl).trans bx6))) o_108 rfl rfl rfl (Nat.le_of_ble_eq_true rfl) ⟨rfl, rfl⟩ (fun x13 h9 qx13 => ?_)
        obtain ⟨G9, S9⟩ := qx13
        have R9 := R8.call S9 (by decide +kernel)
        refine z_ok (fun ox13 _ _ => ?_)
        have ox13 := ox13.1; unfold m_ok m_32 at ox13
        have P9_ : h9 108 9 = h8 108 9 := S9 108 9 rfl
        refine z_istore_n (M := M_X12_readMeasure) 63 dX12_readMeasure_63 (ls' := [some (mR 108), some (mI a1), some (mI x7), some (mI x13), none]) (by decide) rfl ?_
        refine z_iconst (M := M_X12_readMeasure) 64 dX12_readMeasure_64 ?_
        refine z_istore (M := M_X12_readMeasure) 65 dX12_readMeasure_65 (ls' := [some (mR 108), some (mI a1), some (mI x7), some (mI x13), some (mI 0)]) (by decide) rfl ?_
        refine z_aload_n (M := M_X12_readMeasure) 67 dX12_readMeasure_67 rfl ?_
        refine z_getIE (M := M_X12_readMeasure) 68 dX12_readMeasure_68 f_X12_214 o_108 (by decide) ((S9 108 14 rfl).trans ((S8 108 14 rfl).trans ((S3 108 14 rfl).trans bx6))) ?_
        refine z_if_ne_T (M := M_X12_readMeasure) 71 dX12_readMeasure_71 134 rfl (by omega) ?_
        refine z_aload_n (M := M_X12_readMeasure) 134 dX12_readMeasure_134 rfl ?_
        refine z_iconst (M := M_X12_readMeasure) 135 dX12_readMeasure_135 ?_
        refine z_iload_n (M := M_X12_readMeasure) 136 dX12_readMeasure_136 rfl ?_
        refine z_iload_n (M := M_X12_readMeasure) 137 dX12_readMeasure_137 rfl ?_
        refine z_iload_n (M := M_X12_readMeasure) 138 dX12_readMeasure_138 rfl ?_
        refine z_iload (M := M_X12_readMeasure) 139 dX12_readMeasure_139 rfl ?_
        refine z_vV (M := M_X12_readMeasure) 141 dX12_readMeasure_141 t_X12_act l_X12_268 (m_rr_of rfl) (rest := []) (c_X12_act_b h9 3 a1 x7 x13 0 G9 ((S9 108 14 rfl).trans ((S8 108 14 rfl).trans ((S3 108 14 rfl).trans bx6)))) o_108 rfl rfl rfl (Nat.le_of_ble_eq_true rfl) ⟨rfl, rfl⟩ (fun h10 qx14 => ?_)
        obtain ⟨G10, S10⟩ := qx14
        have R10 := R9.call S10 (by decide +kernel)
        have P10_ : h10 108 9 = h9 108 9 := S10 108 9 rfl
        have bb_ : h10 108 14 = 1 := ((S10 108 14 rfl).trans ((S9 108 14 rfl).trans ((S8 108 14 rfl).trans ((S3 108 14 rfl).trans bx6))))
        exact z_retV (M := M_X12_readMeasure) 144 dX12_readMeasure_144 rfl ⟨G10, R10, md_er (by unfold rdMeas; rw [cif_neg (fun z => by have := z.1; omega)]) ((S10 108 14 rfl).trans ((S9 108 14 rfl).trans ((S8 108 14 rfl).trans ((S3 108 14 rfl).trans bx6)))) ((S10 108 13 rfl).trans ((S9 108 13 rfl).trans ((S8 108 13 rfl).trans ((S3 108 13 rfl).trans fpx6)))), by omega, fun _ => by omega⟩
    · have room_ : vr h0 0 ≤ 23 := by omega
      refine z_iconst (M := M_X12_readMeasure) 27 dX12_readMeasure_27 ?_
      refine z_goto (M := M_X12_readMeasure) 28 dX12_readMeasure_28 32 rfl ?_
      refine z_vV (M := M_X12_readMeasure) 32 dX12_readMeasure_32 t_X12_must l_X12_247 (m_rr_of rfl) (rest := []) (c_X12_must_1 h0 1 G0 ⟨by omega, by omega⟩ hb M0 (by omega)) o_108 rfl rfl rfl (Nat.le_of_ble_eq_true rfl) ⟨rfl, rfl⟩ (fun h11 qx15 => ?_)
      obtain ⟨G11, S11, Mx15, Kx15, Px15⟩ := qx15
      have R11 := (FR.rf (cs := [114]) (ss := [(108, 9), (108, 10), (108, 11), (108, 12), (108, 13), (108, 14), (108, 16), (108, 17)]) (h := h0)).call S11 (by decide +kernel)
      have A11 := A0.fr S11 (fun _ => rfl) rfl rfl rfl rfl rfl
      have Qx15 : Qm h11 = (nxt (h0 113) (h0 108 8) (Qm h0)) := nx_mm (rowz (FR.rf (cs := [114]) (ss := [(108, 9), (108, 10), (108, 11), (108, 12), (108, 13), (108, 14), (108, 16), (108, 17)]) (h := h0)) (fun _ => rfl)) ((FR.rf (cs := [114]) (ss := [(108, 9), (108, 10), (108, 11), (108, 12), (108, 13), (108, 14), (108, 16), (108, 17)]) (h := h0)) 108 8 rfl) rfl Kx15
      have Lx15 : h0 108 9 < h0 108 10 := M0.lt (by omega)
      have na11 : h11 108 16 = h0 108 16 := S11 108 16 rfl
      have V11 : vr h11 = (vr h0) := (vr_S S11 (fun _ => rfl) rfl (fun _ => rfl)).trans rfl
      refine z_aload_n (M := M_X12_readMeasure) 35 dX12_readMeasure_35 rfl ?_
      refine z_lconst (M := M_X12_readMeasure) 36 dX12_readMeasure_36 (v := 0) ?_
      refine z_ldc2 (M := M_X12_readMeasure) 37 dX12_readMeasure_37 k_X12_154 ?_
      refine z_vI (M := M_X12_readMeasure) 40 dX12_readMeasure_40 t_X12_number l_X12_254 (m_rr_of rfl) (rest := []) (c_X12_number_g h11 0 31 G11 ⟨by omega, by omega⟩ ⟨by omega, by omega⟩ ((S11 108 14 rfl).trans hb) Mx15) o_108 rfl rfl rfl (Nat.le_of_ble_eq_true rfl) ⟨rfl, rfl⟩ (fun x16 h12 qx16 => ?_)
      obtain ⟨G12, S12, Dx16⟩ := qx16
      have R12 := R11.call S12 (by decide +kernel)
      have A12 := A11.fr S12 (fun _ => rfl) rfl rfl rfl rfl rfl
      rcases nm_c (rowz R11 (fun _ => rfl)) (R11 108 8 rfl) Qx15 Dx16 with ⟨Wx16, Nx16, bx16, Mx16, Qx16, Px16, Lx16, gx16⟩ | ⟨Wx16, bx16, fx16, Px16⟩
      · have na12 : h12 108 16 = h11 108 16 := S12 108 16 rfl
        have V12 : vr h12 = (vr h0) := (vr_S S12 (fun _ => rfl) rfl (fun _ => rfl)).trans V11
        have lx16 : 0 ≤ x16 ∧ x16 ≤ 31 := by rw [Nx16]; exact ⟨Wx16.2.2.1, Wx16.2.2.2⟩
        refine z_istore_n (M := M_X12_readMeasure) 43 dX12_readMeasure_43 (ls' := [some (mR 108), some (mI a1), some (mI x16), none, none]) (by decide) rfl ?_
        refine z_aload_n (M := M_X12_readMeasure) 44 dX12_readMeasure_44 rfl ?_
        refine z_aload_n (M := M_X12_readMeasure) 45 dX12_readMeasure_45 rfl ?_
        refine z_ldc2 (M := M_X12_readMeasure) 46 dX12_readMeasure_46 k_X12_285 ?_
        refine z_vI (M := M_X12_readMeasure) 49 dX12_readMeasure_49 t_X12_isWord l_X12_260 (m_rr_of rfl) (rest := [mR 108]) (c_X12_isWord h12 307 G12) o_108 rfl rfl rfl (Nat.le_of_ble_eq_true rfl) ⟨rfl, rfl⟩ (fun x17 h13 qx17 => ?_)
        obtain ⟨rfl, ⟨rfl, cx17⟩ | ⟨rfl, cx17⟩⟩ := qx17
        · refine z_vV (M := M_X12_readMeasure) 52 dX12_readMeasure_52 t_X12_must l_X12_247 (m_rr_of rfl) (rest := []) (c_X12_must_1 h12 1 G12 ⟨by omega, by omega⟩ bx16 Mx16 (by omega)) o_108 rfl rfl rfl (Nat.le_of_ble_eq_true rfl) ⟨rfl, rfl⟩ (fun h14 qx18 => ?_)
          obtain ⟨G14, S14, Mx18, Kx18, Px18⟩ := qx18
          have R14 := R12.call S14 (by decide +kernel)
          have A14 := A12.fr S14 (fun _ => rfl) rfl rfl rfl rfl rfl
          have Qx18 : Qm h14 = (nxt (h0 113) (h0 108 8) (nxt (h0 113) (h0 108 8) (nxt (h0 113) (h0 108 8) (Qm h0)))) := nx_mm (rowz R12 (fun _ => rfl)) (R12 108 8 rfl) Qx16 Kx18
          have Lx18 : h12 108 9 < h12 108 10 := Mx16.lt (by omega)
          have na14 : h14 108 16 = h12 108 16 := S14 108 16 rfl
          have V14 : vr h14 = (vr h0) := (vr_S S14 (fun _ => rfl) rfl (fun _ => rfl)).trans V12
          refine z_aload_n (M := M_X12_readMeasure) 55 dX12_readMeasure_55 rfl ?_
          refine z_lconst (M := M_X12_readMeasure) 56 dX12_readMeasure_56 (v := 1) ?_
          refine z_ldc2 (M := M_X12_readMeasure) 57 dX12_readMeasure_57 k_X12_180 ?_
          refine z_vI (M := M_X12_readMeasure) 60 dX12_readMeasure_60 t_X12_number l_X12_254 (m_rr_of rfl) (rest := []) (c_X12_number_g h14 1 99 G14 ⟨by omega, by omega⟩ ⟨by omega, by omega⟩ ((S14 108 14 rfl).trans bx16) Mx18) o_108 rfl rfl rfl (Nat.le_of_ble_eq_true rfl) ⟨rfl, rfl⟩ (fun x19 h15 qx19 => ?_)
          obtain ⟨G15, S15, Dx19⟩ := qx19
          have R15 := R14.call S15 (by decide +kernel)
          have A15 := A14.fr S15 (fun _ => rfl) rfl rfl rfl rfl rfl
          rcases nm_c (rowz R14 (fun _ => rfl)) (R14 108 8 rfl) Qx18 Dx19 with ⟨Wx19, Nx19, bx19, Mx19, Qx19, Px19, Lx19, gx19⟩ | ⟨Wx19, bx19, fx19, Px19⟩
          · have na15 : h15 108 16 = h14 108 16 := S15 108 16 rfl
            have V15 : vr h15 = (vr h0) := (vr_S S15 (fun _ => rfl) rfl (fun _ => rfl)).trans V14
            have lx19 : 1 ≤ x19 ∧ x19 ≤ 99 := by rw [Nx19]; exact ⟨Wx19.2.2.1, Wx19.2.2.2⟩
            refine z_istore_n (M := M_X12_readMeasure) 63 dX12_readMeasure_63 (ls' := [some (mR 108), some (mI a1), some (mI x16), some (mI x19), none]) (by decide) rfl ?_
            refine z_iconst (M := M_X12_readMeasure) 64 dX12_readMeasure_64 ?_
            refine z_istore (M := M_X12_readMeasure) 65 dX12_readMeasure_65 (ls' := [some (mR 108), some (mI a1), some (mI x16), some (mI x19), some (mI 0)]) (by decide) rfl ?_
            refine z_aload_n (M := M_X12_readMeasure) 67 dX12_readMeasure_67 rfl ?_
            refine z_getIE (M := M_X12_readMeasure) 68 dX12_readMeasure_68 f_X12_214 o_108 (by decide) bx19 ?_
            refine z_if_ne_F (M := M_X12_readMeasure) 71 dX12_readMeasure_71 134 rfl (by omega) ?_
            refine z_aload_n (M := M_X12_readMeasure) 74 dX12_readMeasure_74 rfl ?_
            refine z_ldc2 (M := M_X12_readMeasure) 75 dX12_readMeasure_75 k_X12_287 ?_
            refine z_vI (M := M_X12_readMeasure) 78 dX12_readMeasure_78 t_X12_isWord l_X12_260 (m_rr_of rfl) (rest := []) (c_X12_isWord h15 24395141 G15) o_108 rfl rfl rfl (Nat.le_of_ble_eq_true rfl) ⟨rfl, rfl⟩ (fun x20 h16 qx20 => ?_)
            obtain ⟨rfl, ⟨rfl, cx20⟩ | ⟨rfl, cx20⟩⟩ := qx20
            · refine z_if_eq_F (M := M_X12_readMeasure) 81 dX12_readMeasure_81 88 rfl (by omega) ?_
              refine z_iconst (M := M_X12_readMeasure) 84 dX12_readMeasure_84 ?_
              refine z_goto (M := M_X12_readMeasure) 85 dX12_readMeasure_85 103 rfl ?_
              refine z_istore (M := M_X12_readMeasure) 103 dX12_readMeasure_103 (ls' := [some (mR 108), some (mI a1), some (mI x16), some (mI x19), some (mI 1)]) (by decide) rfl ?_
              refine z_iload (M := M_X12_readMeasure) 105 dX12_readMeasure_105 rfl ?_
              refine z_if_gt_T (M := M_X12_readMeasure) 107 dX12_readMeasure_107 120 rfl (by omega) ?_
              refine z_aload_n (M := M_X12_readMeasure) 120 dX12_readMeasure_120 rfl ?_
              refine z_vV (M := M_X12_readMeasure) 121 dX12_readMeasure_121 t_X12_next l_X12_218 (m_rr_of rfl) (rest := []) (c_X12_next2 h15 G15 Mx19.2.2.2) o_108 rfl rfl rfl (Nat.le_of_ble_eq_true rfl) ⟨rfl, rfl⟩ (fun h17 qx21 => ?_)
              obtain ⟨G17, S17, Tx21, Mx21⟩ := qx21
              have R17 := R15.call S17 (by decide +kernel)
              have A17 := A15.fr S17 (fun _ => rfl) rfl rfl rfl rfl rfl
              have Qx21 : Qm h17 = (nxt (h0 113) (h0 108 8) (nxt (h0 113) (h0 108 8) (nxt (h0 113) (h0 108 8) (nxt (h0 113) (h0 108 8) (nxt (h0 113) (h0 108 8) (Qm h0)))))) := nx_m (rowz R15 (fun _ => rfl)) (R15 108 8 rfl) Qx19 (g_108_10 G15).1 Tx21
              have Px21 : h15 108 10 ≤ h17 108 9 := Tx21.1.1
              have Lx21 : h15 108 9 < h15 108 10 := Mx19.lt (by omega)
              have na17 : h17 108 16 = h15 108 16 := S17 108 16 rfl
              have V17 : vr h17 = (vr h0) := (vr_S S17 (fun _ => rfl) rfl (fun _ => rfl)).trans V15
              have v01_ := vr_01 A17
              have e01_ : vr h17 1 = vr h0 1 := congrFun V17 1
              have e00_ : vr h17 0 = vr h0 0 := congrFun V17 0
              have rm_ := A17.rooms
              have hb_ : h17 108 14 = 0 := ((S17 108 14 rfl).trans bx19)
              have g16_ := (g_108_16 G17).1
              have n17_ : h17 108 17 = x4 := ((S17 108 17 rfl).trans ((S15 108 17 rfl).trans ((S14 108 17 rfl).trans ((S12 108 17 rfl).trans ((S11 108 17 rfl).trans ex4)))))
              refine z_aload_n (M := M_X12_readMeasure) 124 dX12_readMeasure_124 rfl ?_
              refine z_dup (M := M_X12_readMeasure) 125 dX12_readMeasure_125 rfl ?_
              refine z_getIE (M := M_X12_readMeasure) 126 dX12_readMeasure_126 f_X12_282 o_108 (by decide) ((S17 108 17 rfl).trans ((S15 108 17 rfl).trans ((S14 108 17 rfl).trans ((S12 108 17 rfl).trans ((S11 108 17 rfl).trans ex4))))) ?_
              refine z_iconst (M := M_X12_readMeasure) 129 dX12_readMeasure_129 ?_
              refine z_iaddN (M := M_X12_readMeasure) 130 dX12_readMeasure_130 (by omega) (by omega) ?_
              refine z_putIH (M := M_X12_readMeasure) 131 dX12_readMeasure_131 p_X12_282 o_108 rfl (u_108_17 G17 (by omega) (by omega)) (R17.up rfl) (fun h18 E18 G18 R18 => ?_)
              have M18_ := Mx21.up E18 (by decide)
              have Q18_ : Qm h18 = (nxt (h0 113) (h0 108 8) (nxt (h0 113) (h0 108 8) (nxt (h0 113) (h0 108 8) (nxt (h0 113) (h0 108 8) (nxt (h0 113) (h0 108 8) (Qm h0)))))) := (Qm_up E18 (by decide)).trans Qx21
              have V18 : vr h18 = (vr h0) := (vr_up E18 (by decide)).trans V17
              have P18_ : h18 108 9 = h17 108 9 := upN E18 (by decide)
              have na18 : h18 108 16 = h17 108 16 := upN E18 (by decide)
              refine z_aload_n (M := M_X12_readMeasure) 134 dX12_readMeasure_134 rfl ?_
              refine z_iconst (M := M_X12_readMeasure) 135 dX12_readMeasure_135 ?_
              refine z_iload_n (M := M_X12_readMeasure) 136 dX12_readMeasure_136 rfl ?_
              refine z_iload_n (M := M_X12_readMeasure) 137 dX12_readMeasure_137 rfl ?_
              refine z_iload_n (M := M_X12_readMeasure) 138 dX12_readMeasure_138 rfl ?_
              refine z_iload (M := M_X12_readMeasure) 139 dX12_readMeasure_139 rfl ?_
              have gb18 := (g_108_9 G18).2
              have ga18 := (g_108_16 G18).1
              have hb18_ : h18 108 14 = 0 := ((upN E18 (fun q => absurd q.2 (by decide))).trans ((S17 108 14 rfl).trans bx19))
              refine z_vV (M := M_X12_readMeasure) 141 dX12_readMeasure_141 t_X12_act l_X12_268 (m_rr_of rfl) (rest := []) (c_X12_act h18 3 a1 x16 x19 1 G18 (Or.inr (by omega))) o_108 rfl rfl rfl (Nat.le_of_ble_eq_true rfl) ⟨rfl, rfl⟩ (fun h19 qx22 => ?_)
              obtain ⟨G19, S19, fx22⟩ := qx22
              have R19 := R18.call S19 (by decide +kernel)
              have na19 : h19 108 16 = h18 108 16 + 1 := (fx22.resolve_left (fun z => z.1 ((upN E18 (fun q => absurd q.2 (by decide))).trans ((S17 108 14 rfl).trans bx19)))).2.1
              have V19 : vr h19 = act1 3 a1 x16 x19 1 (vr h0) := (vr_act fx22 ((upN E18 (fun q => absurd q.2 (by decide))).trans ((S17 108 14 rfl).trans bx19)) (g_108_16 G18).1 S19 (fun _ => rfl)).trans (congrArg (act1 3 a1 x16 x19 1) V18)
              have M19_ := MTk.same M18_ (rowz S19 (fun _ => rfl)) (fun j u v => S19 108 j (fr_j (by omega)))
              have Q19_ : Qm h19 = (nxt (h0 113) (h0 108 8) (nxt (h0 113) (h0 108 8) (nxt (h0 113) (h0 108 8) (nxt (h0 113) (h0 108 8) (nxt (h0 113) (h0 108 8) (Qm h0)))))) := (Qm_S S19 rfl rfl).trans Q18_
              have P19_ : h19 108 9 = h18 108 9 := S19 108 9 rfl
              have A19 := AI_act3 A17 (by omega) E18 ((S17 108 17 rfl).trans ((S15 108 17 rfl).trans ((S14 108 17 rfl).trans ((S12 108 17 rfl).trans ((S11 108 17 rfl).trans ex4))))) (by omega) (by omega) fx22 (by unfold okA; omega)
              exact z_retV (M := M_X12_readMeasure) 144 dX12_readMeasure_144 rfl ⟨G19, R19, md_ok (p := ((nxt (h0 113) (h0 108 8) (nxt (h0 113) (h0 108 8) (nxt (h0 113) (h0 108 8) (nxt (h0 113) (h0 108 8) (nxt (h0 113) (h0 108 8) (Qm h0)))))), rE (vr h0) a1 x16 x19 1)) (by unfold rdMeas; rw [cif_pos (⟨room_, (iw_c (rowz (FR.rf (cs := [114]) (ss := [(108, 9), (108, 10), (108, 11), (108, 12), (108, 13), (108, 14), (108, 16), (108, 17)]) (h := h0)) (fun _ => rfl)) rfl (mw_7 M0 (g_108_9 G0).1)).mpr cx2⟩), cif_pos (Wx16), cif_pos ((iw_c (rowz R12 (fun _ => rfl)) Qx16 (mw_8 Mx16 (g_108_9 G12).1)).mpr cx17), cif_pos (Wx19), (kq_9 (n := h0 108 8) ((iw_c (rowz R15 (fun _ => rfl)) Qx19 (mw_9 Mx19 (g_108_9 G15).1)).mpr cx20)).1, (kq_9 (n := h0 108 8) ((iw_c (rowz R15 (fun _ => rfl)) Qx19 (mw_9 Mx19 (g_108_9 G15).1)).mpr cx20)).2, ← Nx16, ← Nx19]) ((S19 108 14 rfl).trans ((upN E18 (fun q => absurd q.2 (by decide))).trans ((S17 108 14 rfl).trans bx19))) M19_ A19 (by omega) Q19_ (V19.trans act1_k3) (((S19 108 13 rfl).trans ((upN E18 (fun q => absurd q.2 (by decide))).trans ((S17 108 13 rfl).trans (gx19.trans ((S14 108 13 rfl).trans (gx16.trans ((S11 108 13 rfl).trans ex1))))))).trans ex1.symm), by omega, fun _ => by omega⟩
            · refine z_if_eq_T (M := M_X12_readMeasure) 81 dX12_readMeasure_81 88 rfl (by omega) ?_
              refine z_aload_n (M := M_X12_readMeasure) 88 dX12_readMeasure_88 rfl ?_
              refine z_ldc2 (M := M_X12_readMeasure) 89 dX12_readMeasure_89 k_X12_289 ?_
              refine z_vI (M := M_X12_readMeasure) 92 dX12_readMeasure_92 t_X12_isWord l_X12_260 (m_rr_of rfl) (rest := []) (c_X12_isWord h15 263558 G15) o_108 rfl rfl rfl (Nat.le_of_ble_eq_true rfl) ⟨rfl, rfl⟩ (fun x23 h20 qx23 => ?_)
              obtain ⟨rfl, ⟨rfl, cx23⟩ | ⟨rfl, cx23⟩⟩ := qx23
              · refine z_if_eq_F (M := M_X12_readMeasure) 95 dX12_readMeasure_95 102 rfl (by omega) ?_
                refine z_iconst (M := M_X12_readMeasure) 98 dX12_readMeasure_98 ?_
                refine z_goto (M := M_X12_readMeasure) 99 dX12_readMeasure_99 103 rfl ?_
                refine z_istore (M := M_X12_readMeasure) 103 dX12_readMeasure_103 (ls' := [some (mR 108), some (mI a1), some (mI x16), some (mI x19), some (mI 2)]) (by decide) rfl ?_
                refine z_iload (M := M_X12_readMeasure) 105 dX12_readMeasure_105 rfl ?_
                refine z_if_gt_T (M := M_X12_readMeasure) 107 dX12_readMeasure_107 120 rfl (by omega) ?_
                refine z_aload_n (M := M_X12_readMeasure) 120 dX12_readMeasure_120 rfl ?_
                refine z_vV (M := M_X12_readMeasure) 121 dX12_readMeasure_121 t_X12_next l_X12_218 (m_rr_of rfl) (rest := []) (c_X12_next2 h15 G15 Mx19.2.2.2) o_108 rfl rfl rfl (Nat.le_of_ble_eq_true rfl) ⟨rfl, rfl⟩ (fun h21 qx24 => ?_)
                obtain ⟨G21, S21, Tx24, Mx24⟩ := qx24
                have R21 := R15.call S21 (by decide +kernel)
                have A21 := A15.fr S21 (fun _ => rfl) rfl rfl rfl rfl rfl
                have Qx24 : Qm h21 = (nxt (h0 113) (h0 108 8) (nxt (h0 113) (h0 108 8) (nxt (h0 113) (h0 108 8) (nxt (h0 113) (h0 108 8) (nxt (h0 113) (h0 108 8) (Qm h0)))))) := nx_m (rowz R15 (fun _ => rfl)) (R15 108 8 rfl) Qx19 (g_108_10 G15).1 Tx24
                have Px24 : h15 108 10 ≤ h21 108 9 := Tx24.1.1
                have Lx24 : h15 108 9 < h15 108 10 := Mx19.lt (by omega)
                have na21 : h21 108 16 = h15 108 16 := S21 108 16 rfl
                have V21 : vr h21 = (vr h0) := (vr_S S21 (fun _ => rfl) rfl (fun _ => rfl)).trans V15
                have v01_ := vr_01 A21
                have e01_ : vr h21 1 = vr h0 1 := congrFun V21 1
                have e00_ : vr h21 0 = vr h0 0 := congrFun V21 0
                have rm_ := A21.rooms
                have hb_ : h21 108 14 = 0 := ((S21 108 14 rfl).trans bx19)
                have g16_ := (g_108_16 G21).1
                have n17_ : h21 108 17 = x4 := ((S21 108 17 rfl).trans ((S15 108 17 rfl).trans ((S14 108 17 rfl).trans ((S12 108 17 rfl).trans ((S11 108 17 rfl).trans ex4)))))
                refine z_aload_n (M := M_X12_readMeasure) 124 dX12_readMeasure_124 rfl ?_
                refine z_dup (M := M_X12_readMeasure) 125 dX12_readMeasure_125 rfl ?_
                refine z_getIE (M := M_X12_readMeasure) 126 dX12_readMeasure_126 f_X12_282 o_108 (by decide) ((S21 108 17 rfl).trans ((S15 108 17 rfl).trans ((S14 108 17 rfl).trans ((S12 108 17 rfl).trans ((S11 108 17 rfl).trans ex4))))) ?_
                refine z_iconst (M := M_X12_readMeasure) 129 dX12_readMeasure_129 ?_
                refine z_iaddN (M := M_X12_readMeasure) 130 dX12_readMeasure_130 (by omega) (by omega) ?_
                refine z_putIH (M := M_X12_readMeasure) 131 dX12_readMeasure_131 p_X12_282 o_108 rfl (u_108_17 G21 (by omega) (by omega)) (R21.up rfl) (fun h22 E22 G22 R22 => ?_)
                have M22_ := Mx24.up E22 (by decide)
                have Q22_ : Qm h22 = (nxt (h0 113) (h0 108 8) (nxt (h0 113) (h0 108 8) (nxt (h0 113) (h0 108 8) (nxt (h0 113) (h0 108 8) (nxt (h0 113) (h0 108 8) (Qm h0)))))) := (Qm_up E22 (by decide)).trans Qx24
                have V22 : vr h22 = (vr h0) := (vr_up E22 (by decide)).trans V21
                have P22_ : h22 108 9 = h21 108 9 := upN E22 (by decide)
                have na22 : h22 108 16 = h21 108 16 := upN E22 (by decide)
                refine z_aload_n (M := M_X12_readMeasure) 134 dX12_readMeasure_134 rfl ?_
                refine z_iconst (M := M_X12_readMeasure) 135 dX12_readMeasure_135 ?_
                refine z_iload_n (M := M_X12_readMeasure) 136 dX12_readMeasure_136 rfl ?_
                refine z_iload_n (M := M_X12_readMeasure) 137 dX12_readMeasure_137 rfl ?_
                refine z_iload_n (M := M_X12_readMeasure) 138 dX12_readMeasure_138 rfl ?_
                refine z_iload (M := M_X12_readMeasure) 139 dX12_readMeasure_139 rfl ?_
                have gb22 := (g_108_9 G22).2
                have ga22 := (g_108_16 G22).1
                have hb22_ : h22 108 14 = 0 := ((upN E22 (fun q => absurd q.2 (by decide))).trans ((S21 108 14 rfl).trans bx19))
                refine z_vV (M := M_X12_readMeasure) 141 dX12_readMeasure_141 t_X12_act l_X12_268 (m_rr_of rfl) (rest := []) (c_X12_act h22 3 a1 x16 x19 2 G22 (Or.inr (by omega))) o_108 rfl rfl rfl (Nat.le_of_ble_eq_true rfl) ⟨rfl, rfl⟩ (fun h23 qx25 => ?_)
                obtain ⟨G23, S23, fx25⟩ := qx25
                have R23 := R22.call S23 (by decide +kernel)
                have na23 : h23 108 16 = h22 108 16 + 1 := (fx25.resolve_left (fun z => z.1 ((upN E22 (fun q => absurd q.2 (by decide))).trans ((S21 108 14 rfl).trans bx19)))).2.1
                have V23 : vr h23 = act1 3 a1 x16 x19 2 (vr h0) := (vr_act fx25 ((upN E22 (fun q => absurd q.2 (by decide))).trans ((S21 108 14 rfl).trans bx19)) (g_108_16 G22).1 S23 (fun _ => rfl)).trans (congrArg (act1 3 a1 x16 x19 2) V22)
                have M23_ := MTk.same M22_ (rowz S23 (fun _ => rfl)) (fun j u v => S23 108 j (fr_j (by omega)))
                have Q23_ : Qm h23 = (nxt (h0 113) (h0 108 8) (nxt (h0 113) (h0 108 8) (nxt (h0 113) (h0 108 8) (nxt (h0 113) (h0 108 8) (nxt (h0 113) (h0 108 8) (Qm h0)))))) := (Qm_S S23 rfl rfl).trans Q22_
                have P23_ : h23 108 9 = h22 108 9 := S23 108 9 rfl
                have A23 := AI_act3 A21 (by omega) E22 ((S21 108 17 rfl).trans ((S15 108 17 rfl).trans ((S14 108 17 rfl).trans ((S12 108 17 rfl).trans ((S11 108 17 rfl).trans ex4))))) (by omega) (by omega) fx25 (by unfold okA; omega)
                exact z_retV (M := M_X12_readMeasure) 144 dX12_readMeasure_144 rfl ⟨G23, R23, md_ok (p := ((nxt (h0 113) (h0 108 8) (nxt (h0 113) (h0 108 8) (nxt (h0 113) (h0 108 8) (nxt (h0 113) (h0 108 8) (nxt (h0 113) (h0 108 8) (Qm h0)))))), rE (vr h0) a1 x16 x19 2)) (by unfold rdMeas; rw [cif_pos (⟨room_, (iw_c (rowz (FR.rf (cs := [114]) (ss := [(108, 9), (108, 10), (108, 11), (108, 12), (108, 13), (108, 14), (108, 16), (108, 17)]) (h := h0)) (fun _ => rfl)) rfl (mw_7 M0 (g_108_9 G0).1)).mpr cx2⟩), cif_pos (Wx16), cif_pos ((iw_c (rowz R12 (fun _ => rfl)) Qx16 (mw_8 Mx16 (g_108_9 G12).1)).mpr cx17), cif_pos (Wx19), (kq_10 (n := h0 108 8) (fun z => cx20 ((iw_c (rowz R15 (fun _ => rfl)) Qx19 (mw_9 Mx19 (g_108_9 G15).1)).mp z)) ((iw_c (rowz R15 (fun _ => rfl)) Qx19 (mw_10 Mx19 (g_108_9 G15).1)).mpr cx23)).1, (kq_10 (n := h0 108 8) (fun z => cx20 ((iw_c (rowz R15 (fun _ => rfl)) Qx19 (mw_9 Mx19 (g_108_9 G15).1)).mp z)) ((iw_c (rowz R15 (fun _ => rfl)) Qx19 (mw_10 Mx19 (g_108_9 G15).1)).mpr cx23)).2, ← Nx16, ← Nx19]) ((S23 108 14 rfl).trans ((upN E22 (fun q => absurd q.2 (by decide))).trans ((S21 108 14 rfl).trans bx19))) M23_ A23 (by omega) Q23_ (V23.trans act1_k3) (((S23 108 13 rfl).trans ((upN E22 (fun q => absurd q.2 (by decide))).trans ((S21 108 13 rfl).trans (gx19.trans ((S14 108 13 rfl).trans (gx16.trans ((S11 108 13 rfl).trans ex1))))))).trans ex1.symm), by omega, fun _ => by omega⟩
              · refine z_if_eq_T (M := M_X12_readMeasure) 95 dX12_readMeasure_95 102 rfl (by omega) ?_
                refine z_iconst (M := M_X12_readMeasure) 102 dX12_readMeasure_102 ?_
                refine z_istore (M := M_X12_readMeasure) 103 dX12_readMeasure_103 (ls' := [some (mR 108), some (mI a1), some (mI x16), some (mI x19), some (mI 0)]) (by decide) rfl ?_
                refine z_iload (M := M_X12_readMeasure) 105 dX12_readMeasure_105 rfl ?_
                refine z_if_gt_F (M := M_X12_readMeasure) 107 dX12_readMeasure_107 120 rfl (by omega) ?_
                refine z_aload_n (M := M_X12_readMeasure) 110 dX12_readMeasure_110 rfl ?_
                refine z_ldc2 (M := M_X12_readMeasure) 111 dX12_readMeasure_111 k_X12_291 ?_
                refine z_vI (M := M_X12_readMeasure) 114 dX12_readMeasure_114 t_X12_isWord l_X12_260 (m_rr_of rfl) (rest := []) (c_X12_isWord h15 6030452 G15) o_108 rfl rfl rfl (Nat.le_of_ble_eq_true rfl) ⟨rfl, rfl⟩ (fun x26 h24 qx26 => ?_)
                obtain ⟨rfl, ⟨rfl, cx26⟩ | ⟨rfl, cx26⟩⟩ := qx26
                · refine z_if_eq_F (M := M_X12_readMeasure) 117 dX12_readMeasure_117 124 rfl (by omega) ?_
                  refine z_aload_n (M := M_X12_readMeasure) 120 dX12_readMeasure_120 rfl ?_
                  refine z_vV (M := M_X12_readMeasure) 121 dX12_readMeasure_121 t_X12_next l_X12_218 (m_rr_of rfl) (rest := []) (c_X12_next2 h15 G15 Mx19.2.2.2) o_108 rfl rfl rfl (Nat.le_of_ble_eq_true rfl) ⟨rfl, rfl⟩ (fun h25 qx27 => ?_)
                  obtain ⟨G25, S25, Tx27, Mx27⟩ := qx27
                  have R25 := R15.call S25 (by decide +kernel)
                  have A25 := A15.fr S25 (fun _ => rfl) rfl rfl rfl rfl rfl
                  have Qx27 : Qm h25 = (nxt (h0 113) (h0 108 8) (nxt (h0 113) (h0 108 8) (nxt (h0 113) (h0 108 8) (nxt (h0 113) (h0 108 8) (nxt (h0 113) (h0 108 8) (Qm h0)))))) := nx_m (rowz R15 (fun _ => rfl)) (R15 108 8 rfl) Qx19 (g_108_10 G15).1 Tx27
                  have Px27 : h15 108 10 ≤ h25 108 9 := Tx27.1.1
                  have Lx27 : h15 108 9 < h15 108 10 := Mx19.lt (by omega)
                  have na25 : h25 108 16 = h15 108 16 := S25 108 16 rfl
                  have V25 : vr h25 = (vr h0) := (vr_S S25 (fun _ => rfl) rfl (fun _ => rfl)).trans V15
                  have v01_ := vr_01 A25
                  have e01_ : vr h25 1 = vr h0 1 := congrFun V25 1
                  have e00_ : vr h25 0 = vr h0 0 := congrFun V25 0
                  have rm_ := A25.rooms
                  have hb_ : h25 108 14 = 0 := ((S25 108 14 rfl).trans bx19)
                  have g16_ := (g_108_16 G25).1
                  have n17_ : h25 108 17 = x4 := ((S25 108 17 rfl).trans ((S15 108 17 rfl).trans ((S14 108 17 rfl).trans ((S12 108 17 rfl).trans ((S11 108 17 rfl).trans ex4)))))
                  refine z_aload_n (M := M_X12_readMeasure) 124 dX12_readMeasure_124 rfl ?_
                  refine z_dup (M := M_X12_readMeasure) 125 dX12_readMeasure_125 rfl ?_
                  refine z_getIE (M := M_X12_readMeasure) 126 dX12_readMeasure_126 f_X12_282 o_108 (by decide) ((S25 108 17 rfl).trans ((S15 108 17 rfl).trans ((S14 108 17 rfl).trans ((S12 108 17 rfl).trans ((S11 108 17 rfl).trans ex4))))) ?_
                  refine z_iconst (M := M_X12_readMeasure) 129 dX12_readMeasure_129 ?_
                  refine z_iaddN (M := M_X12_readMeasure) 130 dX12_readMeasure_130 (by omega) (by omega) ?_
                  refine z_putIH (M := M_X12_readMeasure) 131 dX12_readMeasure_131 p_X12_282 o_108 rfl (u_108_17 G25 (by omega) (by omega)) (R25.up rfl) (fun h26 E26 G26 R26 => ?_)
                  have M26_ := Mx27.up E26 (by decide)
                  have Q26_ : Qm h26 = (nxt (h0 113) (h0 108 8) (nxt (h0 113) (h0 108 8) (nxt (h0 113) (h0 108 8) (nxt (h0 113) (h0 108 8) (nxt (h0 113) (h0 108 8) (Qm h0)))))) := (Qm_up E26 (by decide)).trans Qx27
                  have V26 : vr h26 = (vr h0) := (vr_up E26 (by decide)).trans V25
                  have P26_ : h26 108 9 = h25 108 9 := upN E26 (by decide)
                  have na26 : h26 108 16 = h25 108 16 := upN E26 (by decide)
                  refine z_aload_n (M := M_X12_readMeasure) 134 dX12_readMeasure_134 rfl ?_
                  refine z_iconst (M := M_X12_readMeasure) 135 dX12_readMeasure_135 ?_
                  refine z_iload_n (M := M_X12_readMeasure) 136 dX12_readMeasure_136 rfl ?_
                  refine z_iload_n (M := M_X12_readMeasure) 137 dX12_readMeasure_137 rfl ?_
                  refine z_iload_n (M := M_X12_readMeasure) 138 dX12_readMeasure_138 rfl ?_
                  refine z_iload (M := M_X12_readMeasure) 139 dX12_readMeasure_139 rfl ?_
                  have gb26 := (g_108_9 G26).2
                  have ga26 := (g_108_16 G26).1
                  have hb26_ : h26 108 14 = 0 := ((upN E26 (fun q => absurd q.2 (by decide))).trans ((S25 108 14 rfl).trans bx19))
                  refine z_vV (M := M_X12_readMeasure) 141 dX12_readMeasure_141 t_X12_act l_X12_268 (m_rr_of rfl) (rest := []) (c_X12_act h26 3 a1 x16 x19 0 G26 (Or.inr (by omega))) o_108 rfl rfl rfl (Nat.le_of_ble_eq_true rfl) ⟨rfl, rfl⟩ (fun h27 qx28 => ?_)
                  obtain ⟨G27, S27, fx28⟩ := qx28
                  have R27 := R26.call S27 (by decide +kernel)
                  have na27 : h27 108 16 = h26 108 16 + 1 := (fx28.resolve_left (fun z => z.1 ((upN E26 (fun q => absurd q.2 (by decide))).trans ((S25 108 14 rfl).trans bx19)))).2.1
                  have V27 : vr h27 = act1 3 a1 x16 x19 0 (vr h0) := (vr_act fx28 ((upN E26 (fun q => absurd q.2 (by decide))).trans ((S25 108 14 rfl).trans bx19)) (g_108_16 G26).1 S27 (fun _ => rfl)).trans (congrArg (act1 3 a1 x16 x19 0) V26)
                  have M27_ := MTk.same M26_ (rowz S27 (fun _ => rfl)) (fun j u v => S27 108 j (fr_j (by omega)))
                  have Q27_ : Qm h27 = (nxt (h0 113) (h0 108 8) (nxt (h0 113) (h0 108 8) (nxt (h0 113) (h0 108 8) (nxt (h0 113) (h0 108 8) (nxt (h0 113) (h0 108 8) (Qm h0)))))) := (Qm_S S27 rfl rfl).trans Q26_
                  have P27_ : h27 108 9 = h26 108 9 := S27 108 9 rfl
                  have A27 := AI_act3 A25 (by omega) E26 ((S25 108 17 rfl).trans ((S15 108 17 rfl).trans ((S14 108 17 rfl).trans ((S12 108 17 rfl).trans ((S11 108 17 rfl).trans ex4))))) (by omega) (by omega) fx28 (by unfold okA; omega)
                  exact z_retV (M := M_X12_readMeasure) 144 dX12_readMeasure_144 rfl ⟨G27, R27, md_ok (p := ((nxt (h0 113) (h0 108 8) (nxt (h0 113) (h0 108 8) (nxt (h0 113) (h0 108 8) (nxt (h0 113) (h0 108 8) (nxt (h0 113) (h0 108 8) (Qm h0)))))), rE (vr h0) a1 x16 x19 0)) (by unfold rdMeas; rw [cif_pos (⟨room_, (iw_c (rowz (FR.rf (cs := [114]) (ss := [(108, 9), (108, 10), (108, 11), (108, 12), (108, 13), (108, 14), (108, 16), (108, 17)]) (h := h0)) (fun _ => rfl)) rfl (mw_7 M0 (g_108_9 G0).1)).mpr cx2⟩), cif_pos (Wx16), cif_pos ((iw_c (rowz R12 (fun _ => rfl)) Qx16 (mw_8 Mx16 (g_108_9 G12).1)).mpr cx17), cif_pos (Wx19), (kq_11 (n := h0 108 8) (fun z => cx20 ((iw_c (rowz R15 (fun _ => rfl)) Qx19 (mw_9 Mx19 (g_108_9 G15).1)).mp z)) (fun z => cx23 ((iw_c (rowz R15 (fun _ => rfl)) Qx19 (mw_10 Mx19 (g_108_9 G15).1)).mp z)) ((iw_c (rowz R15 (fun _ => rfl)) Qx19 (mw_11 Mx19 (g_108_9 G15).1)).mpr cx26)).1, (kq_11 (n := h0 108 8) (fun z => cx20 ((iw_c (rowz R15 (fun _ => rfl)) Qx19 (mw_9 Mx19 (g_108_9 G15).1)).mp z)) (fun z => cx23 ((iw_c (rowz R15 (fun _ => rfl)) Qx19 (mw_10 Mx19 (g_108_9 G15).1)).mp z)) ((iw_c (rowz R15 (fun _ => rfl)) Qx19 (mw_11 Mx19 (g_108_9 G15).1)).mpr cx26)).2, ← Nx16, ← Nx19]) ((S27 108 14 rfl).trans ((upN E26 (fun q => absurd q.2 (by decide))).trans ((S25 108 14 rfl).trans bx19))) M27_ A27 (by omega) Q27_ (V27.trans act1_k3) (((S27 108 13 rfl).trans ((upN E26 (fun q => absurd q.2 (by decide))).trans ((S25 108 13 rfl).trans (gx19.trans ((S14 108 13 rfl).trans (gx16.trans ((S11 108 13 rfl).trans ex1))))))).trans ex1.symm), by omega, fun _ => by omega⟩
                · refine z_if_eq_T (M := M_X12_readMeasure) 117 dX12_readMeasure_117 124 rfl (by omega) ?_
                  have v01_ := vr_01 A15
                  have e01_ : vr h15 1 = vr h0 1 := congrFun V15 1
                  have e00_ : vr h15 0 = vr h0 0 := congrFun V15 0
                  have rm_ := A15.rooms
                  have hb_ : h15 108 14 = 0 := bx19
                  have g16_ := (g_108_16 G15).1
                  have n17_ : h15 108 17 = x4 := ((S15 108 17 rfl).trans ((S14 108 17 rfl).trans ((S12 108 17 rfl).trans ((S11 108 17 rfl).trans ex4))))
                  refine z_aload_n (M := M_X12_readMeasure) 124 dX12_readMeasure_124 rfl ?_
                  refine z_dup (M := M_X12_readMeasure) 125 dX12_readMeasure_125 rfl ?_
                  refine z_getIE (M := M_X12_readMeasure) 126 dX12_readMeasure_126 f_X12_282 o_108 (by decide) ((S15 108 17 rfl).trans ((S14 108 17 rfl).trans ((S12 108 17 rfl).trans ((S11 108 17 rfl).trans ex4)))) ?_
                  refine z_iconst (M := M_X12_readMeasure) 129 dX12_readMeasure_129 ?_
                  refine z_iaddN (M := M_X12_readMeasure) 130 dX12_readMeasure_130 (by omega) (by omega) ?_
                  refine z_putIH (M := M_X12_readMeasure) 131 dX12_readMeasure_131 p_X12_282 o_108 rfl (u_108_17 G15 (by omega) (by omega)) (R15.up rfl) (fun h28 E28 G28 R28 => ?_)
                  have M28_ := Mx19.up E28 (by decide)
                  have Q28_ : Qm h28 = (nxt (h0 113) (h0 108 8) (nxt (h0 113) (h0 108 8) (nxt (h0 113) (h0 108 8) (nxt (h0 113) (h0 108 8) (Qm h0))))) := (Qm_up E28 (by decide)).trans Qx19
                  have V28 : vr h28 = (vr h0) := (vr_up E28 (by decide)).trans V15
                  have P28_ : h28 108 9 = h15 108 9 := upN E28 (by decide)
                  have na28 : h28 108 16 = h15 108 16 := upN E28 (by decide)
                  refine z_aload_n (M := M_X12_readMeasure) 134 dX12_readMeasure_134 rfl ?_
                  refine z_iconst (M := M_X12_readMeasure) 135 dX12_readMeasure_135 ?_
                  refine z_iload_n (M := M_X12_readMeasure) 136 dX12_readMeasure_136 rfl ?_
                  refine z_iload_n (M := M_X12_readMeasure) 137 dX12_readMeasure_137 rfl ?_
                  refine z_iload_n (M := M_X12_readMeasure) 138 dX12_readMeasure_138 rfl ?_
                  refine z_iload (M := M_X12_readMeasure) 139 dX12_readMeasure_139 rfl ?_
                  have gb28 := (g_108_9 G28).2
                  have ga28 := (g_108_16 G28).1
                  have hb28_ : h28 108 14 = 0 := ((upN E28 (fun q => absurd q.2 (by decide))).trans bx19)
                  refine z_vV (M := M_X12_readMeasure) 141 dX12_readMeasure_141 t_X12_act l_X12_268 (m_rr_of rfl) (rest := []) (c_X12_act h28 3 a1 x16 x19 0 G28 (Or.inr (by omega))) o_108 rfl rfl rfl (Nat.le_of_ble_eq_true rfl) ⟨rfl, rfl⟩ (fun h29 qx29 => ?_)
                  obtain ⟨G29, S29, fx29⟩ := qx29
                  have R29 := R28.call S29 (by decide +kernel)
                  have na29 : h29 108 16 = h28 108 16 + 1 := (fx29.resolve_left (fun z => z.1 ((upN E28 (fun q => absurd q.2 (by decide))).trans bx19))).2.1
                  have V29 : vr h29 = act1 3 a1 x16 x19 0 (vr h0) := (vr_act fx29 ((upN E28 (fun q => absurd q.2 (by decide))).trans bx19) (g_108_16 G28).1 S29 (fun _ => rfl)).trans (congrArg (act1 3 a1 x16 x19 0) V28)
                  have M29_ := MTk.same M28_ (rowz S29 (fun _ => rfl)) (fun j u v => S29 108 j (fr_j (by omega)))
                  have Q29_ : Qm h29 = (nxt (h0 113) (h0 108 8) (nxt (h0 113) (h0 108 8) (nxt (h0 113) (h0 108 8) (nxt (h0 113) (h0 108 8) (Qm h0))))) := (Qm_S S29 rfl rfl).trans Q28_
                  have P29_ : h29 108 9 = h28 108 9 := S29 108 9 rfl
                  have A29 := AI_act3 A15 (by omega) E28 ((S15 108 17 rfl).trans ((S14 108 17 rfl).trans ((S12 108 17 rfl).trans ((S11 108 17 rfl).trans ex4)))) (by omega) (by omega) fx29 (by unfold okA; omega)
                  exact z_retV (M := M_X12_readMeasure) 144 dX12_readMeasure_144 rfl ⟨G29, R29, md_ok (p := ((nxt (h0 113) (h0 108 8) (nxt (h0 113) (h0 108 8) (nxt (h0 113) (h0 108 8) (nxt (h0 113) (h0 108 8) (Qm h0))))), rE (vr h0) a1 x16 x19 0)) (by unfold rdMeas; rw [cif_pos (⟨room_, (iw_c (rowz (FR.rf (cs := [114]) (ss := [(108, 9), (108, 10), (108, 11), (108, 12), (108, 13), (108, 14), (108, 16), (108, 17)]) (h := h0)) (fun _ => rfl)) rfl (mw_7 M0 (g_108_9 G0).1)).mpr cx2⟩), cif_pos (Wx16), cif_pos ((iw_c (rowz R12 (fun _ => rfl)) Qx16 (mw_8 Mx16 (g_108_9 G12).1)).mpr cx17), cif_pos (Wx19), (kq_0 (n := h0 108 8) (fun z => cx20 ((iw_c (rowz R15 (fun _ => rfl)) Qx19 (mw_9 Mx19 (g_108_9 G15).1)).mp z)) (fun z => cx23 ((iw_c (rowz R15 (fun _ => rfl)) Qx19 (mw_10 Mx19 (g_108_9 G15).1)).mp z)) (fun z => cx26 ((iw_c (rowz R15 (fun _ => rfl)) Qx19 (mw_11 Mx19 (g_108_9 G15).1)).mp z))).1, (kq_0 (n := h0 108 8) (fun z => cx20 ((iw_c (rowz R15 (fun _ => rfl)) Qx19 (mw_9 Mx19 (g_108_9 G15).1)).mp z)) (fun z => cx23 ((iw_c (rowz R15 (fun _ => rfl)) Qx19 (mw_10 Mx19 (g_108_9 G15).1)).mp z)) (fun z => cx26 ((iw_c (rowz R15 (fun _ => rfl)) Qx19 (mw_11 Mx19 (g_108_9 G15).1)).mp z))).2, ← Nx16, ← Nx19]) ((S29 108 14 rfl).trans ((upN E28 (fun q => absurd q.2 (by decide))).trans bx19)) M29_ A29 (by omega) Q29_ (V29.trans act1_k3) (((S29 108 13 rfl).trans ((upN E28 (fun q => absurd q.2 (by decide))).trans (gx19.trans ((S14 108 13 rfl).trans (gx16.trans ((S11 108 13 rfl).trans ex1)))))).trans ex1.symm), by omega, fun _ => by omega⟩
          · have fpx19 : h15 108 13 = (nxt (h0 113) (h0 108 8) (nxt (h0 113) (h0 108 8) (nxt (h0 113) (h0 108 8) (Qm h0)))).1 := fx19.trans (fst_m Qx18)
            refine z_ok (fun ox19 _ _ => ?_)
            have ox19 := ox19.1; unfold m_ok m_32 at ox19
            refine z_istore_n (M := M_X12_readMeasure) 63 dX12_readMeasure_63 (ls' := [some (mR 108), some (mI a1), some (mI x16), some (mI x19), none]) (by decide) rfl ?_
            refine z_iconst (M := M_X12_readMeasure) 64 dX12_readMeasure_64 ?_
            refine z_istore (M := M_X12_readMeasure) 65 dX12_readMeasure_65 (ls' := [some (mR 108), some (mI a1), some (mI x16), some (mI x19), some (mI 0)]) (by decide) rfl ?_
            refine z_aload_n (M := M_X12_readMeasure) 67 dX12_readMeasure_67 rfl ?_
            refine z_getIE (M := M_X12_readMeasure) 68 dX12_readMeasure_68 f_X12_214 o_108 (by decide) bx19 ?_
            refine z_if_ne_T (M := M_X12_readMeasure) 71 dX12_readMeasure_71 134 rfl (by omega) ?_
            refine z_aload_n (M := M_X12_readMeasure) 134 dX12_readMeasure_134 rfl ?_
            refine z_iconst (M := M_X12_readMeasure) 135 dX12_readMeasure_135 ?_
            refine z_iload_n (M := M_X12_readMeasure) 136 dX12_readMeasure_136 rfl ?_
            refine z_iload_n (M := M_X12_readMeasure) 137 dX12_readMeasure_137 rfl ?_
            refine z_iload_n (M := M_X12_readMeasure) 138 dX12_readMeasure_138 rfl ?_
            refine z_iload (M := M_X12_readMeasure) 139 dX12_readMeasure_139 rfl ?_
            refine z_vV (M := M_X12_readMeasure) 141 dX12_readMeasure_141 t_X12_act l_X12_268 (m_rr_of rfl) (rest := []) (c_X12_act_b h15 3 a1 x16 x19 0 G15 bx19) o_108 rfl rfl rfl (Nat.le_of_ble_eq_true rfl) ⟨rfl, rfl⟩ (fun h30 qx30 => ?_)
            obtain ⟨G30, S30⟩ := qx30
            have R30 := R15.call S30 (by decide +kernel)
            have P30_ : h30 108 9 = h15 108 9 := S30 108 9 rfl
            have bb_ : h30 108 14 = 1 := ((S30 108 14 rfl).trans bx19)
            exact z_retV (M := M_X12_readMeasure) 144 dX12_readMeasure_144 rfl ⟨G30, R30, md_er (by unfold rdMeas; rw [cif_pos (⟨room_, (iw_c (rowz (FR.rf (cs := [114]) (ss := [(108, 9), (108, 10), (108, 11), (108, 12), (108, 13), (108, 14), (108, 16), (108, 17)]) (h := h0)) (fun _ => rfl)) rfl (mw_7 M0 (g_108_9 G0).1)).mpr cx2⟩), cif_pos (Wx16), cif_pos ((iw_c (rowz R12 (fun _ => rfl)) Qx16 (mw_8 Mx16 (g_108_9 G12).1)).mpr cx17), cif_neg (Wx19)]) ((S30 108 14 rfl).trans bx19) ((S30 108 13 rfl).trans fpx19), by omega, fun _ => by omega⟩
        · refine z_vV (M := M_X12_readMeasure) 52 dX12_readMeasure_52 t_X12_must l_X12_247 (m_rr_of rfl) (rest := []) (c_X12_must_0 h12 0 G12 ⟨by omega, by omega⟩ bx16) o_108 rfl rfl rfl (Nat.le_of_ble_eq_true rfl) ⟨rfl, rfl⟩ (fun h31 qx31 => ?_)
          obtain ⟨G31, S31, bx31, fx31⟩ := qx31
          have R31 := R12.call S31 (by decide +kernel)
          have A31 := A12.fr S31 (fun _ => rfl) rfl rfl rfl rfl rfl
          have Px31 : h31 108 9 = h12 108 9 := S31 108 9 rfl
          have fpx31 : h31 108 13 = (nxt (h0 113) (h0 108 8) (nxt (h0 113) (h0 108 8) (Qm h0))).1 := fx31.trans (fst_m Qx16)
          refine z_aload_n (M := M_X12_readMeasure) 55 dX12_readMeasure_55 rfl ?_
          refine z_lconst (M := M_X12_readMeasure) 56 dX12_readMeasure_56 (v := 1) ?_
          refine z_ldc2 (M := M_X12_readMeasure) 57 dX12_readMeasure_57 k_X12_180 ?_
          refine z_vI (M := M_X12_readMeasure) 60 dX12_readMeasure_60 t_X12_number l_X12_254 (m_rr_of rfl) (rest := []) (c_X12_number_b h31 1 99 G31 ⟨by omega, by omega⟩ ⟨by omega, by omega⟩ bx31) o_108 rfl rfl rfl (Nat.le_of_ble_eq_true rfl) ⟨rfl, rfl⟩ (fun x32 h32 qx32 => ?_)
          obtain ⟨G32, S32⟩ := qx32
          have R32 := R31.call S32 (by decide +kernel)
          refine z_ok (fun ox32 _ _ => ?_)
          have ox32 := ox32.1; unfold m_ok m_32 at ox32
          have P32_ : h32 108 9 = h31 108 9 := S32 108 9 rfl
          refine z_istore_n (M := M_X12_readMeasure) 63 dX12_readMeasure_63 (ls' := [some (mR 108), some (mI a1), some (mI x16), some (mI x32), none]) (by decide) rfl ?_
          refine z_iconst (M := M_X12_readMeasure) 64 dX12_readMeasure_64 ?_
          refine z_istore (M := M_X12_readMeasure) 65 dX12_readMeasure_65 (ls' := [some (mR 108), some (mI a1), some (mI x16), some (mI x32), some (mI 0)]) (by decide) rfl ?_
          refine z_aload_n (M := M_X12_readMeasure) 67 dX12_readMeasure_67 rfl ?_
          refine z_getIE (M := M_X12_readMeasure) 68 dX12_readMeasure_68 f_X12_214 o_108 (by decide) ((S32 108 14 rfl).trans bx31) ?_
          refine z_if_ne_T (M := M_X12_readMeasure) 71 dX12_readMeasure_71 134 rfl (by omega) ?_
          refine z_aload_n (M := M_X12_readMeasure) 134 dX12_readMeasure_134 rfl ?_
          refine z_iconst (M := M_X12_readMeasure) 135 dX12_readMeasure_135 ?_
          refine z_iload_n (M := M_X12_readMeasure) 136 dX12_readMeasure_136 rfl ?_
          refine z_iload_n (M := M_X12_readMeasure) 137 dX12_readMeasure_137 rfl ?_
          refine z_iload_n (M := M_X12_readMeasure) 138 dX12_readMeasure_138 rfl ?_
          refine z_iload (M := M_X12_readMeasure) 139 dX12_readMeasure_139 rfl ?_
          refine z_vV (M := M_X12_readMeasure) 141 dX12_readMeasure_141 t_X12_act l_X12_268 (m_rr_of rfl) (rest := []) (c_X12_act_b h32 3 a1 x16 x32 0 G32 ((S32 108 14 rfl).trans bx31)) o_108 rfl rfl rfl (Nat.le_of_ble_eq_true rfl) ⟨rfl, rfl⟩ (fun h33 qx33 => ?_)
          obtain ⟨G33, S33⟩ := qx33
          have R33 := R32.call S33 (by decide +kernel)
          have P33_ : h33 108 9 = h32 108 9 := S33 108 9 rfl
          have bb_ : h33 108 14 = 1 := ((S33 108 14 rfl).trans ((S32 108 14 rfl).trans bx31))
          exact z_retV (M := M_X12_readMeasure) 144 dX12_readMeasure_144 rfl ⟨G33, R33, md_er (by unfold rdMeas; rw [cif_pos (⟨room_, (iw_c (rowz (FR.rf (cs := [114]) (ss := [(108, 9), (108, 10), (108, 11), (108, 12), (108, 13), (108, 14), (108, 16), (108, 17)]) (h := h0)) (fun _ => rfl)) rfl (mw_7 M0 (g_108_9 G0).1)).mpr cx2⟩), cif_pos (Wx16), cif_neg (fun z => cx17 ((iw_c (rowz R12 (fun _ => rfl)) Qx16 (mw_8 Mx16 (g_108_9 G12).1)).mp z))]) ((S33 108 14 rfl).trans ((S32 108 14 rfl).trans bx31)) ((S33 108 13 rfl).trans ((S32 108 13 rfl).trans fpx31)), by omega, fun _ => by omega⟩
      · have fpx16 : h12 108 13 = (nxt (h0 113) (h0 108 8) (Qm h0)).1 := fx16.trans (fst_m Qx15)
        refine z_ok (fun ox16 _ _ => ?_)
        have ox16 := ox16.1; unfold m_ok m_32 at ox16
        refine z_istore_n (M := M_X12_readMeasure) 43 dX12_readMeasure_43 (ls' := [some (mR 108), some (mI a1), some (mI x16), none, none]) (by decide) rfl ?_
        refine z_aload_n (M := M_X12_readMeasure) 44 dX12_readMeasure_44 rfl ?_
        refine z_aload_n (M := M_X12_readMeasure) 45 dX12_readMeasure_45 rfl ?_
        refine z_ldc2 (M := M_X12_readMeasure) 46 dX12_readMeasure_46 k_X12_285 ?_
        refine z_vI (M := M_X12_readMeasure) 49 dX12_readMeasure_49 t_X12_isWord l_X12_260 (m_rr_of rfl) (rest := [mR 108]) (c_X12_isWord h12 307 G12) o_108 rfl rfl rfl (Nat.le_of_ble_eq_true rfl) ⟨rfl, rfl⟩ (fun x34 h34 qx34 => ?_)
        obtain ⟨rfl, ⟨rfl, cx34⟩ | ⟨rfl, cx34⟩⟩ := qx34
        · refine z_vV (M := M_X12_readMeasure) 52 dX12_readMeasure_52 t_X12_must l_X12_247 (m_rr_of rfl) (rest := []) (c_X12_must_b h12 1 G12 ⟨by omega, by omega⟩ bx16) o_108 rfl rfl rfl (Nat.le_of_ble_eq_true rfl) ⟨rfl, rfl⟩ (fun h35 qx35 => ?_)
          obtain ⟨G35, S35⟩ := qx35
          have R35 := R12.call S35 (by decide +kernel)
          have P35_ : h35 108 9 = h12 108 9 := S35 108 9 rfl
          refine z_aload_n (M := M_X12_readMeasure) 55 dX12_readMeasure_55 rfl ?_
          refine z_lconst (M := M_X12_readMeasure) 56 dX12_readMeasure_56 (v := 1) ?_
          refine z_ldc2 (M := M_X12_readMeasure) 57 dX12_readMeasure_57 k_X12_180 ?_
          refine z_vI (M := M_X12_readMeasure) 60 dX12_readMeasure_60 t_X12_number l_X12_254 (m_rr_of rfl) (rest := []) (c_X12_number_b h35 1 99 G35 ⟨by omega, by omega⟩ ⟨by omega, by omega⟩ ((S35 108 14 rfl).trans bx16)) o_108 rfl rfl rfl (Nat.le_of_ble_eq_true rfl) ⟨rfl, rfl⟩ (fun x36 h36 qx36 => ?_)
          obtain ⟨G36, S36⟩ := qx36
          have R36 := R35.call S36 (by decide +kernel)
          refine z_ok (fun ox36 _ _ => ?_)
          have ox36 := ox36.1; unfold m_ok m_32 at ox36
          have P36_ : h36 108 9 = h35 108 9 := S36 108 9 rfl
          refine z_istore_n (M := M_X12_readMeasure) 63 dX12_readMeasure_63 (ls' := [some (mR 108), some (mI a1), some (mI x16), some (mI x36), none]) (by decide) rfl ?_
          refine z_iconst (M := M_X12_readMeasure) 64 dX12_readMeasure_64 ?_
          refine z_istore (M := M_X12_readMeasure) 65 dX12_readMeasure_65 (ls' := [some (mR 108), some (mI a1), some (mI x16), some (mI x36), some (mI 0)]) (by decide) rfl ?_
          refine z_aload_n (M := M_X12_readMeasure) 67 dX12_readMeasure_67 rfl ?_
          refine z_getIE (M := M_X12_readMeasure) 68 dX12_readMeasure_68 f_X12_214 o_108 (by decide) ((S36 108 14 rfl).trans ((S35 108 14 rfl).trans bx16)) ?_
          refine z_if_ne_T (M := M_X12_readMeasure) 71 dX12_readMeasure_71 134 rfl (by omega) ?_
          refine z_aload_n (M := M_X12_readMeasure) 134 dX12_readMeasure_134 rfl ?_
          refine z_iconst (M := M_X12_readMeasure) 135 dX12_readMeasure_135 ?_
          refine z_iload_n (M := M_X12_readMeasure) 136 dX12_readMeasure_136 rfl ?_
          refine z_iload_n (M := M_X12_readMeasure) 137 dX12_readMeasure_137 rfl ?_
          refine z_iload_n (M := M_X12_readMeasure) 138 dX12_readMeasure_138 rfl ?_
          refine z_iload (M := M_X12_readMeasure) 139 dX12_readMeasure_139 rfl ?_
          refine z_vV (M := M_X12_readMeasure) 141 dX12_readMeasure_141 t_X12_act l_X12_268 (m_rr_of rfl) (rest := []) (c_X12_act_b h36 3 a1 x16 x36 0 G36 ((S36 108 14 rfl).trans ((S35 108 14 rfl).trans bx16))) o_108 rfl rfl rfl (Nat.le_of_ble_eq_true rfl) ⟨rfl, rfl⟩ (fun h37 qx37 => ?_)
          obtain ⟨G37, S37⟩ := qx37
          have R37 := R36.call S37 (by decide +kernel)
          have P37_ : h37 108 9 = h36 108 9 := S37 108 9 rfl
          have bb_ : h37 108 14 = 1 := ((S37 108 14 rfl).trans ((S36 108 14 rfl).trans ((S35 108 14 rfl).trans bx16)))
          exact z_retV (M := M_X12_readMeasure) 144 dX12_readMeasure_144 rfl ⟨G37, R37, md_er (by unfold rdMeas; rw [cif_pos (⟨room_, (iw_c (rowz (FR.rf (cs := [114]) (ss := [(108, 9), (108, 10), (108, 11), (108, 12), (108, 13), (108, 14), (108, 16), (108, 17)]) (h := h0)) (fun _ => rfl)) rfl (mw_7 M0 (g_108_9 G0).1)).mpr cx2⟩), cif_neg (Wx16)]) ((S37 108 14 rfl).trans ((S36 108 14 rfl).trans ((S35 108 14 rfl).trans bx16))) ((S37 108 13 rfl).trans ((S36 108 13 rfl).trans ((S35 108 13 rfl).trans fpx16))), by omega, fun _ => by omega⟩
        · refine z_vV (M := M_X12_readMeasure) 52 dX12_readMeasure_52 t_X12_must l_X12_247 (m_rr_of rfl) (rest := []) (c_X12_must_b h12 0 G12 ⟨by omega, by omega⟩ bx16) o_108 rfl rfl rfl (Nat.le_of_ble_eq_true rfl) ⟨rfl, rfl⟩ (fun h38 qx38 => ?_)
          obtain ⟨G38, S38⟩ := qx38
          have R38 := R12.call S38 (by decide +kernel)
          have P38_ : h38 108 9 = h12 108 9 := S38 108 9 rfl
          refine z_aload_n (M := M_X12_readMeasure) 55 dX12_readMeasure_55 rfl ?_
          refine z_lconst (M := M_X12_readMeasure) 56 dX12_readMeasure_56 (v := 1) ?_
          refine z_ldc2 (M := M_X12_readMeasure) 57 dX12_readMeasure_57 k_X12_180 ?_
          refine z_vI (M := M_X12_readMeasure) 60 dX12_readMeasure_60 t_X12_number l_X12_254 (m_rr_of rfl) (rest := []) (c_X12_number_b h38 1 99 G38 ⟨by omega, by omega⟩ ⟨by omega, by omega⟩ ((S38 108 14 rfl).trans bx16)) o_108 rfl rfl rfl (Nat.le_of_ble_eq_true rfl) ⟨rfl, rfl⟩ (fun x39 h39 qx39 => ?_)
          obtain ⟨G39, S39⟩ := qx39
          have R39 := R38.call S39 (by decide +kernel)
          refine z_ok (fun ox39 _ _ => ?_)
          have ox39 := ox39.1; unfold m_ok m_32 at ox39
          have P39_ : h39 108 9 = h38 108 9 := S39 108 9 rfl
          refine z_istore_n (M := M_X12_readMeasure) 63 dX12_readMeasure_63 (ls' := [some (mR 108), some (mI a1), some (mI x16), some (mI x39), none]) (by decide) rfl ?_
          refine z_iconst (M := M_X12_readMeasure) 64 dX12_readMeasure_64 ?_
          refine z_istore (M := M_X12_readMeasure) 65 dX12_readMeasure_65 (ls' := [some (mR 108), some (mI a1), some (mI x16), some (mI x39), some (mI 0)]) (by decide) rfl ?_
          refine z_aload_n (M := M_X12_readMeasure) 67 dX12_readMeasure_67 rfl ?_
          refine z_getIE (M := M_X12_readMeasure) 68 dX12_readMeasure_68 f_X12_214 o_108 (by decide) ((S39 108 14 rfl).trans ((S38 108 14 rfl).trans bx16)) ?_
          refine z_if_ne_T (M := M_X12_readMeasure) 71 dX12_readMeasure_71 134 rfl (by omega) ?_
          refine z_aload_n (M := M_X12_readMeasure) 134 dX12_readMeasure_134 rfl ?_
          refine z_iconst (M := M_X12_readMeasure) 135 dX12_readMeasure_135 ?_
          refine z_iload_n (M := M_X12_readMeasure) 136 dX12_readMeasure_136 rfl ?_
          refine z_iload_n (M := M_X12_readMeasure) 137 dX12_readMeasure_137 rfl ?_
          refine z_iload_n (M := M_X12_readMeasure) 138 dX12_readMeasure_138 rfl ?_
          refine z_iload (M := M_X12_readMeasure) 139 dX12_readMeasure_139 rfl ?_
          refine z_vV (M := M_X12_readMeasure) 141 dX12_readMeasure_141 t_X12_act l_X12_268 (m_rr_of rfl) (rest := []) (c_X12_act_b h39 3 a1 x16 x39 0 G39 ((S39 108 14 rfl).trans ((S38 108 14 rfl).trans bx16))) o_108 rfl rfl rfl (Nat.le_of_ble_eq_true rfl) ⟨rfl, rfl⟩ (fun h40 qx40 => ?_)
          obtain ⟨G40, S40⟩ := qx40
          have R40 := R39.call S40 (by decide +kernel)
          have P40_ : h40 108 9 = h39 108 9 := S40 108 9 rfl
          have bb_ : h40 108 14 = 1 := ((S40 108 14 rfl).trans ((S39 108 14 rfl).trans ((S38 108 14 rfl).trans bx16)))
          exact z_retV (M := M_X12_readMeasure) 144 dX12_readMeasure_144 rfl ⟨G40, R40, md_er (by unfold rdMeas; rw [cif_pos (⟨room_, (iw_c (rowz (FR.rf (cs := [114]) (ss := [(108, 9), (108, 10), (108, 11), (108, 12), (108, 13), (108, 14), (108, 16), (108, 17)]) (h := h0)) (fun _ => rfl)) rfl (mw_7 M0 (g_108_9 G0).1)).mpr cx2⟩), cif_neg (Wx16)]) ((S40 108 14 rfl).trans ((S39 108 14 rfl).trans ((S38 108 14 rfl).trans bx16))) ((S40 108 13 rfl).trans ((S39 108 13 rfl).trans ((S38 108 13 rfl).trans fpx16))), by omega, fun _ => by omega⟩
  · refine z_if_eq_T (M := M_X12_readMeasure) 8 dX12_readMeasure_8 31 rfl (by omega) ?_
    refine z_iconst (M := M_X12_readMeasure) 31 dX12_readMeasure_31 ?_
    refine z_vV (M := M_X12_readMeasure) 32 dX12_readMeasure_32 t_X12_must l_X12_247 (m_rr_of rfl) (rest := []) (c_X12_must_0 h0 0 G0 ⟨by omega, by omega⟩ hb) o_108 rfl rfl rfl (Nat.le_of_ble_eq_true rfl) ⟨rfl, rfl⟩ (fun h41 qx41 => ?_)
    obtain ⟨G41, S41, bx41, fx41⟩ := qx41
    have R41 := (FR.rf (cs := [114]) (ss := [(108, 9), (108, 10), (108, 11), (108, 12), (108, 13), (108, 14), (108, 16), (108, 17)]) (h := h0)).call S41 (by decide +kernel)
    have A41 := A0.fr S41 (fun _ => rfl) rfl rfl rfl rfl rfl
    have Px41 : h41 108 9 = h0 108 9 := S41 108 9 rfl
    have fpx41 : h41 108 13 = (Qm h0).1 := fx41.trans (fst_m rfl)
    refine z_aload_n (M := M_X12_readMeasure) 35 dX12_readMeasure_35 rfl ?_
    refine z_lconst (M := M_X12_readMeasure) 36 dX12_readMeasure_36 (v := 0) ?_
    refine z_ldc2 (M := M_X12_readMeasure) 37 dX12_readMeasure_37 k_X12_154 ?_
    refine z_vI (M := M_X12_readMeasure) 40 dX12_readMeasure_40 t_X12_number l_X12_254 (m_rr_of rfl) (rest := []) (c_X12_number_b h41 0 31 G41 ⟨by omega, by omega⟩ ⟨by omega, by omega⟩ bx41) o_108 rfl rfl rfl (Nat.le_of_ble_eq_true rfl) ⟨rfl, rfl⟩ (fun x42 h42 qx42 => ?_)
    obtain ⟨G42, S42⟩ := qx42
    have R42 := R41.call S42 (by decide +kernel)
    refine z_ok (fun ox42 _ _ => ?_)
    have ox42 := ox42.1; unfold m_ok m_32 at ox42
    have P42_ : h42 108 9 = h41 108 9 := S42 108 9 rfl
    refine z_istore_n (M := M_X12_readMeasure) 43 dX12_readMeasure_43 (ls' := [some (mR 108), some (mI a1), some (mI x42), none, none]) (by decide) rfl ?_
    refine z_aload_n (M := M_X12_readMeasure) 44 dX12_readMeasure_44 rfl ?_
    refine z_aload_n (M := M_X12_readMeasure) 45 dX12_readMeasure_45 rfl ?_
    refine z_ldc2 (M := M_X12_readMeasure) 46 dX12_readMeasure_46 k_X12_285 ?_
    refine z_vI (M := M_X12_readMeasure) 49 dX12_readMeasure_49 t_X12_isWord l_X12_260 (m_rr_of rfl) (rest := [mR 108]) (c_X12_isWord h42 307 G42) o_108 rfl rfl rfl (Nat.le_of_ble_eq_true rfl) ⟨rfl, rfl⟩ (fun x43 h43 qx43 => ?_)
    obtain ⟨rfl, ⟨rfl, cx43⟩ | ⟨rfl, cx43⟩⟩ := qx43
    · refine z_vV (M := M_X12_readMeasure) 52 dX12_readMeasure_52 t_X12_must l_X12_247 (m_rr_of rfl) (rest := []) (c_X12_must_b h42 1 G42 ⟨by omega, by omega⟩ ((S42 108 14 rfl).trans bx41)) o_108 rfl rfl rfl (Nat.le_of_ble_eq_true rfl) ⟨rfl, rfl⟩ (fun h44 qx44 => ?_)
      obtain ⟨G44, S44⟩ := qx44
      have R44 := R42.call S44 (by decide +kernel)
      have P44_ : h44 108 9 = h42 108 9 := S44 108 9 rfl
      refine z_aload_n (M := M_X12_readMeasure) 55 dX12_readMeasure_55 rfl ?_
      refine z_lconst (M := M_X12_readMeasure) 56 dX12_readMeasure_56 (v := 1) ?_
      refine z_ldc2 (M := M_X12_readMeasure) 57 dX12_readMeasure_57 k_X12_180 ?_
      refine z_vI (M := M_X12_readMeasure) 60 dX12_readMeasure_60 t_X12_number l_X12_254 (m_rr_of rfl) (rest := []) (c_X12_number_b h44 1 99 G44 ⟨by omega, by omega⟩ ⟨by omega, by omega⟩ ((S44 108 14 rfl).trans ((S42 108 14 rfl).trans bx41))) o_108 rfl rfl rfl (Nat.le_of_ble_eq_true rfl) ⟨rfl, rfl⟩ (fun x45 h45 qx45 => ?_)
      obtain ⟨G45, S45⟩ := qx45
      have R45 := R44.call S45 (by decide +kernel)
      refine z_ok (fun ox45 _ _ => ?_)
      have ox45 := ox45.1; unfold m_ok m_32 at ox45
      have P45_ : h45 108 9 = h44 108 9 := S45 108 9 rfl
      refine z_istore_n (M := M_X12_readMeasure) 63 dX12_readMeasure_63 (ls' := [some (mR 108), some (mI a1), some (mI x42), some (mI x45), none]) (by decide) rfl ?_
      refine z_iconst (M := M_X12_readMeasure) 64 dX12_readMeasure_64 ?_
      refine z_istore (M := M_X12_readMeasure) 65 dX12_readMeasure_65 (ls' := [some (mR 108), some (mI a1), some (mI x42), some (mI x45), some (mI 0)]) (by decide) rfl ?_
      refine z_aload_n (M := M_X12_readMeasure) 67 dX12_readMeasure_67 rfl ?_
      refine z_getIE (M := M_X12_readMeasure) 68 dX12_readMeasure_68 f_X12_214 o_108 (by decide) ((S45 108 14 rfl).trans ((S44 108 14 rfl).trans ((S42 108 14 rfl).trans bx41))) ?_
      refine z_if_ne_T (M := M_X12_readMeasure) 71 dX12_readMeasure_71 134 rfl (by omega) ?_
      refine z_aload_n (M := M_X12_readMeasure) 134 dX12_readMeasure_134 rfl ?_
      refine z_iconst (M := M_X12_readMeasure) 135 dX12_readMeasure_135 ?_
      refine z_iload_n (M := M_X12_readMeasure) 136 dX12_readMeasure_136 rfl ?_
      refine z_iload_n (M := M_X12_readMeasure) 137 dX12_readMeasure_137 rfl ?_
      refine z_iload_n (M := M_X12_readMeasure) 138 dX12_readMeasure_138 rfl ?_
      refine z_iload (M := M_X12_readMeasure) 139 dX12_readMeasure_139 rfl ?_
      refine z_vV (M := M_X12_readMeasure) 141 dX12_readMeasure_141 t_X12_act l_X12_268 (m_rr_of rfl) (rest := []) (c_X12_act_b h45 3 a1 x42 x45 0 G45 ((S45 108 14 rfl).trans ((S44 108 14 rfl).trans ((S42 108 14 rfl).trans bx41)))) o_108 rfl rfl rfl (Nat.le_of_ble_eq_true rfl) ⟨rfl, rfl⟩ (fun h46 qx46 => ?_)
      obtain ⟨G46, S46⟩ := qx46
      have R46 := R45.call S46 (by decide +kernel)
      have P46_ : h46 108 9 = h45 108 9 := S46 108 9 rfl
      have bb_ : h46 108 14 = 1 := ((S46 108 14 rfl).trans ((S45 108 14 rfl).trans ((S44 108 14 rfl).trans ((S42 108 14 rfl).trans bx41))))
      exact z_retV (M := M_X12_readMeasure) 144 dX12_readMeasure_144 rfl ⟨G46, R46, md_er (by unfold rdMeas; rw [cif_neg (fun z => (fun z => cx2 ((iw_c (rowz (FR.rf (cs := [114]) (ss := [(108, 9), (108, 10), (108, 11), (108, 12), (108, 13), (108, 14), (108, 16), (108, 17)]) (h := h0)) (fun _ => rfl)) rfl (mw_7 M0 (g_108_9 G0).1)).mp z)) z.2)]) ((S46 108 14 rfl).trans ((S45 108 14 rfl).trans ((S44 108 14 rfl).trans ((S42 108 14 rfl).trans bx41)))) ((S46 108 13 rfl).trans ((S45 108 13 rfl).trans ((S44 108 13 rfl).trans ((S42 108 13 rfl).trans fpx41)))), by omega, fun _ => by omega⟩
    · refine z_vV (M := M_X12_readMeasure) 52 dX12_readMeasure_52 t_X12_must l_X12_247 (m_rr_of rfl) (rest := []) (c_X12_must_b h42 0 G42 ⟨by omega, by omega⟩ ((S42 108 14 rfl).trans bx41)) o_108 rfl rfl rfl (Nat.le_of_ble_eq_true rfl) ⟨rfl, rfl⟩ (fun h47 qx47 => ?_)
      obtain ⟨G47, S47⟩ := qx47
      have R47 := R42.call S47 (by decide +kernel)
      have P47_ : h47 108 9 = h42 108 9 := S47 108 9 rfl
      refine z_aload_n (M := M_X12_readMeasure) 55 dX12_readMeasure_55 rfl ?_
      refine z_lconst (M := M_X12_readMeasure) 56 dX12_readMeasure_56 (v := 1) ?_
      refine z_ldc2 (M := M_X12_readMeasure) 57 dX12_readMeasure_57 k_X12_180 ?_
      refine z_vI (M := M_X12_readMeasure) 60 dX12_readMeasure_60 t_X12_number l_X12_254 (m_rr_of rfl) (rest := []) (c_X12_number_b h47 1 99 G47 ⟨by omega, by omega⟩ ⟨by omega, by omega⟩ ((S47 108 14 rfl).trans ((S42 108 14 rfl).trans bx41))) o_108 rfl rfl rfl (Nat.le_of_ble_eq_true rfl) ⟨rfl, rfl⟩ (fun x48 h48 qx48 => ?_)
      obtain ⟨G48, S48⟩ := qx48
      have R48 := R47.call S48 (by decide +kernel)
      refine z_ok (fun ox48 _ _ => ?_)
      have ox48 := ox48.1; unfold m_ok m_32 at ox48
      have P48_ : h48 108 9 = h47 108 9 := S48 108 9 rfl
      refine z_istore_n (M := M_X12_readMeasure) 63 dX12_readMeasure_63 (ls' := [some (mR 108), some (mI a1), some (mI x42), some (mI x48), none]) (by decide) rfl ?_
      refine z_iconst (M := M_X12_readMeasure) 64 dX12_readMeasure_64 ?_
      refine z_istore (M := M_X12_readMeasure) 65 dX12_readMeasure_65 (ls' := [some (mR 108), some (mI a1), some (mI x42), some (mI x48), some (mI 0)]) (by decide) rfl ?_
      refine z_aload_n (M := M_X12_readMeasure) 67 dX12_readMeasure_67 rfl ?_
      refine z_getIE (M := M_X12_readMeasure) 68 dX12_readMeasure_68 f_X12_214 o_108 (by decide) ((S48 108 14 rfl).trans ((S47 108 14 rfl).trans ((S42 108 14 rfl).trans bx41))) ?_
      refine z_if_ne_T (M := M_X12_readMeasure) 71 dX12_readMeasure_71 134 rfl (by omega) ?_
      refine z_aload_n (M := M_X12_readMeasure) 134 dX12_readMeasure_134 rfl ?_
      refine z_iconst (M := M_X12_readMeasure) 135 dX12_readMeasure_135 ?_
      refine z_iload_n (M := M_X12_readMeasure) 136 dX12_readMeasure_136 rfl ?_
      refine z_iload_n (M := M_X12_readMeasure) 137 dX12_readMeasure_137 rfl ?_
      refine z_iload_n (M := M_X12_readMeasure) 138 dX12_readMeasure_138 rfl ?_
      refine z_iload (M := M_X12_readMeasure) 139 dX12_readMeasure_139 rfl ?_
      refine z_vV (M := M_X12_readMeasure) 141 dX12_readMeasure_141 t_X12_act l_X12_268 (m_rr_of rfl) (rest := []) (c_X12_act_b h48 3 a1 x42 x48 0 G48 ((S48 108 14 rfl).trans ((S47 108 14 rfl).trans ((S42 108 14 rfl).trans bx41)))) o_108 rfl rfl rfl (Nat.le_of_ble_eq_true rfl) ⟨rfl, rfl⟩ (fun h49 qx49 => ?_)
      obtain ⟨G49, S49⟩ := qx49
      have R49 := R48.call S49 (by decide +kernel)
      have P49_ : h49 108 9 = h48 108 9 := S49 108 9 rfl
      have bb_ : h49 108 14 = 1 := ((S49 108 14 rfl).trans ((S48 108 14 rfl).trans ((S47 108 14 rfl).trans ((S42 108 14 rfl).trans bx41))))
      exact z_retV (M := M_X12_readMeasure) 144 dX12_readMeasure_144 rfl ⟨G49, R49, md_er (by unfold rdMeas; rw [cif_neg (fun z => (fun z => cx2 ((iw_c (rowz (FR.rf (cs := [114]) (ss := [(108, 9), (108, 10), (108, 11), (108, 12), (108, 13), (108, 14), (108, 16), (108, 17)]) (h := h0)) (fun _ => rfl)) rfl (mw_7 M0 (g_108_9 G0).1)).mp z)) z.2)]) ((S49 108 14 rfl).trans ((S48 108 14 rfl).trans ((S47 108 14 rfl).trans ((S42 108 14 rfl).trans bx41)))) ((S49 108 13 rfl).trans ((S48 108 13 rfl).trans ((S47 108 13 rfl).trans ((S42 108 13 rfl).trans fpx41)))), by omega, fun _ => by omega⟩
abbrev P_X12_readMeasure_b (h0 : m_H) (a1 : Int) : m_H → Prop := fun h' => GI h' ∧ FR [] [] h0 h'
set_option maxHeartbeats 4000000 in
set_option maxRecDepth 100000 in
theorem c_X12_readMeasure_b (h0 : m_H) (a1 : Int) (G0 : GI h0) (hb1 : h0 108 14 = 1) : m_CV M_X12_readMeasure [mR 108, mI a1] h0 (P_X12_readMeasure_b h0 a1) := by
  refine m_CV_of ⟨by decide, rfl, by simp [m_arg, m_isL, M_X12_readMeasure], ⟨rfl, rfl⟩, rfl, rfl⟩ (ls := [some (mR 108), some (mI a1), none, none, none]) rfl ?_
  refine z_ok (fun _ _ ok => ?_)
  have oa1 : m_32 a1 := ok 1 _ rfl
  unfold m_32 at oa1
  refine z_aload_n (M := M_X12_readMeasure) 0 dX12_readMeasure_0 rfl ?_
  refine z_aload_n (M := M_X12_readMeasure) 1 dX12_readMeasure_1 rfl ?_
  refine z_ldc2 (M := M_X12_readMeasure) 2 dX12_readMeasure_2 k_X12_280 ?_
  refine z_vI (M := M_X12_readMeasure) 5 dX12_readMeasure_5 t_X12_isWord l_X12_260 (m_rr_of rfl) (rest := [mR 108]) (c_X12_isWord h0 302 G0) o_108 rfl rfl rfl (Nat.le_of_ble_eq_true rfl) ⟨rfl, rfl⟩ (fun x1 h1 qx1 => ?_)
  obtain ⟨rfl, ⟨rfl, cx1⟩ | ⟨rfl, cx1⟩⟩ := qx1
  · refine z_if_eq_F (M := M_X12_readMeasure) 8 dX12_readMeasure_8 31 rfl (by omega) ?_
    refine z_aload_n (M := M_X12_readMeasure) 11 dX12_readMeasure_11 rfl ?_
    refine z_getR (M := M_X12_readMeasure) 12 dX12_readMeasure_12 f_X12_13 o_108 rfl (g_108_3 G0) ?_
    refine z_iconst (M := M_X12_readMeasure) 15 dX12_readMeasure_15 ?_
    refine z_ialdG (M := M_X12_readMeasure) 16 dX12_readMeasure_16 o_110 (by omega) (by omega) (gw_0 G0) (fun x2 ex2 ax2 bx2 => ?_)
    refine z_aload_n (M := M_X12_readMeasure) 17 dX12_readMeasure_17 rfl ?_
    refine z_getIG (M := M_X12_readMeasure) 18 dX12_readMeasure_18 f_X12_282 o_108 (by decide) (g_108_17 G0) (fun x3 ex3 ax3 bx3 => ?_)
    refine z_iaddN (M := M_X12_readMeasure) 21 dX12_readMeasure_21 (by omega) (by omega) ?_
    refine z_bipush (M := M_X12_readMeasure) 22 dX12_readMeasure_22 ?_
    refine z_icmp_ge (M := M_X12_readMeasure) 24 dX12_readMeasure_24 31 rfl (fun c4 => ?_) (fun c4 => ?_)
    · refine z_iconst (M := M_X12_readMeasure) 31 dX12_readMeasure_31 ?_
      refine z_vV (M := M_X12_readMeasure) 32 dX12_readMeasure_32 t_X12_must l_X12_247 (m_rr_of rfl) (rest := []) (c_X12_must_b h0 0 G0 ⟨by omega, by omega⟩ hb1) o_108 rfl rfl rfl (Nat.le_of_ble_eq_true rfl) ⟨rfl, rfl⟩ (fun h2 qx5 => ?_)
      obtain ⟨G2, S2⟩ := qx5
      have R2 := (FR.rf (cs := []) (ss := []) (h := h0)).call S2 (by decide +kernel)
      have P2_ : h2 108 9 = h0 108 9 := S2 108 9 rfl
      refine z_aload_n (M := M_X12_readMeasure) 35 dX12_readMeasure_35 rfl ?_
      refine z_lconst (M := M_X12_readMeasure) 36 dX12_readMeasure_36 (v := 0) ?_
      refine z_ldc2 (M := M_X12_readMeasure) 37 dX12_readMeasure_37 k_X12_154 ?_
      refine z_vI (M := M_X12_readMeasure) 40 dX12_readMeasure_40 t_X12_number l_X12_254 (m_rr_of rfl) (rest := []) (c_X12_number_b h2 0 31 G2 ⟨by omega, by omega⟩ ⟨by omega, by omega⟩ ((S2 108 14 rfl).trans hb1)) o_108 rfl rfl rfl (Nat.le_of_ble_eq_true rfl) ⟨rfl, rfl⟩ (fun x6 h3 qx6 => ?_)
      obtain ⟨G3, S3⟩ := qx6
      have R3 := R2.call S3 (by decide +kernel)
      refine z_ok (fun ox6 _ _ => ?_)
      have ox6 := ox6.1; unfold m_ok m_32 at ox6
      have P3_ : h3 108 9 = h2 108 9 := S3 108 9 rfl
      refine z_istore_n (M := M_X12_readMeasure) 43 dX12_readMeasure_43 (ls' := [some (mR 108), some (mI a1), some (mI x6), none, none]) (by decide) rfl ?_
      refine z_aload_n (M := M_X12_readMeasure) 44 dX12_readMeasure_44 rfl ?_
      refine z_aload_n (M := M_X12_readMeasure) 45 dX12_readMeasure_45 rfl ?_
      refine z_ldc2 (M := M_X12_readMeasure) 46 dX12_readMeasure_46 k_X12_285 ?_
      refine z_vI (M := M_X12_readMeasure) 49 dX12_readMeasure_49 t_X12_isWord l_X12_260 (m_rr_of rfl) (rest := [mR 108]) (c_X12_isWord h3 307 G3) o_108 rfl rfl rfl (Nat.le_of_ble_eq_true rfl) ⟨rfl, rfl⟩ (fun x7 h4 qx7 => ?_)
      obtain ⟨rfl, ⟨rfl, cx7⟩ | ⟨rfl, cx7⟩⟩ := qx7
      · refine z_vV (M := M_X12_readMeasure) 52 dX12_readMeasure_52 t_X12_must l_X12_247 (m_rr_of rfl) (rest := []) (c_X12_must_b h3 1 G3 ⟨by omega, by omega⟩ ((S3 108 14 rfl).trans ((S2 108 14 rfl).trans hb1))) o_108 rfl rfl rfl (Nat.le_of_ble_eq_true rfl) ⟨rfl, rfl⟩ (fun h5 qx8 => ?_)
        obtain ⟨G5, S5⟩ := qx8
        have R5 := R3.call S5 (by decide +kernel)
        have P5_ : h5 108 9 = h3 108 9 := S5 108 9 rfl
        refine z_aload_n (M := M_X12_readMeasure) 55 dX12_readMeasure_55 rfl ?_
        refine z_lconst (M := M_X12_readMeasure) 56 dX12_readMeasure_56 (v := 1) ?_
        refine z_ldc2 (M := M_X12_readMeasure) 57 dX12_readMeasure_57 k_X12_180 ?_
        refine z_vI (M := M_X12_readMeasure) 60 dX12_readMeasure_60 t_X12_number l_X12_254 (m_rr_of rfl) (rest := []) (c_X12_number_b h5 1 99 G5 ⟨by omega, by omega⟩ ⟨by omega, by omega⟩ ((S5 108 14 rfl).trans ((S3 108 14 rfl).trans ((S2 108 14 rfl).trans hb1)))) o_108 rfl rfl rfl (Nat.le_of_ble_eq_true rfl) ⟨rfl, rfl⟩ (fun x9 h6 qx9 => ?_)
        obtain ⟨G6, S6⟩ := qx9
        have R6 := R5.call S6 (by decide +kernel)
        refine z_ok (fun ox9 _ _ => ?_)
        have ox9 := ox9.1; unfold m_ok m_32 at ox9
        have P6_ : h6 108 9 = h5 108 9 := S6 108 9 rfl
        refine z_istore_n (M := M_X12_readMeasure) 63 dX12_readMeasure_63 (ls' := [some (mR 108), some (mI a1), some (mI x6), some (mI x9), none]) (by decide) rfl ?_
        refine z_iconst (M := M_X12_readMeasure) 64 dX12_readMeasure_64 ?_
        refine z_istore (M := M_X12_readMeasure) 65 dX12_readMeasure_65 (ls' := [some (mR 108), some (mI a1), some (mI x6), some (mI x9), some (mI 0)]) (by decide) rfl ?_
        refine z_aload_n (M := M_X12_readMeasure) 67 dX12_readMeasure_67 rfl ?_
        refine z_getIE (M := M_X12_readMeasure) 68 dX12_readMeasure_68 f_X12_214 o_108 (by decide) ((S6 108 14 rfl).trans ((S5 108 14 rfl).trans ((S3 108 14 rfl).trans ((S2 108 14 rfl).trans hb1)))) ?_
        refine z_if_ne_T (M := M_X12_readMeasure) 71 dX12_readMeasure_71 134 rfl (by omega) ?_
        refine z_aload_n (M := M_X12_readMeasure) 134 dX12_readMeasure_134 rfl ?_
        refine z_iconst (M := M_X12_readMeasure) 135 dX12_readMeasure_135 ?_
        refine z_iload_n (M := M_X12_readMeasure) 136 dX12_readMeasure_136 rfl ?_
        refine z_iload_n (M := M_X12_readMeasure) 137 dX12_readMeasure_137 rfl ?_
        refine z_iload_n (M := M_X12_readMeasure) 138 dX12_readMeasure_138 rfl ?_
        refine z_iload (M := M_X12_readMeasure) 139 dX12_readMeasure_139 rfl ?_
        refine z_vV (M := M_X12_readMeasure) 141 dX12_readMeasure_141 t_X12_act l_X12_268 (m_rr_of rfl) (rest := []) (c_X12_act_b h6 3 a1 x6 x9 0 G6 ((S6 108 14 rfl).trans ((S5 108 14 rfl).trans ((S3 108 14 rfl).trans ((S2 108 14 rfl).trans hb1))))) o_108 rfl rfl rfl (Nat.le_of_ble_eq_true rfl) ⟨rfl, rfl⟩ (fun h7 qx10 => ?_)
        obtain ⟨G7, S7⟩ := qx10
        have R7 := R6.call S7 (by decide +kernel)
        have P7_ : h7 108 9 = h6 108 9 := S7 108 9 rfl
        exact z_retV (M := M_X12_readMeasure) 144 dX12_readMeasure_144 rfl ⟨G7, R7⟩
      · refine z_vV (M := M_X12_readMeasure) 52 dX12_readMeasure_52 t_X12_must l_X12_247 (m_rr_of rfl) (rest := []) (c_X12_must_b h3 0 G3 ⟨by omega, by omega⟩ ((S3 108 14 rfl).trans ((S2 108 14 rfl).trans hb1))) o_108 rfl rfl rfl (Nat.le_of_ble_eq_true rfl) ⟨rfl, rfl⟩ (fun h8 qx11 => ?_)
        obtain ⟨G8, S8⟩ := qx11
        have R8 := R3.call S8 (by decide +kernel)
        have P8_ : h8 108 9 = h3 108 9 := S8 108 9 rfl
        refine z_aload_n (M := M_X12_readMeasure) 55 dX12_readMeasure_55 rfl ?_
        refine z_lconst (M := M_X12_readMeasure) 56 dX12_readMeasure_56 (v := 1) ?_
        refine z_ldc2 (M := M_X12_readMeasure) 57 dX12_readMeasure_57 k_X12_180 ?_
        refine z_vI (M := M_X12_readMeasure) 60 dX12_readMeasure_60 t_X12_number l_X12_254 (m_rr_of rfl) (rest := []) (c_X12_number_b h8 1 99 G8 ⟨by omega, by omega⟩ ⟨by omega, by omega⟩ ((S8 108 14 rfl).trans ((S3 108 14 rfl).trans ((S2 108 14 rfl).trans hb1)))) o_108 rfl rfl rfl (Nat.le_of_ble_eq_true rfl) ⟨rfl, rfl⟩ (fun x12 h9 qx12 => ?_)
        obtain ⟨G9, S9⟩ := qx12
        have R9 := R8.call S9 (by decide +kernel)
        refine z_ok (fun ox12 _ _ => ?_)
        have ox12 := ox12.1; unfold m_ok m_32 at ox12
        have P9_ : h9 108 9 = h8 108 9 := S9 108 9 rfl
        refine z_istore_n (M := M_X12_readMeasure) 63 dX12_readMeasure_63 (ls' := [some (mR 108), some (mI a1), some (mI x6), some (mI x12), none]) (by decide) rfl ?_
        refine z_iconst (M := M_X12_readMeasure) 64 dX12_readMeasure_64 ?_
        refine z_istore (M := M_X12_readMeasure) 65 dX12_readMeasure_65 (ls' := [some (mR 108), some (mI a1), some (mI x6), some (mI x12), some (mI 0)]) (by decide) rfl ?_
        refine z_aload_n (M := M_X12_readMeasure) 67 dX12_readMeasure_67 rfl ?_
        refine z_getIE (M := M_X12_readMeasure) 68 dX12_readMeasure_68 f_X12_214 o_108 (by decide) ((S9 108 14 rfl).trans ((S8 108 14 rfl).trans ((S3 108 14 rfl).trans ((S2 108 14 rfl).trans hb1)))) ?_
        refine z_if_ne_T (M := M_X12_readMeasure) 71 dX12_readMeasure_71 134 rfl (by omega) ?_
        refine z_aload_n (M := M_X12_readMeasure) 134 dX12_readMeasure_134 rfl ?_
        refine z_iconst (M := M_X12_readMeasure) 135 dX12_readMeasure_135 ?_
        refine z_iload_n (M := M_X12_readMeasure) 136 dX12_readMeasure_136 rfl ?_
        refine z_iload_n (M := M_X12_readMeasure) 137 dX12_readMeasure_137 rfl ?_
        refine z_iload_n (M := M_X12_readMeasure) 138 dX12_readMeasure_138 rfl ?_
        refine z_iload (M := M_X12_readMeasure) 139 dX12_readMeasure_139 rfl ?_
        refine z_vV (M := M_X12_readMeasure) 141 dX12_readMeasure_141 t_X12_act l_X12_268 (m_rr_of rfl) (rest := []) (c_X12_act_b h9 3 a1 x6 x12 0 G9 ((S9 108 14 rfl).trans ((S8 108 14 rfl).trans ((S3 108 14 rfl).trans ((S2 108 14 rfl).trans hb1))))) o_108 rfl rfl rfl (Nat.le_of_ble_eq_true rfl) ⟨rfl, rfl⟩ (fun h10 qx13 => ?_)
        obtain ⟨G10, S10⟩ := qx13
        have R10 := R9.call S10 (by decide +kernel)
        have P10_ : h10 108 9 = h9 108 9 := S10 108 9 rfl
        exact z_retV (M := M_X12_readMeasure) 144 dX12_readMeasure_144 rfl ⟨G10, R10⟩
    · refine z_iconst (M := M_X12_readMeasure) 27 dX12_readMeasure_27 ?_
      refine z_goto (M := M_X12_readMeasure) 28 dX12_readMeasure_28 32 rfl ?_
      refine z_vV (M := M_X12_readMeasure) 32 dX12_readMeasure_32 t_X12_must l_X12_247 (m_rr_of rfl) (rest := []) (c_X12_must_b h0 1 G0 ⟨by omega, by omega⟩ hb1) o_108 rfl rfl rfl (Nat.le_of_ble_eq_true rfl) ⟨rfl, rfl⟩ (fun h11 qx14 => ?_)
      obtain ⟨G11, S11⟩ := qx14
      have R11 := (FR.rf (cs := []) (ss := []) (h := h0)).call S11 (by decide +kernel)
      have P11_ : h11 108 9 = h0 108 9 := S11 108 9 rfl
      refine z_aload_n (M := M_X12_readMeasure) 35 dX12_readMeasure_35 rfl ?_
      refine z_lconst (M := M_X12_readMeasure) 36 dX12_readMeasure_36 (v := 0) ?_
      refine z_ldc2 (M := M_X12_readMeasure) 37 dX12_readMeasure_37 k_X12_154 ?_
      refine z_vI (M := M_X12_readMeasure) 40 dX12_readMeasure_40 t_X12_number l_X12_254 (m_rr_of rfl) (rest := []) (c_X12_number_b h11 0 31 G11 ⟨by omega, by omega⟩ ⟨by omega, by omega⟩ ((S11 108 14 rfl).trans hb1)) o_108 rfl rfl rfl (Nat.le_of_ble_eq_true rfl) ⟨rfl, rfl⟩ (fun x15 h12 qx15 => ?_)
      obtain ⟨G12, S12⟩ := qx15
      have R12 := R11.call S12 (by decide +kernel)
      refine z_ok (fun ox15 _ _ => ?_)
      have ox15 := ox15.1; unfold m_ok m_32 at ox15
      have P12_ : h12 108 9 = h11 108 9 := S12 108 9 rfl
      refine z_istore_n (M := M_X12_readMeasure) 43 dX12_readMeasure_43 (ls' := [some (mR 108), some (mI a1), some (mI x15), none, none]) (by decide) rfl ?_
      refine z_aload_n (M := M_X12_readMeasure) 44 dX12_readMeasure_44 rfl ?_
      refine z_aload_n (M := M_X12_readMeasure) 45 dX12_readMeasure_45 rfl ?_
      refine z_ldc2 (M := M_X12_readMeasure) 46 dX12_readMeasure_46 k_X12_285 ?_
      refine z_vI (M := M_X12_readMeasure) 49 dX12_readMeasure_49 t_X12_isWord l_X12_260 (m_rr_of rfl) (rest := [mR 108]) (c_X12_isWord h12 307 G12) o_108 rfl rfl rfl (Nat.le_of_ble_eq_true rfl) ⟨rfl, rfl⟩ (fun x16 h13 qx16 => ?_)
      obtain ⟨rfl, ⟨rfl, cx16⟩ | ⟨rfl, cx16⟩⟩ := qx16
      · refine z_vV (M := M_X12_readMeasure) 52 dX12_readMeasure_52 t_X12_must l_X12_247 (m_rr_of rfl) (rest := []) (c_X12_must_b h12 1 G12 ⟨by omega, by omega⟩ ((S12 108 14 rfl).trans ((S11 108 14 rfl).trans hb1))) o_108 rfl rfl rfl (Nat.le_of_ble_eq_true rfl) ⟨rfl, rfl⟩ (fun h14 qx17 => ?_)
        obtain ⟨G14, S14⟩ := qx17
        have R14 := R12.call S14 (by decide +kernel)
        have P14_ : h14 108 9 = h12 108 9 := S14 108 9 rfl
        refine z_aload_n (M := M_X12_readMeasure) 55 dX12_readMeasure_55 rfl ?_
        refine z_lconst (M := M_X12_readMeasure) 56 dX12_readMeasure_56 (v := 1) ?_
        refine z_ldc2 (M := M_X12_readMeasure) 57 dX12_readMeasure_57 k_X12_180 ?_
        refine z_vI (M := M_X12_readMeasure) 60 dX12_readMeasure_60 t_X12_number l_X12_254 (m_rr_of rfl) (rest := []) (c_X12_number_b h14 1 99 G14 ⟨by omega, by omega⟩ ⟨by omega, by omega⟩ ((S14 108 14 rfl).trans ((S12 108 14 rfl).trans ((S11 108 14 rfl).trans hb1)))) o_108 rfl rfl rfl (Nat.le_of_ble_eq_true rfl) ⟨rfl, rfl⟩ (fun x18 h15 qx18 => ?_)
        obtain ⟨G15, S15⟩ := qx18
        have R15 := R14.call S15 (by decide +kernel)
        refine z_ok (fun ox18 _ _ => ?_)
        have ox18 := ox18.1; unfold m_ok m_32 at ox18
        have P15_ : h15 108 9 = h14 108 9 := S15 108 9 rfl
        refine z_istore_n (M := M_X12_readMeasure) 63 dX12_readMeasure_63 (ls' := [some (mR 108), some (mI a1), some (mI x15), some (mI x18), none]) (by decide) rfl ?_
        refine z_iconst (M := M_X12_readMeasure) 64 dX12_readMeasure_64 ?_
        refine z_istore (M := M_X12_readMeasure) 65 dX12_readMeasure_65 (ls' := [some (mR 108), some (mI a1), some (mI x15), some (mI x18), some (mI 0)]) (by decide) rfl ?_
        refine z_aload_n (M := M_X12_readMeasure) 67 dX12_readMeasure_67 rfl ?_
        refine z_getIE (M := M_X12_readMeasure) 68 dX12_readMeasure_68 f_X12_214 o_108 (by decide) ((S15 108 14 rfl).trans ((S14 108 14 rfl).trans ((S12 108 14 rfl).trans ((S11 108 14 rfl).trans hb1)))) ?_
        refine z_if_ne_T (M := M_X12_readMeasure) 71 dX12_readMeasure_71 134 rfl (by omega) ?_
        refine z_aload_n (M := M_X12_readMeasure) 134 dX12_readMeasure_134 rfl ?_
        refine z_iconst (M := M_X12_readMeasure) 135 dX12_readMeasure_135 ?_
        refine z_iload_n (M := M_X12_readMeasure) 136 dX12_readMeasure_136 rfl ?_
        refine z_iload_n (M := M_X12_readMeasure) 137 dX12_readMeasure_137 rfl ?_
        refine z_iload_n (M := M_X12_readMeasure) 138 dX12_readMeasure_138 rfl ?_
        refine z_iload (M := M_X12_readMeasure) 139 dX12_readMeasure_139 rfl ?_
        refine z_vV (M := M_X12_readMeasure) 141 dX12_readMeasure_141 t_X12_act l_X12_268 (m_rr_of rfl) (rest := []) (c_X12_act_b h15 3 a1 x15 x18 0 G15 ((S15 108 14 rfl).trans ((S14 108 14 rfl).trans ((S12 108 14 rfl).trans ((S11 108 14 rfl).trans hb1))))) o_108 rfl rfl rfl (Nat.le_of_ble_eq_true rfl) ⟨rfl, rfl⟩ (fun h16 qx19 => ?_)
        obtain ⟨G16, S16⟩ := qx19
        have R16 := R15.call S16 (by decide +kernel)
        have P16_ : h16 108 9 = h15 108 9 := S16 108 9 rfl
        exact z_retV (M := M_X12_readMeasure) 144 dX12_readMeasure_144 rfl ⟨G16, R16⟩
      · refine z_vV (M := M_X12_readMeasure) 52 dX12_readMeasure_52 t_X12_must l_X12_247 (m_rr_of rfl) (rest := []) (c_X12_must_b h12 0 G12 ⟨by omega, by omega⟩ ((S12 108 14 rfl).trans ((S11 108 14 rfl).trans hb1))) o_108 rfl rfl rfl (Nat.le_of_ble_eq_true rfl) ⟨rfl, rfl⟩ (fun h17 qx20 => ?_)
        obtain ⟨G17, S17⟩ := qx20
        have R17 := R12.call S17 (by decide +kernel)
        have P17_ : h17 108 9 = h12 108 9 := S17 108 9 rfl
        refine z_aload_n (M := M_X12_readMeasure) 55 dX12_readMeasure_55 rfl ?_
        refine z_lconst (M := M_X12_readMeasure) 56 dX12_readMeasure_56 (v := 1) ?_
        refine z_ldc2 (M := M_X12_readMeasure) 57 dX12_readMeasure_57 k_X12_180 ?_
        refine z_vI (M := M_X12_readMeasure) 60 dX12_readMeasure_60 t_X12_number l_X12_254 (m_rr_of rfl) (rest := []) (c_X12_number_b h17 1 99 G17 ⟨by omega, by omega⟩ ⟨by omega, by omega⟩ ((S17 108 14 rfl).trans ((S12 108 14 rfl).trans ((S11 108 14 rfl).trans hb1)))) o_108 rfl rfl rfl (Nat.le_of_ble_eq_true rfl) ⟨rfl, rfl⟩ (fun x21 h18 qx21 => ?_)
        obtain ⟨G18, S18⟩ := qx21
        have R18 := R17.call S18 (by decide +kernel)
        refine z_ok (fun ox21 _ _ => ?_)
        have ox21 := ox21.1; unfold m_ok m_32 at ox21
        have P18_ : h18 108 9 = h17 108 9 := S18 108 9 rfl
        refine z_istore_n (M := M_X12_readMeasure) 63 dX12_readMeasure_63 (ls' := [some (mR 108), some (mI a1), some (mI x15), some (mI x21), none]) (by decide) rfl ?_
        refine z_iconst (M := M_X12_readMeasure) 64 dX12_readMeasure_64 ?_
        refine z_istore (M := M_X12_readMeasure) 65 dX12_readMeasure_65 (ls' := [some (mR 108), some (mI a1), some (mI x15), some (mI x21), some (mI 0)]) (by decide) rfl ?_
        refine z_aload_n (M := M_X12_readMeasure) 67 dX12_readMeasure_67 rfl ?_
        refine z_getIE (M := M_X12_readMeasure) 68 dX12_readMeasure_68 f_X12_214 o_108 (by decide) ((S18 108 14 rfl).trans ((S17 108 14 rfl).trans ((S12 108 14 rfl).trans ((S11 108 14 rfl).trans hb1)))) ?_
        refine z_if_ne_T (M := M_X12_readMeasure) 71 dX12_readMeasure_71 134 rfl (by omega) ?_
        refine z_aload_n (M := M_X12_readMeasure) 134 dX12_readMeasure_134 rfl ?_
        refine z_iconst (M := M_X12_readMeasure) 135 dX12_readMeasure_135 ?_
        refine z_iload_n (M := M_X12_readMeasure) 136 dX12_readMeasure_136 rfl ?_
        refine z_iload_n (M := M_X12_readMeasure) 137 dX12_readMeasure_137 rfl ?_
        refine z_iload_n (M := M_X12_readMeasure) 138 dX12_readMeasure_138 rfl ?_
        refine z_iload (M := M_X12_readMeasure) 139 dX12_readMeasure_139 rfl ?_
        refine z_vV (M := M_X12_readMeasure) 141 dX12_readMeasure_141 t_X12_act l_X12_268 (m_rr_of rfl) (rest := []) (c_X12_act_b h18 3 a1 x15 x21 0 G18 ((S18 108 14 rfl).trans ((S17 108 14 rfl).trans ((S12 108 14 rfl).trans ((S11 108 14 rfl).trans hb1))))) o_108 rfl rfl rfl (Nat.le_of_ble_eq_true rfl) ⟨rfl, rfl⟩ (fun h19 qx22 => ?_)
        obtain ⟨G19, S19⟩ := qx22
        have R19 := R18.call S19 (by decide +kernel)
        have P19_ : h19 108 9 = h18 108 9 := S19 108 9 rfl
        exact z_retV (M := M_X12_readMeasure) 144 dX12_readMeasure_144 rfl ⟨G19, R19⟩
  · refine z_if_eq_T (M := M_X12_readMeasure) 8 dX12_readMeasure_8 31 rfl (by omega) ?_
    refine z_iconst (M := M_X12_readMeasure) 31 dX12_readMeasure_31 ?_
    refine z_vV (M := M_X12_readMeasure) 32 dX12_readMeasure_32 t_X12_must l_X12_247 (m_rr_of rfl) (rest := []) (c_X12_must_b h0 0 G0 ⟨by omega, by omega⟩ hb1) o_108 rfl rfl rfl (Nat.le_of_ble_eq_true rfl) ⟨rfl, rfl⟩ (fun h20 qx23 => ?_)
    obtain ⟨G20, S20⟩ := qx23
    have R20 := (FR.rf (cs := []) (ss := []) (h := h0)).call S20 (by decide +kernel)
    have P20_ : h20 108 9 = h0 108 9 := S20 108 9 rfl
    refine z_aload_n (M := M_X12_readMeasure) 35 dX12_readMeasure_35 rfl ?_
    refine z_lconst (M := M_X12_readMeasure) 36 dX12_readMeasure_36 (v := 0) ?_
    refine z_ldc2 (M := M_X12_readMeasure) 37 dX12_readMeasure_37 k_X12_154 ?_
    refine z_vI (M := M_X12_readMeasure) 40 dX12_readMeasure_40 t_X12_number l_X12_254 (m_rr_of rfl) (rest := []) (c_X12_number_b h20 0 31 G20 ⟨by omega, by omega⟩ ⟨by omega, by omega⟩ ((S20 108 14 rfl).trans hb1)) o_108 rfl rfl rfl (Nat.le_of_ble_eq_true rfl) ⟨rfl, rfl⟩ (fun x24 h21 qx24 => ?_)
    obtain ⟨G21, S21⟩ := qx24
    have R21 := R20.call S21 (by decide +kernel)
    refine z_ok (fun ox24 _ _ => ?_)
    have ox24 := ox24.1; unfold m_ok m_32 at ox24
    have P21_ : h21 108 9 = h20 108 9 := S21 108 9 rfl
    refine z_istore_n (M := M_X12_readMeasure) 43 dX12_readMeasure_43 (ls' := [some (mR 108), some (mI a1), some (mI x24), none, none]) (by decide) rfl ?_
    refine z_aload_n (M := M_X12_readMeasure) 44 dX12_readMeasure_44 rfl ?_
    refine z_aload_n (M := M_X12_readMeasure) 45 dX12_readMeasure_45 rfl ?_
    refine z_ldc2 (M := M_X12_readMeasure) 46 dX12_readMeasure_46 k_X12_285 ?_
    refine z_vI (M := M_X12_readMeasure) 49 dX12_readMeasure_49 t_X12_isWord l_X12_260 (m_rr_of rfl) (rest := [mR 108]) (c_X12_isWord h21 307 G21) o_108 rfl rfl rfl (Nat.le_of_ble_eq_true rfl) ⟨rfl, rfl⟩ (fun x25 h22 qx25 => ?_)
    obtain ⟨rfl, ⟨rfl, cx25⟩ | ⟨rfl, cx25⟩⟩ := qx25
    · refine z_vV (M := M_X12_readMeasure) 52 dX12_readMeasure_52 t_X12_must l_X12_247 (m_rr_of rfl) (rest := []) (c_X12_must_b h21 1 G21 ⟨by omega, by omega⟩ ((S21 108 14 rfl).trans ((S20 108 14 rfl).trans hb1))) o_108 rfl rfl rfl (Nat.le_of_ble_eq_true rfl) ⟨rfl, rfl⟩ (fun h23 qx26 => ?_)
      obtain ⟨G23, S23⟩ := qx26
      have R23 := R21.call S23 (by decide +kernel)
      have P23_ : h23 108 9 = h21 108 9 := S23 108 9 rfl
      refine z_aload_n (M := M_X12_readMeasure) 55 dX12_readMeasure_55 rfl ?_
      refine z_lconst (M := M_X12_readMeasure) 56 dX12_readMeasure_56 (v := 1) ?_
      refine z_ldc2 (M := M_X12_readMeasure) 57 dX12_readMeasure_57 k_X12_180 ?_
      refine z_vI (M := M_X12_readMeasure) 60 dX12_readMeasure_60 t_X12_number l_X12_254 (m_rr_of rfl) (rest := []) (c_X12_number_b h23 1 99 G23 ⟨by omega, by omega⟩ ⟨by omega, by omega⟩ ((S23 108 14 rfl).trans ((S21 108 14 rfl).trans ((S20 108 14 rfl).trans hb1)))) o_108 rfl rfl rfl (Nat.le_of_ble_eq_true rfl) ⟨rfl, rfl⟩ (fun x27 h24 qx27 => ?_)
      obtain ⟨G24, S24⟩ := qx27
      have R24 := R23.call S24 (by decide +kernel)
      refine z_ok (fun ox27 _ _ => ?_)
      have ox27 := ox27.1; unfold m_ok m_32 at ox27
      have P24_ : h24 108 9 = h23 108 9 := S24 108 9 rfl
      refine z_istore_n (M := M_X12_readMeasure) 63 dX12_readMeasure_63 (ls' := [some (mR 108), some (mI a1), some (mI x24), some (mI x27), none]) (by decide) rfl ?_
      refine z_iconst (M := M_X12_readMeasure) 64 dX12_readMeasure_64 ?_
      refine z_istore (M := M_X12_readMeasure) 65 dX12_readMeasure_65 (ls' := [some (mR 108), some (mI a1), some (mI x24), some (mI x27), some (mI 0)]) (by decide) rfl ?_
      refine z_aload_n (M := M_X12_readMeasure) 67 dX12_readMeasure_67 rfl ?_
      refine z_getIE (M := M_X12_readMeasure) 68 dX12_readMeasure_68 f_X12_214 o_108 (by decide) ((S24 108 14 rfl).trans ((S23 108 14 rfl).trans ((S21 108 14 rfl).trans ((S20 108 14 rfl).trans hb1)))) ?_
      refine z_if_ne_T (M := M_X12_readMeasure) 71 dX12_readMeasure_71 134 rfl (by omega) ?_
      refine z_aload_n (M := M_X12_readMeasure) 134 dX12_readMeasure_134 rfl ?_
      refine z_iconst (M := M_X12_readMeasure) 135 dX12_readMeasure_135 ?_
      refine z_iload_n (M := M_X12_readMeasure) 136 dX12_readMeasure_136 rfl ?_
      refine z_iload_n (M := M_X12_readMeasure) 137 dX12_readMeasure_137 rfl ?_
      refine z_iload_n (M := M_X12_readMeasure) 138 dX12_readMeasure_138 rfl ?_
      refine z_iload (M := M_X12_readMeasure) 139 dX12_readMeasure_139 rfl ?_
      refine z_vV (M := M_X12_readMeasure) 141 dX12_readMeasure_141 t_X12_act l_X12_268 (m_rr_of rfl) (rest := []) (c_X12_act_b h24 3 a1 x24 x27 0 G24 ((S24 108 14 rfl).trans ((S23 108 14 rfl).trans ((S21 108 14 rfl).trans ((S20 108 14 rfl).trans hb1))))) o_108 rfl rfl rfl (Nat.le_of_ble_eq_true rfl) ⟨rfl, rfl⟩ (fun h25 qx28 => ?_)
      obtain ⟨G25, S25⟩ := qx28
      have R25 := R24.call S25 (by decide +kernel)
      have P25_ : h25 108 9 = h24 108 9 := S25 108 9 rfl
      exact z_retV (M := M_X12_readMeasure) 144 dX12_readMeasure_144 rfl ⟨G25, R25⟩
    · refine z_vV (M := M_X12_readMeasure) 52 dX12_readMeasure_52 t_X12_must l_X12_247 (m_rr_of rfl) (rest := []) (c_X12_must_b h21 0 G21 ⟨by omega, by omega⟩ ((S21 108 14 rfl).trans ((S20 108 14 rfl).trans hb1))) o_108 rfl rfl rfl (Nat.le_of_ble_eq_true rfl) ⟨rfl, rfl⟩ (fun h26 qx29 => ?_)
      obtain ⟨G26, S26⟩ := qx29
      have R26 := R21.call S26 (by decide +kernel)
      have P26_ : h26 108 9 = h21 108 9 := S26 108 9 rfl
      refine z_aload_n (M := M_X12_readMeasure) 55 dX12_readMeasure_55 rfl ?_
      refine z_lconst (M := M_X12_readMeasure) 56 dX12_readMeasure_56 (v := 1) ?_
      refine z_ldc2 (M := M_X12_readMeasure) 57 dX12_readMeasure_57 k_X12_180 ?_
      refine z_vI (M := M_X12_readMeasure) 60 dX12_readMeasure_60 t_X12_number l_X12_254 (m_rr_of rfl) (rest := []) (c_X12_number_b h26 1 99 G26 ⟨by omega, by omega⟩ ⟨by omega, by omega⟩ ((S26 108 14 rfl).trans ((S21 108 14 rfl).trans ((S20 108 14 rfl).trans hb1)))) o_108 rfl rfl rfl (Nat.le_of_ble_eq_true rfl) ⟨rfl, rfl⟩ (fun x30 h27 qx30 => ?_)
      obtain ⟨G27, S27⟩ := qx30
      have R27 := R26.call S27 (by decide +kernel)
      refine z_ok (fun ox30 _ _ => ?_)
      have ox30 := ox30.1; unfold m_ok m_32 at ox30
      have P27_ : h27 108 9 = h26 108 9 := S27 108 9 rfl
      refine z_istore_n (M := M_X12_readMeasure) 63 dX12_readMeasure_63 (ls' := [some (mR 108), some (mI a1), some (mI x24), some (mI x30), none]) (by decide) rfl ?_
      refine z_iconst (M := M_X12_readMeasure) 64 dX12_readMeasure_64 ?_
      refine z_istore (M := M_X12_readMeasure) 65 dX12_readMeasure_65 (ls' := [some (mR 108), some (mI a1), some (mI x24), some (mI x30), some (mI 0)]) (by decide) rfl ?_
      refine z_aload_n (M := M_X12_readMeasure) 67 dX12_readMeasure_67 rfl ?_
      refine z_getIE (M := M_X12_readMeasure) 68 dX12_readMeasure_68 f_X12_214 o_108 (by decide) ((S27 108 14 rfl).trans ((S26 108 14 rfl).trans ((S21 108 14 rfl).trans ((S20 108 14 rfl).trans hb1)))) ?_
      refine z_if_ne_T (M := M_X12_readMeasure) 71 dX12_readMeasure_71 134 rfl (by omega) ?_
      refine z_aload_n (M := M_X12_readMeasure) 134 dX12_readMeasure_134 rfl ?_
      refine z_iconst (M := M_X12_readMeasure) 135 dX12_readMeasure_135 ?_
      refine z_iload_n (M := M_X12_readMeasure) 136 dX12_readMeasure_136 rfl ?_
      refine z_iload_n (M := M_X12_readMeasure) 137 dX12_readMeasure_137 rfl ?_
      refine z_iload_n (M := M_X12_readMeasure) 138 dX12_readMeasure_138 rfl ?_
      refine z_iload (M := M_X12_readMeasure) 139 dX12_readMeasure_139 rfl ?_
      refine z_vV (M := M_X12_readMeasure) 141 dX12_readMeasure_141 t_X12_act l_X12_268 (m_rr_of rfl) (rest := []) (c_X12_act_b h27 3 a1 x24 x30 0 G27 ((S27 108 14 rfl).trans ((S26 108 14 rfl).trans ((S21 108 14 rfl).trans ((S20 108 14 rfl).trans hb1))))) o_108 rfl rfl rfl (Nat.le_of_ble_eq_true rfl) ⟨rfl, rfl⟩ (fun h28 qx31 => ?_)
      obtain ⟨G28, S28⟩ := qx31
      have R28 := R27.call S28 (by decide +kernel)
      have P28_ : h28 108 9 = h27 108 9 := S28 108 9 rfl
      exact z_retV (M := M_X12_readMeasure) 144 dX12_readMeasure_144 rfl ⟨G28, R28⟩
theorem ms_un {b : Nat → Int} {n t : Int} {f : Nat} {q : Int × Int} {r : Nat → Int} {p : (Int × Int) × (Nat → Int)} (M : rdMeas b n q r t = .ok p) : rdMs b n t (f + 1) q r = cif (isW b p.1 12) (rdMs b n t f (nxt b n p.1) p.2) (.ok p) := by
  conv => lhs; unfold rdMs
  rw [M]
def thM (z : Except Int ((Int × Int) × (Nat → Int))) (b : Nat → Int) (n t : Int) (f : Nat) (p : (Int × Int) × (Nat → Int)) (h : m_H) : Prop := MTk h ∧ AI h ∧ 2 * h 108 16 ≤ h 108 9 ∧ Qm h = p.1 ∧ vr h = p.2 ∧ z = cif (isW b p.1 12) (rdMs b n t f (nxt b n p.1) p.2) (.ok p) ∧ 25 - (f : Int) ≤ p.2 0
theorem thM.f1 {z : Except Int ((Int × Int) × (Nat → Int))} {b : Nat → Int} {n t : Int} {f : Nat} {p : (Int × Int) × (Nat → Int)} {h : m_H} (A : AI h) (v : vr h = p.2) (hf : 25 - (f : Int) ≤ p.2 0) : 1 ≤ f := by
  have z := vr_01 A
  have r := A.rooms
  rw [v] at z
  omega
theorem er_e {z : Except Int ((Int × Int) × (Nat → Int))} {e e' : Int} (ez : z = .error e) (f : e' = e) : z = .error e' := by rw [f]; exact ez
abbrev P_X12_readThing2 (h0 : m_H) : m_H → Prop := fun h' => GI h' ∧ FR [114] [(108, 9), (108, 10), (108, 11), (108, 12), (108, 13), (108, 14), (108, 16), (108, 17), (108, 18)] h0 h' ∧ mdQ (rdThing (h0 113) (h0 108 8) (nxt (h0 113) (h0 108 8) (Qm h0)) (vr h0)) h0 h' ∧ h0 108 9 ≤ h' 108 9 ∧ (h' 108 14 = 0 → h0 108 9 + 1 ≤ h' 108 9)
def q_X12_readThing2 (h0 : m_H) (n : Nat) : Prop := (∀ (l1 y_108_9 y_108_14 : Int) (h : m_H), GI h → FR [114] [(108, 9), (108, 10), (108, 11), (108, 12), (108, 13), (108, 14), (108, 16), (108, 17), (108, 18)] h0 h → 0 ≤ y_108_9 → y_108_9 ≤ 400 → 0 ≤ y_108_14 → y_108_14 ≤ 1 → (h 108 9 = y_108_9) → (h 108 14 = y_108_14) → (y_108_14 = 1 → (rdThing (h0 113) (h0 108 8) (nxt (h0 113) (h0 108 8) (Qm h0)) (vr h0)) = .error (h 108 13)) → (y_108_14 = 0 → ∃ p f, thM (rdThing (h0 113) (h0 108 8) (nxt (h0 113) (h0 108 8) (Qm h0)) (vr h0)) (h0 113) (h0 108 8) l1 f p h) → (y_108_14 = 0 → 0 ≤ l1 ∧ l1 ≤ 5) → (h0 108 9 ≤ y_108_9) → (y_108_14 = 0 → h0 108 9 + 1 ≤ y_108_9) → (y_108_14 = 0 → h 108 13 = h0 108 13) → 2 * (400 - y_108_9) + (1) ≤ (n : Int) → m_Z oF M_X12_readThing 93 [some (mR 108), some (mI l1)] [] h (m_QV (P_X12_readThing2 h0)))
set_option maxHeartbeats 4000000 in
set_option maxRecDepth 100000 in
theorem s_X12_readThing2_93 (h0 : m_H) (G0 : GI h0) (hb : h0 108 14 = 0) (M0 : MTk h0) (A0 : AI h0) (N0 : 2 * h0 108 16 ≤ h0 108 9) (hs : h0 108 11 ≠ 0) (n : Nat) (ih : q_X12_readThing2 h0 n) : ∀ (l1 y_108_9 y_108_14 : Int) (h : m_H), GI h → FR [114] [(108, 9), (108, 10), (108, 11), (108, 12), (108, 13), (108, 14), (108, 16), (108, 17), (108, 18)] h0 h → 0 ≤ y_108_9 → y_108_9 ≤ 400 → 0 ≤ y_108_14 → y_108_14 ≤ 1 → (h 108 9 = y_108_9) → (h 108 14 = y_108_14) → (y_108_14 = 1 → (rdThing (h0 113) (h0 108 8) (nxt (h0 113) (h0 108 8) (Qm h0)) (vr h0)) = .error (h 108 13)) → (y_108_14 = 0 → ∃ p f, thM (rdThing (h0 113) (h0 108 8) (nxt (h0 113) (h0 108 8) (Qm h0)) (vr h0)) (h0 113) (h0 108 8) l1 f p h) → (y_108_14 = 0 → 0 ≤ l1 ∧ l1 ≤ 5) → (h0 108 9 ≤ y_108_9) → (y_108_14 = 0 → h0 108 9 + 1 ≤ y_108_9) → (y_108_14 = 0 → h 108 13 = h0 108 13) → 2 * (400 - y_108_9) + (1) ≤ ((n + 1 : Nat) : Int) → m_Z oF M_X12_readThing 93 [some (mR 108), some (mI l1)] [] h (m_QV (P_X12_readThing2 h0)) := by
  intro l1 y_108_9 y_108_14 h G R v0 v1 v2 v3 t_108_9 t_108_14 i0 i1 i2 i3 i4 i5 hr
  refine z_ok (fun ostk _ olocs => ?_)
  have ol1 : m_32 l1 := olocs 1 _ rfl
  unfold m_32 at ol1
  refine z_aload_n (M := M_X12_readThing) 93 dX12_readThing_93 rfl ?_
  refine z_getIE (M := M_X12_readThing) 94 dX12_readThing_94 f_X12_214 o_108 (by decide) t_108_14 ?_
  refine z_if_ne (M := M_X12_readThing) 97 dX12_readThing_97 121 rfl (fun c1 => ?_) (fun c1 => ?_)
  · have bb_ : h 108 14 = 1 := t_108_14.trans (by omega)
    exact z_retV (M := M_X12_readThing) 121 dX12_readThing_121 rfl ⟨G, R, md_er (i0 (by omega)) bb_ rfl, by omega, fun _ => by omega⟩
  · obtain ⟨p_, f_, M_, A_, N_, Q_, V_, Z_, F_⟩ := i1 (by omega)
    have f1_ := thM.f1 (z := (rdThing (h0 113) (h0 108 8) (nxt (h0 113) (h0 108 8) (Qm h0)) (vr h0))) (b := h0 113) (n := h0 108 8) (t := l1) A_ V_ F_
    have ef_ : f_ = (f_ - 1) + 1 := by omega
    have lb_ := i2 (by omega)
    have hb0_ : h 108 14 = 0 := t_108_14.trans (by omega)
    refine z_aload_n (M := M_X12_readThing) 100 dX12_readThing_100 rfl ?_
    refine z_bipush (M := M_X12_readThing) 101 dX12_readThing_101 ?_
    refine z_vI (M := M_X12_readThing) 103 dX12_readThing_103 t_X12_isSign l_X12_300 (m_rr_of rfl) (rest := []) (c_X12_isSign h 44 G) o_108 rfl rfl rfl (Nat.le_of_ble_eq_true rfl) ⟨rfl, rfl⟩ (fun x2 h1 qx2 => ?_)
    obtain ⟨rfl, ⟨rfl, cx2⟩ | ⟨rfl, cx2⟩⟩ := qx2
    · refine z_if_eq_F (M := M_X12_readThing) 106 dX12_readThing_106 121 rfl (by omega) ?_
      refine z_aload_n (M := M_X12_readThing) 109 dX12_readThing_109 rfl ?_
      refine z_vV (M := M_X12_readThing) 110 dX12_readThing_110 t_X12_next l_X12_218 (m_rr_of rfl) (rest := []) (c_X12_next2 h G M_.2.2.2) o_108 rfl rfl rfl (Nat.le_of_ble_eq_true rfl) ⟨rfl, rfl⟩ (fun h2 qx3 => ?_)
      obtain ⟨G2, S2, Tx3, Mx3⟩ := qx3
      have R2 := R.call S2 (by decide +kernel)
      have A2 := A_.fr S2 (fun _ => rfl) rfl rfl rfl rfl rfl
      have Qx3 : Qm h2 = (nxt (h0 113) (h0 108 8) p_.1) := nx_m (rowz R (fun _ => rfl)) (R 108 8 rfl) Q_ (g_108_10 G).1 Tx3
      have Px3 : h 108 10 ≤ h2 108 9 := Tx3.1.1
      have Lx3 : h 108 9 < h 108 10 := M_.lt (by omega)
      have na2 : h2 108 16 = h 108 16 := S2 108 16 rfl
      have V2 : vr h2 = p_.2 := (vr_S S2 (fun _ => rfl) rfl (fun _ => rfl)).trans V_
      refine z_aload_n (M := M_X12_readThing) 113 dX12_readThing_113 rfl ?_
      refine z_iload_n (M := M_X12_readThing) 114 dX12_readThing_114 rfl ?_
      have nn2 : 2 * h2 108 16 ≤ h2 108 9 := by omega
      refine z_vV (M := M_X12_readThing) 115 dX12_readThing_115 t_X12_readMeasure l_X12_297 (m_rr_of rfl) (rest := []) (c_X12_readMeasure2 h2 l1 G2 ⟨by omega, by omega⟩ ((S2 108 14 rfl).trans hb0_) Mx3 A2 nn2) o_108 rfl rfl rfl (Nat.le_of_ble_eq_true rfl) ⟨rfl, rfl⟩ (fun h3 qx4 => ?_)
      obtain ⟨G3, S3, Kx4, Jx4, Ix4⟩ := qx4
      have R3 := R2.call S3 (by decide +kernel)
      rcases md_cs (md_c (F := fun b n q r => rdMeas b n q r l1) (rowz R2 (fun _ => rfl)) (R2 108 8 rfl) Qx3 V2 Kx4) with ⟨px4, Zx4, bx4, Mx4, Ax4, Px4_, Qx4, Vx4, flx4⟩ | ⟨ex4, Zx4, bx4, fx4⟩
      · have Ix4_ := Ix4 bx4
        refine z_goto (M := M_X12_readThing) 118 dX12_readThing_118 93 rfl ?_
        obtain ⟨x5, ex5⟩ : ∃ y : Int, h3 108 9 = y := ⟨_, rfl⟩
        have bx5 : 0 ≤ x5 ∧ x5 ≤ 400 := ex5 ▸ g_108_9 G3
        have bb_ : h3 108 14 = 0 := bx4
        have gf_ := (g_108_9 G3).2
        exact z_mask [true, true] rfl (ih l1 x5 0 h3 G3 R3 (by omega) (by omega) (by omega) (by omega) ex5 bx4 (fun q => by omega) (fun _ => ⟨px4, f_ - 1, Mx4, Ax4, (by omega), Qx4, Vx4, (Z_.trans ((cif_pos ((iw_c (rowz R (fun _ => rfl)) Q_ (mw_12 M_ (g_108_9 G).1)).mpr cx2)).trans (by rw [ef_]; exact ms_un Zx4))), (by have := rdMeas_0 Zx4; omega)⟩) (fun _ => by omega) (by omega) (fun _ => by omega) (fun _ => (flx4.trans ((S2 108 13 rfl).trans (i5 (by omega))))) (by omega))
      · refine z_goto (M := M_X12_readThing) 118 dX12_readThing_118 93 rfl ?_
        obtain ⟨x6, ex6⟩ : ∃ y : Int, h3 108 9 = y := ⟨_, rfl⟩
        have bx6 : 0 ≤ x6 ∧ x6 ≤ 400 := ex6 ▸ g_108_9 G3
        have bb_ : h3 108 14 = 1 := bx4
        have gf_ := (g_108_9 G3).2
        exact z_mask [true, true] rfl (ih l1 x6 1 h3 G3 R3 (by omega) (by omega) (by omega) (by omega) ex6 bx4 (fun _ => er_e (Z_.trans ((cif_pos ((iw_c (rowz R (fun _ => rfl)) Q_ (mw_12 M_ (g_108_9 G).1)).mpr cx2)).trans (by rw [ef_]; exact ms_er Zx4))) fx4) (fun q => by omega) (fun q => by omega) (by omega) (fun q => by omega) (fun q => by omega) (by omega))
    · refine z_if_eq_T (M := M_X12_readThing) 106 dX12_readThing_106 121 rfl (by omega) ?_
      exact z_retV (M := M_X12_readThing) 121 dX12_readThing_121 rfl ⟨G, R, md_ok (Z_.trans (cif_neg (fun z => cx2 ((iw_c (rowz R (fun _ => rfl)) Q_ (mw_12 M_ (g_108_9 G).1)).mp z)))) hb0_ M_ A_ N_ Q_ V_ (i5 (by omega)), by omega, fun _ => by omega⟩
theorem a_X12_readThing2 (h0 : m_H) (G0 : GI h0) (hb : h0 108 14 = 0) (M0 : MTk h0) (A0 : AI h0) (N0 : 2 * h0 108 16 ≤ h0 108 9) (hs : h0 108 11 ≠ 0) : ∀ n, q_X12_readThing2 h0 n := by
  intro n
  induction n with
  | zero => unfold q_X12_readThing2; intros; omega
  | succ n ih => exact s_X12_readThing2_93 h0 G0 hb M0 A0 N0 hs n ih
set_option maxHeartbeats 4000000 in
set_option maxRecDepth 100000 in
theorem c_X12_readThing2 (h0 : m_H) (G0 : GI h0) (hb : h0 108 14 = 0) (M0 : MTk h0) (A0 : AI h0) (N0 : 2 * h0 108 16 ≤ h0 108 9) (hs : h0 108 11 ≠ 0) : m_CV M_X12_readThing [mR 108] h0 (P_X12_readThing2 h0) := by
  refine m_CV_of ⟨by decide, rfl, by simp [m_arg, m_isL, M_X12_readThing], ⟨rfl, rfl⟩, rfl, rfl⟩ (ls := [some (mR 108), none]) rfl ?_
  have ih := a_X12_readThing2 h0 G0 hb M0 A0 N0 hs 808
  obtain ⟨x1, ex1⟩ : ∃ y : Int, h0 108 13 = y := ⟨_, rfl⟩
  refine z_aload_n (M := M_X12_readThing) 0 dX12_readThing_0 rfl ?_
  refine z_vV (M := M_X12_readThing) 1 dX12_readThing_1 t_X12_next l_X12_218 (m_rr_of rfl) (rest := []) (c_X12_next2 h0 G0 M0.2.2.2) o_108 rfl rfl rfl (Nat.le_of_ble_eq_true rfl) ⟨rfl, rfl⟩ (fun h1 qx2 => ?_)
  obtain ⟨G1, S1, Tx2, Mx2⟩ := qx2
  have R1 := (FR.rf (cs := [114]) (ss := [(108, 9), (108, 10), (108, 11), (108, 12), (108, 13), (108, 14), (108, 16), (108, 17), (108, 18)]) (h := h0)).call S1 (by decide +kernel)
  have A1 := A0.fr S1 (fun _ => rfl) rfl rfl rfl rfl rfl
  have Qx2 : Qm h1 = (nxt (h0 113) (h0 108 8) (Qm h0)) := nx_m (rowz (FR.rf (cs := [114]) (ss := [(108, 9), (108, 10), (108, 11), (108, 12), (108, 13), (108, 14), (108, 16), (108, 17), (108, 18)]) (h := h0)) (fun _ => rfl)) ((FR.rf (cs := [114]) (ss := [(108, 9), (108, 10), (108, 11), (108, 12), (108, 13), (108, 14), (108, 16), (108, 17), (108, 18)]) (h := h0)) 108 8 rfl) rfl (g_108_10 G0).1 Tx2
  have Px2 : h0 108 10 ≤ h1 108 9 := Tx2.1.1
  have Lx2 : h0 108 9 < h0 108 10 := M0.lt (by omega)
  have na1 : h1 108 16 = h0 108 16 := S1 108 16 rfl
  have V1 : vr h1 = (vr h0) := (vr_S S1 (fun _ => rfl) rfl (fun _ => rfl)).trans rfl
  refine z_aload_n (M := M_X12_readThing) 4 dX12_readThing_4 rfl ?_
  refine z_lconst (M := M_X12_readThing) 5 dX12_readThing_5 (v := 0) ?_
  refine z_ldc2 (M := M_X12_readThing) 6 dX12_readThing_6 k_X12_150 ?_
  refine z_vI (M := M_X12_readThing) 9 dX12_readThing_9 t_X12_number l_X12_254 (m_rr_of rfl) (rest := []) (c_X12_number_g h1 0 5 G1 ⟨by omega, by omega⟩ ⟨by omega, by omega⟩ ((S1 108 14 rfl).trans hb) Mx2) o_108 rfl rfl rfl (Nat.le_of_ble_eq_true rfl) ⟨rfl, rfl⟩ (fun x3 h2 qx3 => ?_)
  obtain ⟨G2, S2, Dx3⟩ := qx3
  have R2 := R1.call S2 (by decide +kernel)
  have A2 := A1.fr S2 (fun _ => rfl) rfl rfl rfl rfl rfl
  rcases nm_c (rowz R1 (fun _ => rfl)) (R1 108 8 rfl) Qx2 Dx3 with ⟨Wx3, Nx3, bx3, Mx3, Qx3, Px3, Lx3, gx3⟩ | ⟨Wx3, bx3, fx3, Px3⟩
  · have na2 : h2 108 16 = h1 108 16 := S2 108 16 rfl
    have V2 : vr h2 = (vr h0) := (vr_S S2 (fun _ => rfl) rfl (fun _ => rfl)).trans V1
    have lx3 : 0 ≤ x3 ∧ x3 ≤ 5 := by rw [Nx3]; exact ⟨Wx3.2.2.1, Wx3.2.2.2⟩
    refine z_istore_n (M := M_X12_readThing) 12 dX12_readThing_12 (ls' := [some (mR 108), some (mI x3)]) (by decide) rfl ?_
    refine z_aload_n (M := M_X12_readThing) 13 dX12_readThing_13 rfl ?_
    refine z_getIE (M := M_X12_readThing) 14 dX12_readThing_14 f_X12_214 o_108 (by decide) bx3 ?_
    refine z_if_ne_F (M := M_X12_readThing) 17 dX12_readThing_17 88 rfl (by omega) ?_
    refine z_aload_n (M := M_X12_readThing) 20 dX12_readThing_20 rfl ?_
    refine z_ldc2 (M := M_X12_readThing) 21 dX12_readThing_21 k_X12_293 ?_
    refine z_vI (M := M_X12_readThing) 24 dX12_readThing_24 t_X12_isWord l_X12_260 (m_rr_of rfl) (rest := []) (c_X12_isWord h2 3764 G2) o_108 rfl rfl rfl (Nat.le_of_ble_eq_true rfl) ⟨rfl, rfl⟩ (fun x4 h3 qx4 => ?_)
    obtain ⟨rfl, ⟨rfl, cx4⟩ | ⟨rfl, cx4⟩⟩ := qx4
    · refine z_if_eq_F (M := M_X12_readThing) 27 dX12_readThing_27 88 rfl (by omega) ?_
      refine z_aload_n (M := M_X12_readThing) 30 dX12_readThing_30 rfl ?_
      refine z_vV (M := M_X12_readThing) 31 dX12_readThing_31 t_X12_next l_X12_218 (m_rr_of rfl) (rest := []) (c_X12_next2 h2 G2 Mx3.2.2.2) o_108 rfl rfl rfl (Nat.le_of_ble_eq_true rfl) ⟨rfl, rfl⟩ (fun h4 qx5 => ?_)
      obtain ⟨G4, S4, Tx5, Mx5⟩ := qx5
      have R4 := R2.call S4 (by decide +kernel)
      have A4 := A2.fr S4 (fun _ => rfl) rfl rfl rfl rfl rfl
      have Qx5 : Qm h4 = (nxt (h0 113) (h0 108 8) (nxt (h0 113) (h0 108 8) (nxt (h0 113) (h0 108 8) (Qm h0)))) := nx_m (rowz R2 (fun _ => rfl)) (R2 108 8 rfl) Qx3 (g_108_10 G2).1 Tx5
      have Px5 : h2 108 10 ≤ h4 108 9 := Tx5.1.1
      have Lx5 : h2 108 9 < h2 108 10 := Mx3.lt (by omega)
      have na4 : h4 108 16 = h2 108 16 := S4 108 16 rfl
      have V4 : vr h4 = (vr h0) := (vr_S S4 (fun _ => rfl) rfl (fun _ => rfl)).trans V2
      refine z_aload_n (M := M_X12_readThing) 34 dX12_readThing_34 rfl ?_
      refine z_ldc2 (M := M_X12_readThing) 35 dX12_readThing_35 k_X12_295 ?_
      refine z_vI (M := M_X12_readThing) 38 dX12_readThing_38 t_X12_isWord l_X12_260 (m_rr_of rfl) (rest := []) (c_X12_isWord h4 14866610 G4) o_108 rfl rfl rfl (Nat.le_of_ble_eq_true rfl) ⟨rfl, rfl⟩ (fun x6 h5 qx6 => ?_)
      obtain ⟨rfl, ⟨rfl, cx6⟩ | ⟨rfl, cx6⟩⟩ := qx6
      · refine z_if_eq_F (M := M_X12_readThing) 41 dX12_readThing_41 60 rfl (by omega) ?_
        refine z_aload_n (M := M_X12_readThing) 44 dX12_readThing_44 rfl ?_
        refine z_vV (M := M_X12_readThing) 45 dX12_readThing_45 t_X12_next l_X12_218 (m_rr_of rfl) (rest := []) (c_X12_next2 h4 G4 Mx5.2.2.2) o_108 rfl rfl rfl (Nat.le_of_ble_eq_true rfl) ⟨rfl, rfl⟩ (fun h6 qx7 => ?_)
        obtain ⟨G6, S6, Tx7, Mx7⟩ := qx7
        have R6 := R4.call S6 (by decide +kernel)
        have A6 := A4.fr S6 (fun _ => rfl) rfl rfl rfl rfl rfl
        have Qx7 : Qm h6 = (nxt (h0 113) (h0 108 8) (nxt (h0 113) (h0 108 8) (nxt (h0 113) (h0 108 8) (nxt (h0 113) (h0 108 8) (Qm h0))))) := nx_m (rowz R4 (fun _ => rfl)) (R4 108 8 rfl) Qx5 (g_108_10 G4).1 Tx7
        have Px7 : h4 108 10 ≤ h6 108 9 := Tx7.1.1
        have Lx7 : h4 108 9 < h4 108 10 := Mx5.lt (by omega)
        have na6 : h6 108 16 = h4 108 16 := S6 108 16 rfl
        have V6 : vr h6 = (vr h0) := (vr_S S6 (fun _ => rfl) rfl (fun _ => rfl)).trans V4
        refine z_aload_n (M := M_X12_readThing) 48 dX12_readThing_48 rfl ?_
        refine z_iconst (M := M_X12_readThing) 49 dX12_readThing_49 ?_
        refine z_iload_n (M := M_X12_readThing) 50 dX12_readThing_50 rfl ?_
        refine z_iconst (M := M_X12_readThing) 51 dX12_readThing_51 ?_
        refine z_iconst (M := M_X12_readThing) 52 dX12_readThing_52 ?_
        refine z_iconst (M := M_X12_readThing) 53 dX12_readThing_53 ?_
        have gb6 := (g_108_9 G6).2
        have ga6 := (g_108_16 G6).1
        have hb6_ : h6 108 14 = 0 := ((S6 108 14 rfl).trans ((S4 108 14 rfl).trans bx3))
        refine z_vV (M := M_X12_readThing) 54 dX12_readThing_54 t_X12_act l_X12_268 (m_rr_of rfl) (rest := []) (c_X12_act h6 2 x3 (-1) 0 0 G6 (Or.inr (by omega))) o_108 rfl rfl rfl (Nat.le_of_ble_eq_true rfl) ⟨rfl, rfl⟩ (fun h7 qx8 => ?_)
        obtain ⟨G7, S7, fx8⟩ := qx8
        have R7 := R6.call S7 (by decide +kernel)
        have na7 : h7 108 16 = h6 108 16 + 1 := (fx8.resolve_left (fun z => z.1 ((S6 108 14 rfl).trans ((S4 108 14 rfl).trans bx3)))).2.1
        have V7 : vr h7 = act1 2 x3 (-1) 0 0 (vr h0) := (vr_act fx8 ((S6 108 14 rfl).trans ((S4 108 14 rfl).trans bx3)) (g_108_16 G6).1 S7 (fun _ => rfl)).trans (congrArg (act1 2 x3 (-1) 0 0) V6)
        have M7_ := MTk.same Mx7 (rowz S7 (fun _ => rfl)) (fun j u v => S7 108 j (fr_j (by omega)))
        have Q7_ : Qm h7 = (nxt (h0 113) (h0 108 8) (nxt (h0 113) (h0 108 8) (nxt (h0 113) (h0 108 8) (nxt (h0 113) (h0 108 8) (Qm h0))))) := (Qm_S S7 rfl rfl).trans Qx7
        have P7_ : h7 108 9 = h6 108 9 := S7 108 9 rfl
        have A7 := AI_act A6 (by omega) fx8 (by omega) (fun _ => by unfold okA; omega)
        refine z_goto (M := M_X12_readThing) 57 dX12_readThing_57 87 rfl ?_
        exact z_retV (M := M_X12_readThing) 87 dX12_readThing_87 rfl ⟨G7, R7, md_ok (p := ((nxt (h0 113) (h0 108 8) (nxt (h0 113) (h0 108 8) (nxt (h0 113) (h0 108 8) (nxt (h0 113) (h0 108 8) (Qm h0))))), rU (vr h0) (42 + x3).toNat (-1))) (by unfold rdThing rdCut; rw [cif_pos (Wx3), cif_pos ((iw_c (rowz R2 (fun _ => rfl)) Qx3 (mw_5 Mx3 (g_108_9 G2).1)).mpr cx4), cif_pos ((iw_c (rowz R4 (fun _ => rfl)) Qx5 (mw_6 Mx5 (g_108_9 G4).1)).mpr cx6), ← Nx3]) ((S7 108 14 rfl).trans ((S6 108 14 rfl).trans ((S4 108 14 rfl).trans bx3))) M7_ A7 (by omega) Q7_ (V7.trans act1_k2) (((S7 108 13 rfl).trans ((S6 108 13 rfl).trans ((S4 108 13 rfl).trans (gx3.trans ((S1 108 13 rfl).trans ex1))))).trans ex1.symm), by omega, fun _ => by omega⟩
      · refine z_if_eq_T (M := M_X12_readThing) 41 dX12_readThing_41 60 rfl (by omega) ?_
        refine z_aload_n (M := M_X12_readThing) 60 dX12_readThing_60 rfl ?_
        refine z_aload_n (M := M_X12_readThing) 61 dX12_readThing_61 rfl ?_
        refine z_ldc2 (M := M_X12_readThing) 62 dX12_readThing_62 k_X12_280 ?_
        refine z_vI (M := M_X12_readThing) 65 dX12_readThing_65 t_X12_isWord l_X12_260 (m_rr_of rfl) (rest := [mR 108]) (c_X12_isWord h4 302 G4) o_108 rfl rfl rfl (Nat.le_of_ble_eq_true rfl) ⟨rfl, rfl⟩ (fun x9 h8 qx9 => ?_)
        obtain ⟨rfl, ⟨rfl, cx9⟩ | ⟨rfl, cx9⟩⟩ := qx9
        · refine z_vV (M := M_X12_readThing) 68 dX12_readThing_68 t_X12_must l_X12_247 (m_rr_of rfl) (rest := []) (c_X12_must_1 h4 1 G4 ⟨by omega, by omega⟩ ((S4 108 14 rfl).trans bx3) Mx5 (by omega)) o_108 rfl rfl rfl (Nat.le_of_ble_eq_true rfl) ⟨rfl, rfl⟩ (fun h9 qx10 => ?_)
          obtain ⟨G9, S9, Mx10, Kx10, Px10⟩ := qx10
          have R9 := R4.call S9 (by decide +kernel)
          have A9 := A4.fr S9 (fun _ => rfl) rfl rfl rfl rfl rfl
          have Qx10 : Qm h9 = (nxt (h0 113) (h0 108 8) (nxt (h0 113) (h0 108 8) (nxt (h0 113) (h0 108 8) (nxt (h0 113) (h0 108 8) (Qm h0))))) := nx_mm (rowz R4 (fun _ => rfl)) (R4 108 8 rfl) Qx5 Kx10
          have Lx10 : h4 108 9 < h4 108 10 := Mx5.lt (by omega)
          have na9 : h9 108 16 = h4 108 16 := S9 108 16 rfl
          have V9 : vr h9 = (vr h0) := (vr_S S9 (fun _ => rfl) rfl (fun _ => rfl)).trans V4
          refine z_aload_n (M := M_X12_readThing) 71 dX12_readThing_71 rfl ?_
          refine z_iconst (M := M_X12_readThing) 72 dX12_readThing_72 ?_
          refine z_iload_n (M := M_X12_readThing) 73 dX12_readThing_73 rfl ?_
          refine z_aload_n (M := M_X12_readThing) 74 dX12_readThing_74 rfl ?_
          refine z_lconst (M := M_X12_readThing) 75 dX12_readThing_75 (v := 1) ?_
          refine z_ldc2 (M := M_X12_readThing) 76 dX12_readThing_76 k_X12_154 ?_
          refine z_vI (M := M_X12_readThing) 79 dX12_readThing_79 t_X12_number l_X12_254 (m_rr_of rfl) (rest := [mI x3, mI 2, mR 108]) (c_X12_number_g h9 1 31 G9 ⟨by omega, by omega⟩ ⟨by omega, by omega⟩ ((S9 108 14 rfl).trans ((S4 108 14 rfl).trans bx3)) Mx10) o_108 rfl rfl rfl (Nat.le_of_ble_eq_true rfl) ⟨rfl, rfl⟩ (fun x11 h10 qx11 => ?_)
          obtain ⟨G10, S10, Dx11⟩ := qx11
          have R10 := R9.call S10 (by decide +kernel)
          have A10 := A9.fr S10 (fun _ => rfl) rfl rfl rfl rfl rfl
          rcases nm_c (rowz R9 (fun _ => rfl)) (R9 108 8 rfl) Qx10 Dx11 with ⟨Wx11, Nx11, bx11, Mx11, Qx11, Px11, Lx11, gx11⟩ | ⟨Wx11, bx11, fx11, Px11⟩
          · have na10 : h10 108 16 = h9 108 16 := S10 108 16 rfl
            have V10 : vr h10 = (vr h0) := (vr_S S10 (fun _ => rfl) rfl (fun _ => rfl)).trans V9
            have lx11 : 1 ≤ x11 ∧ x11 ≤ 31 := by rw [Nx11]; exact ⟨Wx11.2.2.1, Wx11.2.2.2⟩
            refine z_iconst (M := M_X12_readThing) 82 dX12_readThing_82 ?_
            refine z_iconst (M := M_X12_readThing) 83 dX12_readThing_83 ?_
            have gb10 := (g_108_9 G10).2
            have ga10 := (g_108_16 G10).1
            have hb10_ : h10 108 14 = 0 := bx11
            refine z_vV (M := M_X12_readThing) 84 dX12_readThing_84 t_X12_act l_X12_268 (m_rr_of rfl) (rest := []) (c_X12_act h10 2 x3 x11 0 0 G10 (Or.inr (by omega))) o_108 rfl rfl rfl (Nat.le_of_ble_eq_true rfl) ⟨rfl, rfl⟩ (fun h11 qx12 => ?_)
            obtain ⟨G11, S11, fx12⟩ := qx12
            have R11 := R10.call S11 (by decide +kernel)
            have na11 : h11 108 16 = h10 108 16 + 1 := (fx12.resolve_left (fun z => z.1 bx11)).2.1
            have V11 : vr h11 = act1 2 x3 x11 0 0 (vr h0) := (vr_act fx12 bx11 (g_108_16 G10).1 S11 (fun _ => rfl)).trans (congrArg (act1 2 x3 x11 0 0) V10)
            have M11_ := MTk.same Mx11 (rowz S11 (fun _ => rfl)) (fun j u v => S11 108 j (fr_j (by omega)))
            have Q11_ : Qm h11 = (nxt (h0 113) (h0 108 8) (nxt (h0 113) (h0 108 8) (nxt (h0 113) (h0 108 8) (nxt (h0 113) (h0 108 8) (nxt (h0 113) (h0 108 8) (Qm h0)))))) := (Qm_S S11 rfl rfl).trans Qx11
            have P11_ : h11 108 9 = h10 108 9 := S11 108 9 rfl
            have A11 := AI_act A10 (by omega) fx12 (by omega) (fun _ => by unfold okA; omega)
            exact z_retV (M := M_X12_readThing) 87 dX12_readThing_87 rfl ⟨G11, R11, md_ok (p := ((nxt (h0 113) (h0 108 8) (nxt (h0 113) (h0 108 8) (nxt (h0 113) (h0 108 8) (nxt (h0 113) (h0 108 8) (nxt (h0 113) (h0 108 8) (Qm h0)))))), rU (vr h0) (42 + x3).toNat x11)) (by unfold rdThing rdCut; rw [cif_pos (Wx3), cif_pos ((iw_c (rowz R2 (fun _ => rfl)) Qx3 (mw_5 Mx3 (g_108_9 G2).1)).mpr cx4), cif_neg (fun z => cx6 ((iw_c (rowz R4 (fun _ => rfl)) Qx5 (mw_6 Mx5 (g_108_9 G4).1)).mp z)), cif_pos ((iw_c (rowz R4 (fun _ => rfl)) Qx5 (mw_7 Mx5 (g_108_9 G4).1)).mpr cx9), cif_pos (Wx11), ← Nx3, ← Nx11]) ((S11 108 14 rfl).trans bx11) M11_ A11 (by omega) Q11_ (V11.trans act1_k2) (((S11 108 13 rfl).trans (gx11.trans ((S9 108 13 rfl).trans ((S4 108 13 rfl).trans (gx3.trans ((S1 108 13 rfl).trans ex1)))))).trans ex1.symm), by omega, fun _ => by omega⟩
          · have fpx11 : h10 108 13 = (nxt (h0 113) (h0 108 8) (nxt (h0 113) (h0 108 8) (nxt (h0 113) (h0 108 8) (nxt (h0 113) (h0 108 8) (Qm h0))))).1 := fx11.trans (fst_m Qx10)
            refine z_ok (fun ox11 _ _ => ?_)
            have ox11 := ox11.1; unfold m_ok m_32 at ox11
            refine z_iconst (M := M_X12_readThing) 82 dX12_readThing_82 ?_
            refine z_iconst (M := M_X12_readThing) 83 dX12_readThing_83 ?_
            refine z_vV (M := M_X12_readThing) 84 dX12_readThing_84 t_X12_act l_X12_268 (m_rr_of rfl) (rest := []) (c_X12_act_b h10 2 x3 x11 0 0 G10 bx11) o_108 rfl rfl rfl (Nat.le_of_ble_eq_true rfl) ⟨rfl, rfl⟩ (fun h12 qx13 => ?_)
            obtain ⟨G12, S12⟩ := qx13
            have R12 := R10.call S12 (by decide +kernel)
            have P12_ : h12 108 9 = h10 108 9 := S12 108 9 rfl
            have bb_ : h12 108 14 = 1 := ((S12 108 14 rfl).trans bx11)
            exact z_retV (M := M_X12_readThing) 87 dX12_readThing_87 rfl ⟨G12, R12, md_er (by unfold rdThing rdCut; rw [cif_pos (Wx3), cif_pos ((iw_c (rowz R2 (fun _ => rfl)) Qx3 (mw_5 Mx3 (g_108_9 G2).1)).mpr cx4), cif_neg (fun z => cx6 ((iw_c (rowz R4 (fun _ => rfl)) Qx5 (mw_6 Mx5 (g_108_9 G4).1)).mp z)), cif_pos ((iw_c (rowz R4 (fun _ => rfl)) Qx5 (mw_7 Mx5 (g_108_9 G4).1)).mpr cx9), cif_neg (Wx11)]) ((S12 108 14 rfl).trans bx11) ((S12 108 13 rfl).trans fpx11), by omega, fun _ => by omega⟩
        · refine z_vV (M := M_X12_readThing) 68 dX12_readThing_68 t_X12_must l_X12_247 (m_rr_of rfl) (rest := []) (c_X12_must_0 h4 0 G4 ⟨by omega, by omega⟩ ((S4 108 14 rfl).trans bx3)) o_108 rfl rfl rfl (Nat.le_of_ble_eq_true rfl) ⟨rfl, rfl⟩ (fun h13 qx14 => ?_)
          obtain ⟨G13, S13, bx14, fx14⟩ := qx14
          have R13 := R4.call S13 (by decide +kernel)
          have A13 := A4.fr S13 (fun _ => rfl) rfl rfl rfl rfl rfl
          have Px14 : h13 108 9 = h4 108 9 := S13 108 9 rfl
          have fpx14 : h13 108 13 = (nxt (h0 113) (h0 108 8) (nxt (h0 113) (h0 108 8) (nxt (h0 113) (h0 108 8) (Qm h0)))).1 := fx14.trans (fst_m Qx5)
          refine z_aload_n (M := M_X12_readThing) 71 dX12_readThing_71 rfl ?_
          refine z_iconst (M := M_X12_readThing) 72 dX12_readThing_72 ?_
          refine z_iload_n (M := M_X12_readThing) 73 dX12_readThing_73 rfl ?_
          refine z_aload_n (M := M_X12_readThing) 74 dX12_readThing_74 rfl ?_
          refine z_lconst (M := M_X12_readThing) 75 dX12_readThing_75 (v := 1) ?_
          refine z_ldc2 (M := M_X12_readThing) 76 dX12_readThing_76 k_X12_154 ?_
          refine z_vI (M := M_X12_readThing) 79 dX12_readThing_79 t_X12_number l_X12_254 (m_rr_of rfl) (rest := [mI x3, mI 2, mR 108]) (c_X12_number_b h13 1 31 G13 ⟨by omega, by omega⟩ ⟨by omega, by omega⟩ bx14) o_108 rfl rfl rfl (Nat.le_of_ble_eq_true rfl) ⟨rfl, rfl⟩ (fun x15 h14 qx15 => ?_)
          obtain ⟨G14, S14⟩ := qx15
          have R14 := R13.call S14 (by decide +kernel)
          refine z_ok (fun ox15 _ _ => ?_)
          have ox15 := ox15.1; unfold m_ok m_32 at ox15
          have P14_ : h14 108 9 = h13 108 9 := S14 108 9 rfl
          refine z_iconst (M := M_X12_readThing) 82 dX12_readThing_82 ?_
          refine z_iconst (M := M_X12_readThing) 83 dX12_readThing_83 ?_
          refine z_vV (M := M_X12_readThing) 84 dX12_readThing_84 t_X12_act l_X12_268 (m_rr_of rfl) (rest := []) (c_X12_act_b h14 2 x3 x15 0 0 G14 ((S14 108 14 rfl).trans bx14)) o_108 rfl rfl rfl (Nat.le_of_ble_eq_true rfl) ⟨rfl, rfl⟩ (fun h15 qx16 => ?_)
          obtain ⟨G15, S15⟩ := qx16
          have R15 := R14.call S15 (by decide +kernel)
          have P15_ : h15 108 9 = h14 108 9 := S15 108 9 rfl
          have bb_ : h15 108 14 = 1 := ((S15 108 14 rfl).trans ((S14 108 14 rfl).trans bx14))
          exact z_retV (M := M_X12_readThing) 87 dX12_readThing_87 rfl ⟨G15, R15, md_er (by unfold rdThing rdCut; rw [cif_pos (Wx3), cif_pos ((iw_c (rowz R2 (fun _ => rfl)) Qx3 (mw_5 Mx3 (g_108_9 G2).1)).mpr cx4), cif_neg (fun z => cx6 ((iw_c (rowz R4 (fun _ => rfl)) Qx5 (mw_6 Mx5 (g_108_9 G4).1)).mp z)), cif_neg (fun z => cx9 ((iw_c (rowz R4 (fun _ => rfl)) Qx5 (mw_7 Mx5 (g_108_9 G4).1)).mp z))]) ((S15 108 14 rfl).trans ((S14 108 14 rfl).trans bx14)) ((S15 108 13 rfl).trans ((S14 108 13 rfl).trans fpx14)), by omega, fun _ => by omega⟩
    · refine z_if_eq_T (M := M_X12_readThing) 27 dX12_readThing_27 88 rfl (by omega) ?_
      refine z_aload_n (M := M_X12_readThing) 88 dX12_readThing_88 rfl ?_
      refine z_iload_n (M := M_X12_readThing) 89 dX12_readThing_89 rfl ?_
      have nn2 : 2 * h2 108 16 ≤ h2 108 9 := by omega
      refine z_vV (M := M_X12_readThing) 90 dX12_readThing_90 t_X12_readMeasure l_X12_297 (m_rr_of rfl) (rest := []) (c_X12_readMeasure2 h2 x3 G2 ⟨by omega, by omega⟩ bx3 Mx3 A2 nn2) o_108 rfl rfl rfl (Nat.le_of_ble_eq_true rfl) ⟨rfl, rfl⟩ (fun h16 qx17 => ?_)
      obtain ⟨G16, S16, Kx17, Jx17, Ix17⟩ := qx17
      have R16 := R2.call S16 (by decide +kernel)
      rcases md_cs (md_c (F := fun b n q r => rdMeas b n q r x3) (rowz R2 (fun _ => rfl)) (R2 108 8 rfl) Qx3 V2 Kx17) with ⟨px17, Zx17, bx17, Mx17, Ax17, Px17_, Qx17, Vx17, flx17⟩ | ⟨ex17, Zx17, bx17, fx17⟩
      · have Ix17_ := Ix17 bx17
        obtain ⟨x18, ex18⟩ : ∃ y : Int, h16 108 9 = y := ⟨_, rfl⟩
        have bx18 : 0 ≤ x18 ∧ x18 ≤ 400 := ex18 ▸ g_108_9 G16
        have bb_ : h16 108 14 = 0 := bx17
        have gf_ := (g_108_9 G16).2
        have v00_ := vr_01 A0
        have b00_ : 0 ≤ h0 110 0 := (gw_0 G0).1
        have b17_ := (g_108_17 G0).1
        exact z_mask [true, true] rfl (ih x3 x18 0 h16 G16 R16 (by omega) (by omega) (by omega) (by omega) ex18 bx17 (fun q => by omega) (fun _ => ⟨px17, 24, Mx17, Ax17, (by omega), Qx17, Vx17, (by unfold rdThing; rw [cif_pos (Wx3), cif_neg (fun z => cx4 ((iw_c (rowz R2 (fun _ => rfl)) Qx3 (mw_5 Mx3 (g_108_9 G2).1)).mp z)), ← Nx3]; exact ms_un Zx17), (by have := rdMeas_0 Zx17; omega)⟩) (fun _ => by omega) (by omega) (fun _ => by omega) (fun _ => ((flx17.trans (gx3.trans ((S1 108 13 rfl).trans ex1))).trans ex1.symm)) (by omega))
      · obtain ⟨x19, ex19⟩ : ∃ y : Int, h16 108 9 = y := ⟨_, rfl⟩
        have bx19 : 0 ≤ x19 ∧ x19 ≤ 400 := ex19 ▸ g_108_9 G16
        have bb_ : h16 108 14 = 1 := bx17
        have gf_ := (g_108_9 G16).2
        exact z_mask [true, true] rfl (ih x3 x19 1 h16 G16 R16 (by omega) (by omega) (by omega) (by omega) ex19 bx17 (fun _ => er_e (by unfold rdThing; rw [cif_pos (Wx3), cif_neg (fun z => cx4 ((iw_c (rowz R2 (fun _ => rfl)) Qx3 (mw_5 Mx3 (g_108_9 G2).1)).mp z)), ← Nx3]; exact ms_er Zx17) fx17) (fun q => by omega) (fun q => by omega) (by omega) (fun q => by omega) (fun q => by omega) (by omega))
  · have fpx3 : h2 108 13 = (nxt (h0 113) (h0 108 8) (Qm h0)).1 := fx3.trans (fst_m Qx2)
    refine z_ok (fun ox3 _ _ => ?_)
    have ox3 := ox3.1; unfold m_ok m_32 at ox3
    refine z_istore_n (M := M_X12_readThing) 12 dX12_readThing_12 (ls' := [some (mR 108), some (mI x3)]) (by decide) rfl ?_
    refine z_aload_n (M := M_X12_readThing) 13 dX12_readThing_13 rfl ?_
    refine z_getIE (M := M_X12_readThing) 14 dX12_readThing_14 f_X12_214 o_108 (by decide) bx3 ?_
    refine z_if_ne_T (M := M_X12_readThing) 17 dX12_readThing_17 88 rfl (by omega) ?_
    refine z_aload_n (M := M_X12_readThing) 88 dX12_readThing_88 rfl ?_
    refine z_iload_n (M := M_X12_readThing) 89 dX12_readThing_89 rfl ?_
    refine z_vV (M := M_X12_readThing) 90 dX12_readThing_90 t_X12_readMeasure l_X12_297 (m_rr_of rfl) (rest := []) (c_X12_readMeasure_b h2 x3 G2 bx3) o_108 rfl rfl rfl (Nat.le_of_ble_eq_true rfl) ⟨rfl, rfl⟩ (fun h17 qx20 => ?_)
    obtain ⟨G17, S17⟩ := qx20
    have R17 := R2.call S17 (by decide +kernel)
    have P17_ : h17 108 9 = h2 108 9 := S17 108 9 rfl
    obtain ⟨x21, ex21⟩ : ∃ y : Int, h17 108 9 = y := ⟨_, rfl⟩
    have bx21 : 0 ≤ x21 ∧ x21 ≤ 400 := ex21 ▸ g_108_9 G17
    have bb_ : h17 108 14 = 1 := ((S17 108 14 rfl).trans bx3)
    have gf_ := (g_108_9 G17).2
    exact z_mask [true, true] rfl (ih x3 x21 1 h17 G17 R17 (by omega) (by omega) (by omega) (by omega) ex21 ((S17 108 14 rfl).trans bx3) (fun _ => er_e (by unfold rdThing; rw [cif_neg (Wx3)]) ((S17 108 13 rfl).trans fpx3)) (fun q => by omega) (fun q => by omega) (by omega) (fun q => by omega) (fun q => by omega) (by omega))
theorem w_13 {b : Nat → Int} {q : Int × Int} (w : isW b q 13) : ¬ isW b q 4 := fun z => by
  have a := w.1.symm.trans z.1
  have e1 : slen 13 = 6 := by decide +kernel
  have e2 : slen 4 = 5 := by decide +kernel
  omega
abbrev P_X12_readClause2 (h0 : m_H) : m_H → Prop := fun h' => GI h' ∧ FR [114] [(108, 9), (108, 10), (108, 11), (108, 12), (108, 13), (108, 14), (108, 16), (108, 17), (108, 18)] h0 h' ∧ mdQ (rdCl (h0 113) (h0 108 8) (Qm h0) (vr h0)) h0 h' ∧ h0 108 9 ≤ h' 108 9 ∧ (h' 108 14 = 0 → h0 108 9 + 1 ≤ h' 108 9)
set_option maxHeartbeats 4000000 in
set_option maxRecDepth 100000 in
theorem c_X12_readClause2 (h0 : m_H) (G0 : GI h0) (hb : h0 108 14 = 0) (M0 : MTk h0) (A0 : AI h0) (N0 : 2 * h0 108 16 ≤ h0 108 9) : m_CV M_X12_readClause [mR 108] h0 (P_X12_readClause2 h0) := by
  refine m_CV_of ⟨by decide, rfl, by simp [m_arg, m_isL, M_X12_readClause], ⟨rfl, rfl⟩, rfl, rfl⟩ (ls := [some (mR 108)]) rfl ?_
  obtain ⟨x1, ex1⟩ : ∃ y : Int, h0 108 13 = y := ⟨_, rfl⟩
  refine z_aload_n (M := M_X12_readClause) 0 dX12_readClause_0 rfl ?_
  refine z_ldc2 (M := M_X12_readClause) 1 dX12_readClause_1 k_X12_303 ?_
  refine z_vI (M := M_X12_readClause) 4 dX12_readClause_4 t_X12_isWord l_X12_260 (m_rr_of rfl) (rest := []) (c_X12_isWord h0 758955 G0) o_108 rfl rfl rfl (Nat.le_of_ble_eq_true rfl) ⟨rfl, rfl⟩ (fun x2 h1 qx2 => ?_)
  obtain ⟨rfl, ⟨rfl, cx2⟩ | ⟨rfl, cx2⟩⟩ := qx2
  · refine z_if_eq_F (M := M_X12_readClause) 7 dX12_readClause_7 17 rfl (by omega) ?_
    refine z_aload_n (M := M_X12_readClause) 10 dX12_readClause_10 rfl ?_
    have nn0 : 2 * h0 108 16 ≤ h0 108 9 := by omega
    refine z_vV (M := M_X12_readClause) 11 dX12_readClause_11 t_X12_readWeeks l_X12_305 (m_rr_of rfl) (rest := []) (c_X12_readWeeks2 h0 G0 hb M0 A0 nn0 (by omega)) o_108 rfl rfl rfl (Nat.le_of_ble_eq_true rfl) ⟨rfl, rfl⟩ (fun h2 qx3 => ?_)
    obtain ⟨G2, S2, Kx3, Jx3, Ix3⟩ := qx3
    have R2 := (FR.rf (cs := [114]) (ss := [(108, 9), (108, 10), (108, 11), (108, 12), (108, 13), (108, 14), (108, 16), (108, 17), (108, 18)]) (h := h0)).call S2 (by decide +kernel)
    rcases md_cs (md_c (F := fun b n q r => rdWeeks b n (nxt b n q) r) (rowz (FR.rf (cs := [114]) (ss := [(108, 9), (108, 10), (108, 11), (108, 12), (108, 13), (108, 14), (108, 16), (108, 17), (108, 18)]) (h := h0)) (fun _ => rfl)) ((FR.rf (cs := [114]) (ss := [(108, 9), (108, 10), (108, 11), (108, 12), (108, 13), (108, 14), (108, 16), (108, 17), (108, 18)]) (h := h0)) 108 8 rfl) rfl rfl Kx3) with ⟨px3, Zx3, bx3, Mx3, Ax3, Px3_, Qx3, Vx3, flx3⟩ | ⟨ex3, Zx3, bx3, fx3⟩
    · have Ix3_ := Ix3 bx3
      refine z_goto (M := M_X12_readClause) 14 dX12_readClause_14 56 rfl ?_
      have bb_ : h2 108 14 = 0 := bx3
      exact z_retV (M := M_X12_readClause) 56 dX12_readClause_56 rfl ⟨G2, R2, md_ok (by unfold rdCl; rw [cif_pos ((iw_c (rowz (FR.rf (cs := [114]) (ss := [(108, 9), (108, 10), (108, 11), (108, 12), (108, 13), (108, 14), (108, 16), (108, 17), (108, 18)]) (h := h0)) (fun _ => rfl)) rfl (mw_0 M0 (g_108_9 G0).1)).mpr cx2)]; exact Zx3) bx3 Mx3 Ax3 (by omega) Qx3 Vx3 ((flx3.trans ex1).trans ex1.symm), by omega, fun _ => by omega⟩
    · refine z_goto (M := M_X12_readClause) 14 dX12_readClause_14 56 rfl ?_
      have bb_ : h2 108 14 = 1 := bx3
      exact z_retV (M := M_X12_readClause) 56 dX12_readClause_56 rfl ⟨G2, R2, md_er (by unfold rdCl; rw [cif_pos ((iw_c (rowz (FR.rf (cs := [114]) (ss := [(108, 9), (108, 10), (108, 11), (108, 12), (108, 13), (108, 14), (108, 16), (108, 17), (108, 18)]) (h := h0)) (fun _ => rfl)) rfl (mw_0 M0 (g_108_9 G0).1)).mpr cx2)]; exact Zx3) bx3 fx3, by omega, fun _ => by omega⟩
  · refine z_if_eq_T (M := M_X12_readClause) 7 dX12_readClause_7 17 rfl (by omega) ?_
    refine z_aload_n (M := M_X12_readClause) 17 dX12_readClause_17 rfl ?_
    refine z_ldc2 (M := M_X12_readClause) 18 dX12_readClause_18 k_X12_308 ?_
    refine z_vI (M := M_X12_readClause) 21 dX12_readClause_21 t_X12_isWord l_X12_260 (m_rr_of rfl) (rest := []) (c_X12_isWord h0 374522034 G0) o_108 rfl rfl rfl (Nat.le_of_ble_eq_true rfl) ⟨rfl, rfl⟩ (fun x4 h3 qx4 => ?_)
    obtain ⟨rfl, ⟨rfl, cx4⟩ | ⟨rfl, cx4⟩⟩ := qx4
    · refine z_if_eq_F (M := M_X12_readClause) 24 dX12_readClause_24 34 rfl (by omega) ?_
      refine z_aload_n (M := M_X12_readClause) 27 dX12_readClause_27 rfl ?_
      have nn0 : 2 * h0 108 16 ≤ h0 108 9 := by omega
      refine z_vV (M := M_X12_readClause) 28 dX12_readClause_28 t_X12_readShorter l_X12_310 (m_rr_of rfl) (rest := []) (c_X12_readShorter2 h0 G0 hb M0 A0 nn0 (by omega)) o_108 rfl rfl rfl (Nat.le_of_ble_eq_true rfl) ⟨rfl, rfl⟩ (fun h4 qx5 => ?_)
      obtain ⟨G4, S4, Kx5, Jx5, Ix5⟩ := qx5
      have R4 := (FR.rf (cs := [114]) (ss := [(108, 9), (108, 10), (108, 11), (108, 12), (108, 13), (108, 14), (108, 16), (108, 17), (108, 18)]) (h := h0)).call S4 (by decide +kernel)
      rcases md_cs (md_c (F := fun b n q r => rdShort b n q.1 (nxt b n q) r) (rowz (FR.rf (cs := [114]) (ss := [(108, 9), (108, 10), (108, 11), (108, 12), (108, 13), (108, 14), (108, 16), (108, 17), (108, 18)]) (h := h0)) (fun _ => rfl)) ((FR.rf (cs := [114]) (ss := [(108, 9), (108, 10), (108, 11), (108, 12), (108, 13), (108, 14), (108, 16), (108, 17), (108, 18)]) (h := h0)) 108 8 rfl) rfl rfl Kx5) with ⟨px5, Zx5, bx5, Mx5, Ax5, Px5_, Qx5, Vx5, flx5⟩ | ⟨ex5, Zx5, bx5, fx5⟩
      · have Ix5_ := Ix5 bx5
        refine z_goto (M := M_X12_readClause) 31 dX12_readClause_31 56 rfl ?_
        have bb_ : h4 108 14 = 0 := bx5
        exact z_retV (M := M_X12_readClause) 56 dX12_readClause_56 rfl ⟨G4, R4, md_ok (by unfold rdCl; rw [cif_neg (fun z => cx2 ((iw_c (rowz (FR.rf (cs := [114]) (ss := [(108, 9), (108, 10), (108, 11), (108, 12), (108, 13), (108, 14), (108, 16), (108, 17), (108, 18)]) (h := h0)) (fun _ => rfl)) rfl (mw_0 M0 (g_108_9 G0).1)).mp z)), cif_neg (w_13 ((iw_c (rowz (FR.rf (cs := [114]) (ss := [(108, 9), (108, 10), (108, 11), (108, 12), (108, 13), (108, 14), (108, 16), (108, 17), (108, 18)]) (h := h0)) (fun _ => rfl)) rfl (mw_13 M0 (g_108_9 G0).1)).mpr cx4)), cif_pos ((iw_c (rowz (FR.rf (cs := [114]) (ss := [(108, 9), (108, 10), (108, 11), (108, 12), (108, 13), (108, 14), (108, 16), (108, 17), (108, 18)]) (h := h0)) (fun _ => rfl)) rfl (mw_13 M0 (g_108_9 G0).1)).mpr cx4)]; exact Zx5) bx5 Mx5 Ax5 (by omega) Qx5 Vx5 ((flx5.trans ex1).trans ex1.symm), by omega, fun _ => by omega⟩
      · refine z_goto (M := M_X12_readClause) 31 dX12_readClause_31 56 rfl ?_
        have bb_ : h4 108 14 = 1 := bx5
        exact z_retV (M := M_X12_readClause) 56 dX12_readClause_56 rfl ⟨G4, R4, md_er (by unfold rdCl; rw [cif_neg (fun z => cx2 ((iw_c (rowz (FR.rf (cs := [114]) (ss := [(108, 9), (108, 10), (108, 11), (108, 12), (108, 13), (108, 14), (108, 16), (108, 17), (108, 18)]) (h := h0)) (fun _ => rfl)) rfl (mw_0 M0 (g_108_9 G0).1)).mp z)), cif_neg (w_13 ((iw_c (rowz (FR.rf (cs := [114]) (ss := [(108, 9), (108, 10), (108, 11), (108, 12), (108, 13), (108, 14), (108, 16), (108, 17), (108, 18)]) (h := h0)) (fun _ => rfl)) rfl (mw_13 M0 (g_108_9 G0).1)).mpr cx4)), cif_pos ((iw_c (rowz (FR.rf (cs := [114]) (ss := [(108, 9), (108, 10), (108, 11), (108, 12), (108, 13), (108, 14), (108, 16), (108, 17), (108, 18)]) (h := h0)) (fun _ => rfl)) rfl (mw_13 M0 (g_108_9 G0).1)).mpr cx4)]; exact Zx5) bx5 fx5, by omega, fun _ => by omega⟩
    · refine z_if_eq_T (M := M_X12_readClause) 24 dX12_readClause_24 34 rfl (by omega) ?_
      refine z_aload_n (M := M_X12_readClause) 34 dX12_readClause_34 rfl ?_
      refine z_ldc2 (M := M_X12_readClause) 35 dX12_readClause_35 k_X12_313 ?_
      refine z_vI (M := M_X12_readClause) 38 dX12_readClause_38 t_X12_isWord l_X12_260 (m_rr_of rfl) (rest := []) (c_X12_isWord h0 21243335 G0) o_108 rfl rfl rfl (Nat.le_of_ble_eq_true rfl) ⟨rfl, rfl⟩ (fun x6 h5 qx6 => ?_)
      obtain ⟨rfl, ⟨rfl, cx6⟩ | ⟨rfl, cx6⟩⟩ := qx6
      · refine z_if_eq_F (M := M_X12_readClause) 41 dX12_readClause_41 51 rfl (by omega) ?_
        refine z_aload_n (M := M_X12_readClause) 44 dX12_readClause_44 rfl ?_
        have nn0 : 2 * h0 108 16 ≤ h0 108 9 := by omega
        refine z_vV (M := M_X12_readClause) 45 dX12_readClause_45 t_X12_readThing l_X12_315 (m_rr_of rfl) (rest := []) (c_X12_readThing2 h0 G0 hb M0 A0 nn0 (by omega)) o_108 rfl rfl rfl (Nat.le_of_ble_eq_true rfl) ⟨rfl, rfl⟩ (fun h6 qx7 => ?_)
        obtain ⟨G6, S6, Kx7, Jx7, Ix7⟩ := qx7
        have R6 := (FR.rf (cs := [114]) (ss := [(108, 9), (108, 10), (108, 11), (108, 12), (108, 13), (108, 14), (108, 16), (108, 17), (108, 18)]) (h := h0)).call S6 (by decide +kernel)
        rcases md_cs (md_c (F := fun b n q r => rdThing b n (nxt b n q) r) (rowz (FR.rf (cs := [114]) (ss := [(108, 9), (108, 10), (108, 11), (108, 12), (108, 13), (108, 14), (108, 16), (108, 17), (108, 18)]) (h := h0)) (fun _ => rfl)) ((FR.rf (cs := [114]) (ss := [(108, 9), (108, 10), (108, 11), (108, 12), (108, 13), (108, 14), (108, 16), (108, 17), (108, 18)]) (h := h0)) 108 8 rfl) rfl rfl Kx7) with ⟨px7, Zx7, bx7, Mx7, Ax7, Px7_, Qx7, Vx7, flx7⟩ | ⟨ex7, Zx7, bx7, fx7⟩
        · have Ix7_ := Ix7 bx7
          refine z_goto (M := M_X12_readClause) 48 dX12_readClause_48 56 rfl ?_
          have bb_ : h6 108 14 = 0 := bx7
          exact z_retV (M := M_X12_readClause) 56 dX12_readClause_56 rfl ⟨G6, R6, md_ok (by unfold rdCl; rw [cif_neg (fun z => cx2 ((iw_c (rowz (FR.rf (cs := [114]) (ss := [(108, 9), (108, 10), (108, 11), (108, 12), (108, 13), (108, 14), (108, 16), (108, 17), (108, 18)]) (h := h0)) (fun _ => rfl)) rfl (mw_0 M0 (g_108_9 G0).1)).mp z)), cif_pos ((iw_c (rowz (FR.rf (cs := [114]) (ss := [(108, 9), (108, 10), (108, 11), (108, 12), (108, 13), (108, 14), (108, 16), (108, 17), (108, 18)]) (h := h0)) (fun _ => rfl)) rfl (mw_4 M0 (g_108_9 G0).1)).mpr cx6)]; exact Zx7) bx7 Mx7 Ax7 (by omega) Qx7 Vx7 ((flx7.trans ex1).trans ex1.symm), by omega, fun _ => by omega⟩
        · refine z_goto (M := M_X12_readClause) 48 dX12_readClause_48 56 rfl ?_
          have bb_ : h6 108 14 = 1 := bx7
          exact z_retV (M := M_X12_readClause) 56 dX12_readClause_56 rfl ⟨G6, R6, md_er (by unfold rdCl; rw [cif_neg (fun z => cx2 ((iw_c (rowz (FR.rf (cs := [114]) (ss := [(108, 9), (108, 10), (108, 11), (108, 12), (108, 13), (108, 14), (108, 16), (108, 17), (108, 18)]) (h := h0)) (fun _ => rfl)) rfl (mw_0 M0 (g_108_9 G0).1)).mp z)), cif_pos ((iw_c (rowz (FR.rf (cs := [114]) (ss := [(108, 9), (108, 10), (108, 11), (108, 12), (108, 13), (108, 14), (108, 16), (108, 17), (108, 18)]) (h := h0)) (fun _ => rfl)) rfl (mw_4 M0 (g_108_9 G0).1)).mpr cx6)]; exact Zx7) bx7 fx7, by omega, fun _ => by omega⟩
      · refine z_if_eq_T (M := M_X12_readClause) 41 dX12_readClause_41 51 rfl (by omega) ?_
        refine z_aload_n (M := M_X12_readClause) 51 dX12_readClause_51 rfl ?_
        refine z_iconst (M := M_X12_readClause) 52 dX12_readClause_52 ?_
        refine z_vV (M := M_X12_readClause) 53 dX12_readClause_53 t_X12_must l_X12_247 (m_rr_of rfl) (rest := []) (c_X12_must_0 h0 0 G0 ⟨by omega, by omega⟩ hb) o_108 rfl rfl rfl (Nat.le_of_ble_eq_true rfl) ⟨rfl, rfl⟩ (fun h7 qx8 => ?_)
        obtain ⟨G7, S7, bx8, fx8⟩ := qx8
        have R7 := (FR.rf (cs := [114]) (ss := [(108, 9), (108, 10), (108, 11), (108, 12), (108, 13), (108, 14), (108, 16), (108, 17), (108, 18)]) (h := h0)).call S7 (by decide +kernel)
        have A7 := A0.fr S7 (fun _ => rfl) rfl rfl rfl rfl rfl
        have Px8 : h7 108 9 = h0 108 9 := S7 108 9 rfl
        have fpx8 : h7 108 13 = (Qm h0).1 := fx8.trans (fst_m rfl)
        have bb_ : h7 108 14 = 1 := bx8
        exact z_retV (M := M_X12_readClause) 56 dX12_readClause_56 rfl ⟨G7, R7, md_er (by unfold rdCl; rw [cif_neg (fun z => cx2 ((iw_c (rowz (FR.rf (cs := [114]) (ss := [(108, 9), (108, 10), (108, 11), (108, 12), (108, 13), (108, 14), (108, 16), (108, 17), (108, 18)]) (h := h0)) (fun _ => rfl)) rfl (mw_0 M0 (g_108_9 G0).1)).mp z)), cif_neg (fun z => cx6 ((iw_c (rowz (FR.rf (cs := [114]) (ss := [(108, 9), (108, 10), (108, 11), (108, 12), (108, 13), (108, 14), (108, 16), (108, 17), (108, 18)]) (h := h0)) (fun _ => rfl)) rfl (mw_4 M0 (g_108_9 G0).1)).mp z)), cif_neg (fun z => cx4 ((iw_c (rowz (FR.rf (cs := [114]) (ss := [(108, 9), (108, 10), (108, 11), (108, 12), (108, 13), (108, 14), (108, 16), (108, 17), (108, 18)]) (h := h0)) (fun _ => rfl)) rfl (mw_13 M0 (g_108_9 G0).1)).mp z))]) bx8 fpx8, by omega, fun _ => by omega⟩
theorem rE_up {h0 h1 h2 h3 h4 h5 h6 : m_H} {x t w n k y : Int} (e0 : h0 110 (0 : Int).toNat = x) (hx : 0 ≤ x) (E1 : h1 = m_up h0 110 (80 + (5 * x) + 0).toNat t) (E2 : h2 = m_up h1 110 (80 + (5 * x) + 1).toNat w) (E3 : h3 = m_up h2 110 (80 + (5 * x) + 2).toNat n) (E4 : h4 = m_up h3 110 (80 + (5 * x) + 3).toNat k) (E5 : h5 = m_up h4 110 (80 + (5 * x) + 4).toNat 1) (E6 : h6 = m_up h5 110 (0 : Int).toNat y) (ey : y = x + 1) : h6 110 = rE (h0 110) t w n k := by
  have e0' : h0 110 0 = x := e0
  funext j
  unfold rE
  rw [e0']
  have z0 : (0 : Int).toNat = 0 := rfl
  rw [z0] at E6
  by_cases c0 : j = 0
  · rw [if_pos c0, c0, upE E6]; exact ey
  rw [if_neg c0, upN E6 (fun z => c0 z.2)]
  have i1 : (80 + (5 * x) + 0).toNat = 5 * x.toNat + 80 := by omega
  have i2 : (80 + (5 * x) + 1).toNat = 5 * x.toNat + 81 := by omega
  have i3 : (80 + (5 * x) + 2).toNat = 5 * x.toNat + 82 := by omega
  have i4 : (80 + (5 * x) + 3).toNat = 5 * x.toNat + 83 := by omega
  have i5 : (80 + (5 * x) + 4).toNat = 5 * x.toNat + 84 := by omega
  rw [i1] at E1; rw [i2] at E2; rw [i3] at E3; rw [i4] at E4; rw [i5] at E5
  by_cases c1 : j = 5 * x.toNat + 80
  · rw [if_pos c1, c1, upN E5 (fun z => by have := z.2; omega), upN E4 (fun z => by have := z.2; omega), upN E3 (fun z => by have := z.2; omega), upN E2 (fun z => by have := z.2; omega), upE E1]
  rw [if_neg c1]
  by_cases c2 : j = 5 * x.toNat + 81
  · rw [if_pos c2, c2, upN E5 (fun z => by have := z.2; omega), upN E4 (fun z => by have := z.2; omega), upN E3 (fun z => by have := z.2; omega), upE E2]
  rw [if_neg c2]
  by_cases c3 : j = 5 * x.toNat + 82
  · rw [if_pos c3, c3, upN E5 (fun z => by have := z.2; omega), upN E4 (fun z => by have := z.2; omega), upE E3]
  rw [if_neg c3]
  by_cases c4 : j = 5 * x.toNat + 83
  · rw [if_pos c4, c4, upN E5 (fun z => by have := z.2; omega), upE E4]
  rw [if_neg c4]
  by_cases c5 : j = 5 * x.toNat + 84
  · rw [if_pos c5, c5, upE E5]
  rw [if_neg c5, upN E5 (fun z => c5 z.2), upN E4 (fun z => c4 z.2), upN E3 (fun z => c3 z.2), upN E2 (fun z => c2 z.2), upN E1 (fun z => c1 z.2)]
theorem rS_up {h0 h1 h2 h3 : m_H} {x a b y : Int} (e0 : h0 110 (1 : Int).toNat = x) (hx : 0 ≤ x) (E1 : h1 = m_up h0 110 (48 + (2 * x)).toNat a) (E2 : h2 = m_up h1 110 ((48 + (2 * x)) + 1).toNat b) (E3 : h3 = m_up h2 110 (1 : Int).toNat y) (ey : y = x + 1) : h3 110 = rS (h0 110) a b := by
  have e0' : h0 110 1 = x := e0
  funext j
  unfold rS
  rw [e0']
  have z0 : (1 : Int).toNat = 1 := rfl
  rw [z0] at E3
  by_cases c0 : j = 1
  · rw [if_pos c0, c0, upE E3]; exact ey
  rw [if_neg c0, upN E3 (fun z => c0 z.2)]
  have i1 : (48 + (2 * x)).toNat = 2 * x.toNat + 48 := by omega
  have i2 : ((48 + (2 * x)) + 1).toNat = 2 * x.toNat + 49 := by omega
  rw [i1] at E1; rw [i2] at E2
  by_cases c1 : j = 2 * x.toNat + 48
  · rw [if_pos c1, c1, upN E2 (fun z => by have := z.2; omega), upE E1]
  rw [if_neg c1]
  by_cases c2 : j = 2 * x.toNat + 49
  · rw [if_pos c2, c2, upE E2]
  rw [if_neg c2, upN E2 (fun z => c2 z.2), upN E1 (fun z => c1 z.2)]
theorem rU_up {h h' : m_H} {i : Nat} {v : Int} (E : h' = m_up h 110 i v) : h' 110 = rU (h 110) i v := upf E
theorem rW_st {h h' : m_H} {r : Nat → Int} {f w c : Int} (i : h 110 = rW r f (w - 1) c) (h0 : 0 ≤ f) (h1 : f ≤ w) (E : h' = m_up h 110 (10 + w).toNat c) : h' 110 = rW r f (w + 1 - 1) c := by
  rw [rU_up E, i, show w + 1 - 1 = w by omega]
  funext j
  unfold rU rW
  by_cases g : j = (10 + w).toNat
  · rw [if_pos g, if_pos (by omega)]
  · rw [if_neg g]
    show (if 10 + f ≤ (j : Int) ∧ (j : Int) ≤ 10 + (w - 1) then c else r j) = _
    by_cases g2 : 10 + f ≤ (j : Int) ∧ (j : Int) ≤ 10 + (w - 1)
    · rw [if_pos g2, if_pos (by omega)]
    · rw [if_neg g2, if_neg (by omega)]
theorem rW_e {h : m_H} {r : Nat → Int} {f w l c : Int} (i : h 110 = rW r f (w - 1) c) (h1 : f ≤ w) (h2 : l < w) (h3 : w ≤ l + 1 ∨ w = f) : h 110 = rW r f l c := by
  rw [i]
  funext j
  unfold rW
  by_cases g : w = l + 1
  · rw [show w - 1 = l by omega]
  · rw [if_neg (by omega), if_neg (by omega)]
abbrev P_X12_addShorter2 (h0 : m_H) (a1 a2 : Int) : m_H → Prop := fun h' => GI h' ∧ FR [110] [] h0 h' ∧ h' 110 0 = h0 110 0 ∧ h' 110 1 = h0 110 1 + 1 ∧ h' 110 = rS (h0 110) a1 a2 ∧ NPi h0 h'
set_option maxHeartbeats 4000000 in
set_option maxRecDepth 100000 in
theorem c_X12_addShorter2 (h0 : m_H) (a1 a2 : Int) (G0 : GI h0) (pa1 : 0 ≤ a1 ∧ a1 ≤ 3) (pa2 : 0 ≤ a2 ∧ a2 ≤ 3) (hs : h0 110 (1 : Int).toNat ≤ 5) : m_CV M_X12_addShorter [mR 108, mI a1, mI a2] h0 (P_X12_addShorter2 h0 a1 a2) := by
  refine m_CV_of ⟨by decide, rfl, by simp [m_arg, m_isL, M_X12_addShorter], ⟨rfl, rfl⟩, rfl, rfl⟩ (ls := [some (mR 108), some (mI a1), some (mI a2)]) rfl ?_
  obtain ⟨x1, ex1⟩ : ∃ y : Int, h0 110 0 = y := ⟨_, rfl⟩
  have bx1 : 0 ≤ x1 ∧ x1 ≤ 24 := ex1 ▸ gw_0 G0
  refine z_aload_n (M := M_X12_addShorter) 0 dX12_addShorter_0 rfl ?_
  refine z_getR (M := M_X12_addShorter) 1 dX12_addShorter_1 f_X12_13 o_108 rfl (g_108_3 G0) ?_
  refine z_bipush (M := M_X12_addShorter) 4 dX12_addShorter_4 ?_
  refine z_iconst (M := M_X12_addShorter) 6 dX12_addShorter_6 ?_
  refine z_aload_n (M := M_X12_addShorter) 7 dX12_addShorter_7 rfl ?_
  refine z_getR (M := M_X12_addShorter) 8 dX12_addShorter_8 f_X12_13 o_108 rfl (g_108_3 G0) ?_
  refine z_iconst (M := M_X12_addShorter) 11 dX12_addShorter_11 ?_
  refine z_ialdG (M := M_X12_addShorter) 12 dX12_addShorter_12 o_110 (by omega) (by omega) ⟨(gw_1 G0).1, hs⟩ (fun x2 ex2 ax2 bx2 => ?_)
  refine z_imulN (M := M_X12_addShorter) 13 dX12_addShorter_13 (by omega) (by omega) ?_
  refine z_iaddN (M := M_X12_addShorter) 14 dX12_addShorter_14 (by omega) (by omega) ?_
  refine z_iload_n (M := M_X12_addShorter) 15 dX12_addShorter_15 rfl ?_
  refine z_iastH (M := M_X12_addShorter) 16 dX12_addShorter_16 o_110 (by omega) (by omega) (uw_s G0 (by omega) (by omega) (by omega) (by omega)) ((FR.rf (cs := [110]) (ss := []) (h := h0)).up rfl) (fun h1 E1 G1 R1 => ?_)
  refine z_aload_n (M := M_X12_addShorter) 17 dX12_addShorter_17 rfl ?_
  refine z_getR (M := M_X12_addShorter) 18 dX12_addShorter_18 f_X12_13 o_108 rfl (g_108_3 G1) ?_
  refine z_bipush (M := M_X12_addShorter) 21 dX12_addShorter_21 ?_
  refine z_iconst (M := M_X12_addShorter) 23 dX12_addShorter_23 ?_
  refine z_aload_n (M := M_X12_addShorter) 24 dX12_addShorter_24 rfl ?_
  refine z_getR (M := M_X12_addShorter) 25 dX12_addShorter_25 f_X12_13 o_108 rfl (g_108_3 G1) ?_
  refine z_iconst (M := M_X12_addShorter) 28 dX12_addShorter_28 ?_
  refine z_ialdE (M := M_X12_addShorter) 29 dX12_addShorter_29 o_110 (by omega) (by omega) ((upN E1 (fun q => absurd q.2 (by omega))).trans ex2) ?_
  refine z_imulN (M := M_X12_addShorter) 30 dX12_addShorter_30 (by omega) (by omega) ?_
  refine z_iaddN (M := M_X12_addShorter) 31 dX12_addShorter_31 (by omega) (by omega) ?_
  refine z_iconst (M := M_X12_addShorter) 32 dX12_addShorter_32 ?_
  refine z_iaddN (M := M_X12_addShorter) 33 dX12_addShorter_33 (by omega) (by omega) ?_
  refine z_iload_n (M := M_X12_addShorter) 34 dX12_addShorter_34 rfl ?_
  refine z_iastH (M := M_X12_addShorter) 35 dX12_addShorter_35 o_110 (by omega) (by omega) (uw_s G1 (by omega) (by omega) (by omega) (by omega)) (R1.up rfl) (fun h2 E2 G2 R2 => ?_)
  refine z_aload_n (M := M_X12_addShorter) 36 dX12_addShorter_36 rfl ?_
  refine z_getR (M := M_X12_addShorter) 37 dX12_addShorter_37 f_X12_13 o_108 rfl (g_108_3 G2) ?_
  refine z_iconst (M := M_X12_addShorter) 40 dX12_addShorter_40 ?_
  refine z_dup2 (M := M_X12_addShorter) 41 dX12_addShorter_41 rfl rfl ?_
  refine z_ialdE (M := M_X12_addShorter) 42 dX12_addShorter_42 o_110 (by omega) (by omega) ((upN E2 (fun q => absurd q.2 (by omega))).trans ((upN E1 (fun q => absurd q.2 (by omega))).trans ex2)) ?_
  refine z_iconst (M := M_X12_addShorter) 43 dX12_addShorter_43 ?_
  refine z_iaddN (M := M_X12_addShorter) 44 dX12_addShorter_44 (by omega) (by omega) ?_
  refine z_iastH (M := M_X12_addShorter) 45 dX12_addShorter_45 o_110 (by omega) (by omega) (uw_1 G2 (by omega) (by omega)) (R2.up rfl) (fun h3 E3 G3 R3 => ?_)
  have w3 : h3 110 0 = x1 := ((upN E3 (fun q => absurd q.2 (by decide))).trans ((upN E2 (fun q => absurd q.2 (by omega))).trans ((upN E1 (fun q => absurd q.2 (by omega))).trans ex1)))
  have w4 : h3 110 1 = (x2 + 1) := (upE E3)
  have k0 : h0 110 0 = x1 := ex1
  have k1 : h0 110 1 = x2 := ex2
  exact z_retV (M := M_X12_addShorter) 46 dX12_addShorter_46 rfl ⟨G3, R3, by omega, by omega, rS_up ex2 (by omega) E1 E2 E3 rfl, (NPi.st (NPi.st (NPi.st NPi.rf E1 ⟨by omega, fun e => by omega⟩ (by omega)) E2 ⟨by omega, fun e => by omega⟩ (by omega)) E3 ⟨by omega, fun e => by omega⟩ (by omega))⟩
abbrev P_X12_addEntry2 (h0 : m_H) (a1 a2 a3 a4 : Int) : m_H → Prop := fun h' => GI h' ∧ FR [110] [] h0 h' ∧ h' 110 0 = h0 110 0 + 1 ∧ h' 110 1 = h0 110 1 ∧ h' 110 = rE (h0 110) a1 a2 a3 a4 ∧ NPi h0 h'
set_option maxHeartbeats 4000000 in
set_option maxRecDepth 100000 in
theorem c_X12_addEntry2 (h0 : m_H) (a1 a2 a3 a4 : Int) (G0 : GI h0) (pa1 : 0 ≤ a1 ∧ a1 ≤ 5) (pa2 : 0 ≤ a2 ∧ a2 ≤ 31) (pa3 : 1 ≤ a3 ∧ a3 ≤ 99) (pa4 : 0 ≤ a4 ∧ a4 ≤ 2) (he : h0 110 (0 : Int).toNat ≤ 23) : m_CV M_X12_addEntry [mR 108, mI a1, mI a2, mI a3, mI a4] h0 (P_X12_addEntry2 h0 a1 a2 a3 a4) := by
  refine m_CV_of ⟨by decide, rfl, by simp [m_arg, m_isL, M_X12_addEntry], ⟨rfl, rfl⟩, rfl, rfl⟩ (ls := [some (mR 108), some (mI a1), some (mI a2), some (mI a3), some (mI a4), none]) rfl ?_
  obtain ⟨x1, ex1⟩ : ∃ y : Int, h0 110 1 = y := ⟨_, rfl⟩
  have bx1 : 0 ≤ x1 ∧ x1 ≤ 6 := ex1 ▸ gw_1 G0
  refine z_bipush (M := M_X12_addEntry) 0 dX12_addEntry_0 ?_
  refine z_iconst (M := M_X12_addEntry) 2 dX12_addEntry_2 ?_
  refine z_aload_n (M := M_X12_addEntry) 3 dX12_addEntry_3 rfl ?_
  refine z_getR (M := M_X12_addEntry) 4 dX12_addEntry_4 f_X12_13 o_108 rfl (g_108_3 G0) ?_
  refine z_iconst (M := M_X12_addEntry) 7 dX12_addEntry_7 ?_
  refine z_ialdG (M := M_X12_addEntry) 8 dX12_addEntry_8 o_110 (by omega) (by omega) ⟨(gw_0 G0).1, he⟩ (fun x2 ex2 ax2 bx2 => ?_)
  refine z_imulN (M := M_X12_addEntry) 9 dX12_addEntry_9 (by omega) (by omega) ?_
  refine z_iaddN (M := M_X12_addEntry) 10 dX12_addEntry_10 (by omega) (by omega) ?_
  refine z_istore (M := M_X12_addEntry) 11 dX12_addEntry_11 (ls' := [some (mR 108), some (mI a1), some (mI a2), some (mI a3), some (mI a4), some (mI (80 + (5 * x2)))]) (by decide) rfl ?_
  refine z_aload_n (M := M_X12_addEntry) 13 dX12_addEntry_13 rfl ?_
  refine z_getR (M := M_X12_addEntry) 14 dX12_addEntry_14 f_X12_13 o_108 rfl (g_108_3 G0) ?_
  refine z_iload (M := M_X12_addEntry) 17 dX12_addEntry_17 rfl ?_
  refine z_iconst (M := M_X12_addEntry) 19 dX12_addEntry_19 ?_
  refine z_iaddN (M := M_X12_addEntry) 20 dX12_addEntry_20 (by omega) (by omega) ?_
  refine z_iload_n (M := M_X12_addEntry) 21 dX12_addEntry_21 rfl ?_
  refine z_iastH (M := M_X12_addEntry) 22 dX12_addEntry_22 o_110 (by omega) (by omega) (uw_e0 G0 (e := x2) (by omega) (by omega) (by omega) (by omega) (by omega)) ((FR.rf (cs := [110]) (ss := []) (h := h0)).up rfl) (fun h1 E1 G1 R1 => ?_)
  refine z_aload_n (M := M_X12_addEntry) 23 dX12_addEntry_23 rfl ?_
  refine z_getR (M := M_X12_addEntry) 24 dX12_addEntry_24 f_X12_13 o_108 rfl (g_108_3 G1) ?_
  refine z_iload (M := M_X12_addEntry) 27 dX12_addEntry_27 rfl ?_
  refine z_iconst (M := M_X12_addEntry) 29 dX12_addEntry_29 ?_
  refine z_iaddN (M := M_X12_addEntry) 30 dX12_addEntry_30 (by omega) (by omega) ?_
  refine z_iload_n (M := M_X12_addEntry) 31 dX12_addEntry_31 rfl ?_
  refine z_iastH (M := M_X12_addEntry) 32 dX12_addEntry_32 o_110 (by omega) (by omega) (uw_e1 G1 (e := x2) (by omega) (by omega) (by omega) (by omega) (by omega)) (R1.up rfl) (fun h2 E2 G2 R2 => ?_)
  refine z_aload_n (M := M_X12_addEntry) 33 dX12_addEntry_33 rfl ?_
  refine z_getR (M := M_X12_addEntry) 34 dX12_addEntry_34 f_X12_13 o_108 rfl (g_108_3 G2) ?_
  refine z_iload (M := M_X12_addEntry) 37 dX12_addEntry_37 rfl ?_
  refine z_iconst (M := M_X12_addEntry) 39 dX12_addEntry_39 ?_
  refine z_iaddN (M := M_X12_addEntry) 40 dX12_addEntry_40 (by omega) (by omega) ?_
  refine z_iload_n (M := M_X12_addEntry) 41 dX12_addEntry_41 rfl ?_
  refine z_iastH (M := M_X12_addEntry) 42 dX12_addEntry_42 o_110 (by omega) (by omega) (uw_e2 G2 (e := x2) (by omega) (by omega) (by omega) (by omega) (by omega)) (R2.up rfl) (fun h3 E3 G3 R3 => ?_)
  refine z_aload_n (M := M_X12_addEntry) 43 dX12_addEntry_43 rfl ?_
  refine z_getR (M := M_X12_addEntry) 44 dX12_addEntry_44 f_X12_13 o_108 rfl (g_108_3 G3) ?_
  refine z_iload (M := M_X12_addEntry) 47 dX12_addEntry_47 rfl ?_
  refine z_iconst (M := M_X12_addEntry) 49 dX12_addEntry_49 ?_
  refine z_iaddN (M := M_X12_addEntry) 50 dX12_addEntry_50 (by omega) (by omega) ?_
  refine z_iload (M := M_X12_addEntry) 51 dX12_addEntry_51 rfl ?_
  refine z_iastH (M := M_X12_addEntry) 53 dX12_addEntry_53 o_110 (by omega) (by omega) (uw_e3 G3 (e := x2) (by omega) (by omega) (by omega) (by omega) (by omega)) (R3.up rfl) (fun h4 E4 G4 R4 => ?_)
  refine z_aload_n (M := M_X12_addEntry) 54 dX12_addEntry_54 rfl ?_
  refine z_getR (M := M_X12_addEntry) 55 dX12_addEntry_55 f_X12_13 o_108 rfl (g_108_3 G4) ?_
  refine z_iload (M := M_X12_addEntry) 58 dX12_addEntry_58 rfl ?_
  refine z_iconst (M := M_X12_addEntry) 60 dX12_addEntry_60 ?_
  refine z_iaddN (M := M_X12_addEntry) 61 dX12_addEntry_61 (by omega) (by omega) ?_
  refine z_iconst (M := M_X12_addEntry) 62 dX12_addEntry_62 ?_
  refine z_iastH (M := M_X12_addEntry) 63 dX12_addEntry_63 o_110 (by omega) (by omega) (uw_e4 G4 (e := x2) (by omega) (by omega) (by omega) (by omega) (by omega)) (R4.up rfl) (fun h5 E5 G5 R5 => ?_)
  refine z_aload_n (M := M_X12_addEntry) 64 dX12_addEntry_64 rfl ?_
  refine z_getR (M := M_X12_addEntry) 65 dX12_addEntry_65 f_X12_13 o_108 rfl (g_108_3 G5) ?_
  refine z_iconst (M := M_X12_addEntry) 68 dX12_addEntry_68 ?_
  refine z_dup2 (M := M_X12_addEntry) 69 dX12_addEntry_69 rfl rfl ?_
  refine z_ialdE (M := M_X12_addEntry) 70 dX12_addEntry_70 o_110 (by omega) (by omega) ((upN E5 (fun q => absurd q.2 (by omega))).trans ((upN E4 (fun q => absurd q.2 (by omega))).trans ((upN E3 (fun q => absurd q.2 (by omega))).trans ((upN E2 (fun q => absurd q.2 (by omega))).trans ((upN E1 (fun q => absurd q.2 (by omega))).trans ex2))))) ?_
  refine z_iconst (M := M_X12_addEntry) 71 dX12_addEntry_71 ?_
  refine z_iaddN (M := M_X12_addEntry) 72 dX12_addEntry_72 (by omega) (by omega) ?_
  refine z_iastH (M := M_X12_addEntry) 73 dX12_addEntry_73 o_110 (by omega) (by omega) (uw_0 G5 (by omega) (by omega)) (R5.up rfl) (fun h6 E6 G6 R6 => ?_)
  have w3 : h6 110 0 = (x2 + 1) := (upE E6)
  have w4 : h6 110 1 = x1 := ((upN E6 (fun q => absurd q.2 (by decide))).trans ((upN E5 (fun q => absurd q.2 (by omega))).trans ((upN E4 (fun q => absurd q.2 (by omega))).trans ((upN E3 (fun q => absurd q.2 (by omega))).trans ((upN E2 (fun q => absurd q.2 (by omega))).trans ((upN E1 (fun q => absurd q.2 (by omega))).trans ex1))))))
  have k0 : h0 110 0 = x2 := ex2
  have k1 : h0 110 1 = x1 := ex1
  exact z_retV (M := M_X12_addEntry) 74 dX12_addEntry_74 rfl ⟨G6, R6, by omega, by omega, rE_up ex2 (by omega) E1 E2 E3 E4 E5 E6 rfl, (NPi.inc (NPi.st (NPi.st (NPi.stN (NPi.st (NPi.st NPi.rf E1 ⟨by omega, fun e => by omega⟩ (by omega)) E2 ⟨by omega, fun e => by omega⟩ (by omega)) E3 (by omega) (by omega) (by omega)) E4 ⟨by omega, fun e => by omega⟩ (by omega)) E5 ⟨by omega, fun e => by omega⟩ (by omega)) E6 ((upN E5 (fun q => absurd q.2 (by omega))).trans ((upN E4 (fun q => absurd q.2 (by omega))).trans ((upN E3 (fun q => absurd q.2 (by omega))).trans ((upN E2 (fun q => absurd q.2 (by omega))).trans ((upN E1 (fun q => absurd q.2 (by omega))).trans ex2))))) (by omega) (NP_num (by omega) (by omega) E3 E4 E5))⟩
abbrev P_X12_doAct2 (h0 : m_H) (a1 : Int) : m_H → Prop := fun h' => GI h' ∧ FR [110] [] h0 h' ∧ ((h0 114 a1.toNat = 3 ∧ h' 110 0 = h0 110 0 + 1) ∨ (h0 114 a1.toNat ≠ 3 ∧ h' 110 0 = h0 110 0)) ∧ ((h0 114 a1.toNat = 1 ∧ h' 110 1 = h0 110 1 + 1) ∨ (h0 114 a1.toNat ≠ 1 ∧ h' 110 1 = h0 110 1)) ∧ h' 110 = act1 (h0 114 a1.toNat) (h0 114 (a1 + 1).toNat) (h0 114 (a1 + 2).toNat) (h0 114 (a1 + 3).toNat) (h0 114 (a1 + 4).toNat) (h0 110) ∧ NPi h0 h'
def q_X12_doAct2 (h0 : m_H) (a1 : Int) (n : Nat) : Prop := (∀ (l2 y_110_0 y_110_1 : Int) (h : m_H), GI h → FR [110] [] h0 h → 0 ≤ l2 → l2 ≤ 32 → 0 ≤ y_110_0 → y_110_0 ≤ 24 → 0 ≤ y_110_1 → y_110_1 ≤ 6 → (h 110 0 = y_110_0) → (h 110 1 = y_110_1) → (h0 114 a1.toNat = 0 ∧ y_110_0 = h0 110 0 ∧ y_110_1 = h0 110 1) → (h 110 = rW (h0 110) (h0 114 (a1 + 1).toNat) (l2 - 1) (h0 114 (a1 + 3).toNat)) → (h0 114 (a1 + 1).toNat ≤ l2 ∧ (l2 ≤ h0 114 (a1 + 2).toNat + 1 ∨ l2 = h0 114 (a1 + 1).toNat)) → (NPi h0 h) → 2 * (32 - l2) + (1) ≤ (n : Int) → m_Z oF M_X12_doAct 18 [some (mR 108), some (mI a1), some (mI l2)] [] h (m_QV (P_X12_doAct2 h0 a1)))
set_option maxHeartbeats 4000000 in
set_option maxRecDepth 100000 in
theorem s_X12_doAct2_18 (h0 : m_H) (a1 : Int) (G0 : GI h0) (pa1 : 0 ≤ a1 ∧ a1 ≤ 995) (hk : okA (h0 114 a1.toNat) (h0 114 (a1 + 1).toNat) (h0 114 (a1 + 2).toNat) (h0 114 (a1 + 3).toNat) (h0 114 (a1 + 4).toNat)) (h3 : h0 114 a1.toNat ≠ 3 ∨ h0 110 0 ≤ 23) (h1 : h0 114 a1.toNat ≠ 1 ∨ h0 110 1 ≤ 5) (n : Nat) (ih : q_X12_doAct2 h0 a1 n) : ∀ (l2 y_110_0 y_110_1 : Int) (h : m_H), GI h → FR [110] [] h0 h → 0 ≤ l2 → l2 ≤ 32 → 0 ≤ y_110_0 → y_110_0 ≤ 24 → 0 ≤ y_110_1 → y_110_1 ≤ 6 → (h 110 0 = y_110_0) → (h 110 1 = y_110_1) → (h0 114 a1.toNat = 0 ∧ y_110_0 = h0 110 0 ∧ y_110_1 = h0 110 1) → (h 110 = rW (h0 110) (h0 114 (a1 + 1).toNat) (l2 - 1) (h0 114 (a1 + 3).toNat)) → (h0 114 (a1 + 1).toNat ≤ l2 ∧ (l2 ≤ h0 114 (a1 + 2).toNat + 1 ∨ l2 = h0 114 (a1 + 1).toNat)) → (NPi h0 h) → 2 * (32 - l2) + (1) ≤ ((n + 1 : Nat) : Int) → m_Z oF M_X12_doAct 18 [some (mR 108), some (mI a1), some (mI l2)] [] h (m_QV (P_X12_doAct2 h0 a1)) := by
  intro l2 y_110_0 y_110_1 h G R v0 v1 v2 v3 v4 v5 t_110_0 t_110_1 i0 i1 i2 i3 hr
  unfold okA at hk
  refine z_iload_n (M := M_X12_doAct) 18 dX12_doAct_18 rfl ?_
  refine z_aload_n (M := M_X12_doAct) 19 dX12_doAct_19 rfl ?_
  refine z_getR (M := M_X12_doAct) 20 dX12_doAct_20 f_X12_30 o_108 rfl (g_108_15 G) ?_
  refine z_iload_n (M := M_X12_doAct) 23 dX12_doAct_23 rfl ?_
  refine z_iconst (M := M_X12_doAct) 24 dX12_doAct_24 ?_
  refine z_iaddN (M := M_X12_doAct) 25 dX12_doAct_25 (by omega) (by omega) ?_
  refine z_ialdV (M := M_X12_doAct) 26 dX12_doAct_26 o_114 (by omega) (by omega) (fun x1 ex1 => ?_)
  refine z_ok (fun ox1 _ _ => ?_)
  have ox1 := ox1.1; unfold m_ok m_32 at ox1
  have rx1 := R 114 ((a1 + 2)).toNat rfl
  refine z_icmp_gt (M := M_X12_doAct) 27 dX12_doAct_27 53 rfl (fun c2 => ?_) (fun c2 => ?_)
  · refine z_goto (M := M_X12_doAct) 53 dX12_doAct_53 162 rfl ?_
    have w3 : h 110 0 = y_110_0 := t_110_0
    have w4 : h 110 1 = y_110_1 := t_110_1
    exact z_retV (M := M_X12_doAct) 162 dX12_doAct_162 rfl ⟨G, R, by omega, by omega, by rw [i0.1, act1_k0]; exact rW_e i1 i2.1 (by omega) (by omega), i3⟩
  · refine z_aload_n (M := M_X12_doAct) 30 dX12_doAct_30 rfl ?_
    refine z_getR (M := M_X12_doAct) 31 dX12_doAct_31 f_X12_13 o_108 rfl (g_108_3 G) ?_
    refine z_bipush (M := M_X12_doAct) 34 dX12_doAct_34 ?_
    refine z_iload_n (M := M_X12_doAct) 36 dX12_doAct_36 rfl ?_
    refine z_iaddN (M := M_X12_doAct) 37 dX12_doAct_37 (by omega) (by omega) ?_
    refine z_aload_n (M := M_X12_doAct) 38 dX12_doAct_38 rfl ?_
    refine z_getR (M := M_X12_doAct) 39 dX12_doAct_39 f_X12_30 o_108 rfl (g_108_15 G) ?_
    refine z_iload_n (M := M_X12_doAct) 42 dX12_doAct_42 rfl ?_
    refine z_iconst (M := M_X12_doAct) 43 dX12_doAct_43 ?_
    refine z_iaddN (M := M_X12_doAct) 44 dX12_doAct_44 (by omega) (by omega) ?_
    refine z_ialdV (M := M_X12_doAct) 45 dX12_doAct_45 o_114 (by omega) (by omega) (fun x5 ex5 => ?_)
    refine z_ok (fun ox5 _ _ => ?_)
    have ox5 := ox5.1; unfold m_ok m_32 at ox5
    have rx5 := R 114 ((a1 + 3)).toNat rfl
    refine z_iastH (M := M_X12_doAct) 46 dX12_doAct_46 o_110 (by omega) (by omega) (uw_w G (by omega) (by omega) (by omega) (by omega)) (R.up rfl) (fun h1 E1 G1 R1 => ?_)
    refine z_iincN (M := M_X12_doAct) 47 dX12_doAct_47 (ls' := [some (mR 108), some (mI a1), some (mI (l2 + 1))]) (by decide) rfl (by (unfold m_32; decide)) (by omega) (by omega) rfl ?_
    refine z_goto (M := M_X12_doAct) 50 dX12_doAct_50 18 rfl ?_
    have ec_ : h0 114 (a1 + 3).toNat = x5 := rx5.symm.trans ex5
    exact z_mask [true, true, true] rfl (ih (l2 + 1) y_110_0 y_110_1 h1 G1 R1 (by omega) (by omega) (by omega) (by omega) (by omega) (by omega) ((upN E1 (fun q => absurd q.2 (by omega))).trans t_110_0) ((upN E1 (fun q => absurd q.2 (by omega))).trans t_110_1) (by omega) (by rw [ec_] at i1 ⊢; exact rW_st i1 (by omega) i2.1 E1) (by omega) (NPi.st i3 E1 ⟨by omega, fun e => by omega⟩ (by omega)) (by omega))
theorem a_X12_doAct2 (h0 : m_H) (a1 : Int) (G0 : GI h0) (pa1 : 0 ≤ a1 ∧ a1 ≤ 995) (hk : okA (h0 114 a1.toNat) (h0 114 (a1 + 1).toNat) (h0 114 (a1 + 2).toNat) (h0 114 (a1 + 3).toNat) (h0 114 (a1 + 4).toNat)) (h3 : h0 114 a1.toNat ≠ 3 ∨ h0 110 0 ≤ 23) (h1 : h0 114 a1.toNat ≠ 1 ∨ h0 110 1 ≤ 5) : ∀ n, q_X12_doAct2 h0 a1 n := by
  intro n
  induction n with
  | zero => unfold q_X12_doAct2; intros; omega
  | succ n ih => exact s_X12_doAct2_18 h0 a1 G0 pa1 hk h3 h1 n ih
set_option maxHeartbeats 4000000 in
set_option maxRecDepth 100000 in
theorem c_X12_doAct2 (h0 : m_H) (a1 : Int) (G0 : GI h0) (pa1 : 0 ≤ a1 ∧ a1 ≤ 995) (hk : okA (h0 114 a1.toNat) (h0 114 (a1 + 1).toNat) (h0 114 (a1 + 2).toNat) (h0 114 (a1 + 3).toNat) (h0 114 (a1 + 4).toNat)) (h3 : h0 114 a1.toNat ≠ 3 ∨ h0 110 0 ≤ 23) (h1 : h0 114 a1.toNat ≠ 1 ∨ h0 110 1 ≤ 5) : m_CV M_X12_doAct [mR 108, mI a1] h0 (P_X12_doAct2 h0 a1) := by
  refine m_CV_of ⟨by decide, rfl, by simp [m_arg, m_isL, M_X12_doAct], ⟨rfl, rfl⟩, rfl, rfl⟩ (ls := [some (mR 108), some (mI a1), none]) rfl ?_
  have ih := a_X12_doAct2 h0 a1 G0 pa1 hk h3 h1 72
  unfold okA at hk
  obtain ⟨x1, ex1⟩ : ∃ y : Int, h0 110 0 = y := ⟨_, rfl⟩
  have bx1 : 0 ≤ x1 ∧ x1 ≤ 24 := ex1 ▸ gw_0 G0
  obtain ⟨x2, ex2⟩ : ∃ y : Int, h0 110 1 = y := ⟨_, rfl⟩
  have bx2 : 0 ≤ x2 ∧ x2 ≤ 6 := ex2 ▸ gw_1 G0
  refine z_aload_n (M := M_X12_doAct) 0 dX12_doAct_0 rfl ?_
  refine z_getR (M := M_X12_doAct) 1 dX12_doAct_1 f_X12_30 o_108 rfl (g_108_15 G0) ?_
  refine z_iload_n (M := M_X12_doAct) 4 dX12_doAct_4 rfl ?_
  refine z_ialdV (M := M_X12_doAct) 5 dX12_doAct_5 o_114 (by omega) (by omega) (fun x3 ex3 => ?_)
  refine z_ok (fun ox3 _ _ => ?_)
  have ox3 := ox3.1; unfold m_ok m_32 at ox3
  have rx3 := (FR.rf (cs := [110]) (ss := []) (h := h0)) 114 (a1).toNat rfl
  refine z_if_ne (M := M_X12_doAct) 6 dX12_doAct_6 56 rfl (fun c4 => ?_) (fun c4 => ?_)
  · refine z_aload_n (M := M_X12_doAct) 56 dX12_doAct_56 rfl ?_
    refine z_getR (M := M_X12_doAct) 57 dX12_doAct_57 f_X12_30 o_108 rfl (g_108_15 G0) ?_
    refine z_iload_n (M := M_X12_doAct) 60 dX12_doAct_60 rfl ?_
    refine z_ialdE (M := M_X12_doAct) 61 dX12_doAct_61 o_114 (by omega) (by omega) ex3 ?_
    refine z_iconst (M := M_X12_doAct) 62 dX12_doAct_62 ?_
    refine z_icmp_ne (M := M_X12_doAct) 63 dX12_doAct_63 89 rfl (fun c5 => ?_) (fun c5 => ?_)
    · refine z_aload_n (M := M_X12_doAct) 89 dX12_doAct_89 rfl ?_
      refine z_getR (M := M_X12_doAct) 90 dX12_doAct_90 f_X12_30 o_108 rfl (g_108_15 G0) ?_
      refine z_iload_n (M := M_X12_doAct) 93 dX12_doAct_93 rfl ?_
      refine z_ialdE (M := M_X12_doAct) 94 dX12_doAct_94 o_114 (by omega) (by omega) ex3 ?_
      refine z_iconst (M := M_X12_doAct) 95 dX12_doAct_95 ?_
      refine z_icmp_ne (M := M_X12_doAct) 96 dX12_doAct_96 126 rfl (fun c6 => ?_) (fun c6 => ?_)
      · refine z_aload_n (M := M_X12_doAct) 126 dX12_doAct_126 rfl ?_
        refine z_aload_n (M := M_X12_doAct) 127 dX12_doAct_127 rfl ?_
        refine z_getR (M := M_X12_doAct) 128 dX12_doAct_128 f_X12_30 o_108 rfl (g_108_15 G0) ?_
        refine z_iload_n (M := M_X12_doAct) 131 dX12_doAct_131 rfl ?_
        refine z_iconst (M := M_X12_doAct) 132 dX12_doAct_132 ?_
        refine z_iaddN (M := M_X12_doAct) 133 dX12_doAct_133 (by omega) (by omega) ?_
        refine z_ialdV (M := M_X12_doAct) 134 dX12_doAct_134 o_114 (by omega) (by omega) (fun x7 ex7 => ?_)
        refine z_ok (fun ox7 _ _ => ?_)
        have ox7 := ox7.1; unfold m_ok m_32 at ox7
        have rx7 := (FR.rf (cs := [110]) (ss := []) (h := h0)) 114 ((a1 + 1)).toNat rfl
        refine z_aload_n (M := M_X12_doAct) 135 dX12_doAct_135 rfl ?_
        refine z_getR (M := M_X12_doAct) 136 dX12_doAct_136 f_X12_30 o_108 rfl (g_108_15 G0) ?_
        refine z_iload_n (M := M_X12_doAct) 139 dX12_doAct_139 rfl ?_
        refine z_iconst (M := M_X12_doAct) 140 dX12_doAct_140 ?_
        refine z_iaddN (M := M_X12_doAct) 141 dX12_doAct_141 (by omega) (by omega) ?_
        refine z_ialdV (M := M_X12_doAct) 142 dX12_doAct_142 o_114 (by omega) (by omega) (fun x8 ex8 => ?_)
        refine z_ok (fun ox8 _ _ => ?_)
        have ox8 := ox8.1; unfold m_ok m_32 at ox8
        have rx8 := (FR.rf (cs := [110]) (ss := []) (h := h0)) 114 ((a1 + 2)).toNat rfl
        refine z_aload_n (M := M_X12_doAct) 143 dX12_doAct_143 rfl ?_
        refine z_getR (M := M_X12_doAct) 144 dX12_doAct_144 f_X12_30 o_108 rfl (g_108_15 G0) ?_
        refine z_iload_n (M := M_X12_doAct) 147 dX12_doAct_147 rfl ?_
        refine z_iconst (M := M_X12_doAct) 148 dX12_doAct_148 ?_
        refine z_iaddN (M := M_X12_doAct) 149 dX12_doAct_149 (by omega) (by omega) ?_
        refine z_ialdV (M := M_X12_doAct) 150 dX12_doAct_150 o_114 (by omega) (by omega) (fun x9 ex9 => ?_)
        refine z_ok (fun ox9 _ _ => ?_)
        have ox9 := ox9.1; unfold m_ok m_32 at ox9
        have rx9 := (FR.rf (cs := [110]) (ss := []) (h := h0)) 114 ((a1 + 3)).toNat rfl
        refine z_aload_n (M := M_X12_doAct) 151 dX12_doAct_151 rfl ?_
        refine z_getR (M := M_X12_doAct) 152 dX12_doAct_152 f_X12_30 o_108 rfl (g_108_15 G0) ?_
        refine z_iload_n (M := M_X12_doAct) 155 dX12_doAct_155 rfl ?_
        refine z_iconst (M := M_X12_doAct) 156 dX12_doAct_156 ?_
        refine z_iaddN (M := M_X12_doAct) 157 dX12_doAct_157 (by omega) (by omega) ?_
        refine z_ialdV (M := M_X12_doAct) 158 dX12_doAct_158 o_114 (by omega) (by omega) (fun x10 ex10 => ?_)
        refine z_ok (fun ox10 _ _ => ?_)
        have ox10 := ox10.1; unfold m_ok m_32 at ox10
        have rx10 := (FR.rf (cs := [110]) (ss := []) (h := h0)) 114 ((a1 + 4)).toNat rfl
        refine z_vV (M := M_X12_doAct) 159 dX12_doAct_159 t_X12_addEntry l_X12_188 (m_rr_of rfl) (rest := []) (c_X12_addEntry2 h0 x7 x8 x9 x10 G0 ⟨by omega, by omega⟩ ⟨by omega, by omega⟩ ⟨by omega, by omega⟩ ⟨by omega, by omega⟩ (le_e ex1 (by omega))) o_108 rfl rfl rfl (Nat.le_of_ble_eq_true rfl) ⟨rfl, rfl⟩ (fun h1 qx11 => ?_)
        obtain ⟨G1, S1, fx11_0, fx11_1, fx11_2, npx11⟩ := qx11
        have R1 := (FR.rf (cs := [110]) (ss := []) (h := h0)).call S1 (by decide +kernel)
        have w12 : h1 110 0 = (x1 + 1) := (eq_ad fx11_0 ex1)
        have w13 : h1 110 1 = x2 := (fx11_1.trans ex2)
        exact z_retV (M := M_X12_doAct) 162 dX12_doAct_162 rfl ⟨G1, R1, by omega, by omega, by have e3_ : h0 114 a1.toNat = 3 := (ex3).trans (by omega); rw [e3_, act1_k3, ex7, ex8, ex9, ex10]; exact fx11_2, (NPi.tr NPi.rf npx11)⟩
      · refine z_aload_n (M := M_X12_doAct) 99 dX12_doAct_99 rfl ?_
        refine z_getR (M := M_X12_doAct) 100 dX12_doAct_100 f_X12_13 o_108 rfl (g_108_3 G0) ?_
        refine z_bipush (M := M_X12_doAct) 103 dX12_doAct_103 ?_
        refine z_aload_n (M := M_X12_doAct) 105 dX12_doAct_105 rfl ?_
        refine z_getR (M := M_X12_doAct) 106 dX12_doAct_106 f_X12_30 o_108 rfl (g_108_15 G0) ?_
        refine z_iload_n (M := M_X12_doAct) 109 dX12_doAct_109 rfl ?_
        refine z_iconst (M := M_X12_doAct) 110 dX12_doAct_110 ?_
        refine z_iaddN (M := M_X12_doAct) 111 dX12_doAct_111 (by omega) (by omega) ?_
        refine z_ialdV (M := M_X12_doAct) 112 dX12_doAct_112 o_114 (by omega) (by omega) (fun x14 ex14 => ?_)
        refine z_ok (fun ox14 _ _ => ?_)
        have ox14 := ox14.1; unfold m_ok m_32 at ox14
        have rx14 := (FR.rf (cs := [110]) (ss := []) (h := h0)) 114 ((a1 + 1)).toNat rfl
        refine z_iaddN (M := M_X12_doAct) 113 dX12_doAct_113 (by omega) (by omega) ?_
        refine z_topBI (lo := 42) (hi := 47) ⟨by omega, by omega⟩ (fun x15 ex15 ax15 bx15 => ?_)
        refine z_aload_n (M := M_X12_doAct) 114 dX12_doAct_114 rfl ?_
        refine z_getR (M := M_X12_doAct) 115 dX12_doAct_115 f_X12_30 o_108 rfl (g_108_15 G0) ?_
        refine z_iload_n (M := M_X12_doAct) 118 dX12_doAct_118 rfl ?_
        refine z_iconst (M := M_X12_doAct) 119 dX12_doAct_119 ?_
        refine z_iaddN (M := M_X12_doAct) 120 dX12_doAct_120 (by omega) (by omega) ?_
        refine z_ialdV (M := M_X12_doAct) 121 dX12_doAct_121 o_114 (by omega) (by omega) (fun x16 ex16 => ?_)
        refine z_ok (fun ox16 _ _ => ?_)
        have ox16 := ox16.1; unfold m_ok m_32 at ox16
        have rx16 := (FR.rf (cs := [110]) (ss := []) (h := h0)) 114 ((a1 + 2)).toNat rfl
        refine z_iastH (M := M_X12_doAct) 122 dX12_doAct_122 o_110 (by omega) (by omega) (uw_c G0 (by omega) (by omega) (by omega) (by omega)) ((FR.rf (cs := [110]) (ss := []) (h := h0)).up rfl) (fun h2 E2 G2 R2 => ?_)
        refine z_goto (M := M_X12_doAct) 123 dX12_doAct_123 162 rfl ?_
        have w17 : h2 110 0 = x1 := ((upN E2 (fun q => absurd q.2 (by omega))).trans ex1)
        have w18 : h2 110 1 = x2 := ((upN E2 (fun q => absurd q.2 (by omega))).trans ex2)
        exact z_retV (M := M_X12_doAct) 162 dX12_doAct_162 rfl ⟨G2, R2, by omega, by omega, by have e2_ : h0 114 a1.toNat = 2 := (ex3).trans (by omega); rw [e2_, act1_k2, ex14, ex16]; rw [rU_up E2, ex15], (NPi.st NPi.rf E2 ⟨by omega, fun e => by omega⟩ (by omega))⟩
    · refine z_aload_n (M := M_X12_doAct) 66 dX12_doAct_66 rfl ?_
      refine z_aload_n (M := M_X12_doAct) 67 dX12_doAct_67 rfl ?_
      refine z_getR (M := M_X12_doAct) 68 dX12_doAct_68 f_X12_30 o_108 rfl (g_108_15 G0) ?_
      refine z_iload_n (M := M_X12_doAct) 71 dX12_doAct_71 rfl ?_
      refine z_iconst (M := M_X12_doAct) 72 dX12_doAct_72 ?_
      refine z_iaddN (M := M_X12_doAct) 73 dX12_doAct_73 (by omega) (by omega) ?_
      refine z_ialdV (M := M_X12_doAct) 74 dX12_doAct_74 o_114 (by omega) (by omega) (fun x19 ex19 => ?_)
      refine z_ok (fun ox19 _ _ => ?_)
      have ox19 := ox19.1; unfold m_ok m_32 at ox19
      have rx19 := (FR.rf (cs := [110]) (ss := []) (h := h0)) 114 ((a1 + 1)).toNat rfl
      refine z_aload_n (M := M_X12_doAct) 75 dX12_doAct_75 rfl ?_
      refine z_getR (M := M_X12_doAct) 76 dX12_doAct_76 f_X12_30 o_108 rfl (g_108_15 G0) ?_
      refine z_iload_n (M := M_X12_doAct) 79 dX12_doAct_79 rfl ?_
      refine z_iconst (M := M_X12_doAct) 80 dX12_doAct_80 ?_
      refine z_iaddN (M := M_X12_doAct) 81 dX12_doAct_81 (by omega) (by omega) ?_
      refine z_ialdV (M := M_X12_doAct) 82 dX12_doAct_82 o_114 (by omega) (by omega) (fun x20 ex20 => ?_)
      refine z_ok (fun ox20 _ _ => ?_)
      have ox20 := ox20.1; unfold m_ok m_32 at ox20
      have rx20 := (FR.rf (cs := [110]) (ss := []) (h := h0)) 114 ((a1 + 2)).toNat rfl
      refine z_vV (M := M_X12_doAct) 83 dX12_doAct_83 t_X12_addShorter l_X12_176 (m_rr_of rfl) (rest := []) (c_X12_addShorter2 h0 x19 x20 G0 ⟨by omega, by omega⟩ ⟨by omega, by omega⟩ (le_e ex2 (by omega))) o_108 rfl rfl rfl (Nat.le_of_ble_eq_true rfl) ⟨rfl, rfl⟩ (fun h3 qx21 => ?_)
      obtain ⟨G3, S3, fx21_0, fx21_1, fx21_2, npx21⟩ := qx21
      have R3 := (FR.rf (cs := [110]) (ss := []) (h := h0)).call S3 (by decide +kernel)
      refine z_goto (M := M_X12_doAct) 86 dX12_doAct_86 162 rfl ?_
      have w22 : h3 110 0 = x1 := (fx21_0.trans ex1)
      have w23 : h3 110 1 = (x2 + 1) := (eq_ad fx21_1 ex2)
      exact z_retV (M := M_X12_doAct) 162 dX12_doAct_162 rfl ⟨G3, R3, by omega, by omega, by rw [(ex3 : h0 114 a1.toNat = x3), (show x3 = 1 by omega), act1_k1, ex19, ex20]; exact fx21_2, (NPi.tr NPi.rf npx21)⟩
  · refine z_aload_n (M := M_X12_doAct) 9 dX12_doAct_9 rfl ?_
    refine z_getR (M := M_X12_doAct) 10 dX12_doAct_10 f_X12_30 o_108 rfl (g_108_15 G0) ?_
    refine z_iload_n (M := M_X12_doAct) 13 dX12_doAct_13 rfl ?_
    refine z_iconst (M := M_X12_doAct) 14 dX12_doAct_14 ?_
    refine z_iaddN (M := M_X12_doAct) 15 dX12_doAct_15 (by omega) (by omega) ?_
    refine z_ialdV (M := M_X12_doAct) 16 dX12_doAct_16 o_114 (by omega) (by omega) (fun x24 ex24 => ?_)
    refine z_ok (fun ox24 _ _ => ?_)
    have ox24 := ox24.1; unfold m_ok m_32 at ox24
    have rx24 := (FR.rf (cs := [110]) (ss := []) (h := h0)) 114 ((a1 + 1)).toNat rfl
    refine z_istore_n (M := M_X12_doAct) 17 dX12_doAct_17 (ls' := [some (mR 108), some (mI a1), some (mI x24)]) (by decide) rfl ?_
    exact z_mask [true, true, true] rfl (ih x24 x1 x2 h0 G0 (FR.rf (cs := [110]) (ss := []) (h := h0)) (by omega) (by omega) (by omega) (by omega) (by omega) (by omega) ex1 ex2 (by omega) (by rw [ex24]; exact rW_0.symm) (by omega) NPi.rf (by omega))
theorem bg_q {h0 h h' : m_H} (T : Tok (h 113) (h 108 8) (h 108 10) (Qm h')) (eb : h 113 = h0 113) (en : h 108 8 = h0 108 8) (e : h 108 10 = 0) : Qm h' = nx (h0 113) (h0 108 8) 0 := by
  rw [eb, en, e] at T
  exact (nx_eq (Int.le_refl 0) T).symm
theorem vr_0 {h : m_H} {r : Nat → Int} (e : h 108 16 = 0) (er : h 110 = r) : vr h = r := by
  unfold vr; rw [e]; exact er
def boM (z : Except Int (Int × (Nat → Int))) (b : Nat → Int) (n k : Int) (f : Nat) (p : (Int × Int) × (Nat → Int)) (h : m_H) : Prop := MTk h ∧ AI h ∧ 2 * h 108 16 ≤ h 108 9 ∧ Qm h = p.1 ∧ vr h = p.2 ∧ z = cif (n ≤ p.1.1) (.ok (k, p.2)) (cif (isW b p.1 15) (rdBook b n f (nxt b n p.1) p.2 (k + 1)) (.error p.1.1)) ∧ h 108 13 = -1 ∧ (f : Int) + k = 400
theorem bk_un {b : Nat → Int} {n k : Int} {f : Nat} {q : Int × Int} {r : Nat → Int} {p : (Int × Int) × (Nat → Int)} (C : rdCl b n q r = .ok p) : rdBook b n (f + 1) q r k = cif (n ≤ p.1.1) (.ok (k, p.2)) (cif (isW b p.1 15) (rdBook b n f (nxt b n p.1) p.2 (k + 1)) (.error p.1.1)) := by
  conv => lhs; unfold rdBook
  rw [C]
def bmQ (z : Except Int (Int × (Nat → Int))) (x : Int) (h0 h' : m_H) : Prop := match z with
  | .ok p => x = p.1 ∧ h' 110 = p.2 ∧ h' 108 13 = -1
  | .error e => x = -6 ∧ h' 110 = h0 110 ∧ h' 108 13 = e
theorem bm_ok {z : Except Int (Int × (Nat → Int))} {x : Int} {r : Nat → Int} {h0 h' : m_H} (e : z = .ok (x, r)) (er : h' 110 = r) (u : h' 108 13 = -1) : bmQ z x h0 h' := by rw [e]; exact ⟨rfl, er, u⟩
theorem bm_er {z : Except Int (Int × (Nat → Int))} {e : Int} {h0 h' : m_H} (ez : z = .error e) (er : h' 110 = h0 110) (u : h' 108 13 = e) : bmQ z (-6) h0 h' := by rw [ez]; exact ⟨rfl, er, u⟩
theorem er_b {z : Except Int (Int × (Nat → Int))} {e e' : Int} (ez : z = .error e) (f : e' = e) : z = .error e' := by rw [f]; exact ez
theorem ap_st {f : Nat → Int} {k : Int} {r r1 r2 : Nat → Int} (h0 : 0 ≤ k) (e : r1 = apA f k.toNat r) (d : r2 = act1 (f (5 * k).toNat) (f (5 * k + 1).toNat) (f (5 * k + 2).toNat) (f (5 * k + 3).toNat) (f (5 * k + 4).toNat) r1) : r2 = apA f (k + 1).toNat r := by
  rw [show (k + 1).toNat = k.toNat + 1 by omega]
  rw [show (5 * k).toNat = 5 * k.toNat by omega, show (5 * k + 1).toNat = 5 * k.toNat + 1 by omega, show (5 * k + 2).toNat = 5 * k.toNat + 2 by omega, show (5 * k + 3).toNat = 5 * k.toNat + 3 by omega, show (5 * k + 4).toNat = 5 * k.toNat + 4 by omega, e] at d
  exact d
abbrev P_X12_begin2 (h0 : m_H) : m_H → Prop := fun h' => GI h' ∧ FR [] [(108, 9), (108, 10), (108, 11), (108, 12), (108, 13), (108, 14)] h0 h' ∧ MTk h' ∧ Qm h' = nx (h0 113) (h0 108 8) 0 ∧ h' 108 14 = 0 ∧ h' 108 13 = -1
set_option maxHeartbeats 4000000 in
set_option maxRecDepth 100000 in
theorem c_X12_begin2 (h0 : m_H) (G0 : GI h0) : m_CV M_X12_begin [mR 108] h0 (P_X12_begin2 h0) := by
  refine m_CV_of ⟨by decide, rfl, by simp [m_arg, m_isL, M_X12_begin], ⟨rfl, rfl⟩, rfl, rfl⟩ (ls := [some (mR 108)]) rfl ?_
  refine z_aload_n (M := M_X12_begin) 0 dX12_begin_0 rfl ?_
  refine z_iconst (M := M_X12_begin) 1 dX12_begin_1 ?_
  refine z_putIH (M := M_X12_begin) 2 dX12_begin_2 p_X12_211 o_108 rfl (u_108_10 G0 (by omega) (by omega)) ((FR.rf (cs := []) (ss := [(108, 9), (108, 10), (108, 11), (108, 12), (108, 13), (108, 14)]) (h := h0)).up rfl) (fun h1 E1 G1 R1 => ?_)
  refine z_aload_n (M := M_X12_begin) 5 dX12_begin_5 rfl ?_
  refine z_iconst (M := M_X12_begin) 6 dX12_begin_6 ?_
  refine z_putZH (M := M_X12_begin) 7 dX12_begin_7 p_X12_214 o_108 rfl (by omega) (u_108_14 G1 (by omega) (by omega)) (R1.up rfl) (fun h2 E2 G2 R2 => ?_)
  refine z_aload_n (M := M_X12_begin) 10 dX12_begin_10 rfl ?_
  refine z_iconst (M := M_X12_begin) 11 dX12_begin_11 ?_
  refine z_putIH (M := M_X12_begin) 12 dX12_begin_12 p_X12_26 o_108 rfl (u_108_13 G2) (R2.up rfl) (fun h3 E3 G3 R3 => ?_)
  refine z_aload_n (M := M_X12_begin) 15 dX12_begin_15 rfl ?_
  refine z_vV (M := M_X12_begin) 16 dX12_begin_16 t_X12_next l_X12_218 (m_rr_of rfl) (rest := []) (c_X12_next2 h3 G3 (by have z_ : h3 108 10 = 0 := ((upN E3 (fun q => absurd q.2 (by decide))).trans ((upN E2 (fun q => absurd q.2 (by decide))).trans (upE E1))); have y_ := (g_108_8 G3).1; omega)) o_108 rfl rfl rfl (Nat.le_of_ble_eq_true rfl) ⟨rfl, rfl⟩ (fun h4 qx1 => ?_)
  obtain ⟨G4, S4, Tx1, Mx1⟩ := qx1
  have R4 := R3.call S4 (by decide +kernel)
  exact z_retV (M := M_X12_begin) 19 dX12_begin_19 rfl ⟨G4, R4, Mx1, bg_q Tx1 (rowz R3 (fun _ => rfl)) (R3 108 8 rfl) ((upN E3 (fun q => absurd q.2 (by decide))).trans ((upN E2 (fun q => absurd q.2 (by decide))).trans (upE E1))), ((S4 108 14 rfl).trans ((upN E3 (fun q => absurd q.2 (by decide))).trans (upE E2))), ((S4 108 13 rfl).trans (upE E3))⟩
abbrev P_X12_book2 (h0 : m_H) : Int → m_H → Prop := fun x h' => GI h' ∧ FR [109, 110, 114] [(108, 0), (108, 1), (108, 8), (108, 9), (108, 10), (108, 11), (108, 12), (108, 13), (108, 14), (108, 16), (108, 17), (108, 18)] h0 h' ∧ (-6) ≤ x ∧ x ≤ 401 ∧ h' 108 8 = 0 ∧ bmQ (rdBook (h0 113) (h0 108 8) 400 (nx (h0 113) (h0 108 8) 0) (h0 110) 1) x h0 h' ∧ NPi h0 h'
def q_X12_book2 (h0 : m_H) (n : Nat) : Prop := (∀ (l1 y_108_8 y_108_9 y_108_14 : Int) (h : m_H), GI h → FR [109, 110, 114] [(108, 0), (108, 1), (108, 8), (108, 9), (108, 10), (108, 11), (108, 12), (108, 13), (108, 14), (108, 16), (108, 17), (108, 18)] h0 h → 1 ≤ l1 → l1 ≤ 401 → 0 ≤ y_108_8 → y_108_8 ≤ 400 → 0 ≤ y_108_9 → y_108_9 ≤ 400 → 0 ≤ y_108_14 → y_108_14 ≤ 1 → (h 108 8 = y_108_8) → (h 108 9 = y_108_9) → (h 108 14 = y_108_14) → (y_108_14 = 1 → (rdBook (h0 113) (h0 108 8) 400 (nx (h0 113) (h0 108 8) 0) (h0 110) 1) = .error (h 108 13)) → (y_108_14 = 0 → ∃ p f, boM (rdBook (h0 113) (h0 108 8) 400 (nx (h0 113) (h0 108 8) 0) (h0 110) 1) (h0 113) (h0 108 8) l1 f p h) → (y_108_8 = h0 108 8) → (h 110 = h0 110) → (y_108_14 = 0 → 2 * l1 ≤ y_108_9 + 1) → (NPi h0 h) → 2 * (400 - y_108_9) + (404) ≤ (n : Int) → m_Z oF M_X12_book 30 [some (mR 108), some (mI l1), none] [] h (m_QI (P_X12_book2 h0))) ∧ (∀ (l1 l2 y_108_8 y_108_16 : Int) (h : m_H), GI h → FR [109, 110, 114] [(108, 0), (108, 1), (108, 8), (108, 9), (108, 10), (108, 11), (108, 12), (108, 13), (108, 14), (108, 16), (108, 17), (108, 18)] h0 h → 1 ≤ l1 → l1 ≤ 401 → 0 ≤ l2 → l2 ≤ 200 → 0 ≤ y_108_8 → y_108_8 ≤ 0 → 0 ≤ y_108_16 → y_108_16 ≤ 200 → (h 108 8 = y_108_8) → (h 108 16 = y_108_16) → (DI h l2.toNat) → (∃ r, (rdBook (h0 113) (h0 108 8) 400 (nx (h0 113) (h0 108 8) 0) (h0 110) 1) = .ok (l1, r) ∧ apA (h 114) y_108_16.toNat (h0 110) = r) → (h 110 = apA (h 114) l2.toNat (h0 110)) → (h 108 13 = -1) → (l2 ≤ y_108_16) → (NPi h0 h) → 2 * (200 - l2) + (1) ≤ (n : Int) → m_Z oF M_X12_book 100 [some (mR 108), some (mI l1), some (mI l2)] [] h (m_QI (P_X12_book2 h0)))
set_option maxHeartbeats 4000000 in
set_option maxRecDepth 100000 in
theorem s_X12_book2_30 (h0 : m_H) (G0 : GI h0) (n : Nat) (ih : q_X12_book2 h0 n) : ∀ (l1 y_108_8 y_108_9 y_108_14 : Int) (h : m_H), GI h → FR [109, 110, 114] [(108, 0), (108, 1), (108, 8), (108, 9), (108, 10), (108, 11), (108, 12), (108, 13), (108, 14), (108, 16), (108, 17), (108, 18)] h0 h → 1 ≤ l1 → l1 ≤ 401 → 0 ≤ y_108_8 → y_108_8 ≤ 400 → 0 ≤ y_108_9 → y_108_9 ≤ 400 → 0 ≤ y_108_14 → y_108_14 ≤ 1 → (h 108 8 = y_108_8) → (h 108 9 = y_108_9) → (h 108 14 = y_108_14) → (y_108_14 = 1 → (rdBook (h0 113) (h0 108 8) 400 (nx (h0 113) (h0 108 8) 0) (h0 110) 1) = .error (h 108 13)) → (y_108_14 = 0 → ∃ p f, boM (rdBook (h0 113) (h0 108 8) 400 (nx (h0 113) (h0 108 8) 0) (h0 110) 1) (h0 113) (h0 108 8) l1 f p h) → (y_108_8 = h0 108 8) → (h 110 = h0 110) → (y_108_14 = 0 → 2 * l1 ≤ y_108_9 + 1) → (NPi h0 h) → 2 * (400 - y_108_9) + (404) ≤ ((n + 1 : Nat) : Int) → m_Z oF M_X12_book 30 [some (mR 108), some (mI l1), none] [] h (m_QI (P_X12_book2 h0)) := by
  intro l1 y_108_8 y_108_9 y_108_14 h G R v0 v1 v2 v3 v4 v5 v6 v7 t_108_8 t_108_9 t_108_14 i0 i1 i2 i3 i4 i5 hr
  refine z_aload_n (M := M_X12_book) 30 dX12_book_30 rfl ?_
  refine z_getIE (M := M_X12_book) 31 dX12_book_31 f_X12_214 o_108 (by decide) t_108_14 ?_
  refine z_if_ne (M := M_X12_book) 34 dX12_book_34 60 rfl (fun c1 => ?_) (fun c1 => ?_)
  · refine z_aload_n (M := M_X12_book) 60 dX12_book_60 rfl ?_
    refine z_getIE (M := M_X12_book) 61 dX12_book_61 f_X12_214 o_108 (by decide) t_108_14 ?_
    refine z_if_ne_T (M := M_X12_book) 64 dX12_book_64 79 rfl (by omega) ?_
    refine z_aload_n (M := M_X12_book) 79 dX12_book_79 rfl ?_
    refine z_iconst (M := M_X12_book) 80 dX12_book_80 ?_
    refine z_putIH (M := M_X12_book) 81 dX12_book_81 p_X12_201 o_108 rfl (u_108_8 G (by omega) (by omega)) (R.up rfl) (fun h1 E1 G1 R1 => ?_)
    have rw_ : h1 110 = h0 110 := ((tl_r E1 (by decide)).trans i3)
    have fl_ : h1 108 13 = h 108 13 := upN E1 (by decide)
    refine z_aload_n (M := M_X12_book) 84 dX12_book_84 rfl ?_
    refine z_getIE (M := M_X12_book) 85 dX12_book_85 f_X12_214 o_108 (by decide) ((upN E1 (fun q => absurd q.2 (by decide))).trans t_108_14) ?_
    refine z_if_eq_F (M := M_X12_book) 88 dX12_book_88 98 rfl (by omega) ?_
    refine z_aload_n (M := M_X12_book) 91 dX12_book_91 rfl ?_
    refine z_bipush (M := M_X12_book) 92 dX12_book_92 ?_
    refine z_vI (M := M_X12_book) 94 dX12_book_94 t_X12_answer l_X12_147 (m_rr_of rfl) (rest := []) (c_X12_answer h1 (-6) G1 ⟨by omega, by omega⟩) o_108 rfl rfl rfl (Nat.le_of_ble_eq_true rfl) ⟨rfl, rfl⟩ (fun x2 h2 qx2 => ?_)
    obtain ⟨G2, S2, rfl⟩ := qx2
    have R2 := R1.call S2 (by decide +kernel)
    have z8 : h2 108 8 = 0 := ((S2 108 8 rfl).trans (upE E1))
    exact z_retI (M := M_X12_book) 97 dX12_book_97 rfl ⟨G2, R2, by omega, by omega, by omega, bm_er (i0 (by omega)) ((rowz S2 (fun _ => rfl)).trans rw_) ((S2 108 13 rfl).trans fl_), (NPi.call (NPi.put i5 E1 (by decide)) S2 (fun _ => rfl) (fun _ => rfl) (fun _ => rfl))⟩
  · obtain ⟨p_, f_, M_, A_, N_, Q_, V_, Z_, F_, K_⟩ := i1 (by omega)
    have ef_ : f_ = (f_ - 1) + 1 := by have := i4 (by omega); omega
    have q1_ := i4 (by omega)
    have hb0_ : h 108 14 = 0 := t_108_14.trans (by omega)
    have en_ := M_.end
    have lt_ := M_.2.2
    refine z_aload_n (M := M_X12_book) 37 dX12_book_37 rfl ?_
    refine z_bipush (M := M_X12_book) 38 dX12_book_38 ?_
    refine z_vI (M := M_X12_book) 40 dX12_book_40 t_X12_isSign l_X12_300 (m_rr_of rfl) (rest := []) (c_X12_isSign h 59 G) o_108 rfl rfl rfl (Nat.le_of_ble_eq_true rfl) ⟨rfl, rfl⟩ (fun x3 h3 qx3 => ?_)
    obtain ⟨rfl, ⟨rfl, cx3⟩ | ⟨rfl, cx3⟩⟩ := qx3
    · refine z_if_eq_F (M := M_X12_book) 43 dX12_book_43 60 rfl (by omega) ?_
      refine z_aload_n (M := M_X12_book) 46 dX12_book_46 rfl ?_
      refine z_vV (M := M_X12_book) 47 dX12_book_47 t_X12_next l_X12_218 (m_rr_of rfl) (rest := []) (c_X12_next2 h G M_.2.2.2) o_108 rfl rfl rfl (Nat.le_of_ble_eq_true rfl) ⟨rfl, rfl⟩ (fun h4 qx4 => ?_)
      obtain ⟨G4, S4, Tx4, Mx4⟩ := qx4
      have R4 := R.call S4 (by decide +kernel)
      have A4 := A_.fr S4 (fun _ => rfl) rfl rfl rfl rfl rfl
      have Qx4 : Qm h4 = (nxt (h0 113) (h0 108 8) p_.1) := nx_m (rowz R (fun _ => rfl)) (t_108_8.trans i2) Q_ (g_108_10 G).1 Tx4
      have Px4 : h 108 10 ≤ h4 108 9 := Tx4.1.1
      have Lx4 : h 108 9 < h 108 10 := M_.lt (by omega)
      have na4 : h4 108 16 = h 108 16 := S4 108 16 rfl
      have V4 : vr h4 = p_.2 := (vr_S S4 (fun _ => rfl) rfl (fun _ => rfl)).trans V_
      refine z_aload_n (M := M_X12_book) 50 dX12_book_50 rfl ?_
      have nn4 : 2 * h4 108 16 ≤ h4 108 9 := by omega
      refine z_vV (M := M_X12_book) 51 dX12_book_51 t_X12_readClause l_X12_321 (m_rr_of rfl) (rest := []) (c_X12_readClause2 h4 G4 ((S4 108 14 rfl).trans hb0_) Mx4 A4 nn4) o_108 rfl rfl rfl (Nat.le_of_ble_eq_true rfl) ⟨rfl, rfl⟩ (fun h5 qx5 => ?_)
      obtain ⟨G5, S5, Kx5, Jx5, Ix5⟩ := qx5
      have R5 := R4.call S5 (by decide +kernel)
      rcases md_cs (md_c (F := fun b n q r => rdCl b n q r) (rowz R4 (fun _ => rfl)) (((S4 108 8 rfl).trans t_108_8).trans i2) Qx4 V4 Kx5) with ⟨px5, Zx5, bx5, Mx5, Ax5, Px5_, Qx5, Vx5, flx5⟩ | ⟨ex5, Zx5, bx5, fx5⟩
      · have Ix5_ := Ix5 bx5
        refine z_iincN (M := M_X12_book) 54 dX12_book_54 (ls' := [some (mR 108), some (mI (l1 + 1)), none]) (by decide) rfl (by (unfold m_32; decide)) (by omega) (by omega) rfl ?_
        refine z_goto (M := M_X12_book) 57 dX12_book_57 30 rfl ?_
        obtain ⟨x6, ex6⟩ : ∃ y : Int, h5 108 9 = y := ⟨_, rfl⟩
        have bx6 : 0 ≤ x6 ∧ x6 ≤ 400 := ex6 ▸ g_108_9 G5
        have bb_ : h5 108 14 = 0 := bx5
        have gf_ := (g_108_9 G5).2
        exact z_mask [true, true, false] rfl (ih.1 (l1 + 1) y_108_8 x6 0 h5 G5 R5 (by omega) (by omega) (by omega) (by omega) (by omega) (by omega) (by omega) (by omega) ((S5 108 8 rfl).trans ((S4 108 8 rfl).trans t_108_8)) ex6 bx5 (fun q => by omega) (fun _ => ⟨px5, f_ - 1, Mx5, Ax5, (by omega), Qx5, Vx5, (Z_.trans ((cif_neg (by rw [← Q_]; show ¬ h0 108 8 ≤ h 108 9; omega)).trans ((cif_pos ((iw_c (rowz R (fun _ => rfl)) Q_ (mw_15 M_ (g_108_9 G).1)).mpr cx3)).trans (by rw [ef_]; exact bk_un Zx5)))), (flx5.trans ((S4 108 13 rfl).trans F_)), (by omega)⟩) (by omega) ((rowz S5 (fun _ => rfl)).trans ((rowz S4 (fun _ => rfl)).trans i3)) (fun _ => by omega) (NPi.call (NPi.call i5 S4 (fun _ => rfl) (fun _ => rfl) (fun _ => rfl)) S5 (fun _ => rfl) (fun _ => rfl) (fun _ => rfl)) (by omega))
      · refine z_iincN (M := M_X12_book) 54 dX12_book_54 (ls' := [some (mR 108), some (mI (l1 + 1)), none]) (by decide) rfl (by (unfold m_32; decide)) (by omega) (by omega) rfl ?_
        refine z_goto (M := M_X12_book) 57 dX12_book_57 30 rfl ?_
        obtain ⟨x7, ex7⟩ : ∃ y : Int, h5 108 9 = y := ⟨_, rfl⟩
        have bx7 : 0 ≤ x7 ∧ x7 ≤ 400 := ex7 ▸ g_108_9 G5
        have bb_ : h5 108 14 = 1 := bx5
        have gf_ := (g_108_9 G5).2
        exact z_mask [true, true, false] rfl (ih.1 (l1 + 1) y_108_8 x7 1 h5 G5 R5 (by omega) (by omega) (by omega) (by omega) (by omega) (by omega) (by omega) (by omega) ((S5 108 8 rfl).trans ((S4 108 8 rfl).trans t_108_8)) ex7 bx5 (fun _ => er_b (Z_.trans ((cif_neg (by rw [← Q_]; show ¬ h0 108 8 ≤ h 108 9; omega)).trans ((cif_pos ((iw_c (rowz R (fun _ => rfl)) Q_ (mw_15 M_ (g_108_9 G).1)).mpr cx3)).trans (by rw [ef_]; exact bk_er Zx5)))) fx5) (fun q => by omega) (by omega) ((rowz S5 (fun _ => rfl)).trans ((rowz S4 (fun _ => rfl)).trans i3)) (fun q => by omega) (NPi.call (NPi.call i5 S4 (fun _ => rfl) (fun _ => rfl) (fun _ => rfl)) S5 (fun _ => rfl) (fun _ => rfl) (fun _ => rfl)) (by omega))
    · refine z_if_eq_T (M := M_X12_book) 43 dX12_book_43 60 rfl (by omega) ?_
      refine z_aload_n (M := M_X12_book) 60 dX12_book_60 rfl ?_
      refine z_getIE (M := M_X12_book) 61 dX12_book_61 f_X12_214 o_108 (by decide) hb0_ ?_
      refine z_if_ne_F (M := M_X12_book) 64 dX12_book_64 79 rfl (by omega) ?_
      refine z_aload_n (M := M_X12_book) 67 dX12_book_67 rfl ?_
      refine z_getIG (M := M_X12_book) 68 dX12_book_68 f_X12_234 o_108 (by decide) (g_108_11 G) (fun x8 ex8 ax8 bx8 => ?_)
      refine z_if_eq (M := M_X12_book) 71 dX12_book_71 79 rfl (fun c9 => ?_) (fun c9 => ?_)
      · refine z_aload_n (M := M_X12_book) 79 dX12_book_79 rfl ?_
        refine z_iconst (M := M_X12_book) 80 dX12_book_80 ?_
        refine z_putIH (M := M_X12_book) 81 dX12_book_81 p_X12_201 o_108 rfl (u_108_8 G (by omega) (by omega)) (R.up rfl) (fun h6 E6 G6 R6 => ?_)
        have A6 := A_.same (fun j => upN E6 (fun q => absurd q.1 (by decide))) (upN E6 (by decide)) (upN E6 (by decide)) (upN E6 (by decide)) (upN E6 (by decide)) (upN E6 (by decide))
        have rw_ : h6 110 = h0 110 := ((tl_r E6 (by decide)).trans i3)
        have fl_ : h6 108 13 = (-1) := ((upN E6 (fun q => absurd q.2 (by decide))).trans F_)
        have vv_ : vr h6 = p_.2 := (vr_up E6 (by decide)).trans V_
        refine z_aload_n (M := M_X12_book) 84 dX12_book_84 rfl ?_
        refine z_getIE (M := M_X12_book) 85 dX12_book_85 f_X12_214 o_108 (by decide) ((upN E6 (fun q => absurd q.2 (by decide))).trans hb0_) ?_
        refine z_if_eq_T (M := M_X12_book) 88 dX12_book_88 98 rfl (by omega) ?_
        refine z_iconst (M := M_X12_book) 98 dX12_book_98 ?_
        refine z_istore_n (M := M_X12_book) 99 dX12_book_99 (ls' := [some (mR 108), some (mI l1), some (mI 0)]) (by decide) rfl ?_
        obtain ⟨x10, ex10⟩ : ∃ y : Int, h6 108 16 = y := ⟨_, rfl⟩
        have bx10 : 0 ≤ x10 ∧ x10 ≤ 200 := ex10 ▸ g_108_16 G6
        have n16_ : h6 108 16 = x10 := ex10
        have gg_ := (g_108_16 G6)
        exact z_mask [true, true, true] rfl (ih.2 l1 0 0 x10 h6 G6 R6 (by omega) (by omega) (by omega) (by omega) (by omega) (by omega) (by omega) (by omega) (upE E6) ex10 (DI_0 A6) ⟨p_.2, (Z_.trans (cif_pos (by rw [← Q_]; show h0 108 8 ≤ h 108 9; omega))), (by rw [← n16_, ← rw_]; exact vv_)⟩ (by rw [rw_]; rfl) fl_ (by omega) (NPi.put i5 E6 (by decide)) (by omega))
      · refine z_aload_n (M := M_X12_book) 74 dX12_book_74 rfl ?_
        refine z_iconst (M := M_X12_book) 75 dX12_book_75 ?_
        refine z_vV (M := M_X12_book) 76 dX12_book_76 t_X12_must l_X12_247 (m_rr_of rfl) (rest := []) (c_X12_must_0 h 0 G ⟨by omega, by omega⟩ hb0_) o_108 rfl rfl rfl (Nat.le_of_ble_eq_true rfl) ⟨rfl, rfl⟩ (fun h7 qx11 => ?_)
        obtain ⟨G7, S7, bx11, fx11⟩ := qx11
        have R7 := R.call S7 (by decide +kernel)
        have A7 := A_.fr S7 (fun _ => rfl) rfl rfl rfl rfl rfl
        have Px11 : h7 108 9 = h 108 9 := S7 108 9 rfl
        have fpx11 : h7 108 13 = p_.1.1 := fx11.trans (fst_m Q_)
        refine z_aload_n (M := M_X12_book) 79 dX12_book_79 rfl ?_
        refine z_iconst (M := M_X12_book) 80 dX12_book_80 ?_
        refine z_putIH (M := M_X12_book) 81 dX12_book_81 p_X12_201 o_108 rfl (u_108_8 G7 (by omega) (by omega)) (R7.up rfl) (fun h8 E8 G8 R8 => ?_)
        have rw_ : h8 110 = h0 110 := ((tl_r E8 (by decide)).trans ((rowz S7 (fun _ => rfl)).trans i3))
        have fl_ : h8 108 13 = p_.1.1 := ((upN E8 (fun q => absurd q.2 (by decide))).trans fpx11)
        refine z_aload_n (M := M_X12_book) 84 dX12_book_84 rfl ?_
        refine z_getIE (M := M_X12_book) 85 dX12_book_85 f_X12_214 o_108 (by decide) ((upN E8 (fun q => absurd q.2 (by decide))).trans bx11) ?_
        refine z_if_eq_F (M := M_X12_book) 88 dX12_book_88 98 rfl (by omega) ?_
        refine z_aload_n (M := M_X12_book) 91 dX12_book_91 rfl ?_
        refine z_bipush (M := M_X12_book) 92 dX12_book_92 ?_
        refine z_vI (M := M_X12_book) 94 dX12_book_94 t_X12_answer l_X12_147 (m_rr_of rfl) (rest := []) (c_X12_answer h8 (-6) G8 ⟨by omega, by omega⟩) o_108 rfl rfl rfl (Nat.le_of_ble_eq_true rfl) ⟨rfl, rfl⟩ (fun x12 h9 qx12 => ?_)
        obtain ⟨G9, S9, rfl⟩ := qx12
        have R9 := R8.call S9 (by decide +kernel)
        have z8 : h9 108 8 = 0 := ((S9 108 8 rfl).trans (upE E8))
        exact z_retI (M := M_X12_book) 97 dX12_book_97 rfl ⟨G9, R9, by omega, by omega, by omega, bm_er (Z_.trans ((cif_neg (by rw [← Q_]; show ¬ h0 108 8 ≤ h 108 9; omega)).trans (cif_neg (fun z => cx3 ((iw_c (rowz R (fun _ => rfl)) Q_ (mw_15 M_ (g_108_9 G).1)).mp z))))) ((rowz S9 (fun _ => rfl)).trans rw_) ((S9 108 13 rfl).trans fl_), (NPi.call (NPi.put (NPi.call i5 S7 (fun _ => rfl) (fun _ => rfl) (fun _ => rfl)) E8 (by decide)) S9 (fun _ => rfl) (fun _ => rfl) (fun _ => rfl))⟩
set_option maxHeartbeats 4000000 in
set_option maxRecDepth 100000 in
theorem s_X12_book2_100 (h0 : m_H) (G0 : GI h0) (n : Nat) (ih : q_X12_book2 h0 n) : ∀ (l1 l2 y_108_8 y_108_16 : Int) (h : m_H), GI h → FR [109, 110, 114] [(108, 0), (108, 1), (108, 8), (108, 9), (108, 10), (108, 11), (108, 12), (108, 13), (108, 14), (108, 16), (108, 17), (108, 18)] h0 h → 1 ≤ l1 → l1 ≤ 401 → 0 ≤ l2 → l2 ≤ 200 → 0 ≤ y_108_8 → y_108_8 ≤ 0 → 0 ≤ y_108_16 → y_108_16 ≤ 200 → (h 108 8 = y_108_8) → (h 108 16 = y_108_16) → (DI h l2.toNat) → (∃ r, (rdBook (h0 113) (h0 108 8) 400 (nx (h0 113) (h0 108 8) 0) (h0 110) 1) = .ok (l1, r) ∧ apA (h 114) y_108_16.toNat (h0 110) = r) → (h 110 = apA (h 114) l2.toNat (h0 110)) → (h 108 13 = -1) → (l2 ≤ y_108_16) → (NPi h0 h) → 2 * (200 - l2) + (1) ≤ ((n + 1 : Nat) : Int) → m_Z oF M_X12_book 100 [some (mR 108), some (mI l1), some (mI l2)] [] h (m_QI (P_X12_book2 h0)) := by
  intro l1 l2 y_108_8 y_108_16 h G R v0 v1 v2 v3 v4 v5 v6 v7 t_108_8 t_108_16 i0 i1 i2 i3 i4 i5 hr
  obtain ⟨r_, zr_, ar_⟩ := i1
  refine z_iload_n (M := M_X12_book) 100 dX12_book_100 rfl ?_
  refine z_aload_n (M := M_X12_book) 101 dX12_book_101 rfl ?_
  refine z_getIE (M := M_X12_book) 102 dX12_book_102 f_X12_251 o_108 (by decide) t_108_16 ?_
  refine z_icmp_ge (M := M_X12_book) 105 dX12_book_105 121 rfl (fun c1 => ?_) (fun c1 => ?_)
  · refine z_aload_n (M := M_X12_book) 121 dX12_book_121 rfl ?_
    refine z_iload_n (M := M_X12_book) 122 dX12_book_122 rfl ?_
    refine z_vI (M := M_X12_book) 123 dX12_book_123 t_X12_answer l_X12_147 (m_rr_of rfl) (rest := []) (c_X12_answer h l1 G ⟨by omega, by omega⟩) o_108 rfl rfl rfl (Nat.le_of_ble_eq_true rfl) ⟨rfl, rfl⟩ (fun x2 h1 qx2 => ?_)
    obtain ⟨G1, S1, rfl⟩ := qx2
    have R1 := R.call S1 (by decide +kernel)
    have z8 : h1 108 8 = y_108_8 := ((S1 108 8 rfl).trans t_108_8)
    exact z_retI (M := M_X12_book) 126 dX12_book_126 rfl ⟨G1, R1, by omega, by omega, by omega, bm_ok zr_ ((rowz S1 (fun _ => rfl)).trans (i2.trans (by rw [show l2.toNat = y_108_16.toNat by omega]; exact ar_))) ((S1 108 13 rfl).trans i3), (NPi.call i5 S1 (fun _ => rfl) (fun _ => rfl) (fun _ => rfl))⟩
  · refine z_aload_n (M := M_X12_book) 108 dX12_book_108 rfl ?_
    refine z_iconst (M := M_X12_book) 109 dX12_book_109 ?_
    refine z_iload_n (M := M_X12_book) 110 dX12_book_110 rfl ?_
    refine z_imulN (M := M_X12_book) 111 dX12_book_111 (by omega) (by omega) ?_
    have w3 : h 108 16 = y_108_16 := t_108_16
    have dq := DI_args i0 (by omega) (by omega)
    refine z_vV (M := M_X12_book) 112 dX12_book_112 t_X12_doAct l_X12_324 (m_rr_of rfl) (rest := []) (c_X12_doAct2 h (5 * l2) G ⟨by omega, by omega⟩ dq.1 dq.2.1 dq.2.2) o_108 rfl rfl rfl (Nat.le_of_ble_eq_true rfl) ⟨rfl, rfl⟩ (fun h2 qx4 => ?_)
    obtain ⟨G2, S2, fx4_0, fx4_1, fx4_2, npx4⟩ := qx4
    have R2 := R.call S2 (by decide +kernel)
    refine z_iincN (M := M_X12_book) 115 dX12_book_115 (ls' := [some (mR 108), some (mI l1), some (mI (l2 + 1))]) (by decide) rfl (by (unfold m_32; decide)) (by omega) (by omega) rfl ?_
    refine z_goto (M := M_X12_book) 118 dX12_book_118 100 rfl ?_
    exact z_mask [true, true, true] rfl (ih.2 l1 (l2 + 1) y_108_8 y_108_16 h2 G2 R2 (by omega) (by omega) (by omega) (by omega) (by omega) (by omega) (by omega) (by omega) ((S2 108 8 rfl).trans t_108_8) ((S2 108 16 rfl).trans t_108_16) (DI_nx i0 (by omega) (by omega) S2 (fun _ => rfl) rfl fx4_0 fx4_1) ⟨r_, zr_, (by rw [rowz (c := 114) S2 (fun _ => rfl)]; exact ar_)⟩ (by rw [rowz (c := 114) S2 (fun _ => rfl)]; exact ap_st (by omega) i2 fx4_2) ((S2 108 13 rfl).trans i3) (by omega) (NPi.tr i5 npx4) (by omega))
theorem a_X12_book2 (h0 : m_H) (G0 : GI h0) : ∀ n, q_X12_book2 h0 n := by
  intro n
  induction n with
  | zero => unfold q_X12_book2; refine ⟨?_, ?_⟩ <;> (intros; omega)
  | succ n ih => exact ⟨s_X12_book2_30 h0 G0 n ih, s_X12_book2_100 h0 G0 n ih⟩
set_option maxHeartbeats 4000000 in
set_option maxRecDepth 100000 in
theorem c_X12_book2 (h0 : m_H) (G0 : GI h0) : m_CI M_X12_book [mR 108] h0 (P_X12_book2 h0) := by
  refine m_CI_of ⟨by decide, rfl, by simp [m_arg, m_isL, M_X12_book], ⟨rfl, rfl⟩, rfl, rfl⟩ (ls := [some (mR 108), none, none]) rfl ?_
  have ih := a_X12_book2 h0 G0 1211
  obtain ⟨x1, ex1⟩ : ∃ y : Int, h0 108 8 = y := ⟨_, rfl⟩
  have bx1 : 0 ≤ x1 ∧ x1 ≤ 400 := ex1 ▸ g_108_8 G0
  refine z_aload_n (M := M_X12_book) 0 dX12_book_0 rfl ?_
  refine z_iconst (M := M_X12_book) 1 dX12_book_1 ?_
  refine z_putIH (M := M_X12_book) 2 dX12_book_2 p_X12_133 o_108 rfl (u_108_0 G0) ((FR.rf (cs := [109, 110, 114]) (ss := [(108, 0), (108, 1), (108, 8), (108, 9), (108, 10), (108, 11), (108, 12), (108, 13), (108, 14), (108, 16), (108, 17), (108, 18)]) (h := h0)).up rfl) (fun h1 E1 G1 R1 => ?_)
  refine z_aload_n (M := M_X12_book) 5 dX12_book_5 rfl ?_
  refine z_iconst (M := M_X12_book) 6 dX12_book_6 ?_
  refine z_putIH (M := M_X12_book) 7 dX12_book_7 p_X12_251 o_108 rfl (u_108_16 G1 (by omega) (by omega)) (R1.up rfl) (fun h2 E2 G2 R2 => ?_)
  refine z_aload_n (M := M_X12_book) 10 dX12_book_10 rfl ?_
  refine z_iconst (M := M_X12_book) 11 dX12_book_11 ?_
  refine z_putIH (M := M_X12_book) 12 dX12_book_12 p_X12_282 o_108 rfl (u_108_17 G2 (by omega) (by omega)) (R2.up rfl) (fun h3 E3 G3 R3 => ?_)
  refine z_aload_n (M := M_X12_book) 15 dX12_book_15 rfl ?_
  refine z_iconst (M := M_X12_book) 16 dX12_book_16 ?_
  refine z_putIH (M := M_X12_book) 17 dX12_book_17 p_X12_277 o_108 rfl (u_108_18 G3 (by omega) (by omega)) (R3.up rfl) (fun h4 E4 G4 R4 => ?_)
  refine z_aload_n (M := M_X12_book) 20 dX12_book_20 rfl ?_
  refine z_vV (M := M_X12_book) 21 dX12_book_21 t_X12_begin l_X12_318 (m_rr_of rfl) (rest := []) (c_X12_begin2 h4 G4) o_108 rfl rfl rfl (Nat.le_of_ble_eq_true rfl) ⟨rfl, rfl⟩ (fun h5 qx2 => ?_)
  obtain ⟨G5, S5, Mx2, Kx2, bx2, fx2⟩ := qx2
  have R5 := R4.call S5 (by decide +kernel)
  have Qb : Qm h5 = nx (h0 113) (h0 108 8) 0 := Kx2.trans (by rw [(rowz R4 (fun _ => rfl)), (((upN E4 (fun q => absurd q.2 (by decide))).trans ((upN E3 (fun q => absurd q.2 (by decide))).trans ((upN E2 (fun q => absurd q.2 (by decide))).trans ((upN E1 (fun q => absurd q.2 (by decide))).trans ex1)))).trans ex1.symm)])
  have n16 : h5 108 16 = 0 := ((S5 108 16 rfl).trans ((upN E4 (fun q => absurd q.2 (by decide))).trans ((upN E3 (fun q => absurd q.2 (by decide))).trans (upE E2))))
  have n17 : h5 108 17 = 0 := ((S5 108 17 rfl).trans ((upN E4 (fun q => absurd q.2 (by decide))).trans (upE E3)))
  have n18 : h5 108 18 = 0 := ((S5 108 18 rfl).trans (upE E4))
  have row0 : h5 110 = h0 110 := (rowz S5 (fun _ => rfl)).trans ((tl_r E4 (by decide)).trans ((tl_r E3 (by decide)).trans ((tl_r E2 (by decide)).trans (tl_r E1 (by decide)))))
  have Ab := AI_0 n16 n17 n18 (gw_0 G5).2 (gw_1 G5).2
  have Vb : vr h5 = h0 110 := vr_0 n16 row0
  have p9 := (g_108_9 G5).1
  refine z_iconst (M := M_X12_book) 24 dX12_book_24 ?_
  refine z_istore_n (M := M_X12_book) 25 dX12_book_25 (ls' := [some (mR 108), some (mI 1), none]) (by decide) rfl ?_
  refine z_aload_n (M := M_X12_book) 26 dX12_book_26 rfl ?_
  have nn5 : 2 * h5 108 16 ≤ h5 108 9 := by omega
  refine z_vV (M := M_X12_book) 27 dX12_book_27 t_X12_readClause l_X12_321 (m_rr_of rfl) (rest := []) (c_X12_readClause2 h5 G5 bx2 Mx2 Ab nn5) o_108 rfl rfl rfl (Nat.le_of_ble_eq_true rfl) ⟨rfl, rfl⟩ (fun h6 qx3 => ?_)
  obtain ⟨G6, S6, Kx3, Jx3, Ix3⟩ := qx3
  have R6 := R5.call S6 (by decide +kernel)
  rcases md_cs (md_c (F := fun b n q r => rdCl b n q r) (rowz R5 (fun _ => rfl)) (((S5 108 8 rfl).trans ((upN E4 (fun q => absurd q.2 (by decide))).trans ((upN E3 (fun q => absurd q.2 (by decide))).trans ((upN E2 (fun q => absurd q.2 (by decide))).trans ((upN E1 (fun q => absurd q.2 (by decide))).trans ex1))))).trans ex1.symm) Qb Vb Kx3) with ⟨px3, Zx3, bx3, Mx3, Ax3, Px3_, Qx3, Vx3, flx3⟩ | ⟨ex3, Zx3, bx3, fx3⟩
  · have Ix3_ := Ix3 bx3
    obtain ⟨x4, ex4⟩ : ∃ y : Int, h6 108 9 = y := ⟨_, rfl⟩
    have bx4 : 0 ≤ x4 ∧ x4 ≤ 400 := ex4 ▸ g_108_9 G6
    have bb_ : h6 108 14 = 0 := bx3
    have gf_ := (g_108_9 G6).2
    exact z_mask [true, true, false] rfl (ih.1 1 x1 x4 0 h6 G6 R6 (by omega) (by omega) (by omega) (by omega) (by omega) (by omega) (by omega) (by omega) ((S6 108 8 rfl).trans ((S5 108 8 rfl).trans ((upN E4 (fun q => absurd q.2 (by decide))).trans ((upN E3 (fun q => absurd q.2 (by decide))).trans ((upN E2 (fun q => absurd q.2 (by decide))).trans ((upN E1 (fun q => absurd q.2 (by decide))).trans ex1)))))) ex4 bx3 (fun q => by omega) (fun _ => ⟨px3, 399, Mx3, Ax3, (by omega), Qx3, Vx3, bk_un Zx3, (flx3.trans fx2), (by omega)⟩) (by have z_ := ((S6 108 8 rfl).trans ((S5 108 8 rfl).trans ((upN E4 (fun q => absurd q.2 (by decide))).trans ((upN E3 (fun q => absurd q.2 (by decide))).trans ((upN E2 (fun q => absurd q.2 (by decide))).trans ((upN E1 (fun q => absurd q.2 (by decide))).trans ex1)))))); have y_ := ex1; omega) ((rowz S6 (fun _ => rfl)).trans row0) (fun _ => by omega) (NPi.call (NPi.call (NPi.put (NPi.put (NPi.put (NPi.put NPi.rf E1 (by decide)) E2 (by decide)) E3 (by decide)) E4 (by decide)) S5 (fun _ => rfl) (fun _ => rfl) (fun _ => rfl)) S6 (fun _ => rfl) (fun _ => rfl) (fun _ => rfl)) (by omega))
  · obtain ⟨x5, ex5⟩ : ∃ y : Int, h6 108 9 = y := ⟨_, rfl⟩
    have bx5 : 0 ≤ x5 ∧ x5 ≤ 400 := ex5 ▸ g_108_9 G6
    have bb_ : h6 108 14 = 1 := bx3
    have gf_ := (g_108_9 G6).2
    exact z_mask [true, true, false] rfl (ih.1 1 x1 x5 1 h6 G6 R6 (by omega) (by omega) (by omega) (by omega) (by omega) (by omega) (by omega) (by omega) ((S6 108 8 rfl).trans ((S5 108 8 rfl).trans ((upN E4 (fun q => absurd q.2 (by decide))).trans ((upN E3 (fun q => absurd q.2 (by decide))).trans ((upN E2 (fun q => absurd q.2 (by decide))).trans ((upN E1 (fun q => absurd q.2 (by decide))).trans ex1)))))) ex5 bx3 (fun _ => er_b (bk_er Zx3) fx3) (fun q => by omega) (by have z_ := ((S6 108 8 rfl).trans ((S5 108 8 rfl).trans ((upN E4 (fun q => absurd q.2 (by decide))).trans ((upN E3 (fun q => absurd q.2 (by decide))).trans ((upN E2 (fun q => absurd q.2 (by decide))).trans ((upN E1 (fun q => absurd q.2 (by decide))).trans ex1)))))); have y_ := ex1; omega) ((rowz S6 (fun _ => rfl)).trans row0) (fun q => by omega) (NPi.call (NPi.call (NPi.put (NPi.put (NPi.put (NPi.put NPi.rf E1 (by decide)) E2 (by decide)) E3 (by decide)) E4 (by decide)) S5 (fun _ => rfl) (fun _ => rfl) (fun _ => rfl)) S6 (fun _ => rfl) (fun _ => rfl) (fun _ => rfl)) (by omega))
/-! the calls, over rows -/
noncomputable def spSet (V : Prop) (i : Nat) (v : Int) (r : Nat → Int) : Int × (Nat → Int) := cif V (r i, rU r i v) (-1, r)
noncomputable def spShort (a b : Int) (r : Nat → Int) : Int × (Nat → Int) := cif (((0 ≤ a ∧ a ≤ 3) ∧ (0 ≤ b ∧ b ≤ 3)) ∧ a ≠ b) (cif (iS r a b) (-3, r) (cif (r 1 ≤ 5) (r 1 + 1, rS r a b) (-5, r))) (-1, r)
def canE (t w n k : Int) : Prop := (0 ≤ t ∧ t ≤ 5) ∧ (0 ≤ w ∧ w ≤ 31) ∧ (1 ≤ n ∧ n ≤ 99) ∧ (0 ≤ k ∧ k ≤ 2)
noncomputable def spEntry (t w n k : Int) (r : Nat → Int) : Int × (Nat → Int) := cif (canE t w n k) (cif (r 0 ≤ 23) (r 0, rE r t w n k) (-5, r)) (-1, r)
noncomputable def spCount (e c : Int) (r : Nat → Int) : Nat → Int := cif ((0 ≤ e ∧ e < r 0) ∧ (0 ≤ c ∧ c ≤ 1)) (rU r (5 * e.toNat + 84) c) r
/-- a class's call does to its ledger what sp does to the row -/
def cR (sp : (Nat → Int) → Int × (Nat → Int)) (x : Int) (h0 h' : m_H) : Prop := ∀ r, LR 1 h0 r → x = (sp r).1 ∧ LR 1 h' (sp r).2
def mRr (sp : (Nat → Int) → Int × (Nat → Int)) (x : Int) (h0 h' : m_H) : Prop := x = (sp (h0 110)).1 ∧ h' 110 = (sp (h0 110)).2
theorem LR.S {L : Nat} {cs : List Nat} {ss : List (Nat × Nat)} {h h' : m_H} {r : Nat → Int} (R : LR L h r) (S : FR cs ss h h') (o : out L (L + 7) cs ss = true) : LR L h' r := R.same (fun i hi j => S _ j (fr_out o (by omega) (by omega) j)) (fun _ _ => rfl)
theorem LR.k2 {h h' : m_H} {r : Nat → Int} {i v : Int} (R : LR 1 h r) (h0 : 0 ≤ i) (h1 : i ≤ 31) (E : h' = m_up h 2 i.toNat v) : LR 1 h' (rU r (10 + i.toNat) v) := by
  have z := R.setU (i := i.toNat) (Or.inl ⟨rfl, by omega⟩) E
  rw [if_pos rfl] at z; exact z
theorem LR.k3 {h h' : m_H} {r : Nat → Int} {i v : Int} (R : LR 1 h r) (h0 : 0 ≤ i) (h1 : i ≤ 5) (E : h' = m_up h 3 i.toNat v) : LR 1 h' (rU r (42 + i.toNat) v) := by
  have z := R.setU (i := i.toNat) (Or.inr (Or.inl ⟨rfl, by omega⟩)) E
  rw [if_neg (by decide), if_pos rfl] at z; exact z
theorem LR.k8 {h h' : m_H} {r : Nat → Int} {i v : Int} (R : LR 1 h r) (h0 : 0 ≤ i) (h1 : i ≤ 15) (E : h' = m_up h 8 i.toNat v) : LR 1 h' (rU r (60 + i.toNat) v) := by
  have z := R.setU (i := i.toNat) (Or.inr (Or.inr ⟨rfl, by omega⟩)) E
  rw [if_neg (by decide), if_neg (by decide)] at z; exact z
theorem cR_no {V : Prop} {i : Nat} {v : Int} {cs : List Nat} {ss : List (Nat × Nat)} {h0 h' : m_H} (n : ¬ V) (S : FR cs ss h0 h') (o : out 1 8 cs ss = true) : cR (spSet V i v) (-1) h0 h' := fun r R => by unfold spSet; rw [cif_neg n]; exact ⟨rfl, R.S S o⟩
theorem cR_yes {V : Prop} {i c j : Nat} {v x : Int} {cs : List Nat} {ss : List (Nat × Nat)} {h0 h1 h' : m_H} (y : V) (ex : h0 c j = x) (er : ∀ r, LR 1 h0 r → h0 c j = r i) (up : ∀ r, LR 1 h0 r → LR 1 h1 (rU r i v)) (S : FR cs ss h1 h') (o : out 1 8 cs ss = true) : cR (spSet V i v) x h0 h' := fun r R => by
  unfold spSet; rw [cif_pos y]; exact ⟨ex.symm.trans (er r R), (up r R).S S o⟩
theorem mR_no {V : Prop} {i k : Nat} {v w : Int} {cs : List Nat} {ss : List (Nat × Nat)} {h0 h1 h' : m_H} (n : ¬ V) (E : h1 = m_up h0 108 k w) (S : FR cs ss h1 h') (o : ∀ j, fr cs ss 110 j = false) : mRr (spSet V i v) (-1) h0 h' := by
  unfold mRr spSet; rw [cif_neg n]; exact ⟨rfl, (rowz S o).trans (tl_r E (by decide))⟩
theorem mR_yes {V : Prop} {i k j : Nat} {v w x : Int} {h0 h1 h' : m_H} (y : V) (E : h1 = m_up h0 108 k w) (ei : j = i) (f0 : h1 110 j = x) (f1 : ∀ q : Nat, q ≠ j → h' 110 q = h1 110 q) (f2 : h' 110 j = v) : mRr (spSet V i v) x h0 h' := by
  subst ei
  have e : h1 110 = h0 110 := tl_r E (by decide)
  unfold mRr spSet; rw [cif_pos y]
  refine ⟨by rw [← e]; exact f0.symm, ?_⟩
  funext q
  show _ = (if q = j then v else h0 110 q)
  by_cases g : q = j
  · rw [if_pos g, g]; exact f2
  · rw [if_neg g, f1 q g, e]
/-- both calls: the ledger stays the row -/
theorem both {sp : (Nat → Int) → Int × (Nat → Int)} {x y : Int} {cs cs' : List Nat} {ss ss' : List (Nat × Nat)} {h h1 h2 : m_H} (R : LR 1 h (h 110)) (A : cR sp x h h1) (B : mRr sp y h1 h2) (S1 : FR cs ss h h1) (S2 : FR cs' ss' h1 h2) (o1 : ∀ j, fr cs ss 110 j = false) (o2 : out 1 8 cs' ss' = true) : LR 1 h2 (h2 110) ∧ x = y := by
  have e : h1 110 = h 110 := rowz S1 o1
  obtain ⟨a1, a2⟩ := A _ R
  obtain ⟨b1, b2⟩ := B
  rw [e] at b1 b2
  exact ⟨by rw [b2]; exact a2.S S2 o2, a1.trans b1.symm⟩
theorem LR.cnt {h h' : m_H} {r : Nat → Int} {e c v : Int} (R : LR 1 h r) (h0 : 0 ≤ e) (h1 : e < r 0) (hc : (c = 1 ∧ v = m_or (h 1 8) (m_shl 1 e)) ∨ (c = 0 ∧ v = m_and (h 1 8) (m_xor (m_shl 1 e) (-1)))) (E : h' = m_up h 1 8 v) : LR 1 h' (rU r (5 * e.toNat + 84) c) := by
  obtain ⟨b, k, cc, w, n, q, cb, sb⟩ := R
  obtain ⟨b1, b2, b3, b4⟩ := b
  have lo : ∀ j, j ≠ 5 * e.toNat + 84 → rU r (5 * e.toNat + 84) c j = r j := fun j hj => by unfold rU; rw [if_neg hj]
  have o : ∀ a j, (a ≠ 1 ∨ j ≠ 8) → h' a j = h a j := fun a j ha => upN E (fun z => by have := z.1; have := z.2; omega)
  have he : e = ((e.toNat : Nat) : Int) := by omega
  refine ⟨⟨by rw [lo 0 (by omega)]; exact b1, by rw [lo 0 (by omega)]; exact b2, by rw [lo 1 (by omega)]; exact b3, by rw [lo 1 (by omega)]; exact b4⟩, fun j hj => ?_, fun j hj => ?_, fun j hj => ?_, ?_, fun x hx => ?_, fun x hx => ?_, ?_⟩
  · rw [o _ _ (Or.inl (by decide)), lo _ (by omega)]; exact k j hj
  · rw [o _ _ (Or.inl (by decide)), lo _ (by omega)]; exact cc j hj
  · rw [o _ _ (Or.inl (by decide)), lo _ (by omega)]; exact w j hj
  · rw [o _ _ (Or.inr (by decide)), lo 0 (by omega)]; exact n
  · rw [lo 0 (by omega)] at hx
    rw [o _ _ (Or.inl (by decide)), o _ _ (Or.inl (by decide)), o _ _ (Or.inl (by decide)), o _ _ (Or.inl (by decide)), lo _ (by omega), lo _ (by omega), lo _ (by omega), lo _ (by omega)]; exact q x hx
  · rw [upE E, lo 0 (by omega)]
    by_cases g : x = e.toNat
    · have v1 : rU r (5 * e.toNat + 84) c (5 * x + 84) = c := by unfold rU; rw [if_pos (by omega)]
      rw [v1]
      rcases hc with ⟨hc, hv⟩ | ⟨hc, hv⟩
      · rw [hv, he, bt_or (by omega) hx, Bool.or_eq_true, decide_eq_true_eq]
        exact ⟨fun _ => ⟨by omega, hc⟩, fun _ => Or.inr g⟩
      · rw [hv, he, bt_an (by omega) hx, Bool.and_eq_true, Bool.not_eq_true', decide_eq_false_iff_not]
        exact ⟨fun z => absurd g z.2, fun z => by omega⟩
    · rw [lo _ (by omega), ← cb x hx]
      rcases hc with ⟨hc, hv⟩ | ⟨hc, hv⟩
      · rw [hv, he, bt_or (by omega) hx, Bool.or_eq_true, decide_eq_true_eq]
        exact ⟨fun z => z.resolve_right g, Or.inl⟩
      · rw [hv, he, bt_an (by omega) hx, Bool.and_eq_true, Bool.not_eq_true', decide_eq_false_iff_not]
        exact ⟨fun z => z.1, fun z => ⟨z, g⟩⟩
  · rw [o _ _ (Or.inr (by decide))]
    obtain ⟨s1, s2, s3, s4⟩ := sb
    refine ⟨s1, s2, by rw [lo 1 (by omega)]; exact s3, fun p hp => (s4 p hp).trans ?_⟩
    unfold iS
    rw [lo 1 (by omega)]
    constructor
    · rintro ⟨k', u, v, w'⟩
      exact ⟨k', u, by rw [lo _ (by omega)]; exact v, by rw [lo _ (by omega)]; exact w'⟩
    · rintro ⟨k', u, v, w'⟩
      rw [lo _ (by omega)] at v w'
      exact ⟨k', u, v, w'⟩
def cR1 (sp : (Nat → Int) → Int × (Nat → Int)) (r : Nat → Int) (x : Int) (h' : m_H) : Prop := x = (sp r).1 ∧ LR 1 h' (sp r).2
theorem both1 {sp : (Nat → Int) → Int × (Nat → Int)} {x y : Int} {cs cs' : List Nat} {ss ss' : List (Nat × Nat)} {h h1 h2 : m_H} (A : cR1 sp (h 110) x h1) (B : mRr sp y h1 h2) (S1 : FR cs ss h h1) (S2 : FR cs' ss' h1 h2) (o1 : ∀ j, fr cs ss 110 j = false) (o2 : out 1 8 cs' ss' = true) : LR 1 h2 (h2 110) ∧ x = y := by
  have e : h1 110 = h 110 := rowz S1 o1
  obtain ⟨a1, a2⟩ := A
  obtain ⟨b1, b2⟩ := B
  rw [e] at b1 b2
  exact ⟨by rw [b2]; exact a2.S S2 o2, a1.trans b1.symm⟩
theorem fr_up8 {h h' : m_H} (S : FR [] [(1, 8)] h h') : h' = m_up h 1 8 (h' 1 8) := by
  funext a j
  by_cases g : a = 1 ∧ j = 8
  · obtain ⟨rfl, rfl⟩ := g; rw [m_up_eq]
  · rw [m_up_ne g]
    exact S a j (by
      unfold fr
      simp only [List.any_cons, List.any_nil, Bool.or_false, Bool.false_or, Bool.and_eq_false_iff, beq_eq_false_iff_ne]
      by_cases q : 1 = a
      · exact Or.inr (fun z => g ⟨q.symm, z.symm⟩)
      · exact Or.inl q)
/-- a row off the tape, four bytes at a time -/
noncomputable def rwS (b : Nat → Int) (n k : Int) (s : Int × Int × (Nat → Int)) : Int × Int × (Nat → Int) := cif ((k + 3 < n ∧ s.2.2 0 ≤ 23) ∧ canE (b k.toNat) (b (k + 1).toNat) (b (k + 2).toNat) (b (k + 3).toNat)) (s.1 + 1, s.2.1, rE s.2.2 (b k.toNat) (b (k + 1).toNat) (b (k + 2).toNat) (b (k + 3).toNat)) (s.1, s.2.1 + 1, s.2.2)
noncomputable def rwL (b : Nat → Int) (n : Int) (r : Nat → Int) : Nat → Int × Int × (Nat → Int)
  | 0 => (0, 0, r)
  | i + 1 => rwS b n (4 * (i : Int)) (rwL b n r i)
theorem rwL_s {b : Nat → Int} {n k : Int} {r : Nat → Int} {i : Nat} (e : k = 4 * (i : Int)) : rwL b n r (i + 1) = rwS b n k (rwL b n r i) := by rw [e]; rfl
noncomputable def rwN (n : Int) : Nat := ((n + 3) / 4).toNat
theorem rwL_0 {b : Nat → Int} {n : Int} {r : Nat → Int} : ∀ i : Nat, (rwL b n r i).2.2 0 = r 0 + (rwL b n r i).1
  | 0 => (Int.add_zero _).symm
  | i + 1 => by
    have z := rwL_0 (b := b) (n := n) (r := r) i
    show (rwS b n (4 * (i : Int)) (rwL b n r i)).2.2 0 = r 0 + (rwS b n (4 * (i : Int)) (rwL b n r i)).1
    unfold rwS
    by_cases c : (4 * (i : Int) + 3 < n ∧ (rwL b n r i).2.2 0 ≤ 23) ∧ canE (b (4 * (i : Int)).toNat) (b (4 * (i : Int) + 1).toNat) (b (4 * (i : Int) + 2).toNat) (b (4 * (i : Int) + 3).toNat)
    · rw [cif_pos c]; show (rwL b n r i).2.2 0 + 1 = r 0 + ((rwL b n r i).1 + 1); omega
    · rw [cif_neg c]; exact z
theorem rwS_c {b b' : Nat → Int} {n k : Int} {s : Int × Int × (Nat → Int)} (hk : 0 ≤ k) (e : ∀ j : Nat, (j : Int) < n → b' j = b j) : rwS b' n k s = rwS b n k s := by
  unfold rwS
  by_cases g : k + 3 < n
  · rw [e _ (by omega), e _ (by omega), e _ (by omega), e _ (by omega)]
  · rw [cif_neg (fun z => g z.1.1), cif_neg (fun z => g z.1.1)]
theorem rwL_c {b b' : Nat → Int} {n : Int} {r : Nat → Int} (e : ∀ j : Nat, (j : Int) < n → b' j = b j) : ∀ i, rwL b' n r i = rwL b n r i
  | 0 => rfl
  | i + 1 => by
    show rwS b' n _ (rwL b' n r i) = rwS b n _ (rwL b n r i)
    rw [rwL_c e i, rwS_c (by omega) e]
def rwQ (b : Nat → Int) (n : Int) (r : Nat → Int) (x : Int) (bl bl' : Int) (h' : m_H) : Prop := (n = 0 ∧ x = -6 ∧ bl' = bl ∧ LR 1 h' r) ∨ (n ≠ 0 ∧ x = (rwL b n r (rwN n)).1 ∧ bl' = (rwL b n r (rwN n)).2.1 ∧ LR 1 h' (rwL b n r (rwN n)).2.2)
def rwM (b : Nat → Int) (n : Int) (r : Nat → Int) (x : Int) (bl bl' : Int) (h' : m_H) : Prop := (n = 0 ∧ x = -6 ∧ bl' = bl ∧ h' 110 = r) ∨ (n ≠ 0 ∧ x = (rwL b n r (rwN n)).1 ∧ bl' = (rwL b n r (rwN n)).2.1 ∧ h' 110 = (rwL b n r (rwN n)).2.2)
def boQ (z : Except Int (Int × (Nat → Int))) (r : Nat → Int) (x : Int) (h' : m_H) : Prop := match z with
  | .ok p => x = p.1 ∧ LR 1 h' p.2 ∧ h' 0 16 = -1
  | .error e => x = -6 ∧ LR 1 h' r ∧ h' 0 16 = e
theorem bo_ok {z : Except Int (Int × (Nat → Int))} {r : Nat → Int} {x : Int} {h h' : m_H} (Q : onQ z x h) (hx : x ≠ -1) (R : ∀ q, LR 9 h q → LR 1 h' q) (u : h 37 3 = -1 → h' 0 16 = -1) : boQ z r x h' := by
  unfold onQ at Q; unfold boQ
  cases z with
  | ok p => exact ⟨Q.1, R _ Q.2.2.1, u Q.2.2.2⟩
  | error e => exact absurd Q.1 hx
theorem bo_er {z : Except Int (Int × (Nat → Int))} {r : Nat → Int} {x : Int} {h h' : m_H} (Q : onQ z x h) (hx : x = -1) (R : LR 1 h' r) (u : h' 0 16 = h 37 3) : boQ z r (-6) h' := by
  unfold onQ at Q; unfold boQ
  cases z with
  | ok p => exfalso; have := Q.2.1; omega
  | error e => exact ⟨rfl, R, u.trans Q.2⟩
theorem rwL_b {b : Nat → Int} {n : Int} {r : Nat → Int} : ∀ i : Nat, 0 ≤ (rwL b n r i).2.1 ∧ (rwL b n r i).2.1 ≤ (i : Int) ∧ 0 ≤ (rwL b n r i).1 ∧ (rwL b n r i).1 ≤ (i : Int)
  | 0 => ⟨Int.le_refl _, Int.le_refl _, Int.le_refl _, Int.le_refl _⟩
  | i + 1 => by
    obtain ⟨z1, z2, z3, z4⟩ := rwL_b (b := b) (n := n) (r := r) i
    show 0 ≤ (rwS b n (4 * (i : Int)) (rwL b n r i)).2.1 ∧ (rwS b n (4 * (i : Int)) (rwL b n r i)).2.1 ≤ _ ∧ 0 ≤ (rwS b n (4 * (i : Int)) (rwL b n r i)).1 ∧ (rwS b n (4 * (i : Int)) (rwL b n r i)).1 ≤ _
    unfold rwS
    by_cases c : (4 * (i : Int) + 3 < n ∧ (rwL b n r i).2.2 0 ≤ 23) ∧ canE (b (4 * (i : Int)).toNat) (b (4 * (i : Int) + 1).toNat) (b (4 * (i : Int) + 2).toNat) (b (4 * (i : Int) + 3).toNat)
    · rw [cif_pos c]
      show 0 ≤ (rwL b n r i).2.1 ∧ (rwL b n r i).2.1 ≤ _ ∧ 0 ≤ (rwL b n r i).1 + 1 ∧ (rwL b n r i).1 + 1 ≤ _
      omega
    · rw [cif_neg c]
      show 0 ≤ (rwL b n r i).2.1 + 1 ∧ (rwL b n r i).2.1 + 1 ≤ _ ∧ 0 ≤ (rwL b n r i).1 ∧ (rwL b n r i).1 ≤ _
      omega
abbrev P_X11_week3 (h0 : m_H) (a1 a2 : Int) : Int → m_H → Prop := fun x h' => GI h' ∧ FR [2, 107] [(0, 14)] h0 h' ∧ cR (spSet ((0 ≤ a1 ∧ a1 ≤ 31) ∧ (-1 ≤ a2 ∧ a2 ≤ 3)) (10 + a1.toNat) a2) x h0 h'
set_option maxHeartbeats 4000000 in
set_option maxRecDepth 100000 in
theorem c_X11_week3 (h0 : m_H) (a1 a2 : Int) (G0 : GI h0) : m_CI M_X11_week [mR 0, mI a1, mI a2] h0 (P_X11_week3 h0 a1 a2) := by
  refine m_CI_of ⟨by decide, rfl, by simp [m_arg, m_isL, M_X11_week], ⟨rfl, rfl⟩, rfl, rfl⟩ (ls := [some (mR 0), some (mI a1), some (mI a2), none]) rfl ?_
  refine z_ok (fun _ _ ok => ?_)
  have oa1 : m_32 a1 := ok 1 _ rfl
  unfold m_32 at oa1
  have oa2 : m_32 a2 := ok 2 _ rfl
  unfold m_32 at oa2
  refine z_iload_n (M := M_X11_week) 0 dX11_week_0 rfl ?_
  refine z_sI (M := M_X11_week) 1 dX11_week_1 t_X11_isWeek l_X11_108 (m_rr_of rfl) (rest := []) (c_X11_isWeek h0 a1 G0) rfl rfl (Nat.le_of_ble_eq_true rfl) ⟨rfl, rfl⟩ (fun x1 h1 qx1 => ?_)
  obtain ⟨rfl, ⟨rfl, cx1⟩ | ⟨rfl, cx1⟩⟩ := qx1
  · refine z_if_eq_F (M := M_X11_week) 4 dX11_week_4 16 rfl (by omega) ?_
    refine z_iload_n (M := M_X11_week) 7 dX11_week_7 rfl ?_
    refine z_iconst (M := M_X11_week) 8 dX11_week_8 ?_
    refine z_iconst (M := M_X11_week) 9 dX11_week_9 ?_
    refine z_sI (M := M_X11_week) 10 dX11_week_10 t_X11_within l_X11_112 (m_rr_of rfl) (rest := []) (c_X11_within h0 a2 (-1) 3 G0) rfl rfl (Nat.le_of_ble_eq_true rfl) ⟨rfl, rfl⟩ (fun x2 h2 qx2 => ?_)
    obtain ⟨rfl, ⟨rfl, cx2⟩ | ⟨rfl, cx2⟩⟩ := qx2
    · refine z_if_ne_T (M := M_X11_week) 13 dX11_week_13 22 rfl (by omega) ?_
      refine z_aload_n (M := M_X11_week) 22 dX11_week_22 rfl ?_
      refine z_getR (M := M_X11_week) 23 dX11_week_23 f_X11_12 o_0 rfl (g_0_0 G0) ?_
      refine z_getR (M := M_X11_week) 26 dX11_week_26 f_X11_120 o_1 rfl (g_1_0 G0) ?_
      refine z_iload_n (M := M_X11_week) 29 dX11_week_29 rfl ?_
      refine z_ialdG (M := M_X11_week) 30 dX11_week_30 o_2 (by omega) (by omega) (g_2 G0 (by omega)) (fun x3 ex3 ax3 bx3 => ?_)
      refine z_istore_n (M := M_X11_week) 31 dX11_week_31 (ls' := [some (mR 0), some (mI a1), some (mI a2), some (mI x3)]) (by decide) rfl ?_
      refine z_aload_n (M := M_X11_week) 32 dX11_week_32 rfl ?_
      refine z_getR (M := M_X11_week) 33 dX11_week_33 f_X11_12 o_0 rfl (g_0_0 G0) ?_
      refine z_getR (M := M_X11_week) 36 dX11_week_36 f_X11_120 o_1 rfl (g_1_0 G0) ?_
      refine z_iload_n (M := M_X11_week) 39 dX11_week_39 rfl ?_
      refine z_iload_n (M := M_X11_week) 40 dX11_week_40 rfl ?_
      refine z_iastH (M := M_X11_week) 41 dX11_week_41 o_2 (by omega) (by omega) (u_2 G0 (by omega) (by omega)) ((FR.rf (cs := [2, 107]) (ss := [(0, 14)]) (h := h0)).up rfl) (fun h3 E3 G3 R3 => ?_)
      refine z_aload_n (M := M_X11_week) 42 dX11_week_42 rfl ?_
      refine z_iload_n (M := M_X11_week) 43 dX11_week_43 rfl ?_
      refine z_vI (M := M_X11_week) 44 dX11_week_44 t_X11_accept l_X11_123 (m_rr_of rfl) (rest := []) (c_X11_accept h3 x3 G3) o_0 rfl rfl rfl (Nat.le_of_ble_eq_true rfl) ⟨rfl, rfl⟩ (fun x4 h4 qx4 => ?_)
      obtain ⟨G4, S4, rfl⟩ := qx4
      have R4 := R3.call S4 (by decide +kernel)
      exact z_retI (M := M_X11_week) 47 dX11_week_47 rfl ⟨G4, R4, cR_yes (by omega) ex3 (fun r R => R.2.1 a1.toNat (by omega)) (fun r R => R.k2 (by omega) (by omega) E3) S4 (by decide)⟩
    · refine z_if_ne_F (M := M_X11_week) 13 dX11_week_13 22 rfl (by omega) ?_
      refine z_aload_n (M := M_X11_week) 16 dX11_week_16 rfl ?_
      refine z_iconst (M := M_X11_week) 17 dX11_week_17 ?_
      refine z_vI (M := M_X11_week) 18 dX11_week_18 t_X11_refuse l_X11_116 (m_rr_of rfl) (rest := []) (c_X11_refuse h0 (-1) G0 ⟨by omega, by omega⟩) o_0 rfl rfl rfl (Nat.le_of_ble_eq_true rfl) ⟨rfl, rfl⟩ (fun x5 h5 qx5 => ?_)
      obtain ⟨G5, S5, rfl⟩ := qx5
      have R5 := (FR.rf (cs := [2, 107]) (ss := [(0, 14)]) (h := h0)).call S5 (by decide +kernel)
      exact z_retI (M := M_X11_week) 21 dX11_week_21 rfl ⟨G5, R5, cR_no (by omega) S5 (by decide)⟩
  · refine z_if_eq_T (M := M_X11_week) 4 dX11_week_4 16 rfl (by omega) ?_
    refine z_aload_n (M := M_X11_week) 16 dX11_week_16 rfl ?_
    refine z_iconst (M := M_X11_week) 17 dX11_week_17 ?_
    refine z_vI (M := M_X11_week) 18 dX11_week_18 t_X11_refuse l_X11_116 (m_rr_of rfl) (rest := []) (c_X11_refuse h0 (-1) G0 ⟨by omega, by omega⟩) o_0 rfl rfl rfl (Nat.le_of_ble_eq_true rfl) ⟨rfl, rfl⟩ (fun x6 h6 qx6 => ?_)
    obtain ⟨G6, S6, rfl⟩ := qx6
    have R6 := (FR.rf (cs := [2, 107]) (ss := [(0, 14)]) (h := h0)).call S6 (by decide +kernel)
    exact z_retI (M := M_X11_week) 21 dX11_week_21 rfl ⟨G6, R6, cR_no (by omega) S6 (by decide)⟩
abbrev P_X11_cut3 (h0 : m_H) (a1 a2 : Int) : Int → m_H → Prop := fun x h' => GI h' ∧ FR [3, 107] [(0, 14)] h0 h' ∧ cR (spSet ((0 ≤ a1 ∧ a1 ≤ 5) ∧ (a2 = -1 ∨ (1 ≤ a2 ∧ a2 ≤ 31))) (42 + a1.toNat) a2) x h0 h'
set_option maxHeartbeats 4000000 in
set_option maxRecDepth 100000 in
theorem c_X11_cut3 (h0 : m_H) (a1 a2 : Int) (G0 : GI h0) : m_CI M_X11_cut [mR 0, mI a1, mI a2] h0 (P_X11_cut3 h0 a1 a2) := by
  refine m_CI_of ⟨by decide, rfl, by simp [m_arg, m_isL, M_X11_cut], ⟨rfl, rfl⟩, rfl, rfl⟩ (ls := [some (mR 0), some (mI a1), some (mI a2), none]) rfl ?_
  refine z_ok (fun _ _ ok => ?_)
  have oa1 : m_32 a1 := ok 1 _ rfl
  unfold m_32 at oa1
  have oa2 : m_32 a2 := ok 2 _ rfl
  unfold m_32 at oa2
  refine z_iload_n (M := M_X11_cut) 0 dX11_cut_0 rfl ?_
  refine z_sI (M := M_X11_cut) 1 dX11_cut_1 t_X11_isThing l_X11_126 (m_rr_of rfl) (rest := []) (c_X11_isThing h0 a1 G0) rfl rfl (Nat.le_of_ble_eq_true rfl) ⟨rfl, rfl⟩ (fun x1 h1 qx1 => ?_)
  obtain ⟨rfl, ⟨rfl, cx1⟩ | ⟨rfl, cx1⟩⟩ := qx1
  · refine z_if_eq_F (M := M_X11_cut) 4 dX11_cut_4 22 rfl (by omega) ?_
    refine z_iload_n (M := M_X11_cut) 7 dX11_cut_7 rfl ?_
    refine z_iconst (M := M_X11_cut) 8 dX11_cut_8 ?_
    refine z_icmp_eq (M := M_X11_cut) 9 dX11_cut_9 28 rfl (fun c2 => ?_) (fun c2 => ?_)
    · refine z_aload_n (M := M_X11_cut) 28 dX11_cut_28 rfl ?_
      refine z_getR (M := M_X11_cut) 29 dX11_cut_29 f_X11_12 o_0 rfl (g_0_0 G0) ?_
      refine z_getR (M := M_X11_cut) 32 dX11_cut_32 f_X11_129 o_1 rfl (g_1_1 G0) ?_
      refine z_iload_n (M := M_X11_cut) 35 dX11_cut_35 rfl ?_
      refine z_ialdG (M := M_X11_cut) 36 dX11_cut_36 o_3 (by omega) (by omega) (g_3 G0 (by omega)) (fun x3 ex3 ax3 bx3 => ?_)
      refine z_istore_n (M := M_X11_cut) 37 dX11_cut_37 (ls' := [some (mR 0), some (mI a1), some (mI a2), some (mI x3)]) (by decide) rfl ?_
      refine z_aload_n (M := M_X11_cut) 38 dX11_cut_38 rfl ?_
      refine z_getR (M := M_X11_cut) 39 dX11_cut_39 f_X11_12 o_0 rfl (g_0_0 G0) ?_
      refine z_getR (M := M_X11_cut) 42 dX11_cut_42 f_X11_129 o_1 rfl (g_1_1 G0) ?_
      refine z_iload_n (M := M_X11_cut) 45 dX11_cut_45 rfl ?_
      refine z_iload_n (M := M_X11_cut) 46 dX11_cut_46 rfl ?_
      refine z_iastH (M := M_X11_cut) 47 dX11_cut_47 o_3 (by omega) (by omega) (u_3 G0 (by omega) (by omega)) ((FR.rf (cs := [3, 107]) (ss := [(0, 14)]) (h := h0)).up rfl) (fun h2 E2 G2 R2 => ?_)
      refine z_aload_n (M := M_X11_cut) 48 dX11_cut_48 rfl ?_
      refine z_iload_n (M := M_X11_cut) 49 dX11_cut_49 rfl ?_
      refine z_vI (M := M_X11_cut) 50 dX11_cut_50 t_X11_accept l_X11_123 (m_rr_of rfl) (rest := []) (c_X11_accept h2 x3 G2) o_0 rfl rfl rfl (Nat.le_of_ble_eq_true rfl) ⟨rfl, rfl⟩ (fun x4 h3 qx4 => ?_)
      obtain ⟨G3, S3, rfl⟩ := qx4
      have R3 := R2.call S3 (by decide +kernel)
      exact z_retI (M := M_X11_cut) 53 dX11_cut_53 rfl ⟨G3, R3, cR_yes (by omega) ex3 (fun r R => R.2.2.1 a1.toNat (by omega)) (fun r R => R.k3 (by omega) (by omega) E2) S3 (by decide)⟩
    · refine z_iload_n (M := M_X11_cut) 12 dX11_cut_12 rfl ?_
      refine z_iconst (M := M_X11_cut) 13 dX11_cut_13 ?_
      refine z_bipush (M := M_X11_cut) 14 dX11_cut_14 ?_
      refine z_sI (M := M_X11_cut) 16 dX11_cut_16 t_X11_within l_X11_112 (m_rr_of rfl) (rest := []) (c_X11_within h0 a2 1 31 G0) rfl rfl (Nat.le_of_ble_eq_true rfl) ⟨rfl, rfl⟩ (fun x5 h4 qx5 => ?_)
      obtain ⟨rfl, ⟨rfl, cx5⟩ | ⟨rfl, cx5⟩⟩ := qx5
      · refine z_if_ne_T (M := M_X11_cut) 19 dX11_cut_19 28 rfl (by omega) ?_
        refine z_aload_n (M := M_X11_cut) 28 dX11_cut_28 rfl ?_
        refine z_getR (M := M_X11_cut) 29 dX11_cut_29 f_X11_12 o_0 rfl (g_0_0 G0) ?_
        refine z_getR (M := M_X11_cut) 32 dX11_cut_32 f_X11_129 o_1 rfl (g_1_1 G0) ?_
        refine z_iload_n (M := M_X11_cut) 35 dX11_cut_35 rfl ?_
        refine z_ialdG (M := M_X11_cut) 36 dX11_cut_36 o_3 (by omega) (by omega) (g_3 G0 (by omega)) (fun x6 ex6 ax6 bx6 => ?_)
        refine z_istore_n (M := M_X11_cut) 37 dX11_cut_37 (ls' := [some (mR 0), some (mI a1), some (mI a2), some (mI x6)]) (by decide) rfl ?_
        refine z_aload_n (M := M_X11_cut) 38 dX11_cut_38 rfl ?_
        refine z_getR (M := M_X11_cut) 39 dX11_cut_39 f_X11_12 o_0 rfl (g_0_0 G0) ?_
        refine z_getR (M := M_X11_cut) 42 dX11_cut_42 f_X11_129 o_1 rfl (g_1_1 G0) ?_
        refine z_iload_n (M := M_X11_cut) 45 dX11_cut_45 rfl ?_
        refine z_iload_n (M := M_X11_cut) 46 dX11_cut_46 rfl ?_
        refine z_iastH (M := M_X11_cut) 47 dX11_cut_47 o_3 (by omega) (by omega) (u_3 G0 (by omega) (by omega)) ((FR.rf (cs := [3, 107]) (ss := [(0, 14)]) (h := h0)).up rfl) (fun h5 E5 G5 R5 => ?_)
        refine z_aload_n (M := M_X11_cut) 48 dX11_cut_48 rfl ?_
        refine z_iload_n (M := M_X11_cut) 49 dX11_cut_49 rfl ?_
        refine z_vI (M := M_X11_cut) 50 dX11_cut_50 t_X11_accept l_X11_123 (m_rr_of rfl) (rest := []) (c_X11_accept h5 x6 G5) o_0 rfl rfl rfl (Nat.le_of_ble_eq_true rfl) ⟨rfl, rfl⟩ (fun x7 h6 qx7 => ?_)
        obtain ⟨G6, S6, rfl⟩ := qx7
        have R6 := R5.call S6 (by decide +kernel)
        exact z_retI (M := M_X11_cut) 53 dX11_cut_53 rfl ⟨G6, R6, cR_yes (by omega) ex6 (fun r R => R.2.2.1 a1.toNat (by omega)) (fun r R => R.k3 (by omega) (by omega) E5) S6 (by decide)⟩
      · refine z_if_ne_F (M := M_X11_cut) 19 dX11_cut_19 28 rfl (by omega) ?_
        refine z_aload_n (M := M_X11_cut) 22 dX11_cut_22 rfl ?_
        refine z_iconst (M := M_X11_cut) 23 dX11_cut_23 ?_
        refine z_vI (M := M_X11_cut) 24 dX11_cut_24 t_X11_refuse l_X11_116 (m_rr_of rfl) (rest := []) (c_X11_refuse h0 (-1) G0 ⟨by omega, by omega⟩) o_0 rfl rfl rfl (Nat.le_of_ble_eq_true rfl) ⟨rfl, rfl⟩ (fun x8 h7 qx8 => ?_)
        obtain ⟨G7, S7, rfl⟩ := qx8
        have R7 := (FR.rf (cs := [3, 107]) (ss := [(0, 14)]) (h := h0)).call S7 (by decide +kernel)
        exact z_retI (M := M_X11_cut) 27 dX11_cut_27 rfl ⟨G7, R7, cR_no (by omega) S7 (by decide)⟩
  · refine z_if_eq_T (M := M_X11_cut) 4 dX11_cut_4 22 rfl (by omega) ?_
    refine z_aload_n (M := M_X11_cut) 22 dX11_cut_22 rfl ?_
    refine z_iconst (M := M_X11_cut) 23 dX11_cut_23 ?_
    refine z_vI (M := M_X11_cut) 24 dX11_cut_24 t_X11_refuse l_X11_116 (m_rr_of rfl) (rest := []) (c_X11_refuse h0 (-1) G0 ⟨by omega, by omega⟩) o_0 rfl rfl rfl (Nat.le_of_ble_eq_true rfl) ⟨rfl, rfl⟩ (fun x9 h8 qx9 => ?_)
    obtain ⟨G8, S8, rfl⟩ := qx9
    have R8 := (FR.rf (cs := [3, 107]) (ss := [(0, 14)]) (h := h0)).call S8 (by decide +kernel)
    exact z_retI (M := M_X11_cut) 27 dX11_cut_27 rfl ⟨G8, R8, cR_no (by omega) S8 (by decide)⟩
abbrev P_X11_tell3 (h0 : m_H) (a1 a2 : Int) : Int → m_H → Prop := fun x h' => GI h' ∧ FR [8, 107] [(0, 14)] h0 h' ∧ cR (spSet ((0 ≤ a1 ∧ a1 ≤ 15) ∧ (1 ≤ a2 ∧ a2 ≤ 9999)) (60 + a1.toNat) a2) x h0 h'
set_option maxHeartbeats 4000000 in
set_option maxRecDepth 100000 in
theorem c_X11_tell3 (h0 : m_H) (a1 a2 : Int) (G0 : GI h0) : m_CI M_X11_tell [mR 0, mI a1, mI a2] h0 (P_X11_tell3 h0 a1 a2) := by
  refine m_CI_of ⟨by decide, rfl, by simp [m_arg, m_isL, M_X11_tell], ⟨rfl, rfl⟩, rfl, rfl⟩ (ls := [some (mR 0), some (mI a1), some (mI a2), none]) rfl ?_
  refine z_ok (fun _ _ ok => ?_)
  have oa1 : m_32 a1 := ok 1 _ rfl
  unfold m_32 at oa1
  have oa2 : m_32 a2 := ok 2 _ rfl
  unfold m_32 at oa2
  refine z_iload_n (M := M_X11_tell) 0 dX11_tell_0 rfl ?_
  refine z_iconst (M := M_X11_tell) 1 dX11_tell_1 ?_
  refine z_bipush (M := M_X11_tell) 2 dX11_tell_2 ?_
  refine z_sI (M := M_X11_tell) 4 dX11_tell_4 t_X11_within l_X11_112 (m_rr_of rfl) (rest := []) (c_X11_within h0 a1 0 15 G0) rfl rfl (Nat.le_of_ble_eq_true rfl) ⟨rfl, rfl⟩ (fun x1 h1 qx1 => ?_)
  obtain ⟨rfl, ⟨rfl, cx1⟩ | ⟨rfl, cx1⟩⟩ := qx1
  · refine z_if_eq_F (M := M_X11_tell) 7 dX11_tell_7 21 rfl (by omega) ?_
    refine z_iload_n (M := M_X11_tell) 10 dX11_tell_10 rfl ?_
    refine z_iconst (M := M_X11_tell) 11 dX11_tell_11 ?_
    refine z_sipush (M := M_X11_tell) 12 dX11_tell_12 ?_
    refine z_sI (M := M_X11_tell) 15 dX11_tell_15 t_X11_within l_X11_112 (m_rr_of rfl) (rest := []) (c_X11_within h0 a2 1 9999 G0) rfl rfl (Nat.le_of_ble_eq_true rfl) ⟨rfl, rfl⟩ (fun x2 h2 qx2 => ?_)
    obtain ⟨rfl, ⟨rfl, cx2⟩ | ⟨rfl, cx2⟩⟩ := qx2
    · refine z_if_ne_T (M := M_X11_tell) 18 dX11_tell_18 27 rfl (by omega) ?_
      refine z_aload_n (M := M_X11_tell) 27 dX11_tell_27 rfl ?_
      refine z_getR (M := M_X11_tell) 28 dX11_tell_28 f_X11_12 o_0 rfl (g_0_0 G0) ?_
      refine z_getR (M := M_X11_tell) 31 dX11_tell_31 f_X11_376 o_1 rfl (g_1_6 G0) ?_
      refine z_iload_n (M := M_X11_tell) 34 dX11_tell_34 rfl ?_
      refine z_ialdG (M := M_X11_tell) 35 dX11_tell_35 o_8 (by omega) (by omega) (g_8 G0 (by omega)) (fun x3 ex3 ax3 bx3 => ?_)
      refine z_istore_n (M := M_X11_tell) 36 dX11_tell_36 (ls' := [some (mR 0), some (mI a1), some (mI a2), some (mI x3)]) (by decide) rfl ?_
      refine z_aload_n (M := M_X11_tell) 37 dX11_tell_37 rfl ?_
      refine z_getR (M := M_X11_tell) 38 dX11_tell_38 f_X11_12 o_0 rfl (g_0_0 G0) ?_
      refine z_getR (M := M_X11_tell) 41 dX11_tell_41 f_X11_376 o_1 rfl (g_1_6 G0) ?_
      refine z_iload_n (M := M_X11_tell) 44 dX11_tell_44 rfl ?_
      refine z_iload_n (M := M_X11_tell) 45 dX11_tell_45 rfl ?_
      refine z_iastH (M := M_X11_tell) 46 dX11_tell_46 o_8 (by omega) (by omega) (u_8 G0 (by omega) (by omega)) ((FR.rf (cs := [8, 107]) (ss := [(0, 14)]) (h := h0)).up rfl) (fun h3 E3 G3 R3 => ?_)
      refine z_aload_n (M := M_X11_tell) 47 dX11_tell_47 rfl ?_
      refine z_iload_n (M := M_X11_tell) 48 dX11_tell_48 rfl ?_
      refine z_vI (M := M_X11_tell) 49 dX11_tell_49 t_X11_accept l_X11_123 (m_rr_of rfl) (rest := []) (c_X11_accept h3 x3 G3) o_0 rfl rfl rfl (Nat.le_of_ble_eq_true rfl) ⟨rfl, rfl⟩ (fun x4 h4 qx4 => ?_)
      obtain ⟨G4, S4, rfl⟩ := qx4
      have R4 := R3.call S4 (by decide +kernel)
      exact z_retI (M := M_X11_tell) 52 dX11_tell_52 rfl ⟨G4, R4, cR_yes (by omega) ex3 (fun r R => R.2.2.2.1 a1.toNat (by omega)) (fun r R => R.k8 (by omega) (by omega) E3) S4 (by decide)⟩
    · refine z_if_ne_F (M := M_X11_tell) 18 dX11_tell_18 27 rfl (by omega) ?_
      refine z_aload_n (M := M_X11_tell) 21 dX11_tell_21 rfl ?_
      refine z_iconst (M := M_X11_tell) 22 dX11_tell_22 ?_
      refine z_vI (M := M_X11_tell) 23 dX11_tell_23 t_X11_refuse l_X11_116 (m_rr_of rfl) (rest := []) (c_X11_refuse h0 (-1) G0 ⟨by omega, by omega⟩) o_0 rfl rfl rfl (Nat.le_of_ble_eq_true rfl) ⟨rfl, rfl⟩ (fun x5 h5 qx5 => ?_)
      obtain ⟨G5, S5, rfl⟩ := qx5
      have R5 := (FR.rf (cs := [8, 107]) (ss := [(0, 14)]) (h := h0)).call S5 (by decide +kernel)
      exact z_retI (M := M_X11_tell) 26 dX11_tell_26 rfl ⟨G5, R5, cR_no (by omega) S5 (by decide)⟩
  · refine z_if_eq_T (M := M_X11_tell) 7 dX11_tell_7 21 rfl (by omega) ?_
    refine z_aload_n (M := M_X11_tell) 21 dX11_tell_21 rfl ?_
    refine z_iconst (M := M_X11_tell) 22 dX11_tell_22 ?_
    refine z_vI (M := M_X11_tell) 23 dX11_tell_23 t_X11_refuse l_X11_116 (m_rr_of rfl) (rest := []) (c_X11_refuse h0 (-1) G0 ⟨by omega, by omega⟩) o_0 rfl rfl rfl (Nat.le_of_ble_eq_true rfl) ⟨rfl, rfl⟩ (fun x6 h6 qx6 => ?_)
    obtain ⟨G6, S6, rfl⟩ := qx6
    have R6 := (FR.rf (cs := [8, 107]) (ss := [(0, 14)]) (h := h0)).call S6 (by decide +kernel)
    exact z_retI (M := M_X11_tell) 26 dX11_tell_26 rfl ⟨G6, R6, cR_no (by omega) S6 (by decide)⟩
abbrev P_X11_shorter3 (h0 : m_H) (a1 a2 : Int) (r : Nat → Int) : Int → m_H → Prop := fun x h' => GI h' ∧ FR [107] [(0, 14), (1, 9)] h0 h' ∧ cR1 (spShort a1 a2) r x h'
set_option maxHeartbeats 4000000 in
set_option maxRecDepth 100000 in
theorem c_X11_shorter3 (h0 : m_H) (a1 a2 : Int) (r : Nat → Int) (G0 : GI h0) (Rr : LR 1 h0 r) : m_CI M_X11_shorter [mR 0, mI a1, mI a2] h0 (P_X11_shorter3 h0 a1 a2 r) := by
  refine m_CI_of ⟨by decide, rfl, by simp [m_arg, m_isL, M_X11_shorter], ⟨rfl, rfl⟩, rfl, rfl⟩ (ls := [some (mR 0), some (mI a1), some (mI a2)]) rfl ?_
  refine z_ok (fun _ _ ok => ?_)
  have oa1 : m_32 a1 := ok 1 _ rfl
  unfold m_32 at oa1
  have oa2 : m_32 a2 := ok 2 _ rfl
  unfold m_32 at oa2
  refine z_iload_n (M := M_X11_shorter) 0 dX11_shorter_0 rfl ?_
  refine z_sI (M := M_X11_shorter) 1 dX11_shorter_1 t_X11_isKeeper l_X11_132 (m_rr_of rfl) (rest := []) (c_X11_isKeeper h0 a1 G0) rfl rfl (Nat.le_of_ble_eq_true rfl) ⟨rfl, rfl⟩ (fun x1 h1 qx1 => ?_)
  obtain ⟨rfl, ⟨rfl, cx1⟩ | ⟨rfl, cx1⟩⟩ := qx1
  · refine z_if_eq_F (M := M_X11_shorter) 4 dX11_shorter_4 19 rfl (by omega) ?_
    refine z_iload_n (M := M_X11_shorter) 7 dX11_shorter_7 rfl ?_
    refine z_sI (M := M_X11_shorter) 8 dX11_shorter_8 t_X11_isKeeper l_X11_132 (m_rr_of rfl) (rest := []) (c_X11_isKeeper h0 a2 G0) rfl rfl (Nat.le_of_ble_eq_true rfl) ⟨rfl, rfl⟩ (fun x2 h2 qx2 => ?_)
    obtain ⟨rfl, ⟨rfl, cx2⟩ | ⟨rfl, cx2⟩⟩ := qx2
    · refine z_if_eq_F (M := M_X11_shorter) 11 dX11_shorter_11 19 rfl (by omega) ?_
      refine z_iload_n (M := M_X11_shorter) 14 dX11_shorter_14 rfl ?_
      refine z_iload_n (M := M_X11_shorter) 15 dX11_shorter_15 rfl ?_
      refine z_icmp_ne (M := M_X11_shorter) 16 dX11_shorter_16 25 rfl (fun c3 => ?_) (fun c3 => ?_)
      · refine z_aload_n (M := M_X11_shorter) 25 dX11_shorter_25 rfl ?_
        refine z_getR (M := M_X11_shorter) 26 dX11_shorter_26 f_X11_12 o_0 rfl (g_0_0 G0) ?_
        refine z_iload_n (M := M_X11_shorter) 29 dX11_shorter_29 rfl ?_
        refine z_iload_n (M := M_X11_shorter) 30 dX11_shorter_30 rfl ?_
        refine z_vI (M := M_X11_shorter) 31 dX11_shorter_31 t_X4_isShorter l_X11_135 (m_rr_of rfl) (rest := []) (c_X4_isShorter2 h0 1 a1 a2 (Or.inl rfl) G0 ⟨by omega, by omega⟩ ⟨by omega, by omega⟩) o_1 rfl rfl rfl (Nat.le_of_ble_eq_true rfl) ⟨rfl, rfl⟩ (fun x4 h3 qx4 => ?_)
        obtain ⟨G3, S3, ax4, bx4, fx4_0⟩ := qx4
        have R3 := (FR.rf (cs := [107]) (ss := [(0, 14), (1, 9)]) (h := h0)).call S3 (by decide +kernel)
        have isx4 := is_sh Rr (a := a1) (b := a2) (by omega) (by omega) (by omega) (by omega)
        have LR3 : LR 1 h3 r := Rr.S S3 (by decide)
        refine z_if_eq (M := M_X11_shorter) 34 dX11_shorter_34 44 rfl (fun c5 => ?_) (fun c5 => ?_)
        · refine z_aload_n (M := M_X11_shorter) 44 dX11_shorter_44 rfl ?_
          refine z_getR (M := M_X11_shorter) 45 dX11_shorter_45 f_X11_12 o_0 rfl (g_0_0 G3) ?_
          refine z_vI (M := M_X11_shorter) 48 dX11_shorter_48 t_X4_hasRoomForShorter l_X11_139 (m_rr_of rfl) (rest := []) (c_X4_hasRoomForShorter2 h3 1 (Or.inl rfl) G3 LR3.S9.1) o_1 rfl rfl rfl (Nat.le_of_ble_eq_true rfl) ⟨rfl, rfl⟩ (fun x6 h4 qx6 => ?_)
          obtain ⟨G4, S4, ax6, bx6, fx6_0⟩ := qx6
          have R4 := R3.call S4 (by decide +kernel)
          have hrx6 := LR3.S9.2
          have LR4 : LR 1 h4 r := LR3.S S4 (by decide)
          refine z_if_ne (M := M_X11_shorter) 51 dX11_shorter_51 61 rfl (fun c7 => ?_) (fun c7 => ?_)
          · refine z_aload_n (M := M_X11_shorter) 61 dX11_shorter_61 rfl ?_
            refine z_getR (M := M_X11_shorter) 62 dX11_shorter_62 f_X11_12 o_0 rfl (g_0_0 G4) ?_
            refine z_iload_n (M := M_X11_shorter) 65 dX11_shorter_65 rfl ?_
            refine z_iload_n (M := M_X11_shorter) 66 dX11_shorter_66 rfl ?_
            refine z_vV (M := M_X11_shorter) 67 dX11_shorter_67 t_X4_addShorter l_X11_143 (m_rr_of rfl) (rest := []) (c_X4_addShorter2 h4 1 a1 a2 (Or.inl rfl) G4 ⟨by omega, by omega⟩ ⟨by omega, by omega⟩) o_1 rfl rfl rfl (Nat.le_of_ble_eq_true rfl) ⟨rfl, rfl⟩ (fun h5 qx8 => ?_)
            obtain ⟨G5, S5, fx8_0⟩ := qx8
            have R5 := R4.call S5 (by decide +kernel)
            have LR5 := fx8_0 r LR4 (by omega) (fun z => by have := fx4_0.mpr (isx4.mpr z); omega)
            refine z_aload_n (M := M_X11_shorter) 70 dX11_shorter_70 rfl ?_
            refine z_aload_n (M := M_X11_shorter) 71 dX11_shorter_71 rfl ?_
            refine z_getR (M := M_X11_shorter) 72 dX11_shorter_72 f_X11_12 o_0 rfl (g_0_0 G5) ?_
            refine z_vI (M := M_X11_shorter) 75 dX11_shorter_75 t_X4_shorters l_X11_147 (m_rr_of rfl) (rest := [mR 0]) (c_X4_shorters2 h5 1 (Or.inl rfl) G5 LR5.S9.1) o_1 rfl rfl rfl (Nat.le_of_ble_eq_true rfl) ⟨rfl, rfl⟩ (fun x9 h6 qx9 => ?_)
            obtain ⟨G6, S6, ax9, bx9, fx9_0⟩ := qx9
            have R6 := R5.call S6 (by decide +kernel)
            have hrx9 := LR5.S9.2
            have LR6 : LR 1 h6 (rS r a1 a2) := LR5.S S6 (by decide)
            refine z_vI (M := M_X11_shorter) 78 dX11_shorter_78 t_X11_accept l_X11_123 (m_rr_of rfl) (rest := []) (c_X11_accept h6 x9 G6) o_0 rfl rfl rfl (Nat.le_of_ble_eq_true rfl) ⟨rfl, rfl⟩ (fun x10 h7 qx10 => ?_)
            obtain ⟨G7, S7, rfl⟩ := qx10
            have R7 := R6.call S7 (by decide +kernel)
            have LR7 : LR 1 h7 (rS r a1 a2) := LR6.S S7 (by decide)
            exact z_retI (M := M_X11_shorter) 81 dX11_shorter_81 rfl ⟨G7, R7, ⟨by unfold spShort; rw [cif_pos (by omega), cif_neg (fun z => by have := fx4_0.mpr (isx4.mpr z); omega), cif_pos (by omega)]; exact fx9_0.symm.trans hrx9, by unfold spShort; rw [cif_pos (by omega), cif_neg (fun z => by have := fx4_0.mpr (isx4.mpr z); omega), cif_pos (by omega)]; exact LR7⟩⟩
          · refine z_aload_n (M := M_X11_shorter) 54 dX11_shorter_54 rfl ?_
            refine z_bipush (M := M_X11_shorter) 55 dX11_shorter_55 ?_
            refine z_vI (M := M_X11_shorter) 57 dX11_shorter_57 t_X11_refuse l_X11_116 (m_rr_of rfl) (rest := []) (c_X11_refuse h4 (-5) G4 ⟨by omega, by omega⟩) o_0 rfl rfl rfl (Nat.le_of_ble_eq_true rfl) ⟨rfl, rfl⟩ (fun x11 h8 qx11 => ?_)
            obtain ⟨G8, S8, rfl⟩ := qx11
            have R8 := R4.call S8 (by decide +kernel)
            have LR8 : LR 1 h8 r := LR4.S S8 (by decide)
            exact z_retI (M := M_X11_shorter) 60 dX11_shorter_60 rfl ⟨G8, R8, ⟨by unfold spShort; rw [cif_pos (by omega), cif_neg (fun z => by have := fx4_0.mpr (isx4.mpr z); omega), cif_neg (by omega)], by unfold spShort; rw [cif_pos (by omega), cif_neg (fun z => by have := fx4_0.mpr (isx4.mpr z); omega), cif_neg (by omega)]; exact LR8⟩⟩
        · refine z_aload_n (M := M_X11_shorter) 37 dX11_shorter_37 rfl ?_
          refine z_bipush (M := M_X11_shorter) 38 dX11_shorter_38 ?_
          refine z_vI (M := M_X11_shorter) 40 dX11_shorter_40 t_X11_refuse l_X11_116 (m_rr_of rfl) (rest := []) (c_X11_refuse h3 (-3) G3 ⟨by omega, by omega⟩) o_0 rfl rfl rfl (Nat.le_of_ble_eq_true rfl) ⟨rfl, rfl⟩ (fun x12 h9 qx12 => ?_)
          obtain ⟨G9, S9, rfl⟩ := qx12
          have R9 := R3.call S9 (by decide +kernel)
          have LR9 : LR 1 h9 r := LR3.S S9 (by decide)
          exact z_retI (M := M_X11_shorter) 43 dX11_shorter_43 rfl ⟨G9, R9, ⟨by unfold spShort; rw [cif_pos (by omega), cif_pos (isx4.mp (fx4_0.mp (by omega)))], by unfold spShort; rw [cif_pos (by omega), cif_pos (isx4.mp (fx4_0.mp (by omega)))]; exact LR9⟩⟩
      · refine z_aload_n (M := M_X11_shorter) 19 dX11_shorter_19 rfl ?_
        refine z_iconst (M := M_X11_shorter) 20 dX11_shorter_20 ?_
        refine z_vI (M := M_X11_shorter) 21 dX11_shorter_21 t_X11_refuse l_X11_116 (m_rr_of rfl) (rest := []) (c_X11_refuse h0 (-1) G0 ⟨by omega, by omega⟩) o_0 rfl rfl rfl (Nat.le_of_ble_eq_true rfl) ⟨rfl, rfl⟩ (fun x13 h10 qx13 => ?_)
        obtain ⟨G10, S10, rfl⟩ := qx13
        have R10 := (FR.rf (cs := [107]) (ss := [(0, 14), (1, 9)]) (h := h0)).call S10 (by decide +kernel)
        have LR10 : LR 1 h10 r := Rr.S S10 (by decide)
        exact z_retI (M := M_X11_shorter) 24 dX11_shorter_24 rfl ⟨G10, R10, ⟨by unfold spShort; rw [cif_neg (by omega)], by unfold spShort; rw [cif_neg (by omega)]; exact LR10⟩⟩
    · refine z_if_eq_T (M := M_X11_shorter) 11 dX11_shorter_11 19 rfl (by omega) ?_
      refine z_aload_n (M := M_X11_shorter) 19 dX11_shorter_19 rfl ?_
      refine z_iconst (M := M_X11_shorter) 20 dX11_shorter_20 ?_
      refine z_vI (M := M_X11_shorter) 21 dX11_shorter_21 t_X11_refuse l_X11_116 (m_rr_of rfl) (rest := []) (c_X11_refuse h0 (-1) G0 ⟨by omega, by omega⟩) o_0 rfl rfl rfl (Nat.le_of_ble_eq_true rfl) ⟨rfl, rfl⟩ (fun x14 h11 qx14 => ?_)
      obtain ⟨G11, S11, rfl⟩ := qx14
      have R11 := (FR.rf (cs := [107]) (ss := [(0, 14), (1, 9)]) (h := h0)).call S11 (by decide +kernel)
      have LR11 : LR 1 h11 r := Rr.S S11 (by decide)
      exact z_retI (M := M_X11_shorter) 24 dX11_shorter_24 rfl ⟨G11, R11, ⟨by unfold spShort; rw [cif_neg (by omega)], by unfold spShort; rw [cif_neg (by omega)]; exact LR11⟩⟩
  · refine z_if_eq_T (M := M_X11_shorter) 4 dX11_shorter_4 19 rfl (by omega) ?_
    refine z_aload_n (M := M_X11_shorter) 19 dX11_shorter_19 rfl ?_
    refine z_iconst (M := M_X11_shorter) 20 dX11_shorter_20 ?_
    refine z_vI (M := M_X11_shorter) 21 dX11_shorter_21 t_X11_refuse l_X11_116 (m_rr_of rfl) (rest := []) (c_X11_refuse h0 (-1) G0 ⟨by omega, by omega⟩) o_0 rfl rfl rfl (Nat.le_of_ble_eq_true rfl) ⟨rfl, rfl⟩ (fun x15 h12 qx15 => ?_)
    obtain ⟨G12, S12, rfl⟩ := qx15
    have R12 := (FR.rf (cs := [107]) (ss := [(0, 14), (1, 9)]) (h := h0)).call S12 (by decide +kernel)
    have LR12 : LR 1 h12 r := Rr.S S12 (by decide)
    exact z_retI (M := M_X11_shorter) 24 dX11_shorter_24 rfl ⟨G12, R12, ⟨by unfold spShort; rw [cif_neg (by omega)], by unfold spShort; rw [cif_neg (by omega)]; exact LR12⟩⟩
abbrev P_X11_entry3 (h0 : m_H) (a1 a2 a3 a4 : Int) (r : Nat → Int) : Int → m_H → Prop := fun x h' => GI h' ∧ FR [4, 5, 6, 7, 107] [(0, 14), (1, 7), (1, 8)] h0 h' ∧ cR1 (spEntry a1 a2 a3 a4) r x h'
set_option maxHeartbeats 4000000 in
set_option maxRecDepth 100000 in
theorem c_X11_entry3 (h0 : m_H) (a1 a2 a3 a4 : Int) (r : Nat → Int) (G0 : GI h0) (Rr : LR 1 h0 r) : m_CI M_X11_entry [mR 0, mI a1, mI a2, mI a3, mI a4] h0 (P_X11_entry3 h0 a1 a2 a3 a4 r) := by
  refine m_CI_of ⟨by decide, rfl, by simp [m_arg, m_isL, M_X11_entry], ⟨rfl, rfl⟩, rfl, rfl⟩ (ls := [some (mR 0), some (mI a1), some (mI a2), some (mI a3), some (mI a4)]) rfl ?_
  refine z_ok (fun _ _ ok => ?_)
  have oa1 : m_32 a1 := ok 1 _ rfl
  unfold m_32 at oa1
  have oa2 : m_32 a2 := ok 2 _ rfl
  unfold m_32 at oa2
  have oa3 : m_32 a3 := ok 3 _ rfl
  unfold m_32 at oa3
  have oa4 : m_32 a4 := ok 4 _ rfl
  unfold m_32 at oa4
  refine z_iload_n (M := M_X11_entry) 0 dX11_entry_0 rfl ?_
  refine z_iload_n (M := M_X11_entry) 1 dX11_entry_1 rfl ?_
  refine z_iload_n (M := M_X11_entry) 2 dX11_entry_2 rfl ?_
  refine z_iload (M := M_X11_entry) 3 dX11_entry_3 rfl ?_
  refine z_sI (M := M_X11_entry) 5 dX11_entry_5 t_X11_isEntry l_X11_151 (m_rr_of rfl) (rest := []) (c_X11_isEntry h0 a1 a2 a3 a4 G0) rfl rfl (Nat.le_of_ble_eq_true rfl) ⟨rfl, rfl⟩ (fun x1 h1 qx1 => ?_)
  obtain ⟨rfl, ⟨rfl, cx1⟩ | ⟨rfl, cx1⟩⟩ := qx1
  · refine z_if_ne_T (M := M_X11_entry) 8 dX11_entry_8 17 rfl (by omega) ?_
    refine z_aload_n (M := M_X11_entry) 17 dX11_entry_17 rfl ?_
    refine z_getR (M := M_X11_entry) 18 dX11_entry_18 f_X11_12 o_0 rfl (g_0_0 G0) ?_
    refine z_vI (M := M_X11_entry) 21 dX11_entry_21 t_X4_hasRoom l_X11_155 (m_rr_of rfl) (rest := []) (c_X4_hasRoom h0 1 (Or.inl rfl) G0) o_1 rfl rfl rfl (Nat.le_of_ble_eq_true rfl) ⟨rfl, rfl⟩ (fun x2 h2 qx2 => ?_)
    obtain ⟨rfl, ⟨rfl, cx2⟩ | ⟨rfl, cx2⟩⟩ := qx2
    · refine z_if_ne_T (M := M_X11_entry) 24 dX11_entry_24 34 rfl (by omega) ?_
      refine z_aload_n (M := M_X11_entry) 34 dX11_entry_34 rfl ?_
      refine z_getR (M := M_X11_entry) 35 dX11_entry_35 f_X11_12 o_0 rfl (g_0_0 G0) ?_
      refine z_iload_n (M := M_X11_entry) 38 dX11_entry_38 rfl ?_
      refine z_iload_n (M := M_X11_entry) 39 dX11_entry_39 rfl ?_
      refine z_iload_n (M := M_X11_entry) 40 dX11_entry_40 rfl ?_
      refine z_iload (M := M_X11_entry) 41 dX11_entry_41 rfl ?_
      refine z_vV (M := M_X11_entry) 43 dX11_entry_43 t_X4_addEntry l_X11_158 (m_rr_of rfl) (rest := []) (c_X4_addEntry2 h0 1 a1 a2 a3 a4 (Or.inl rfl) G0 ⟨by omega, by omega⟩ ⟨by omega, by omega⟩ ⟨by omega, by omega⟩ ⟨by omega, by omega⟩) o_1 rfl rfl rfl (Nat.le_of_ble_eq_true rfl) ⟨rfl, rfl⟩ (fun h3 qx3 => ?_)
      obtain ⟨G3, S3, fx3_0⟩ := qx3
      have R3 := (FR.rf (cs := [4, 5, 6, 7, 107]) (ss := [(0, 14), (1, 7), (1, 8)]) (h := h0)).call S3 (by decide +kernel)
      have LR3 := fx3_0 r Rr (by have := Rr.2.2.2.2.1; omega)
      refine z_aload_n (M := M_X11_entry) 46 dX11_entry_46 rfl ?_
      refine z_aload_n (M := M_X11_entry) 47 dX11_entry_47 rfl ?_
      refine z_getR (M := M_X11_entry) 48 dX11_entry_48 f_X11_12 o_0 rfl (g_0_0 G3) ?_
      refine z_getIG (M := M_X11_entry) 51 dX11_entry_51 f_X11_162 o_1 (by decide) (g_1_7 G3) (fun x4 ex4 ax4 bx4 => ?_)
      refine z_iconst (M := M_X11_entry) 54 dX11_entry_54 ?_
      refine z_isubN (M := M_X11_entry) 55 dX11_entry_55 (by omega) (by omega) ?_
      refine z_vI (M := M_X11_entry) 56 dX11_entry_56 t_X11_accept l_X11_123 (m_rr_of rfl) (rest := []) (c_X11_accept h3 (x4 - 1) G3) o_0 rfl rfl rfl (Nat.le_of_ble_eq_true rfl) ⟨rfl, rfl⟩ (fun x5 h4 qx5 => ?_)
      obtain ⟨G4, S4, rfl⟩ := qx5
      have R4 := R3.call S4 (by decide +kernel)
      have LR4 : LR 1 h4 (rE r a1 a2 a3 a4) := LR3.S S4 (by decide)
      exact z_retI (M := M_X11_entry) 59 dX11_entry_59 rfl ⟨G4, R4, ⟨by unfold spEntry; rw [cif_pos (by unfold canE; omega), cif_pos (by have := Rr.2.2.2.2.1; omega)]; show (x4 - 1) = r 0; have q : x4 = r 0 + 1 := ex4.symm.trans LR3.2.2.2.2.1; omega, by unfold spEntry; rw [cif_pos (by unfold canE; omega), cif_pos (by have := Rr.2.2.2.2.1; omega)]; exact LR4⟩⟩
    · refine z_if_ne_F (M := M_X11_entry) 24 dX11_entry_24 34 rfl (by omega) ?_
      refine z_aload_n (M := M_X11_entry) 27 dX11_entry_27 rfl ?_
      refine z_bipush (M := M_X11_entry) 28 dX11_entry_28 ?_
      refine z_vI (M := M_X11_entry) 30 dX11_entry_30 t_X11_refuse l_X11_116 (m_rr_of rfl) (rest := []) (c_X11_refuse h0 (-5) G0 ⟨by omega, by omega⟩) o_0 rfl rfl rfl (Nat.le_of_ble_eq_true rfl) ⟨rfl, rfl⟩ (fun x6 h5 qx6 => ?_)
      obtain ⟨G5, S5, rfl⟩ := qx6
      have R5 := (FR.rf (cs := [4, 5, 6, 7, 107]) (ss := [(0, 14), (1, 7), (1, 8)]) (h := h0)).call S5 (by decide +kernel)
      have LR5 : LR 1 h5 r := Rr.S S5 (by decide)
      exact z_retI (M := M_X11_entry) 33 dX11_entry_33 rfl ⟨G5, R5, ⟨by unfold spEntry; rw [cif_pos (by unfold canE; omega), cif_neg (by have := Rr.2.2.2.2.1; omega)], by unfold spEntry; rw [cif_pos (by unfold canE; omega), cif_neg (by have := Rr.2.2.2.2.1; omega)]; exact LR5⟩⟩
  · refine z_if_ne_F (M := M_X11_entry) 8 dX11_entry_8 17 rfl (by omega) ?_
    refine z_aload_n (M := M_X11_entry) 11 dX11_entry_11 rfl ?_
    refine z_iconst (M := M_X11_entry) 12 dX11_entry_12 ?_
    refine z_vI (M := M_X11_entry) 13 dX11_entry_13 t_X11_refuse l_X11_116 (m_rr_of rfl) (rest := []) (c_X11_refuse h0 (-1) G0 ⟨by omega, by omega⟩) o_0 rfl rfl rfl (Nat.le_of_ble_eq_true rfl) ⟨rfl, rfl⟩ (fun x7 h6 qx7 => ?_)
    obtain ⟨G6, S6, rfl⟩ := qx7
    have R6 := (FR.rf (cs := [4, 5, 6, 7, 107]) (ss := [(0, 14), (1, 7), (1, 8)]) (h := h0)).call S6 (by decide +kernel)
    have LR6 : LR 1 h6 r := Rr.S S6 (by decide)
    exact z_retI (M := M_X11_entry) 16 dX11_entry_16 rfl ⟨G6, R6, ⟨by unfold spEntry; rw [cif_neg (by unfold canE; omega)], by unfold spEntry; rw [cif_neg (by unfold canE; omega)]; exact LR6⟩⟩
abbrev P_X4_setCounting2 (h0 : m_H) (L : Nat) (a1 a2 : Int) : m_H → Prop := fun h' => GI h' ∧ FR [] [(L, 8)] h0 h' ∧ ((a2 ≠ 0 ∧ h' L 8 = m_or (h0 L 8) (m_shl 1 a1)) ∨ (a2 = 0 ∧ h' L 8 = m_and (h0 L 8) (m_xor (m_shl 1 a1) (-1))))
set_option maxHeartbeats 4000000 in
set_option maxRecDepth 100000 in
theorem c_X4_setCounting2 (h0 : m_H) (L : Nat) (a1 a2 : Int) (hL : isL L) (G0 : GI h0) (pa2 : 0 ≤ a2 ∧ a2 ≤ 1) : m_CV M_X4_setCounting [mR L, mI a1, mI a2] h0 (P_X4_setCounting2 h0 L a1 a2) := by
  refine m_CV_of ⟨by decide, rfl, by simp [m_arg, m_isL, M_X4_setCounting], ⟨rfl, rfl⟩, rfl, rfl⟩ (ls := [some (mR L), some (mI a1), some (mI a2), none]) rfl ?_
  refine z_ok (fun _ _ ok => ?_)
  have oa1 : m_32 a1 := ok 1 _ rfl
  unfold m_32 at oa1
  refine z_iconst (M := M_X4_setCounting) 0 dX4_setCounting_0 ?_
  refine z_iload_n (M := M_X4_setCounting) 1 dX4_setCounting_1 rfl ?_
  refine z_ishl (M := M_X4_setCounting) 2 dX4_setCounting_2 ?_
  refine z_topm (fun x1 ex1 ox1 => ?_)
  unfold m_32 at ox1
  refine z_istore_n (M := M_X4_setCounting) 3 dX4_setCounting_3 (ls' := [some (mR L), some (mI a1), some (mI a2), some (mI x1)]) (by decide) rfl ?_
  refine z_aload_n (M := M_X4_setCounting) 4 dX4_setCounting_4 rfl ?_
  refine z_iload_n (M := M_X4_setCounting) 5 dX4_setCounting_5 rfl ?_
  refine z_if_eq (M := M_X4_setCounting) 6 dX4_setCounting_6 18 rfl (fun c2 => ?_) (fun c2 => ?_)
  · refine z_aload_n (M := M_X4_setCounting) 18 dX4_setCounting_18 rfl ?_
    refine z_getIV (M := M_X4_setCounting) 19 dX4_setCounting_19 f_X4_49 (oL hL) (by decide) (fun x3 ex3 => ?_)
    refine z_ok (fun ox3 _ _ => ?_)
    have ox3 := ox3.1; unfold m_ok m_32 at ox3
    refine z_iload_n (M := M_X4_setCounting) 22 dX4_setCounting_22 rfl ?_
    refine z_iconst (M := M_X4_setCounting) 23 dX4_setCounting_23 ?_
    refine z_ixor (M := M_X4_setCounting) 24 dX4_setCounting_24 ?_
    refine z_topm (fun x4 ex4 ox4 => ?_)
    unfold m_32 at ox4
    refine z_iand (M := M_X4_setCounting) 25 dX4_setCounting_25 ?_
    refine z_topm (fun x5 ex5 ox5 => ?_)
    unfold m_32 at ox5
    refine z_putIH (M := M_X4_setCounting) 26 dX4_setCounting_26 p_X4_49 (oL hL) rfl (uL8 hL G0) ((FR.rf (cs := []) (ss := [(L, 8)]) (h := h0)).up (by simp [fr])) (fun h1 E1 G1 R1 => ?_)
    exact z_retV (M := M_X4_setCounting) 29 dX4_setCounting_29 rfl ⟨G1, R1, by first | (left; exact ⟨by omega, (upE E1).trans (by simp only [← ex1, ← ex3, ← ex4, ← ex5])⟩) | (right; exact ⟨by omega, (upE E1).trans (by simp only [← ex1, ← ex3, ← ex4, ← ex5])⟩)⟩
  · refine z_aload_n (M := M_X4_setCounting) 9 dX4_setCounting_9 rfl ?_
    refine z_getIV (M := M_X4_setCounting) 10 dX4_setCounting_10 f_X4_49 (oL hL) (by decide) (fun x6 ex6 => ?_)
    refine z_ok (fun ox6 _ _ => ?_)
    have ox6 := ox6.1; unfold m_ok m_32 at ox6
    refine z_iload_n (M := M_X4_setCounting) 13 dX4_setCounting_13 rfl ?_
    refine z_ior (M := M_X4_setCounting) 14 dX4_setCounting_14 ?_
    refine z_topm (fun x7 ex7 ox7 => ?_)
    unfold m_32 at ox7
    refine z_goto (M := M_X4_setCounting) 15 dX4_setCounting_15 26 rfl ?_
    refine z_putIH (M := M_X4_setCounting) 26 dX4_setCounting_26 p_X4_49 (oL hL) rfl (uL8 hL G0) ((FR.rf (cs := []) (ss := [(L, 8)]) (h := h0)).up (by simp [fr])) (fun h2 E2 G2 R2 => ?_)
    exact z_retV (M := M_X4_setCounting) 29 dX4_setCounting_29 rfl ⟨G2, R2, by first | (left; exact ⟨by omega, (upE E2).trans (by simp only [← ex1, ← ex6, ← ex7])⟩) | (right; exact ⟨by omega, (upE E2).trans (by simp only [← ex1, ← ex6, ← ex7])⟩)⟩
abbrev P_X11_counts3 (h0 : m_H) (a1 a2 : Int) (r : Nat → Int) : Int → m_H → Prop := fun x h' => GI h' ∧ FR [107] [(0, 14), (1, 8)] h0 h' ∧ LR 1 h' (spCount a1 a2 r)
set_option maxHeartbeats 4000000 in
set_option maxRecDepth 100000 in
theorem c_X11_counts3 (h0 : m_H) (a1 a2 : Int) (r : Nat → Int) (G0 : GI h0) (Rr : LR 1 h0 r) : m_CI M_X11_counts [mR 0, mI a1, mI a2] h0 (P_X11_counts3 h0 a1 a2 r) := by
  refine m_CI_of ⟨by decide, rfl, by simp [m_arg, m_isL, M_X11_counts], ⟨rfl, rfl⟩, rfl, rfl⟩ (ls := [some (mR 0), some (mI a1), some (mI a2), none]) rfl ?_
  refine z_ok (fun _ _ ok => ?_)
  have oa1 : m_32 a1 := ok 1 _ rfl
  unfold m_32 at oa1
  have oa2 : m_32 a2 := ok 2 _ rfl
  unfold m_32 at oa2
  refine z_iload_n (M := M_X11_counts) 0 dX11_counts_0 rfl ?_
  refine z_iconst (M := M_X11_counts) 1 dX11_counts_1 ?_
  refine z_bipush (M := M_X11_counts) 2 dX11_counts_2 ?_
  refine z_sI (M := M_X11_counts) 4 dX11_counts_4 t_X11_within l_X11_112 (m_rr_of rfl) (rest := []) (c_X11_within h0 a1 0 23 G0) rfl rfl (Nat.le_of_ble_eq_true rfl) ⟨rfl, rfl⟩ (fun x1 h1 qx1 => ?_)
  obtain ⟨rfl, ⟨rfl, cx1⟩ | ⟨rfl, cx1⟩⟩ := qx1
  · refine z_if_eq_F (M := M_X11_counts) 7 dX11_counts_7 19 rfl (by omega) ?_
    refine z_iload_n (M := M_X11_counts) 10 dX11_counts_10 rfl ?_
    refine z_iconst (M := M_X11_counts) 11 dX11_counts_11 ?_
    refine z_iconst (M := M_X11_counts) 12 dX11_counts_12 ?_
    refine z_sI (M := M_X11_counts) 13 dX11_counts_13 t_X11_within l_X11_112 (m_rr_of rfl) (rest := []) (c_X11_within h0 a2 0 1 G0) rfl rfl (Nat.le_of_ble_eq_true rfl) ⟨rfl, rfl⟩ (fun x2 h2 qx2 => ?_)
    obtain ⟨rfl, ⟨rfl, cx2⟩ | ⟨rfl, cx2⟩⟩ := qx2
    · refine z_if_ne_T (M := M_X11_counts) 16 dX11_counts_16 25 rfl (by omega) ?_
      refine z_iload_n (M := M_X11_counts) 25 dX11_counts_25 rfl ?_
      refine z_aload_n (M := M_X11_counts) 26 dX11_counts_26 rfl ?_
      refine z_getR (M := M_X11_counts) 27 dX11_counts_27 f_X11_12 o_0 rfl (g_0_0 G0) ?_
      refine z_getIG (M := M_X11_counts) 30 dX11_counts_30 f_X11_162 o_1 (by decide) (g_1_7 G0) (fun x3 ex3 ax3 bx3 => ?_)
      have e17_ : h0 1 7 = x3 := ex3
      have e70_ := Rr.2.2.2.2.1
      refine z_icmp_lt (M := M_X11_counts) 33 dX11_counts_33 43 rfl (fun c4 => ?_) (fun c4 => ?_)
      · refine z_aload_n (M := M_X11_counts) 43 dX11_counts_43 rfl ?_
        refine z_getR (M := M_X11_counts) 44 dX11_counts_44 f_X11_12 o_0 rfl (g_0_0 G0) ?_
        refine z_iload_n (M := M_X11_counts) 47 dX11_counts_47 rfl ?_
        refine z_vI (M := M_X11_counts) 48 dX11_counts_48 t_X4_isCounting l_X11_165 (m_rr_of rfl) (rest := []) (c_X4_isCounting h0 1 a1 (Or.inl rfl) G0) o_1 rfl rfl rfl (Nat.le_of_ble_eq_true rfl) ⟨rfl, rfl⟩ (fun x5 h3 qx5 => ?_)
        obtain ⟨G3, S3, ax5, bx5⟩ := qx5
        have R3 := (FR.rf (cs := [107]) (ss := [(0, 14), (1, 8)]) (h := h0)).call S3 (by decide +kernel)
        have LR3 : LR 1 h3 r := Rr.S S3 (by decide)
        have e58_ : h3 1 7 = h0 1 7 := S3 1 7 rfl
        refine z_if_eq (M := M_X11_counts) 51 dX11_counts_51 58 rfl (fun c6 => ?_) (fun c6 => ?_)
        · refine z_iconst (M := M_X11_counts) 58 dX11_counts_58 ?_
          refine z_istore_n (M := M_X11_counts) 59 dX11_counts_59 (ls' := [some (mR 0), some (mI a1), some (mI a2), some (mI 0)]) (by decide) rfl ?_
          refine z_aload_n (M := M_X11_counts) 60 dX11_counts_60 rfl ?_
          refine z_getR (M := M_X11_counts) 61 dX11_counts_61 f_X11_12 o_0 rfl (g_0_0 G3) ?_
          refine z_iload_n (M := M_X11_counts) 64 dX11_counts_64 rfl ?_
          refine z_iload_n (M := M_X11_counts) 65 dX11_counts_65 rfl ?_
          refine z_iconst (M := M_X11_counts) 66 dX11_counts_66 ?_
          refine z_icmp_ne (M := M_X11_counts) 67 dX11_counts_67 74 rfl (fun c7 => ?_) (fun c7 => ?_)
          · refine z_iconst (M := M_X11_counts) 74 dX11_counts_74 ?_
            refine z_vV (M := M_X11_counts) 75 dX11_counts_75 t_X4_setCounting l_X11_168 (m_rr_of rfl) (rest := []) (c_X4_setCounting2 h3 1 a1 0 (Or.inl rfl) G3 ⟨by omega, by omega⟩) o_1 rfl rfl rfl (Nat.le_of_ble_eq_true rfl) ⟨rfl, rfl⟩ (fun h4 qx8 => ?_)
            obtain ⟨G4, S4, fx8_0⟩ := qx8
            have R4 := R3.call S4 (by decide +kernel)
            have LR4 := LR.cnt (e := a1) (c := a2) LR3 (by omega) (by have := LR3.2.2.2.2.1; omega) (by rcases fx8_0 with ⟨u, v⟩ | ⟨u, v⟩; (exact Or.inl ⟨by omega, v⟩); (exact Or.inr ⟨by omega, v⟩)) (fr_up8 S4)
            refine z_aload_n (M := M_X11_counts) 78 dX11_counts_78 rfl ?_
            refine z_iload_n (M := M_X11_counts) 79 dX11_counts_79 rfl ?_
            refine z_vI (M := M_X11_counts) 80 dX11_counts_80 t_X11_accept l_X11_123 (m_rr_of rfl) (rest := []) (c_X11_accept h4 0 G4) o_0 rfl rfl rfl (Nat.le_of_ble_eq_true rfl) ⟨rfl, rfl⟩ (fun x9 h5 qx9 => ?_)
            obtain ⟨G5, S5, rfl⟩ := qx9
            have R5 := R4.call S5 (by decide +kernel)
            have LR5 : LR 1 h5 (rU r (5 * a1.toNat + 84) a2) := LR4.S S5 (by decide)
            exact z_retI (M := M_X11_counts) 83 dX11_counts_83 rfl ⟨G5, R5, by unfold spCount; rw [cif_pos (by omega)]; exact LR5⟩
          · refine z_iconst (M := M_X11_counts) 70 dX11_counts_70 ?_
            refine z_goto (M := M_X11_counts) 71 dX11_counts_71 75 rfl ?_
            refine z_vV (M := M_X11_counts) 75 dX11_counts_75 t_X4_setCounting l_X11_168 (m_rr_of rfl) (rest := []) (c_X4_setCounting2 h3 1 a1 1 (Or.inl rfl) G3 ⟨by omega, by omega⟩) o_1 rfl rfl rfl (Nat.le_of_ble_eq_true rfl) ⟨rfl, rfl⟩ (fun h6 qx10 => ?_)
            obtain ⟨G6, S6, fx10_0⟩ := qx10
            have R6 := R3.call S6 (by decide +kernel)
            have LR6 := LR.cnt (e := a1) (c := a2) LR3 (by omega) (by have := LR3.2.2.2.2.1; omega) (by rcases fx10_0 with ⟨u, v⟩ | ⟨u, v⟩; (exact Or.inl ⟨by omega, v⟩); (exact Or.inr ⟨by omega, v⟩)) (fr_up8 S6)
            refine z_aload_n (M := M_X11_counts) 78 dX11_counts_78 rfl ?_
            refine z_iload_n (M := M_X11_counts) 79 dX11_counts_79 rfl ?_
            refine z_vI (M := M_X11_counts) 80 dX11_counts_80 t_X11_accept l_X11_123 (m_rr_of rfl) (rest := []) (c_X11_accept h6 0 G6) o_0 rfl rfl rfl (Nat.le_of_ble_eq_true rfl) ⟨rfl, rfl⟩ (fun x11 h7 qx11 => ?_)
            obtain ⟨G7, S7, rfl⟩ := qx11
            have R7 := R6.call S7 (by decide +kernel)
            have LR7 : LR 1 h7 (rU r (5 * a1.toNat + 84) a2) := LR6.S S7 (by decide)
            exact z_retI (M := M_X11_counts) 83 dX11_counts_83 rfl ⟨G7, R7, by unfold spCount; rw [cif_pos (by omega)]; exact LR7⟩
        · refine z_iconst (M := M_X11_counts) 54 dX11_counts_54 ?_
          refine z_goto (M := M_X11_counts) 55 dX11_counts_55 59 rfl ?_
          refine z_istore_n (M := M_X11_counts) 59 dX11_counts_59 (ls' := [some (mR 0), some (mI a1), some (mI a2), some (mI 1)]) (by decide) rfl ?_
          refine z_aload_n (M := M_X11_counts) 60 dX11_counts_60 rfl ?_
          refine z_getR (M := M_X11_counts) 61 dX11_counts_61 f_X11_12 o_0 rfl (g_0_0 G3) ?_
          refine z_iload_n (M := M_X11_counts) 64 dX11_counts_64 rfl ?_
          refine z_iload_n (M := M_X11_counts) 65 dX11_counts_65 rfl ?_
          refine z_iconst (M := M_X11_counts) 66 dX11_counts_66 ?_
          refine z_icmp_ne (M := M_X11_counts) 67 dX11_counts_67 74 rfl (fun c12 => ?_) (fun c12 => ?_)
          · refine z_iconst (M := M_X11_counts) 74 dX11_counts_74 ?_
            refine z_vV (M := M_X11_counts) 75 dX11_counts_75 t_X4_setCounting l_X11_168 (m_rr_of rfl) (rest := []) (c_X4_setCounting2 h3 1 a1 0 (Or.inl rfl) G3 ⟨by omega, by omega⟩) o_1 rfl rfl rfl (Nat.le_of_ble_eq_true rfl) ⟨rfl, rfl⟩ (fun h8 qx13 => ?_)
            obtain ⟨G8, S8, fx13_0⟩ := qx13
            have R8 := R3.call S8 (by decide +kernel)
            have LR8 := LR.cnt (e := a1) (c := a2) LR3 (by omega) (by have := LR3.2.2.2.2.1; omega) (by rcases fx13_0 with ⟨u, v⟩ | ⟨u, v⟩; (exact Or.inl ⟨by omega, v⟩); (exact Or.inr ⟨by omega, v⟩)) (fr_up8 S8)
            refine z_aload_n (M := M_X11_counts) 78 dX11_counts_78 rfl ?_
            refine z_iload_n (M := M_X11_counts) 79 dX11_counts_79 rfl ?_
            refine z_vI (M := M_X11_counts) 80 dX11_counts_80 t_X11_accept l_X11_123 (m_rr_of rfl) (rest := []) (c_X11_accept h8 1 G8) o_0 rfl rfl rfl (Nat.le_of_ble_eq_true rfl) ⟨rfl, rfl⟩ (fun x14 h9 qx14 => ?_)
            obtain ⟨G9, S9, rfl⟩ := qx14
            have R9 := R8.call S9 (by decide +kernel)
            have LR9 : LR 1 h9 (rU r (5 * a1.toNat + 84) a2) := LR8.S S9 (by decide)
            exact z_retI (M := M_X11_counts) 83 dX11_counts_83 rfl ⟨G9, R9, by unfold spCount; rw [cif_pos (by omega)]; exact LR9⟩
          · refine z_iconst (M := M_X11_counts) 70 dX11_counts_70 ?_
            refine z_goto (M := M_X11_counts) 71 dX11_counts_71 75 rfl ?_
            refine z_vV (M := M_X11_counts) 75 dX11_counts_75 t_X4_setCounting l_X11_168 (m_rr_of rfl) (rest := []) (c_X4_setCounting2 h3 1 a1 1 (Or.inl rfl) G3 ⟨by omega, by omega⟩) o_1 rfl rfl rfl (Nat.le_of_ble_eq_true rfl) ⟨rfl, rfl⟩ (fun h10 qx15 => ?_)
            obtain ⟨G10, S10, fx15_0⟩ := qx15
            have R10 := R3.call S10 (by decide +kernel)
            have LR10 := LR.cnt (e := a1) (c := a2) LR3 (by omega) (by have := LR3.2.2.2.2.1; omega) (by rcases fx15_0 with ⟨u, v⟩ | ⟨u, v⟩; (exact Or.inl ⟨by omega, v⟩); (exact Or.inr ⟨by omega, v⟩)) (fr_up8 S10)
            refine z_aload_n (M := M_X11_counts) 78 dX11_counts_78 rfl ?_
            refine z_iload_n (M := M_X11_counts) 79 dX11_counts_79 rfl ?_
            refine z_vI (M := M_X11_counts) 80 dX11_counts_80 t_X11_accept l_X11_123 (m_rr_of rfl) (rest := []) (c_X11_accept h10 1 G10) o_0 rfl rfl rfl (Nat.le_of_ble_eq_true rfl) ⟨rfl, rfl⟩ (fun x16 h11 qx16 => ?_)
            obtain ⟨G11, S11, rfl⟩ := qx16
            have R11 := R10.call S11 (by decide +kernel)
            have LR11 : LR 1 h11 (rU r (5 * a1.toNat + 84) a2) := LR10.S S11 (by decide)
            exact z_retI (M := M_X11_counts) 83 dX11_counts_83 rfl ⟨G11, R11, by unfold spCount; rw [cif_pos (by omega)]; exact LR11⟩
      · refine z_aload_n (M := M_X11_counts) 36 dX11_counts_36 rfl ?_
        refine z_bipush (M := M_X11_counts) 37 dX11_counts_37 ?_
        refine z_vI (M := M_X11_counts) 39 dX11_counts_39 t_X11_refuse l_X11_116 (m_rr_of rfl) (rest := []) (c_X11_refuse h0 (-2) G0 ⟨by omega, by omega⟩) o_0 rfl rfl rfl (Nat.le_of_ble_eq_true rfl) ⟨rfl, rfl⟩ (fun x17 h12 qx17 => ?_)
        obtain ⟨G12, S12, rfl⟩ := qx17
        have R12 := (FR.rf (cs := [107]) (ss := [(0, 14), (1, 8)]) (h := h0)).call S12 (by decide +kernel)
        have LR12 : LR 1 h12 r := Rr.S S12 (by decide)
        exact z_retI (M := M_X11_counts) 42 dX11_counts_42 rfl ⟨G12, R12, by unfold spCount; rw [cif_neg (by have := Rr.1; unfold RB at this; omega)]; exact LR12⟩
    · refine z_if_ne_F (M := M_X11_counts) 16 dX11_counts_16 25 rfl (by omega) ?_
      refine z_aload_n (M := M_X11_counts) 19 dX11_counts_19 rfl ?_
      refine z_iconst (M := M_X11_counts) 20 dX11_counts_20 ?_
      refine z_vI (M := M_X11_counts) 21 dX11_counts_21 t_X11_refuse l_X11_116 (m_rr_of rfl) (rest := []) (c_X11_refuse h0 (-1) G0 ⟨by omega, by omega⟩) o_0 rfl rfl rfl (Nat.le_of_ble_eq_true rfl) ⟨rfl, rfl⟩ (fun x18 h13 qx18 => ?_)
      obtain ⟨G13, S13, rfl⟩ := qx18
      have R13 := (FR.rf (cs := [107]) (ss := [(0, 14), (1, 8)]) (h := h0)).call S13 (by decide +kernel)
      have LR13 : LR 1 h13 r := Rr.S S13 (by decide)
      exact z_retI (M := M_X11_counts) 24 dX11_counts_24 rfl ⟨G13, R13, by unfold spCount; rw [cif_neg (by have := Rr.1; unfold RB at this; omega)]; exact LR13⟩
  · refine z_if_eq_T (M := M_X11_counts) 7 dX11_counts_7 19 rfl (by omega) ?_
    refine z_aload_n (M := M_X11_counts) 19 dX11_counts_19 rfl ?_
    refine z_iconst (M := M_X11_counts) 20 dX11_counts_20 ?_
    refine z_vI (M := M_X11_counts) 21 dX11_counts_21 t_X11_refuse l_X11_116 (m_rr_of rfl) (rest := []) (c_X11_refuse h0 (-1) G0 ⟨by omega, by omega⟩) o_0 rfl rfl rfl (Nat.le_of_ble_eq_true rfl) ⟨rfl, rfl⟩ (fun x19 h14 qx19 => ?_)
    obtain ⟨G14, S14, rfl⟩ := qx19
    have R14 := (FR.rf (cs := [107]) (ss := [(0, 14), (1, 8)]) (h := h0)).call S14 (by decide +kernel)
    have LR14 : LR 1 h14 r := Rr.S S14 (by decide)
    exact z_retI (M := M_X11_counts) 24 dX11_counts_24 rfl ⟨G14, R14, by unfold spCount; rw [cif_neg (by have := Rr.1; unfold RB at this; omega)]; exact LR14⟩
def tfQ (b : Nat → Int) (n k : Int) (r : Nat → Int) (x : Int) (h' : m_H) : Prop := (x = 1 ∧ ((k + 3 < n ∧ r 0 ≤ 23) ∧ canE (b k.toNat) (b (k + 1).toNat) (b (k + 2).toNat) (b (k + 3).toNat)) ∧ LR 1 h' (rE r (b k.toNat) (b (k + 1).toNat) (b (k + 2).toNat) (b (k + 3).toNat))) ∨ (x = 0 ∧ ¬ ((k + 3 < n ∧ r 0 ≤ 23) ∧ canE (b k.toNat) (b (k + 1).toNat) (b (k + 2).toNat) (b (k + 3).toNat)) ∧ LR 1 h' r)
abbrev P_X11_takeFromRow3 (h0 : m_H) (a1 : Int) (r : Nat → Int) : Int → m_H → Prop := fun x h' => GI h' ∧ FR [4, 5, 6, 7] [(1, 7), (1, 8)] h0 h' ∧ tfQ (h0 36) (h0 35 1) a1 r x h'
set_option maxHeartbeats 4000000 in
set_option maxRecDepth 100000 in
theorem c_X11_takeFromRow3 (h0 : m_H) (a1 : Int) (r : Nat → Int) (G0 : GI h0) (pa1 : 0 ≤ a1 ∧ a1 ≤ 400) (Rr : LR 1 h0 r) : m_CI M_X11_takeFromRow [mR 0, mI a1] h0 (P_X11_takeFromRow3 h0 a1 r) := by
  refine m_CI_of ⟨by decide, rfl, by simp [m_arg, m_isL, M_X11_takeFromRow], ⟨rfl, rfl⟩, rfl, rfl⟩ (ls := [some (mR 0), some (mI a1), none, none, none, none]) rfl ?_
  refine z_iload_n (M := M_X11_takeFromRow) 0 dX11_takeFromRow_0 rfl ?_
  refine z_iconst (M := M_X11_takeFromRow) 1 dX11_takeFromRow_1 ?_
  refine z_iaddN (M := M_X11_takeFromRow) 2 dX11_takeFromRow_2 (by omega) (by omega) ?_
  refine z_aload_n (M := M_X11_takeFromRow) 3 dX11_takeFromRow_3 rfl ?_
  refine z_getR (M := M_X11_takeFromRow) 4 dX11_takeFromRow_4 f_X11_30 o_0 rfl (g_0_4 G0) ?_
  refine z_getIG (M := M_X11_takeFromRow) 7 dX11_takeFromRow_7 f_X11_187 o_35 (by decide) (g_35_1 G0) (fun x1 ex1 ax1 bx1 => ?_)
  have n_ : h0 35 1 = x1 := ex1
  refine z_icmp_le (M := M_X11_takeFromRow) 10 dX11_takeFromRow_10 15 rfl (fun c2 => ?_) (fun c2 => ?_)
  · refine z_aload_n (M := M_X11_takeFromRow) 15 dX11_takeFromRow_15 rfl ?_
    refine z_getR (M := M_X11_takeFromRow) 16 dX11_takeFromRow_16 f_X11_30 o_0 rfl (g_0_4 G0) ?_
    refine z_getR (M := M_X11_takeFromRow) 19 dX11_takeFromRow_19 f_X11_424 o_35 rfl (g_35_0 G0) ?_
    refine z_iload_n (M := M_X11_takeFromRow) 22 dX11_takeFromRow_22 rfl ?_
    refine z_ialdG (M := M_X11_takeFromRow) 23 dX11_takeFromRow_23 o_36 (by omega) (by omega) (g_36 G0 (by omega)) (fun x3 ex3 ax3 bx3 => ?_)
    refine z_istore_n (M := M_X11_takeFromRow) 24 dX11_takeFromRow_24 (ls' := [some (mR 0), some (mI a1), some (mI x3), none, none, none]) (by decide) rfl ?_
    refine z_aload_n (M := M_X11_takeFromRow) 25 dX11_takeFromRow_25 rfl ?_
    refine z_getR (M := M_X11_takeFromRow) 26 dX11_takeFromRow_26 f_X11_30 o_0 rfl (g_0_4 G0) ?_
    refine z_getR (M := M_X11_takeFromRow) 29 dX11_takeFromRow_29 f_X11_424 o_35 rfl (g_35_0 G0) ?_
    refine z_iload_n (M := M_X11_takeFromRow) 32 dX11_takeFromRow_32 rfl ?_
    refine z_iconst (M := M_X11_takeFromRow) 33 dX11_takeFromRow_33 ?_
    refine z_iaddN (M := M_X11_takeFromRow) 34 dX11_takeFromRow_34 (by omega) (by omega) ?_
    refine z_ialdG (M := M_X11_takeFromRow) 35 dX11_takeFromRow_35 o_36 (by omega) (by omega) (g_36 G0 (by omega)) (fun x4 ex4 ax4 bx4 => ?_)
    refine z_istore_n (M := M_X11_takeFromRow) 36 dX11_takeFromRow_36 (ls' := [some (mR 0), some (mI a1), some (mI x3), some (mI x4), none, none]) (by decide) rfl ?_
    refine z_aload_n (M := M_X11_takeFromRow) 37 dX11_takeFromRow_37 rfl ?_
    refine z_getR (M := M_X11_takeFromRow) 38 dX11_takeFromRow_38 f_X11_30 o_0 rfl (g_0_4 G0) ?_
    refine z_getR (M := M_X11_takeFromRow) 41 dX11_takeFromRow_41 f_X11_424 o_35 rfl (g_35_0 G0) ?_
    refine z_iload_n (M := M_X11_takeFromRow) 44 dX11_takeFromRow_44 rfl ?_
    refine z_iconst (M := M_X11_takeFromRow) 45 dX11_takeFromRow_45 ?_
    refine z_iaddN (M := M_X11_takeFromRow) 46 dX11_takeFromRow_46 (by omega) (by omega) ?_
    refine z_ialdG (M := M_X11_takeFromRow) 47 dX11_takeFromRow_47 o_36 (by omega) (by omega) (g_36 G0 (by omega)) (fun x5 ex5 ax5 bx5 => ?_)
    refine z_istore (M := M_X11_takeFromRow) 48 dX11_takeFromRow_48 (ls' := [some (mR 0), some (mI a1), some (mI x3), some (mI x4), some (mI x5), none]) (by decide) rfl ?_
    refine z_aload_n (M := M_X11_takeFromRow) 50 dX11_takeFromRow_50 rfl ?_
    refine z_getR (M := M_X11_takeFromRow) 51 dX11_takeFromRow_51 f_X11_30 o_0 rfl (g_0_4 G0) ?_
    refine z_getR (M := M_X11_takeFromRow) 54 dX11_takeFromRow_54 f_X11_424 o_35 rfl (g_35_0 G0) ?_
    refine z_iload_n (M := M_X11_takeFromRow) 57 dX11_takeFromRow_57 rfl ?_
    refine z_iconst (M := M_X11_takeFromRow) 58 dX11_takeFromRow_58 ?_
    refine z_iaddN (M := M_X11_takeFromRow) 59 dX11_takeFromRow_59 (by omega) (by omega) ?_
    refine z_ialdG (M := M_X11_takeFromRow) 60 dX11_takeFromRow_60 o_36 (by omega) (by omega) (g_36 G0 (by omega)) (fun x6 ex6 ax6 bx6 => ?_)
    refine z_istore (M := M_X11_takeFromRow) 61 dX11_takeFromRow_61 (ls' := [some (mR 0), some (mI a1), some (mI x3), some (mI x4), some (mI x5), some (mI x6)]) (by decide) rfl ?_
    refine z_iload_n (M := M_X11_takeFromRow) 63 dX11_takeFromRow_63 rfl ?_
    refine z_iload_n (M := M_X11_takeFromRow) 64 dX11_takeFromRow_64 rfl ?_
    refine z_iload (M := M_X11_takeFromRow) 65 dX11_takeFromRow_65 rfl ?_
    refine z_iload (M := M_X11_takeFromRow) 67 dX11_takeFromRow_67 rfl ?_
    refine z_sI (M := M_X11_takeFromRow) 69 dX11_takeFromRow_69 t_X11_isEntry l_X11_151 (m_rr_of rfl) (rest := []) (c_X11_isEntry h0 x3 x4 x5 x6 G0) rfl rfl (Nat.le_of_ble_eq_true rfl) ⟨rfl, rfl⟩ (fun x7 h1 qx7 => ?_)
    obtain ⟨rfl, ⟨rfl, cx7⟩ | ⟨rfl, cx7⟩⟩ := qx7
    · refine z_if_eq_F (M := M_X11_takeFromRow) 72 dX11_takeFromRow_72 85 rfl (by omega) ?_
      refine z_aload_n (M := M_X11_takeFromRow) 75 dX11_takeFromRow_75 rfl ?_
      refine z_getR (M := M_X11_takeFromRow) 76 dX11_takeFromRow_76 f_X11_12 o_0 rfl (g_0_0 G0) ?_
      refine z_vI (M := M_X11_takeFromRow) 79 dX11_takeFromRow_79 t_X4_hasRoom l_X11_155 (m_rr_of rfl) (rest := []) (c_X4_hasRoom h0 1 (Or.inl rfl) G0) o_1 rfl rfl rfl (Nat.le_of_ble_eq_true rfl) ⟨rfl, rfl⟩ (fun x8 h2 qx8 => ?_)
      obtain ⟨rfl, ⟨rfl, cx8⟩ | ⟨rfl, cx8⟩⟩ := qx8
      · refine z_if_ne_T (M := M_X11_takeFromRow) 82 dX11_takeFromRow_82 87 rfl (by omega) ?_
        refine z_aload_n (M := M_X11_takeFromRow) 87 dX11_takeFromRow_87 rfl ?_
        refine z_getR (M := M_X11_takeFromRow) 88 dX11_takeFromRow_88 f_X11_12 o_0 rfl (g_0_0 G0) ?_
        refine z_iload_n (M := M_X11_takeFromRow) 91 dX11_takeFromRow_91 rfl ?_
        refine z_iload_n (M := M_X11_takeFromRow) 92 dX11_takeFromRow_92 rfl ?_
        refine z_iload (M := M_X11_takeFromRow) 93 dX11_takeFromRow_93 rfl ?_
        refine z_iload (M := M_X11_takeFromRow) 95 dX11_takeFromRow_95 rfl ?_
        refine z_vV (M := M_X11_takeFromRow) 97 dX11_takeFromRow_97 t_X4_addEntry l_X11_158 (m_rr_of rfl) (rest := []) (c_X4_addEntry2 h0 1 x3 x4 x5 x6 (Or.inl rfl) G0 ⟨by omega, by omega⟩ ⟨by omega, by omega⟩ ⟨by omega, by omega⟩ ⟨by omega, by omega⟩) o_1 rfl rfl rfl (Nat.le_of_ble_eq_true rfl) ⟨rfl, rfl⟩ (fun h3 qx9 => ?_)
        obtain ⟨G3, S3, fx9_0⟩ := qx9
        have R3 := (FR.rf (cs := [4, 5, 6, 7]) (ss := [(1, 7), (1, 8)]) (h := h0)).call S3 (by decide +kernel)
        have LR3 := fx9_0 r Rr (by have := Rr.2.2.2.2.1; omega)
        refine z_iconst (M := M_X11_takeFromRow) 100 dX11_takeFromRow_100 ?_
        exact z_retZ (M := M_X11_takeFromRow) 101 dX11_takeFromRow_101 rfl (by omega) ⟨G3, R3, Or.inl ⟨rfl, ⟨⟨by omega, by have := Rr.2.2.2.2.1; omega⟩, (by unfold canE; rw [ex3, ex4, ex5, ex6]; omega)⟩, (by rw [ex3, ex4, ex5, ex6]; exact LR3)⟩⟩
      · refine z_if_ne_F (M := M_X11_takeFromRow) 82 dX11_takeFromRow_82 87 rfl (by omega) ?_
        refine z_iconst (M := M_X11_takeFromRow) 85 dX11_takeFromRow_85 ?_
        exact z_retZ (M := M_X11_takeFromRow) 86 dX11_takeFromRow_86 rfl (by omega) ⟨G0, (FR.rf (cs := [4, 5, 6, 7]) (ss := [(1, 7), (1, 8)]) (h := h0)), Or.inr ⟨rfl, fun z => by have b23_ : h0 36 a1.toNat = x3 := ex3; have b35_ : h0 36 (a1 + 1).toNat = x4 := ex4; have b47_ : h0 36 (a1 + 2).toNat = x5 := ex5; have b60_ : h0 36 (a1 + 3).toNat = x6 := ex6; have z2 := z.2; unfold canE at z2; have z3 := z.1.2; have n7_ := Rr.2.2.2.2.1; omega, Rr⟩⟩
    · refine z_if_eq_T (M := M_X11_takeFromRow) 72 dX11_takeFromRow_72 85 rfl (by omega) ?_
      refine z_iconst (M := M_X11_takeFromRow) 85 dX11_takeFromRow_85 ?_
      exact z_retZ (M := M_X11_takeFromRow) 86 dX11_takeFromRow_86 rfl (by omega) ⟨G0, (FR.rf (cs := [4, 5, 6, 7]) (ss := [(1, 7), (1, 8)]) (h := h0)), Or.inr ⟨rfl, fun z => by have b23_ : h0 36 a1.toNat = x3 := ex3; have b35_ : h0 36 (a1 + 1).toNat = x4 := ex4; have b47_ : h0 36 (a1 + 2).toNat = x5 := ex5; have b60_ : h0 36 (a1 + 3).toNat = x6 := ex6; have z2 := z.2; unfold canE at z2; have z3 := z.1.2; have n7_ := Rr.2.2.2.2.1; omega, Rr⟩⟩
  · refine z_iconst (M := M_X11_takeFromRow) 13 dX11_takeFromRow_13 ?_
    exact z_retZ (M := M_X11_takeFromRow) 14 dX11_takeFromRow_14 rfl (by omega) ⟨G0, (FR.rf (cs := [4, 5, 6, 7]) (ss := [(1, 7), (1, 8)]) (h := h0)), Or.inr ⟨rfl, fun z => by have := z.1.1; omega, Rr⟩⟩
theorem tf_c {b : Nat → Int} {n k : Int} {r : Nat → Int} {x : Int} {h h' : m_H} (eb : h 36 = b) (en : h 35 1 = n) (T : tfQ (h 36) (h 35 1) k r x h') : tfQ b n k r x h' := by subst eb en; exact T
theorem rw_y {b : Nat → Int} {n k : Int} {r : Nat → Int} {i : Nat} (e : k = 4 * (i : Int)) (c : (k + 3 < n ∧ (rwL b n r i).2.2 0 ≤ 23) ∧ canE (b k.toNat) (b (k + 1).toNat) (b (k + 2).toNat) (b (k + 3).toNat)) : rwL b n r (i + 1) = ((rwL b n r i).1 + 1, (rwL b n r i).2.1, rE (rwL b n r i).2.2 (b k.toNat) (b (k + 1).toNat) (b (k + 2).toNat) (b (k + 3).toNat)) := by rw [rwL_s e]; exact cif_pos c
theorem rw_n {b : Nat → Int} {n k : Int} {r : Nat → Int} {i : Nat} (e : k = 4 * (i : Int)) (c : ¬ ((k + 3 < n ∧ (rwL b n r i).2.2 0 ≤ 23) ∧ canE (b k.toNat) (b (k + 1).toNat) (b (k + 2).toNat) (b (k + 3).toNat))) : rwL b n r (i + 1) = ((rwL b n r i).1, (rwL b n r i).2.1 + 1, (rwL b n r i).2.2) := by rw [rwL_s e]; exact cif_neg c
abbrev P_X11_row3 (h0 : m_H) (r : Nat → Int) : Int → m_H → Prop := fun x h' => GI h' ∧ FR [4, 5, 6, 7, 107] [(0, 14), (0, 15), (1, 7), (1, 8), (35, 1)] h0 h' ∧ h' 35 1 = 0 ∧ rwQ (h0 36) (h0 35 1) r x (h0 0 15) (h' 0 15) h'
def q_X11_row3 (h0 : m_H) (r : Nat → Int) (n : Nat) : Prop := (∀ (l1 l2 y_35_1 : Int) (h : m_H), GI h → FR [4, 5, 6, 7, 107] [(0, 14), (0, 15), (1, 7), (1, 8), (35, 1)] h0 h → 0 ≤ l1 → l1 ≤ 24 → 0 ≤ l2 → l2 ≤ 403 → 0 ≤ y_35_1 → y_35_1 ≤ 400 → (h 35 1 = y_35_1) → (∃ i : Nat, l2 = 4 * (i : Int) ∧ LR 1 h (rwL (h0 36) (h0 35 1) r i).2.2 ∧ h 0 15 = (rwL (h0 36) (h0 35 1) r i).2.1) → (y_35_1 = h0 35 1) → (l1 = r 0) → (l2 ≤ y_35_1 + 3 ∧ h0 35 1 ≠ 0) → 2 * (403 - l2) + (1) ≤ (n : Int) → m_Z oF M_X11_row 32 [some (mR 0), some (mI l1), some (mI l2)] [] h (m_QI (P_X11_row3 h0 r)))
set_option maxHeartbeats 4000000 in
set_option maxRecDepth 100000 in
theorem s_X11_row3_32 (h0 : m_H) (r : Nat → Int) (G0 : GI h0) (Rr : LR 1 h0 r) (n : Nat) (ih : q_X11_row3 h0 r n) : ∀ (l1 l2 y_35_1 : Int) (h : m_H), GI h → FR [4, 5, 6, 7, 107] [(0, 14), (0, 15), (1, 7), (1, 8), (35, 1)] h0 h → 0 ≤ l1 → l1 ≤ 24 → 0 ≤ l2 → l2 ≤ 403 → 0 ≤ y_35_1 → y_35_1 ≤ 400 → (h 35 1 = y_35_1) → (∃ i : Nat, l2 = 4 * (i : Int) ∧ LR 1 h (rwL (h0 36) (h0 35 1) r i).2.2 ∧ h 0 15 = (rwL (h0 36) (h0 35 1) r i).2.1) → (y_35_1 = h0 35 1) → (l1 = r 0) → (l2 ≤ y_35_1 + 3 ∧ h0 35 1 ≠ 0) → 2 * (403 - l2) + (1) ≤ ((n + 1 : Nat) : Int) → m_Z oF M_X11_row 32 [some (mR 0), some (mI l1), some (mI l2)] [] h (m_QI (P_X11_row3 h0 r)) := by
  intro l1 l2 y_35_1 h G R v0 v1 v2 v3 v4 v5 t_35_1 i0 i1 i2 i3 hr
  obtain ⟨i_, ki_, Li_, bi_⟩ := i0
  refine z_iload_n (M := M_X11_row) 32 dX11_row_32 rfl ?_
  refine z_aload_n (M := M_X11_row) 33 dX11_row_33 rfl ?_
  refine z_getR (M := M_X11_row) 34 dX11_row_34 f_X11_30 o_0 rfl (g_0_4 G) ?_
  refine z_getIE (M := M_X11_row) 37 dX11_row_37 f_X11_187 o_35 (by decide) t_35_1 ?_
  refine z_icmp_ge (M := M_X11_row) 40 dX11_row_40 67 rfl (fun c1 => ?_) (fun c1 => ?_)
  · refine z_aload_n (M := M_X11_row) 67 dX11_row_67 rfl ?_
    refine z_getR (M := M_X11_row) 68 dX11_row_68 f_X11_30 o_0 rfl (g_0_4 G) ?_
    refine z_iconst (M := M_X11_row) 71 dX11_row_71 ?_
    refine z_putIH (M := M_X11_row) 72 dX11_row_72 p_X11_187 o_35 rfl (u_35_1 G (by omega) (by omega)) (R.up rfl) (fun h1 E1 G1 R1 => ?_)
    refine z_aload_n (M := M_X11_row) 75 dX11_row_75 rfl ?_
    refine z_aload_n (M := M_X11_row) 76 dX11_row_76 rfl ?_
    refine z_getR (M := M_X11_row) 77 dX11_row_77 f_X11_12 o_0 rfl (g_0_0 G1) ?_
    refine z_getIG (M := M_X11_row) 80 dX11_row_80 f_X11_162 o_1 (by decide) (g_1_7 G1) (fun x2 ex2 ax2 bx2 => ?_)
    refine z_iload_n (M := M_X11_row) 83 dX11_row_83 rfl ?_
    refine z_isubN (M := M_X11_row) 84 dX11_row_84 (by omega) (by omega) ?_
    refine z_vI (M := M_X11_row) 85 dX11_row_85 t_X11_accept l_X11_123 (m_rr_of rfl) (rest := []) (c_X11_accept h1 (x2 - l1) G1) o_0 rfl rfl rfl (Nat.le_of_ble_eq_true rfl) ⟨rfl, rfl⟩ (fun x3 h2 qx3 => ?_)
    obtain ⟨G2, S2, rfl⟩ := qx3
    have R2 := R1.call S2 (by decide +kernel)
    have hi_ : rwN (h0 35 1) = i_ := by unfold rwN; omega
    have e0_ := rwL_0 (b := h0 36) (n := h0 35 1) (r := r) i_
    have le_ : x2 = (rwL (h0 36) (h0 35 1) r i_).2.2 0 := ex2.symm.trans ((upN E1 (by decide)).trans Li_.2.2.2.2.1)
    exact z_retI (M := M_X11_row) 88 dX11_row_88 rfl ⟨G2, R2, (S2 35 1 rfl).trans (upE E1), Or.inr ⟨by omega, by rw [hi_]; omega, by rw [hi_]; exact (S2 0 15 rfl).trans ((upN E1 (by decide)).trans bi_), by rw [hi_]; exact (Li_.same (fun i hi j => tl_o E1 (by omega) j) (fun _ _ => rfl)).S S2 (by decide)⟩⟩
  · refine z_aload_n (M := M_X11_row) 43 dX11_row_43 rfl ?_
    refine z_iload_n (M := M_X11_row) 44 dX11_row_44 rfl ?_
    refine z_vI (M := M_X11_row) 45 dX11_row_45 t_X11_takeFromRow l_X11_194 (m_rr_of rfl) (rest := []) (c_X11_takeFromRow3 h l2 (rwL (h0 36) (h0 35 1) r i_).2.2 G ⟨by omega, by omega⟩ Li_) o_0 rfl rfl rfl (Nat.le_of_ble_eq_true rfl) ⟨rfl, rfl⟩ (fun x4 h3 qx4 => ?_)
    obtain ⟨G3, S3, Kx4⟩ := qx4
    have R3 := R.call S3 (by decide +kernel)
    rcases tf_c (rowz R (fun _ => rfl)) (t_35_1.trans i1) Kx4 with ⟨rfl, Cx4, Lx4⟩ | ⟨rfl, Cx4, Lx4⟩
    · refine z_if_ne_T (M := M_X11_row) 48 dX11_row_48 61 rfl (by omega) ?_
      refine z_iincN (M := M_X11_row) 61 dX11_row_61 (ls' := [some (mR 0), some (mI l1), some (mI (l2 + 4))]) (by decide) rfl (by (unfold m_32; decide)) (by omega) (by omega) rfl ?_
      refine z_goto (M := M_X11_row) 64 dX11_row_64 32 rfl ?_
      exact z_mask [true, true, true] rfl (ih l1 (l2 + 4) y_35_1 h3 G3 R3 (by omega) (by omega) (by omega) (by omega) (by omega) (by omega) ((S3 35 1 rfl).trans t_35_1) ⟨i_ + 1, (by omega), (by rw [rw_y ki_ Cx4]; exact Lx4), (by rw [rw_y ki_ Cx4]; exact (S3 0 15 rfl).trans bi_)⟩ (by omega) i2 (by omega) (by omega))
    · refine z_if_ne_F (M := M_X11_row) 48 dX11_row_48 61 rfl (by omega) ?_
      refine z_aload_n (M := M_X11_row) 51 dX11_row_51 rfl ?_
      refine z_dup (M := M_X11_row) 52 dX11_row_52 rfl ?_
      refine z_getIV (M := M_X11_row) 53 dX11_row_53 f_X11_102 o_0 (by decide) (fun x5 ex5 => ?_)
      refine z_ok (fun ox5 _ _ => ?_)
      have ox5 := ox5.1; unfold m_ok m_32 at ox5
      refine z_iconst (M := M_X11_row) 56 dX11_row_56 ?_
      have rb_ := rwL_b (b := h0 36) (n := h0 35 1) (r := r) i_
      have x5_ : x5 = (rwL (h0 36) (h0 35 1) r i_).2.1 := ex5.symm.trans ((S3 0 15 rfl).trans bi_)
      refine z_iaddN (M := M_X11_row) 57 dX11_row_57 (by omega) (by omega) ?_
      refine z_topBI (lo := 1) (hi := 102) ⟨by omega, by omega⟩ (fun x6 ex6 ax6 bx6 => ?_)
      refine z_putIH (M := M_X11_row) 58 dX11_row_58 p_X11_102 o_0 rfl (u_0_15 G3) (R3.up rfl) (fun h4 E4 G4 R4 => ?_)
      refine z_iincN (M := M_X11_row) 61 dX11_row_61 (ls' := [some (mR 0), some (mI l1), some (mI (l2 + 4))]) (by decide) rfl (by (unfold m_32; decide)) (by omega) (by omega) rfl ?_
      refine z_goto (M := M_X11_row) 64 dX11_row_64 32 rfl ?_
      exact z_mask [true, true, true] rfl (ih l1 (l2 + 4) y_35_1 h4 G4 R4 (by omega) (by omega) (by omega) (by omega) (by omega) (by omega) ((upN E4 (fun q => absurd q.1 (by decide))).trans ((S3 35 1 rfl).trans t_35_1)) ⟨i_ + 1, (by omega), (by rw [rw_n ki_ Cx4]; exact Lx4.same (fun i hi j => tl_o E4 (by omega) j) (fun _ _ => rfl)), (by rw [rw_n ki_ Cx4]; show _ = _ + 1; rw [upE E4, ← bi_]; have z_ := S3 0 15 rfl; have w_ := ex5; omega)⟩ (by omega) i2 (by omega) (by omega))
theorem a_X11_row3 (h0 : m_H) (r : Nat → Int) (G0 : GI h0) (Rr : LR 1 h0 r) : ∀ n, q_X11_row3 h0 r n := by
  intro n
  induction n with
  | zero => unfold q_X11_row3; intros; omega
  | succ n ih => exact s_X11_row3_32 h0 r G0 Rr n ih
set_option maxHeartbeats 4000000 in
set_option maxRecDepth 100000 in
theorem c_X11_row3 (h0 : m_H) (r : Nat → Int) (G0 : GI h0) (Rr : LR 1 h0 r) : m_CI M_X11_row [mR 0] h0 (P_X11_row3 h0 r) := by
  refine m_CI_of ⟨by decide, rfl, by simp [m_arg, m_isL, M_X11_row], ⟨rfl, rfl⟩, rfl, rfl⟩ (ls := [some (mR 0), none, none]) rfl ?_
  have ih := a_X11_row3 h0 r G0 Rr 814
  obtain ⟨x1, ex1⟩ : ∃ y : Int, h0 35 1 = y := ⟨_, rfl⟩
  have bx1 : 0 ≤ x1 ∧ x1 ≤ 400 := ex1 ▸ g_35_1 G0
  refine z_aload_n (M := M_X11_row) 0 dX11_row_0 rfl ?_
  refine z_getR (M := M_X11_row) 1 dX11_row_1 f_X11_30 o_0 rfl (g_0_4 G0) ?_
  refine z_getIE (M := M_X11_row) 4 dX11_row_4 f_X11_187 o_35 (by decide) ex1 ?_
  refine z_if_ne (M := M_X11_row) 7 dX11_row_7 17 rfl (fun c2 => ?_) (fun c2 => ?_)
  · refine z_aload_n (M := M_X11_row) 17 dX11_row_17 rfl ?_
    refine z_getR (M := M_X11_row) 18 dX11_row_18 f_X11_12 o_0 rfl (g_0_0 G0) ?_
    refine z_getIG (M := M_X11_row) 21 dX11_row_21 f_X11_162 o_1 (by decide) (g_1_7 G0) (fun x3 ex3 ax3 bx3 => ?_)
    refine z_istore_n (M := M_X11_row) 24 dX11_row_24 (ls' := [some (mR 0), some (mI x3), none]) (by decide) rfl ?_
    refine z_aload_n (M := M_X11_row) 25 dX11_row_25 rfl ?_
    refine z_iconst (M := M_X11_row) 26 dX11_row_26 ?_
    refine z_putIH (M := M_X11_row) 27 dX11_row_27 p_X11_102 o_0 rfl (u_0_15 G0) ((FR.rf (cs := [4, 5, 6, 7, 107]) (ss := [(0, 14), (0, 15), (1, 7), (1, 8), (35, 1)]) (h := h0)).up rfl) (fun h1 E1 G1 R1 => ?_)
    refine z_iconst (M := M_X11_row) 30 dX11_row_30 ?_
    refine z_istore_n (M := M_X11_row) 31 dX11_row_31 (ls' := [some (mR 0), some (mI x3), some (mI 0)]) (by decide) rfl ?_
    exact z_mask [true, true, true] rfl (ih x3 0 x1 h1 G1 R1 (by omega) (by omega) (by omega) (by omega) (by omega) (by omega) ((upN E1 (fun q => absurd q.1 (by decide))).trans ex1) ⟨0, rfl, (Rr.same (fun i hi j => tl_o E1 (by omega) j) (fun _ _ => rfl)), (upE E1)⟩ (by have y_ := ex1; omega) (by have n_ := Rr.2.2.2.2.1; have e_ := ex3; omega) (by omega) (by omega))
  · refine z_aload_n (M := M_X11_row) 10 dX11_row_10 rfl ?_
    refine z_bipush (M := M_X11_row) 11 dX11_row_11 ?_
    refine z_vI (M := M_X11_row) 13 dX11_row_13 t_X11_refuse l_X11_116 (m_rr_of rfl) (rest := []) (c_X11_refuse h0 (-6) G0 ⟨by omega, by omega⟩) o_0 rfl rfl rfl (Nat.le_of_ble_eq_true rfl) ⟨rfl, rfl⟩ (fun x4 h2 qx4 => ?_)
    obtain ⟨G2, S2, rfl⟩ := qx4
    have R2 := (FR.rf (cs := [4, 5, 6, 7, 107]) (ss := [(0, 14), (0, 15), (1, 7), (1, 8), (35, 1)]) (h := h0)).call S2 (by decide +kernel)
    exact z_retI (M := M_X11_row) 16 dX11_row_16 rfl ⟨G2, R2, (S2 35 1 rfl).trans (by omega), Or.inl ⟨by omega, rfl, S2 0 15 rfl, Rr.S S2 (by decide)⟩⟩
abbrev P_X11_book3 (h0 : m_H) (r : Nat → Int) : Int → m_H → Prop := fun x h' => GI h' ∧ FR [2, 3, 4, 5, 6, 7, 8, 10, 11, 12, 13, 14, 15, 16, 107] [(0, 14), (0, 16), (1, 7), (1, 8), (1, 9), (9, 7), (9, 8), (9, 9), (35, 1), (37, 1), (37, 2), (37, 3)] h0 h' ∧ (-6) ≤ x ∧ x ≤ 400 ∧ h' 35 1 = 0 ∧ boQ (rdBook (h0 36) (h0 35 1) 400 (nx (h0 36) (h0 35 1) 0) r 1) r x h'
set_option maxHeartbeats 4000000 in
set_option maxRecDepth 100000 in
theorem c_X11_book3 (h0 : m_H) (r : Nat → Int) (G0 : GI h0) (Rr : LR 1 h0 r) : m_CI M_X11_book [mR 0] h0 (P_X11_book3 h0 r) := by
  refine m_CI_of ⟨by decide, rfl, by simp [m_arg, m_isL, M_X11_book], ⟨rfl, rfl⟩, rfl, rfl⟩ (ls := [some (mR 0), none]) rfl ?_
  obtain ⟨x1, ex1⟩ : ∃ y : Int, h0 35 1 = y := ⟨_, rfl⟩
  have bx1 : 0 ≤ x1 ∧ x1 ≤ 400 := ex1 ▸ g_35_1 G0
  refine z_aload_n (M := M_X11_book) 0 dX11_book_0 rfl ?_
  refine z_getR (M := M_X11_book) 1 dX11_book_1 f_X11_16 o_0 rfl (g_0_1 G0) ?_
  refine z_aload_n (M := M_X11_book) 4 dX11_book_4 rfl ?_
  refine z_getR (M := M_X11_book) 5 dX11_book_5 f_X11_12 o_0 rfl (g_0_0 G0) ?_
  refine z_vV (M := M_X11_book) 8 dX11_book_8 t_X4_copyFrom l_X11_197 (m_rr_of rfl) (rest := []) (c_X4_copyFrom2 h0 9 1 (Or.inr (Or.inl rfl)) (Or.inl rfl) G0) o_9 rfl rfl rfl (Nat.le_of_ble_eq_true rfl) ⟨rfl, rfl⟩ (fun h1 qx2 => ?_)
  obtain ⟨G1, S1, C1⟩ := qx2
  have R1 := (FR.rf (cs := [2, 3, 4, 5, 6, 7, 8, 10, 11, 12, 13, 14, 15, 16, 107]) (ss := [(0, 14), (0, 16), (1, 7), (1, 8), (1, 9), (9, 7), (9, 8), (9, 9), (35, 1), (37, 1), (37, 2), (37, 3)]) (h := h0)).call S1 (by decide +kernel)
  refine z_aload_n (M := M_X11_book) 11 dX11_book_11 rfl ?_
  refine z_getR (M := M_X11_book) 12 dX11_book_12 f_X11_39 o_0 rfl (g_0_5 G1) ?_
  refine z_aload_n (M := M_X11_book) 15 dX11_book_15 rfl ?_
  refine z_getR (M := M_X11_book) 16 dX11_book_16 f_X11_16 o_0 rfl (g_0_1 G1) ?_
  refine z_vI (M := M_X11_book) 19 dX11_book_19 t_X1_readOnto l_X11_201 (m_rr_of rfl) (rest := []) (c_X1_readOnto2 h1 r G1 (Rr.copy C1)) o_37 rfl rfl rfl (Nat.le_of_ble_eq_true rfl) ⟨rfl, rfl⟩ (fun x3 h2 qx3 => ?_)
  obtain ⟨G2, S2, ax3, bx3, Q2⟩ := qx3
  have eb_ : h1 36 = h0 36 := rowz S1 (fun _ => rfl)
  have en_ : h1 35 1 = h0 35 1 := S1 35 1 rfl
  rw [eb_, en_] at Q2
  have R2 := R1.call S2 (by decide +kernel)
  refine z_istore_n (M := M_X11_book) 22 dX11_book_22 (ls' := [some (mR 0), some (mI x3)]) (by decide) rfl ?_
  refine z_aload_n (M := M_X11_book) 23 dX11_book_23 rfl ?_
  refine z_aload_n (M := M_X11_book) 24 dX11_book_24 rfl ?_
  refine z_getR (M := M_X11_book) 25 dX11_book_25 f_X11_39 o_0 rfl (g_0_5 G2) ?_
  refine z_getIV (M := M_X11_book) 28 dX11_book_28 f_X11_205 o_37 (by decide) (fun x4 ex4 => ?_)
  refine z_ok (fun ox4 _ _ => ?_)
  have ox4 := ox4.1; unfold m_ok m_32 at ox4
  refine z_putIH (M := M_X11_book) 31 dX11_book_31 p_X11_105 o_0 rfl (u_0_16 G2) (R2.up rfl) (fun h3 E3 G3 R3 => ?_)
  refine z_aload_n (M := M_X11_book) 34 dX11_book_34 rfl ?_
  refine z_getR (M := M_X11_book) 35 dX11_book_35 f_X11_30 o_0 rfl (g_0_4 G3) ?_
  refine z_iconst (M := M_X11_book) 38 dX11_book_38 ?_
  refine z_putIH (M := M_X11_book) 39 dX11_book_39 p_X11_187 o_35 rfl (u_35_1 G3 (by omega) (by omega)) (R3.up rfl) (fun h4 E4 G4 R4 => ?_)
  refine z_iload_n (M := M_X11_book) 42 dX11_book_42 rfl ?_
  refine z_iconst (M := M_X11_book) 43 dX11_book_43 ?_
  refine z_icmp_ne (M := M_X11_book) 44 dX11_book_44 54 rfl (fun c5 => ?_) (fun c5 => ?_)
  · refine z_aload_n (M := M_X11_book) 54 dX11_book_54 rfl ?_
    refine z_getR (M := M_X11_book) 55 dX11_book_55 f_X11_12 o_0 rfl (g_0_0 G4) ?_
    refine z_aload_n (M := M_X11_book) 58 dX11_book_58 rfl ?_
    refine z_getR (M := M_X11_book) 59 dX11_book_59 f_X11_16 o_0 rfl (g_0_1 G4) ?_
    refine z_vV (M := M_X11_book) 62 dX11_book_62 t_X4_copyFrom l_X11_197 (m_rr_of rfl) (rest := []) (c_X4_copyFrom2 h4 1 9 (Or.inl rfl) (Or.inr (Or.inl rfl)) G4) o_1 rfl rfl rfl (Nat.le_of_ble_eq_true rfl) ⟨rfl, rfl⟩ (fun h5 qx6 => ?_)
    obtain ⟨G5, S5, C5⟩ := qx6
    have R5 := R4.call S5 (by decide +kernel)
    refine z_aload_n (M := M_X11_book) 65 dX11_book_65 rfl ?_
    refine z_iload_n (M := M_X11_book) 66 dX11_book_66 rfl ?_
    refine z_vI (M := M_X11_book) 67 dX11_book_67 t_X11_accept l_X11_123 (m_rr_of rfl) (rest := []) (c_X11_accept h5 x3 G5) o_0 rfl rfl rfl (Nat.le_of_ble_eq_true rfl) ⟨rfl, rfl⟩ (fun x7 h6 qx7 => ?_)
    obtain ⟨G6, S6, rfl⟩ := qx7
    have R6 := R5.call S6 (by decide +kernel)
    have z8 : h6 35 1 = 0 := ((S6 35 1 rfl).trans ((S5 35 1 rfl).trans (upE E4)))
    exact z_retI (M := M_X11_book) 70 dX11_book_70 rfl ⟨G6, R6, by omega, by omega, by omega, bo_ok Q2 c5 (fun q Lq => (LR.copy ((Lq.same (fun i hi j => tl_o E3 (by omega) j) (fun _ _ => rfl)).same (fun i hi j => tl_o E4 (by omega) j) (fun _ _ => rfl)) C5).S S6 (by decide)) (fun u => (S6 0 16 rfl).trans ((S5 0 16 rfl).trans ((upN E4 (by decide)).trans ((upE E3).trans (ex4.symm.trans u)))))⟩
  · refine z_aload_n (M := M_X11_book) 47 dX11_book_47 rfl ?_
    refine z_bipush (M := M_X11_book) 48 dX11_book_48 ?_
    refine z_vI (M := M_X11_book) 50 dX11_book_50 t_X11_refuse l_X11_116 (m_rr_of rfl) (rest := []) (c_X11_refuse h4 (-6) G4 ⟨by omega, by omega⟩) o_0 rfl rfl rfl (Nat.le_of_ble_eq_true rfl) ⟨rfl, rfl⟩ (fun x8 h7 qx8 => ?_)
    obtain ⟨G7, S7, rfl⟩ := qx8
    have R7 := R4.call S7 (by decide +kernel)
    have z8 : h7 35 1 = 0 := ((S7 35 1 rfl).trans (upE E4))
    exact z_retI (M := M_X11_book) 53 dX11_book_53 rfl ⟨G7, R7, by omega, by omega, by omega, bo_er Q2 (by omega) (((((Rr.S S1 (by decide)).S S2 (by decide)).same (fun i hi j => tl_o E3 (by omega) j) (fun _ _ => rfl)).same (fun i hi j => tl_o E4 (by omega) j) (fun _ _ => rfl)).S S7 (by decide)) ((S7 0 16 rfl).trans ((upN E4 (by decide)).trans ((upE E3).trans ex4.symm)))⟩
