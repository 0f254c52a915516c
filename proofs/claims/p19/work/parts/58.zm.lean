theorem rE_up {h0 h1 h2 h3 h4 h5 h6 : m_H} {x t w n k y : Int} (e0 : h0 110 (0 : Int).toNat = x) (hx : 0 ≤ x) (E1 : h1 = m_up h0 110 (80 + (5 * x) + 0).toNat t) (E2 : h2 = m_up h1 110 (80 + (5 * x) + 1).toNat w) (E3 : h3 = m_up h2 110 (80 + (5 * x) + 2).toNat n) (E4 : h4 = m_up h3 110 (80 + (5 * x) + 3).toNat k) (E5 : h5 = m_up h4 110 (80 + (5 * x) + 4).toNat 1) (E6 : h6 = m_up h5 110 (0 : Int).toNat y) (ey : y = x + 1) : h6 110 = rE (h0 110) t w n k := by
  have e0' : h0 110 0 = x := e0
  funext j
  unfold rE
  rw [e0']
  have z0 : (0 : Int).toNat = 0 := rfl
  rw [z0] at E6
  by_cases c0 : j = 0
  · rw [if_pos c0, c0, upE E6]; exact ey
  rw [if_neg c0, upN E6 (fun z => c0 z.2)]
  have i1 : (80 + (5 * x) + 0).toNat = 5 * x.toNat + 80 := by omega
  have i2 : (80 + (5 * x) + 1).toNat = 5 * x.toNat + 81 := by omega
  have i3 : (80 + (5 * x) + 2).toNat = 5 * x.toNat + 82 := by omega
  have i4 : (80 + (5 * x) + 3).toNat = 5 * x.toNat + 83 := by omega
  have i5 : (80 + (5 * x) + 4).toNat = 5 * x.toNat + 84 := by omega
  rw [i1] at E1; rw [i2] at E2; rw [i3] at E3; rw [i4] at E4; rw [i5] at E5
  by_cases c1 : j = 5 * x.toNat + 80
  · rw [if_pos c1, c1, upN E5 (fun z => by have := z.2; omega), upN E4 (fun z => by have := z.2; omega), upN E3 (fun z => by have := z.2; omega), upN E2 (fun z => by have := z.2; omega), upE E1]
  rw [if_neg c1]
  by_cases c2 : j = 5 * x.toNat + 81
  · rw [if_pos c2, c2, upN E5 (fun z => by have := z.2; omega), upN E4 (fun z => by have := z.2; omega), upN E3 (fun z => by have := z.2; omega), upE E2]
  rw [if_neg c2]
  by_cases c3 : j = 5 * x.toNat + 82
  · rw [if_pos c3, c3, upN E5 (fun z => by have := z.2; omega), upN E4 (fun z => by have := z.2; omega), upE E3]
  rw [if_neg c3]
  by_cases c4 : j = 5 * x.toNat + 83
  · rw [if_pos c4, c4, upN E5 (fun z => by have := z.2; omega), upE E4]
  rw [if_neg c4]
  by_cases c5 : j = 5 * x.toNat + 84
  · rw [if_pos c5, c5, upE E5]
  rw [if_neg c5, upN E5 (fun z => c5 z.2), upN E4 (fun z => c4 z.2), upN E3 (fun z => c3 z.2), upN E2 (fun z => c2 z.2), upN E1 (fun z => c1 z.2)]
theorem rS_up {h0 h1 h2 h3 : m_H} {x a b y : Int} (e0 : h0 110 (1 : Int).toNat = x) (hx : 0 ≤ x) (E1 : h1 = m_up h0 110 (48 + (2 * x)).toNat a) (E2 : h2 = m_up h1 110 ((48 + (2 * x)) + 1).toNat b) (E3 : h3 = m_up h2 110 (1 : Int).toNat y) (ey : y = x + 1) : h3 110 = rS (h0 110) a b := by
  have e0' : h0 110 1 = x := e0
  funext j
  unfold rS
  rw [e0']
  have z0 : (1 : Int).toNat = 1 := rfl
  rw [z0] at E3
  by_cases c0 : j = 1
  · rw [if_pos c0, c0, upE E3]; exact ey
  rw [if_neg c0, upN E3 (fun z => c0 z.2)]
  have i1 : (48 + (2 * x)).toNat = 2 * x.toNat + 48 := by omega
  have i2 : ((48 + (2 * x)) + 1).toNat = 2 * x.toNat + 49 := by omega
  rw [i1] at E1; rw [i2] at E2
  by_cases c1 : j = 2 * x.toNat + 48
  · rw [if_pos c1, c1, upN E2 (fun z => by have := z.2; omega), upE E1]
  rw [if_neg c1]
  by_cases c2 : j = 2 * x.toNat + 49
  · rw [if_pos c2, c2, upE E2]
  rw [if_neg c2, upN E2 (fun z => c2 z.2), upN E1 (fun z => c1 z.2)]
theorem rU_up {h h' : m_H} {i : Nat} {v : Int} (E : h' = m_up h 110 i v) : h' 110 = rU (h 110) i v := upf E
theorem rW_st {h h' : m_H} {r : Nat → Int} {f w c : Int} (i : h 110 = rW r f (w - 1) c) (h0 : 0 ≤ f) (h1 : f ≤ w) (E : h' = m_up h 110 (10 + w).toNat c) : h' 110 = rW r f (w + 1 - 1) c := by
  rw [rU_up E, i, show w + 1 - 1 = w by omega]
  funext j
  unfold rU rW
  by_cases g : j = (10 + w).toNat
  · rw [if_pos g, if_pos (by omega)]
  · rw [if_neg g]
    show (if 10 + f ≤ (j : Int) ∧ (j : Int) ≤ 10 + (w - 1) then c else r j) = _
    by_cases g2 : 10 + f ≤ (j : Int) ∧ (j : Int) ≤ 10 + (w - 1)
    · rw [if_pos g2, if_pos (by omega)]
    · rw [if_neg g2, if_neg (by omega)]
theorem rW_e {h : m_H} {r : Nat → Int} {f w l c : Int} (i : h 110 = rW r f (w - 1) c) (h1 : f ≤ w) (h2 : l < w) (h3 : w ≤ l + 1 ∨ w = f) : h 110 = rW r f l c := by
  rw [i]
  funext j
  unfold rW
  by_cases g : w = l + 1
  · rw [show w - 1 = l by omega]
  · rw [if_neg (by omega), if_neg (by omega)]
abbrev P_X12_addShorter2 (h0 : m_H) (a1 a2 : Int) : m_H → Prop := fun h' => GI h' ∧ FR [110] [] h0 h' ∧ h' 110 0 = h0 110 0 ∧ h' 110 1 = h0 110 1 + 1 ∧ h' 110 = rS (h0 110) a1 a2 ∧ NPi h0 h'
set_option maxHeartbeats 4000000 in
set_option maxRecDepth 100000 in
theorem c_X12_addShorter2 (h0 : m_H) (a1 a2 : Int) (G0 : GI h0) (pa1 : 0 ≤ a1 ∧ a1 ≤ 3) (pa2 : 0 ≤ a2 ∧ a2 ≤ 3) (hs : h0 110 (1 : Int).toNat ≤ 5) : m_CV M_X12_addShorter [mR 108, mI a1, mI a2] h0 (P_X12_addShorter2 h0 a1 a2) := by
  refine m_CV_of ⟨by decide, rfl, by simp [m_arg, m_isL, M_X12_addShorter], ⟨rfl, rfl⟩, rfl, rfl⟩ (ls := [some (mR 108), some (mI a1), some (mI a2)]) rfl ?_
  obtain ⟨x1, ex1⟩ : ∃ y : Int, h0 110 0 = y := ⟨_, rfl⟩
  have bx1 : 0 ≤ x1 ∧ x1 ≤ 24 := ex1 ▸ gw_0 G0
  refine z_aload_n (M := M_X12_addShorter) 0 dX12_addShorter_0 rfl ?_
  refine z_getR (M := M_X12_addShorter) 1 dX12_addShorter_1 f_X12_13 o_108 rfl (g_108_3 G0) ?_
  refine z_bipush (M := M_X12_addShorter) 4 dX12_addShorter_4 ?_
  refine z_iconst (M := M_X12_addShorter) 6 dX12_addShorter_6 ?_
  refine z_aload_n (M := M_X12_addShorter) 7 dX12_addShorter_7 rfl ?_
  refine z_getR (M := M_X12_addShorter) 8 dX12_addShorter_8 f_X12_13 o_108 rfl (g_108_3 G0) ?_
  refine z_iconst (M := M_X12_addShorter) 11 dX12_addShorter_11 ?_
  refine z_ialdG (M := M_X12_addShorter) 12 dX12_addShorter_12 o_110 (by omega) (by omega) ⟨(gw_1 G0).1, hs⟩ (fun x2 ex2 ax2 bx2 => ?_)
  refine z_imulN (M := M_X12_addShorter) 13 dX12_addShorter_13 (by omega) (by omega) ?_
  refine z_iaddN (M := M_X12_addShorter) 14 dX12_addShorter_14 (by omega) (by omega) ?_
  refine z_iload_n (M := M_X12_addShorter) 15 dX12_addShorter_15 rfl ?_
  refine z_iastH (M := M_X12_addShorter) 16 dX12_addShorter_16 o_110 (by omega) (by omega) (uw_s G0 (by omega) (by omega) (by omega) (by omega)) ((FR.rf (cs := [110]) (ss := []) (h := h0)).up rfl) (fun h1 E1 G1 R1 => ?_)
  refine z_aload_n (M := M_X12_addShorter) 17 dX12_addShorter_17 rfl ?_
  refine z_getR (M := M_X12_addShorter) 18 dX12_addShorter_18 f_X12_13 o_108 rfl (g_108_3 G1) ?_
  refine z_bipush (M := M_X12_addShorter) 21 dX12_addShorter_21 ?_
  refine z_iconst (M := M_X12_addShorter) 23 dX12_addShorter_23 ?_
  refine z_aload_n (M := M_X12_addShorter) 24 dX12_addShorter_24 rfl ?_
  refine z_getR (M := M_X12_addShorter) 25 dX12_addShorter_25 f_X12_13 o_108 rfl (g_108_3 G1) ?_
  refine z_iconst (M := M_X12_addShorter) 28 dX12_addShorter_28 ?_
  refine z_ialdE (M := M_X12_addShorter) 29 dX12_addShorter_29 o_110 (by omega) (by omega) ((upN E1 (fun q => absurd q.2 (by omega))).trans ex2) ?_
  refine z_imulN (M := M_X12_addShorter) 30 dX12_addShorter_30 (by omega) (by omega) ?_
  refine z_iaddN (M := M_X12_addShorter) 31 dX12_addShorter_31 (by omega) (by omega) ?_
  refine z_iconst (M := M_X12_addShorter) 32 dX12_addShorter_32 ?_
  refine z_iaddN (M := M_X12_addShorter) 33 dX12_addShorter_33 (by omega) (by omega) ?_
  refine z_iload_n (M := M_X12_addShorter) 34 dX12_addShorter_34 rfl ?_
  refine z_iastH (M := M_X12_addShorter) 35 dX12_addShorter_35 o_110 (by omega) (by omega) (uw_s G1 (by omega) (by omega) (by omega) (by omega)) (R1.up rfl) (fun h2 E2 G2 R2 => ?_)
  refine z_aload_n (M := M_X12_addShorter) 36 dX12_addShorter_36 rfl ?_
  refine z_getR (M := M_X12_addShorter) 37 dX12_addShorter_37 f_X12_13 o_108 rfl (g_108_3 G2) ?_
  refine z_iconst (M := M_X12_addShorter) 40 dX12_addShorter_40 ?_
  refine z_dup2 (M := M_X12_addShorter) 41 dX12_addShorter_41 rfl rfl ?_
  refine z_ialdE (M := M_X12_addShorter) 42 dX12_addShorter_42 o_110 (by omega) (by omega) ((upN E2 (fun q => absurd q.2 (by omega))).trans ((upN E1 (fun q => absurd q.2 (by omega))).trans ex2)) ?_
  refine z_iconst (M := M_X12_addShorter) 43 dX12_addShorter_43 ?_
  refine z_iaddN (M := M_X12_addShorter) 44 dX12_addShorter_44 (by omega) (by omega) ?_
  refine z_iastH (M := M_X12_addShorter) 45 dX12_addShorter_45 o_110 (by omega) (by omega) (uw_1 G2 (by omega) (by omega)) (R2.up rfl) (fun h3 E3 G3 R3 => ?_)
  have w3 : h3 110 0 = x1 := ((upN E3 (fun q => absurd q.2 (by decide))).trans ((upN E2 (fun q => absurd q.2 (by omega))).trans ((upN E1 (fun q => absurd q.2 (by omega))).trans ex1)))
  have w4 : h3 110 1 = (x2 + 1) := (upE E3)
  have k0 : h0 110 0 = x1 := ex1
  have k1 : h0 110 1 = x2 := ex2
  exact z_retV (M := M_X12_addShorter) 46 dX12_addShorter_46 rfl ⟨G3, R3, by omega, by omega, rS_up ex2 (by omega) E1 E2 E3 rfl, (NPi.st (NPi.st (NPi.st NPi.rf E1 ⟨by omega, fun e => by omega⟩ (by omega)) E2 ⟨by omega, fun e => by omega⟩ (by omega)) E3 ⟨by omega, fun e => by omega⟩ (by omega))⟩
abbrev P_X12_addEntry2 (h0 : m_H) (a1 a2 a3 a4 : Int) : m_H → Prop := fun h' => GI h' ∧ FR [110] [] h0 h' ∧ h' 110 0 = h0 110 0 + 1 ∧ h' 110 1 = h0 110 1 ∧ h' 110 = rE (h0 110) a1 a2 a3 a4 ∧ NPi h0 h'
set_option maxHeartbeats 4000000 in
set_option maxRecDepth 100000 in
theorem c_X12_addEntry2 (h0 : m_H) (a1 a2 a3 a4 : Int) (G0 : GI h0) (pa1 : 0 ≤ a1 ∧ a1 ≤ 5) (pa2 : 0 ≤ a2 ∧ a2 ≤ 31) (pa3 : 1 ≤ a3 ∧ a3 ≤ 99) (pa4 : 0 ≤ a4 ∧ a4 ≤ 2) (he : h0 110 (0 : Int).toNat ≤ 23) : m_CV M_X12_addEntry [mR 108, mI a1, mI a2, mI a3, mI a4] h0 (P_X12_addEntry2 h0 a1 a2 a3 a4) := by
  refine m_CV_of ⟨by decide, rfl, by simp [m_arg, m_isL, M_X12_addEntry], ⟨rfl, rfl⟩, rfl, rfl⟩ (ls := [some (mR 108), some (mI a1), some (mI a2), some (mI a3), some (mI a4), none]) rfl ?_
  obtain ⟨x1, ex1⟩ : ∃ y : Int, h0 110 1 = y := ⟨_, rfl⟩
  have bx1 : 0 ≤ x1 ∧ x1 ≤ 6 := ex1 ▸ gw_1 G0
  refine z_bipush (M := M_X12_addEntry) 0 dX12_addEntry_0 ?_
  refine z_iconst (M := M_X12_addEntry) 2 dX12_addEntry_2 ?_
  refine z_aload_n (M := M_X12_addEntry) 3 dX12_addEntry_3 rfl ?_
  refine z_getR (M := M_X12_addEntry) 4 dX12_addEntry_4 f_X12_13 o_108 rfl (g_108_3 G0) ?_
  refine z_iconst (M := M_X12_addEntry) 7 dX12_addEntry_7 ?_
  refine z_ialdG (M := M_X12_addEntry) 8 dX12_addEntry_8 o_110 (by omega) (by omega) ⟨(gw_0 G0).1, he⟩ (fun x2 ex2 ax2 bx2 => ?_)
  refine z_imulN (M := M_X12_addEntry) 9 dX12_addEntry_9 (by omega) (by omega) ?_
  refine z_iaddN (M := M_X12_addEntry) 10 dX12_addEntry_10 (by omega) (by omega) ?_
  refine z_istore (M := M_X12_addEntry) 11 dX12_addEntry_11 (ls' := [some (mR 108), some (mI a1), some (mI a2), some (mI a3), some (mI a4), some (mI (80 + (5 * x2)))]) (by decide) rfl ?_
  refine z_aload_n (M := M_X12_addEntry) 13 dX12_addEntry_13 rfl ?_
  refine z_getR (M := M_X12_addEntry) 14 dX12_addEntry_14 f_X12_13 o_108 rfl (g_108_3 G0) ?_
  refine z_iload (M := M_X12_addEntry) 17 dX12_addEntry_17 rfl ?_
  refine z_iconst (M := M_X12_addEntry) 19 dX12_addEntry_19 ?_
  refine z_iaddN (M := M_X12_addEntry) 20 dX12_addEntry_20 (by omega) (by omega) ?_
  refine z_iload_n (M := M_X12_addEntry) 21 dX12_addEntry_21 rfl ?_
  refine z_iastH (M := M_X12_addEntry) 22 dX12_addEntry_22 o_110 (by omega) (by omega) (uw_e0 G0 (e := x2) (by omega) (by omega) (by omega) (by omega) (by omega)) ((FR.rf (cs := [110]) (ss := []) (h := h0)).up rfl) (fun h1 E1 G1 R1 => ?_)
  refine z_aload_n (M := M_X12_addEntry) 23 dX12_addEntry_23 rfl ?_
  refine z_getR (M := M_X12_addEntry) 24 dX12_addEntry_24 f_X12_13 o_108 rfl (g_108_3 G1) ?_
  refine z_iload (M := M_X12_addEntry) 27 dX12_addEntry_27 rfl ?_
  refine z_iconst (M := M_X12_addEntry) 29 dX12_addEntry_29 ?_
  refine z_iaddN (M := M_X12_addEntry) 30 dX12_addEntry_30 (by omega) (by omega) ?_
  refine z_iload_n (M := M_X12_addEntry) 31 dX12_addEntry_31 rfl ?_
  refine z_iastH (M := M_X12_addEntry) 32 dX12_addEntry_32 o_110 (by omega) (by omega) (uw_e1 G1 (e := x2) (by omega) (by omega) (by omega) (by omega) (by omega)) (R1.up rfl) (fun h2 E2 G2 R2 => ?_)
  refine z_aload_n (M := M_X12_addEntry) 33 dX12_addEntry_33 rfl ?_
  refine z_getR (M := M_X12_addEntry) 34 dX12_addEntry_34 f_X12_13 o_108 rfl (g_108_3 G2) ?_
  refine z_iload (M := M_X12_addEntry) 37 dX12_addEntry_37 rfl ?_
  refine z_iconst (M := M_X12_addEntry) 39 dX12_addEntry_39 ?_
  refine z_iaddN (M := M_X12_addEntry) 40 dX12_addEntry_40 (by omega) (by omega) ?_
  refine z_iload_n (M := M_X12_addEntry) 41 dX12_addEntry_41 rfl ?_
  refine z_iastH (M := M_X12_addEntry) 42 dX12_addEntry_42 o_110 (by omega) (by omega) (uw_e2 G2 (e := x2) (by omega) (by omega) (by omega) (by omega) (by omega)) (R2.up rfl) (fun h3 E3 G3 R3 => ?_)
  refine z_aload_n (M := M_X12_addEntry) 43 dX12_addEntry_43 rfl ?_
  refine z_getR (M := M_X12_addEntry) 44 dX12_addEntry_44 f_X12_13 o_108 rfl (g_108_3 G3) ?_
  refine z_iload (M := M_X12_addEntry) 47 dX12_addEntry_47 rfl ?_
  refine z_iconst (M := M_X12_addEntry) 49 dX12_addEntry_49 ?_
  refine z_iaddN (M := M_X12_addEntry) 50 dX12_addEntry_50 (by omega) (by omega) ?_
  refine z_iload (M := M_X12_addEntry) 51 dX12_addEntry_51 rfl ?_
  refine z_iastH (M := M_X12_addEntry) 53 dX12_addEntry_53 o_110 (by omega) (by omega) (uw_e3 G3 (e := x2) (by omega) (by omega) (by omega) (by omega) (by omega)) (R3.up rfl) (fun h4 E4 G4 R4 => ?_)
  refine z_aload_n (M := M_X12_addEntry) 54 dX12_addEntry_54 rfl ?_
  refine z_getR (M := M_X12_addEntry) 55 dX12_addEntry_55 f_X12_13 o_108 rfl (g_108_3 G4) ?_
  refine z_iload (M := M_X12_addEntry) 58 dX12_addEntry_58 rfl ?_
  refine z_iconst (M := M_X12_addEntry) 60 dX12_addEntry_60 ?_
  refine z_iaddN (M := M_X12_addEntry) 61 dX12_addEntry_61 (by omega) (by omega) ?_
  refine z_iconst (M := M_X12_addEntry) 62 dX12_addEntry_62 ?_
  refine z_iastH (M := M_X12_addEntry) 63 dX12_addEntry_63 o_110 (by omega) (by omega) (uw_e4 G4 (e := x2) (by omega) (by omega) (by omega) (by omega) (by omega)) (R4.up rfl) (fun h5 E5 G5 R5 => ?_)
  refine z_aload_n (M := M_X12_addEntry) 64 dX12_addEntry_64 rfl ?_
  refine z_getR (M := M_X12_addEntry) 65 dX12_addEntry_65 f_X12_13 o_108 rfl (g_108_3 G5) ?_
  refine z_iconst (M := M_X12_addEntry) 68 dX12_addEntry_68 ?_
  refine z_dup2 (M := M_X12_addEntry) 69 dX12_addEntry_69 rfl rfl ?_
  refine z_ialdE (M := M_X12_addEntry) 70 dX12_addEntry_70 o_110 (by omega) (by omega) ((upN E5 (fun q => absurd q.2 (by omega))).trans ((upN E4 (fun q => absurd q.2 (by omega))).trans ((upN E3 (fun q => absurd q.2 (by omega))).trans ((upN E2 (fun q => absurd q.2 (by omega))).trans ((upN E1 (fun q => absurd q.2 (by omega))).trans ex2))))) ?_
  refine z_iconst (M := M_X12_addEntry) 71 dX12_addEntry_71 ?_
  refine z_iaddN (M := M_X12_addEntry) 72 dX12_addEntry_72 (by omega) (by omega) ?_
  refine z_iastH (M := M_X12_addEntry) 73 dX12_addEntry_73 o_110 (by omega) (by omega) (uw_0 G5 (by omega) (by omega)) (R5.up rfl) (fun h6 E6 G6 R6 => ?_)
  have w3 : h6 110 0 = (x2 + 1) := (upE E6)
  have w4 : h6 110 1 = x1 := ((upN E6 (fun q => absurd q.2 (by decide))).trans ((upN E5 (fun q => absurd q.2 (by omega))).trans ((upN E4 (fun q => absurd q.2 (by omega))).trans ((upN E3 (fun q => absurd q.2 (by omega))).trans ((upN E2 (fun q => absurd q.2 (by omega))).trans ((upN E1 (fun q => absurd q.2 (by omega))).trans ex1))))))
  have k0 : h0 110 0 = x2 := ex2
  have k1 : h0 110 1 = x1 := ex1
  exact z_retV (M := M_X12_addEntry) 74 dX12_addEntry_74 rfl ⟨G6, R6, by omega, by omega, rE_up ex2 (by omega) E1 E2 E3 E4 E5 E6 rfl, (NPi.inc (NPi.st (NPi.st (NPi.stN (NPi.st (NPi.st NPi.rf E1 ⟨by omega, fun e => by omega⟩ (by omega)) E2 ⟨by omega, fun e => by omega⟩ (by omega)) E3 (by omega) (by omega) (by omega)) E4 ⟨by omega, fun e => by omega⟩ (by omega)) E5 ⟨by omega, fun e => by omega⟩ (by omega)) E6 ((upN E5 (fun q => absurd q.2 (by omega))).trans ((upN E4 (fun q => absurd q.2 (by omega))).trans ((upN E3 (fun q => absurd q.2 (by omega))).trans ((upN E2 (fun q => absurd q.2 (by omega))).trans ((upN E1 (fun q => absurd q.2 (by omega))).trans ex2))))) (by omega) (NP_num (by omega) (by omega) E3 E4 E5))⟩
abbrev P_X12_doAct2 (h0 : m_H) (a1 : Int) : m_H → Prop := fun h' => GI h' ∧ FR [110] [] h0 h' ∧ ((h0 114 a1.toNat = 3 ∧ h' 110 0 = h0 110 0 + 1) ∨ (h0 114 a1.toNat ≠ 3 ∧ h' 110 0 = h0 110 0)) ∧ ((h0 114 a1.toNat = 1 ∧ h' 110 1 = h0 110 1 + 1) ∨ (h0 114 a1.toNat ≠ 1 ∧ h' 110 1 = h0 110 1)) ∧ h' 110 = act1 (h0 114 a1.toNat) (h0 114 (a1 + 1).toNat) (h0 114 (a1 + 2).toNat) (h0 114 (a1 + 3).toNat) (h0 114 (a1 + 4).toNat) (h0 110) ∧ NPi h0 h'
def q_X12_doAct2 (h0 : m_H) (a1 : Int) (n : Nat) : Prop := (∀ (l2 y_110_0 y_110_1 : Int) (h : m_H), GI h → FR [110] [] h0 h → 0 ≤ l2 → l2 ≤ 32 → 0 ≤ y_110_0 → y_110_0 ≤ 24 → 0 ≤ y_110_1 → y_110_1 ≤ 6 → (h 110 0 = y_110_0) → (h 110 1 = y_110_1) → (h0 114 a1.toNat = 0 ∧ y_110_0 = h0 110 0 ∧ y_110_1 = h0 110 1) → (h 110 = rW (h0 110) (h0 114 (a1 + 1).toNat) (l2 - 1) (h0 114 (a1 + 3).toNat)) → (h0 114 (a1 + 1).toNat ≤ l2 ∧ (l2 ≤ h0 114 (a1 + 2).toNat + 1 ∨ l2 = h0 114 (a1 + 1).toNat)) → (NPi h0 h) → 2 * (32 - l2) + (1) ≤ (n : Int) → m_Z oF M_X12_doAct 18 [some (mR 108), some (mI a1), some (mI l2)] [] h (m_QV (P_X12_doAct2 h0 a1)))
set_option maxHeartbeats 4000000 in
set_option maxRecDepth 100000 in
theorem s_X12_doAct2_18 (h0 : m_H) (a1 : Int) (G0 : GI h0) (pa1 : 0 ≤ a1 ∧ a1 ≤ 995) (hk : okA (h0 114 a1.toNat) (h0 114 (a1 + 1).toNat) (h0 114 (a1 + 2).toNat) (h0 114 (a1 + 3).toNat) (h0 114 (a1 + 4).toNat)) (h3 : h0 114 a1.toNat ≠ 3 ∨ h0 110 0 ≤ 23) (h1 : h0 114 a1.toNat ≠ 1 ∨ h0 110 1 ≤ 5) (n : Nat) (ih : q_X12_doAct2 h0 a1 n) : ∀ (l2 y_110_0 y_110_1 : Int) (h : m_H), GI h → FR [110] [] h0 h → 0 ≤ l2 → l2 ≤ 32 → 0 ≤ y_110_0 → y_110_0 ≤ 24 → 0 ≤ y_110_1 → y_110_1 ≤ 6 → (h 110 0 = y_110_0) → (h 110 1 = y_110_1) → (h0 114 a1.toNat = 0 ∧ y_110_0 = h0 110 0 ∧ y_110_1 = h0 110 1) → (h 110 = rW (h0 110) (h0 114 (a1 + 1).toNat) (l2 - 1) (h0 114 (a1 + 3).toNat)) → (h0 114 (a1 + 1).toNat ≤ l2 ∧ (l2 ≤ h0 114 (a1 + 2).toNat + 1 ∨ l2 = h0 114 (a1 + 1).toNat)) → (NPi h0 h) → 2 * (32 - l2) + (1) ≤ ((n + 1 : Nat) : Int) → m_Z oF M_X12_doAct 18 [some (mR 108), some (mI a1), some (mI l2)] [] h (m_QV (P_X12_doAct2 h0 a1)) := by
  intro l2 y_110_0 y_110_1 h G R v0 v1 v2 v3 v4 v5 t_110_0 t_110_1 i0 i1 i2 i3 hr
  unfold okA at hk
  refine z_iload_n (M := M_X12_doAct) 18 dX12_doAct_18 rfl ?_
  refine z_aload_n (M := M_X12_doAct) 19 dX12_doAct_19 rfl ?_
  refine z_getR (M := M_X12_doAct) 20 dX12_doAct_20 f_X12_30 o_108 rfl (g_108_15 G) ?_
  refine z_iload_n (M := M_X12_doAct) 23 dX12_doAct_23 rfl ?_
  refine z_iconst (M := M_X12_doAct) 24 dX12_doAct_24 ?_
  refine z_iaddN (M := M_X12_doAct) 25 dX12_doAct_25 (by omega) (by omega) ?_
  refine z_ialdV (M := M_X12_doAct) 26 dX12_doAct_26 o_114 (by omega) (by omega) (fun x1 ex1 => ?_)
  refine z_ok (fun ox1 _ _ => ?_)
  have ox1 := ox1.1; unfold m_ok m_32 at ox1
  have rx1 := R 114 ((a1 + 2)).toNat rfl
  refine z_icmp_gt (M := M_X12_doAct) 27 dX12_doAct_27 53 rfl (fun c2 => ?_) (fun c2 => ?_)
  · refine z_goto (M := M_X12_doAct) 53 dX12_doAct_53 162 rfl ?_
    have w3 : h 110 0 = y_110_0 := t_110_0
    have w4 : h 110 1 = y_110_1 := t_110_1
    exact z_retV (M := M_X12_doAct) 162 dX12_doAct_162 rfl ⟨G, R, by omega, by omega, by rw [i0.1, act1_k0]; exact rW_e i1 i2.1 (by omega) (by omega), i3⟩
  · refine z_aload_n (M := M_X12_doAct) 30 dX12_doAct_30 rfl ?_
    refine z_getR (M := M_X12_doAct) 31 dX12_doAct_31 f_X12_13 o_108 rfl (g_108_3 G) ?_
    refine z_bipush (M := M_X12_doAct) 34 dX12_doAct_34 ?_
    refine z_iload_n (M := M_X12_doAct) 36 dX12_doAct_36 rfl ?_
    refine z_iaddN (M := M_X12_doAct) 37 dX12_doAct_37 (by omega) (by omega) ?_
    refine z_aload_n (M := M_X12_doAct) 38 dX12_doAct_38 rfl ?_
    refine z_getR (M := M_X12_doAct) 39 dX12_doAct_39 f_X12_30 o_108 rfl (g_108_15 G) ?_
    refine z_iload_n (M := M_X12_doAct) 42 dX12_doAct_42 rfl ?_
    refine z_iconst (M := M_X12_doAct) 43 dX12_doAct_43 ?_
    refine z_iaddN (M := M_X12_doAct) 44 dX12_doAct_44 (by omega) (by omega) ?_
    refine z_ialdV (M := M_X12_doAct) 45 dX12_doAct_45 o_114 (by omega) (by omega) (fun x5 ex5 => ?_)
    refine z_ok (fun ox5 _ _ => ?_)
    have ox5 := ox5.1; unfold m_ok m_32 at ox5
    have rx5 := R 114 ((a1 + 3)).toNat rfl
    refine z_iastH (M := M_X12_doAct) 46 dX12_doAct_46 o_110 (by omega) (by omega) (uw_w G (by omega) (by omega) (by omega) (by omega)) (R.up rfl) (fun h1 E1 G1 R1 => ?_)
    refine z_iincN (M := M_X12_doAct) 47 dX12_doAct_47 (ls' := [some (mR 108), some (mI a1), some (mI (l2 + 1))]) (by decide) rfl (by (unfold m_32; decide)) (by omega) (by omega) rfl ?_
    refine z_goto (M := M_X12_doAct) 50 dX12_doAct_50 18 rfl ?_
    have ec_ : h0 114 (a1 + 3).toNat = x5 := rx5.symm.trans ex5
    exact z_mask [true, true, true] rfl (ih (l2 + 1) y_110_0 y_110_1 h1 G1 R1 (by omega) (by omega) (by omega) (by omega) (by omega) (by omega) ((upN E1 (fun q => absurd q.2 (by omega))).trans t_110_0) ((upN E1 (fun q => absurd q.2 (by omega))).trans t_110_1) (by omega) (by rw [ec_] at i1 ⊢; exact rW_st i1 (by omega) i2.1 E1) (by omega) (NPi.st i3 E1 ⟨by omega, fun e => by omega⟩ (by omega)) (by omega))
theorem a_X12_doAct2 (h0 : m_H) (a1 : Int) (G0 : GI h0) (pa1 : 0 ≤ a1 ∧ a1 ≤ 995) (hk : okA (h0 114 a1.toNat) (h0 114 (a1 + 1).toNat) (h0 114 (a1 + 2).toNat) (h0 114 (a1 + 3).toNat) (h0 114 (a1 + 4).toNat)) (h3 : h0 114 a1.toNat ≠ 3 ∨ h0 110 0 ≤ 23) (h1 : h0 114 a1.toNat ≠ 1 ∨ h0 110 1 ≤ 5) : ∀ n, q_X12_doAct2 h0 a1 n := by
  intro n
  induction n with
  | zero => unfold q_X12_doAct2; intros; omega
  | succ n ih => exact s_X12_doAct2_18 h0 a1 G0 pa1 hk h3 h1 n ih
set_option maxHeartbeats 4000000 in
set_option maxRecDepth 100000 in
theorem c_X12_doAct2 (h0 : m_H) (a1 : Int) (G0 : GI h0) (pa1 : 0 ≤ a1 ∧ a1 ≤ 995) (hk : okA (h0 114 a1.toNat) (h0 114 (a1 + 1).toNat) (h0 114 (a1 + 2).toNat) (h0 114 (a1 + 3).toNat) (h0 114 (a1 + 4).toNat)) (h3 : h0 114 a1.toNat ≠ 3 ∨ h0 110 0 ≤ 23) (h1 : h0 114 a1.toNat ≠ 1 ∨ h0 110 1 ≤ 5) : m_CV M_X12_doAct [mR 108, mI a1] h0 (P_X12_doAct2 h0 a1) := by
  refine m_CV_of ⟨by decide, rfl, by simp [m_arg, m_isL, M_X12_doAct], ⟨rfl, rfl⟩, rfl, rfl⟩ (ls := [some (mR 108), some (mI a1), none]) rfl ?_
  have ih := a_X12_doAct2 h0 a1 G0 pa1 hk h3 h1 72
  unfold okA at hk
  obtain ⟨x1, ex1⟩ : ∃ y : Int, h0 110 0 = y := ⟨_, rfl⟩
  have bx1 : 0 ≤ x1 ∧ x1 ≤ 24 := ex1 ▸ gw_0 G0
  obtain ⟨x2, ex2⟩ : ∃ y : Int, h0 110 1 = y := ⟨_, rfl⟩
  have bx2 : 0 ≤ x2 ∧ x2 ≤ 6 := ex2 ▸ gw_1 G0
  refine z_aload_n (M := M_X12_doAct) 0 dX12_doAct_0 rfl ?_
  refine z_getR (M := M_X12_doAct) 1 dX12_doAct_1 f_X12_30 o_108 rfl (g_108_15 G0) ?_
  refine z_iload_n (M := M_X12_doAct) 4 dX12_doAct_4 rfl ?_
  refine z_ialdV (M := M_X12_doAct) 5 dX12_doAct_5 o_114 (by omega) (by omega) (fun x3 ex3 => ?_)
  refine z_ok (fun ox3 _ _ => ?_)
  have ox3 := ox3.1; unfold m_ok m_32 at ox3
  have rx3 := (FR.rf (cs := [110]) (ss := []) (h := h0)) 114 (a1).toNat rfl
  refine z_if_ne (M := M_X12_doAct) 6 dX12_doAct_6 56 rfl (fun c4 => ?_) (fun c4 => ?_)
  · refine z_aload_n (M := M_X12_doAct) 56 dX12_doAct_56 rfl ?_
    refine z_getR (M := M_X12_doAct) 57 dX12_doAct_57 f_X12_30 o_108 rfl (g_108_15 G0) ?_
    refine z_iload_n (M := M_X12_doAct) 60 dX12_doAct_60 rfl ?_
    refine z_ialdE (M := M_X12_doAct) 61 dX12_doAct_61 o_114 (by omega) (by omega) ex3 ?_
    refine z_iconst (M := M_X12_doAct) 62 dX12_doAct_62 ?_
    refine z_icmp_ne (M := M_X12_doAct) 63 dX12_doAct_63 89 rfl (fun c5 => ?_) (fun c5 => ?_)
    · refine z_aload_n (M := M_X12_doAct) 89 dX12_doAct_89 rfl ?_
      refine z_getR (M := M_X12_doAct) 90 dX12_doAct_90 f_X12_30 o_108 rfl (g_108_15 G0) ?_
      refine z_iload_n (M := M_X12_doAct) 93 dX12_doAct_93 rfl ?_
      refine z_ialdE (M := M_X12_doAct) 94 dX12_doAct_94 o_114 (by omega) (by omega) ex3 ?_
      refine z_iconst (M := M_X12_doAct) 95 dX12_doAct_95 ?_
      refine z_icmp_ne (M := M_X12_doAct) 96 dX12_doAct_96 126 rfl (fun c6 => ?_) (fun c6 => ?_)
      · refine z_aload_n (M := M_X12_doAct) 126 dX12_doAct_126 rfl ?_
        refine z_aload_n (M := M_X12_doAct) 127 dX12_doAct_127 rfl ?_
        refine z_getR (M := M_X12_doAct) 128 dX12_doAct_128 f_X12_30 o_108 rfl (g_108_15 G0) ?_
        refine z_iload_n (M := M_X12_doAct) 131 dX12_doAct_131 rfl ?_
        refine z_iconst (M := M_X12_doAct) 132 dX12_doAct_132 ?_
        refine z_iaddN (M := M_X12_doAct) 133 dX12_doAct_133 (by omega) (by omega) ?_
        refine z_ialdV (M := M_X12_doAct) 134 dX12_doAct_134 o_114 (by omega) (by omega) (fun x7 ex7 => ?_)
        refine z_ok (fun ox7 _ _ => ?_)
        have ox7 := ox7.1; unfold m_ok m_32 at ox7
        have rx7 := (FR.rf (cs := [110]) (ss := []) (h := h0)) 114 ((a1 + 1)).toNat rfl
        refine z_aload_n (M := M_X12_doAct) 135 dX12_doAct_135 rfl ?_
        refine z_getR (M := M_X12_doAct) 136 dX12_doAct_136 f_X12_30 o_108 rfl (g_108_15 G0) ?_
        refine z_iload_n (M := M_X12_doAct) 139 dX12_doAct_139 rfl ?_
        refine z_iconst (M := M_X12_doAct) 140 dX12_doAct_140 ?_
        refine z_iaddN (M := M_X12_doAct) 141 dX12_doAct_141 (by omega) (by omega) ?_
        refine z_ialdV (M := M_X12_doAct) 142 dX12_doAct_142 o_114 (by omega) (by omega) (fun x8 ex8 => ?_)
        refine z_ok (fun ox8 _ _ => ?_)
        have ox8 := ox8.1; unfold m_ok m_32 at ox8
        have rx8 := (FR.rf (cs := [110]) (ss := []) (h := h0)) 114 ((a1 + 2)).toNat rfl
        refine z_aload_n (M := M_X12_doAct) 143 dX12_doAct_143 rfl ?_
        refine z_getR (M := M_X12_doAct) 144 dX12_doAct_144 f_X12_30 o_108 rfl (g_108_15 G0) ?_
        refine z_iload_n (M := M_X12_doAct) 147 dX12_doAct_147 rfl ?_
        refine z_iconst (M := M_X12_doAct) 148 dX12_doAct_148 ?_
        refine z_iaddN (M := M_X12_doAct) 149 dX12_doAct_149 (by omega) (by omega) ?_
        refine z_ialdV (M := M_X12_doAct) 150 dX12_doAct_150 o_114 (by omega) (by omega) (fun x9 ex9 => ?_)
        refine z_ok (fun ox9 _ _ => ?_)
        have ox9 := ox9.1; unfold m_ok m_32 at ox9
        have rx9 := (FR.rf (cs := [110]) (ss := []) (h := h0)) 114 ((a1 + 3)).toNat rfl
        refine z_aload_n (M := M_X12_doAct) 151 dX12_doAct_151 rfl ?_
        refine z_getR (M := M_X12_doAct) 152 dX12_doAct_152 f_X12_30 o_108 rfl (g_108_15 G0) ?_
        refine z_iload_n (M := M_X12_doAct) 155 dX12_doAct_155 rfl ?_
        refine z_iconst (M := M_X12_doAct) 156 dX12_doAct_156 ?_
        refine z_iaddN (M := M_X12_doAct) 157 dX12_doAct_157 (by omega) (by omega) ?_
        refine z_ialdV (M := M_X12_doAct) 158 dX12_doAct_158 o_114 (by omega) (by omega) (fun x10 ex10 => ?_)
        refine z_ok (fun ox10 _ _ => ?_)
        have ox10 := ox10.1; unfold m_ok m_32 at ox10
        have rx10 := (FR.rf (cs := [110]) (ss := []) (h := h0)) 114 ((a1 + 4)).toNat rfl
        refine z_vV (M := M_X12_doAct) 159 dX12_doAct_159 t_X12_addEntry l_X12_188 (m_rr_of rfl) (rest := []) (c_X12_addEntry2 h0 x7 x8 x9 x10 G0 ⟨by omega, by omega⟩ ⟨by omega, by omega⟩ ⟨by omega, by omega⟩ ⟨by omega, by omega⟩ (le_e ex1 (by omega))) o_108 rfl rfl rfl (Nat.le_of_ble_eq_true rfl) ⟨rfl, rfl⟩ (fun h1 qx11 => ?_)
        obtain ⟨G1, S1, fx11_0, fx11_1, fx11_2, npx11⟩ := qx11
        have R1 := (FR.rf (cs := [110]) (ss := []) (h := h0)).call S1 (by decide +kernel)
        have w12 : h1 110 0 = (x1 + 1) := (eq_ad fx11_0 ex1)
        have w13 : h1 110 1 = x2 := (fx11_1.trans ex2)
        exact z_retV (M := M_X12_doAct) 162 dX12_doAct_162 rfl ⟨G1, R1, by omega, by omega, by have e3_ : h0 114 a1.toNat = 3 := (ex3).trans (by omega); rw [e3_, act1_k3, ex7, ex8, ex9, ex10]; exact fx11_2, (NPi.tr NPi.rf npx11)⟩
      · refine z_aload_n (M := M_X12_doAct) 99 dX12_doAct_99 rfl ?_
        refine z_getR (M := M_X12_doAct) 100 dX12_doAct_100 f_X12_13 o_108 rfl (g_108_3 G0) ?_
        refine z_bipush (M := M_X12_doAct) 103 dX12_doAct_103 ?_
        refine z_aload_n (M := M_X12_doAct) 105 dX12_doAct_105 rfl ?_
        refine z_getR (M := M_X12_doAct) 106 dX12_doAct_106 f_X12_30 o_108 rfl (g_108_15 G0) ?_
        refine z_iload_n (M := M_X12_doAct) 109 dX12_doAct_109 rfl ?_
        refine z_iconst (M := M_X12_doAct) 110 dX12_doAct_110 ?_
        refine z_iaddN (M := M_X12_doAct) 111 dX12_doAct_111 (by omega) (by omega) ?_
        refine z_ialdV (M := M_X12_doAct) 112 dX12_doAct_112 o_114 (by omega) (by omega) (fun x14 ex14 => ?_)
        refine z_ok (fun ox14 _ _ => ?_)
        have ox14 := ox14.1; unfold m_ok m_32 at ox14
        have rx14 := (FR.rf (cs := [110]) (ss := []) (h := h0)) 114 ((a1 + 1)).toNat rfl
        refine z_iaddN (M := M_X12_doAct) 113 dX12_doAct_113 (by omega) (by omega) ?_
        refine z_topBI (lo := 42) (hi := 47) ⟨by omega, by omega⟩ (fun x15 ex15 ax15 bx15 => ?_)
        refine z_aload_n (M := M_X12_doAct) 114 dX12_doAct_114 rfl ?_
        refine z_getR (M := M_X12_doAct) 115 dX12_doAct_115 f_X12_30 o_108 rfl (g_108_15 G0) ?_
        refine z_iload_n (M := M_X12_doAct) 118 dX12_doAct_118 rfl ?_
        refine z_iconst (M := M_X12_doAct) 119 dX12_doAct_119 ?_
        refine z_iaddN (M := M_X12_doAct) 120 dX12_doAct_120 (by omega) (by omega) ?_
        refine z_ialdV (M := M_X12_doAct) 121 dX12_doAct_121 o_114 (by omega) (by omega) (fun x16 ex16 => ?_)
        refine z_ok (fun ox16 _ _ => ?_)
        have ox16 := ox16.1; unfold m_ok m_32 at ox16
        have rx16 := (FR.rf (cs := [110]) (ss := []) (h := h0)) 114 ((a1 + 2)).toNat rfl
        refine z_iastH (M := M_X12_doAct) 122 dX12_doAct_122 o_110 (by omega) (by omega) (uw_c G0 (by omega) (by omega) (by omega) (by omega)) ((FR.rf (cs := [110]) (ss := []) (h := h0)).up rfl) (fun h2 E2 G2 R2 => ?_)
        refine z_goto (M := M_X12_doAct) 123 dX12_doAct_123 162 rfl ?_
        have w17 : h2 110 0 = x1 := ((upN E2 (fun q => absurd q.2 (by omega))).trans ex1)
        have w18 : h2 110 1 = x2 := ((upN E2 (fun q => absurd q.2 (by omega))).trans ex2)
        exact z_retV (M := M_X12_doAct) 162 dX12_doAct_162 rfl ⟨G2, R2, by omega, by omega, by have e2_ : h0 114 a1.toNat = 2 := (ex3).trans (by omega); rw [e2_, act1_k2, ex14, ex16]; rw [rU_up E2, ex15], (NPi.st NPi.rf E2 ⟨by omega, fun e => by omega⟩ (by omega))⟩
    · refine z_aload_n (M := M_X12_doAct) 66 dX12_doAct_66 rfl ?_
      refine z_aload_n (M := M_X12_doAct) 67 dX12_doAct_67 rfl ?_
      refine z_getR (M := M_X12_doAct) 68 dX12_doAct_68 f_X12_30 o_108 rfl (g_108_15 G0) ?_
      refine z_iload_n (M := M_X12_doAct) 71 dX12_doAct_71 rfl ?_
      refine z_iconst (M := M_X12_doAct) 72 dX12_doAct_72 ?_
      refine z_iaddN (M := M_X12_doAct) 73 dX12_doAct_73 (by omega) (by omega) ?_
      refine z_ialdV (M := M_X12_doAct) 74 dX12_doAct_74 o_114 (by omega) (by omega) (fun x19 ex19 => ?_)
      refine z_ok (fun ox19 _ _ => ?_)
      have ox19 := ox19.1; unfold m_ok m_32 at ox19
      have rx19 := (FR.rf (cs := [110]) (ss := []) (h := h0)) 114 ((a1 + 1)).toNat rfl
      refine z_aload_n (M := M_X12_doAct) 75 dX12_doAct_75 rfl ?_
      refine z_getR (M := M_X12_doAct) 76 dX12_doAct_76 f_X12_30 o_108 rfl (g_108_15 G0) ?_
      refine z_iload_n (M := M_X12_doAct) 79 dX12_doAct_79 rfl ?_
      refine z_iconst (M := M_X12_doAct) 80 dX12_doAct_80 ?_
      refine z_iaddN (M := M_X12_doAct) 81 dX12_doAct_81 (by omega) (by omega) ?_
      refine z_ialdV (M := M_X12_doAct) 82 dX12_doAct_82 o_114 (by omega) (by omega) (fun x20 ex20 => ?_)
      refine z_ok (fun ox20 _ _ => ?_)
      have ox20 := ox20.1; unfold m_ok m_32 at ox20
      have rx20 := (FR.rf (cs := [110]) (ss := []) (h := h0)) 114 ((a1 + 2)).toNat rfl
      refine z_vV (M := M_X12_doAct) 83 dX12_doAct_83 t_X12_addShorter l_X12_176 (m_rr_of rfl) (rest := []) (c_X12_addShorter2 h0 x19 x20 G0 ⟨by omega, by omega⟩ ⟨by omega, by omega⟩ (le_e ex2 (by omega))) o_108 rfl rfl rfl (Nat.le_of_ble_eq_true rfl) ⟨rfl, rfl⟩ (fun h3 qx21 => ?_)
      obtain ⟨G3, S3, fx21_0, fx21_1, fx21_2, npx21⟩ := qx21
      have R3 := (FR.rf (cs := [110]) (ss := []) (h := h0)).call S3 (by decide +kernel)
      refine z_goto (M := M_X12_doAct) 86 dX12_doAct_86 162 rfl ?_
      have w22 : h3 110 0 = x1 := (fx21_0.trans ex1)
      have w23 : h3 110 1 = (x2 + 1) := (eq_ad fx21_1 ex2)
      exact z_retV (M := M_X12_doAct) 162 dX12_doAct_162 rfl ⟨G3, R3, by omega, by omega, by rw [(ex3 : h0 114 a1.toNat = x3), (show x3 = 1 by omega), act1_k1, ex19, ex20]; exact fx21_2, (NPi.tr NPi.rf npx21)⟩
  · refine z_aload_n (M := M_X12_doAct) 9 dX12_doAct_9 rfl ?_
    refine z_getR (M := M_X12_doAct) 10 dX12_doAct_10 f_X12_30 o_108 rfl (g_108_15 G0) ?_
    refine z_iload_n (M := M_X12_doAct) 13 dX12_doAct_13 rfl ?_
    refine z_iconst (M := M_X12_doAct) 14 dX12_doAct_14 ?_
    refine z_iaddN (M := M_X12_doAct) 15 dX12_doAct_15 (by omega) (by omega) ?_
    refine z_ialdV (M := M_X12_doAct) 16 dX12_doAct_16 o_114 (by omega) (by omega) (fun x24 ex24 => ?_)
    refine z_ok (fun ox24 _ _ => ?_)
    have ox24 := ox24.1; unfold m_ok m_32 at ox24
    have rx24 := (FR.rf (cs := [110]) (ss := []) (h := h0)) 114 ((a1 + 1)).toNat rfl
    refine z_istore_n (M := M_X12_doAct) 17 dX12_doAct_17 (ls' := [some (mR 108), some (mI a1), some (mI x24)]) (by decide) rfl ?_
    exact z_mask [true, true, true] rfl (ih x24 x1 x2 h0 G0 (FR.rf (cs := [110]) (ss := []) (h := h0)) (by omega) (by omega) (by omega) (by omega) (by omega) (by omega) ex1 ex2 (by omega) (by rw [ex24]; exact rW_0.symm) (by omega) NPi.rf (by omega))
theorem bg_q {h0 h h' : m_H} (T : Tok (h 113) (h 108 8) (h 108 10) (Qm h')) (eb : h 113 = h0 113) (en : h 108 8 = h0 108 8) (e : h 108 10 = 0) : Qm h' = nx (h0 113) (h0 108 8) 0 := by
  rw [eb, en, e] at T
  exact (nx_eq (Int.le_refl 0) T).symm
theorem vr_0 {h : m_H} {r : Nat → Int} (e : h 108 16 = 0) (er : h 110 = r) : vr h = r := by
  unfold vr; rw [e]; exact er
def boM (z : Except Int (Int × (Nat → Int))) (b : Nat → Int) (n k : Int) (f : Nat) (p : (Int × Int) × (Nat → Int)) (h : m_H) : Prop := MTk h ∧ AI h ∧ 2 * h 108 16 ≤ h 108 9 ∧ Qm h = p.1 ∧ vr h = p.2 ∧ z = cif (n ≤ p.1.1) (.ok (k, p.2)) (cif (isW b p.1 15) (rdBook b n f (nxt b n p.1) p.2 (k + 1)) (.error p.1.1)) ∧ h 108 13 = -1 ∧ (f : Int) + k = 400
theorem bk_un {b : Nat → Int} {n k : Int} {f : Nat} {q : Int × Int} {r : Nat → Int} {p : (Int × Int) × (Nat → Int)} (C : rdCl b n q r = .ok p) : rdBook b n (f + 1) q r k = cif (n ≤ p.1.1) (.ok (k, p.2)) (cif (isW b p.1 15) (rdBook b n f (nxt b n p.1) p.2 (k + 1)) (.error p.1.1)) := by
  conv => lhs; unfold rdBook
  rw [C]
def bmQ (z : Except Int (Int × (Nat → Int))) (x : Int) (h0 h' : m_H) : Prop := match z with
  | .ok p => x = p.1 ∧ h' 110 = p.2 ∧ h' 108 13 = -1
  | .error e => x = -6 ∧ h' 110 = h0 110 ∧ h' 108 13 = e
theorem bm_ok {z : Except Int (Int × (Nat → Int))} {x : Int} {r : Nat → Int} {h0 h' : m_H} (e : z = .ok (x, r)) (er : h' 110 = r) (u : h' 108 13 = -1) : bmQ z x h0 h' := by rw [e]; exact ⟨rfl, er, u⟩
theorem bm_er {z : Except Int (Int × (Nat → Int))} {e : Int} {h0 h' : m_H} (ez : z = .error e) (er : h' 110 = h0 110) (u : h' 108 13 = e) : bmQ z (-6) h0 h' := by rw [ez]; exact ⟨rfl, er, u⟩
theorem er_b {z : Except Int (Int × (Nat → Int))} {e e' : Int} (ez : z = .error e) (f : e' = e) : z = .error e' := by rw [f]; exact ez
theorem ap_st {f : Nat → Int} {k : Int} {r r1 r2 : Nat → Int} (h0 : 0 ≤ k) (e : r1 = apA f k.toNat r) (d : r2 = act1 (f (5 * k).toNat) (f (5 * k + 1).toNat) (f (5 * k + 2).toNat) (f (5 * k + 3).toNat) (f (5 * k + 4).toNat) r1) : r2 = apA f (k + 1).toNat r := by
  rw [show (k + 1).toNat = k.toNat + 1 by omega]
  rw [show (5 * k).toNat = 5 * k.toNat by omega, show (5 * k + 1).toNat = 5 * k.toNat + 1 by omega, show (5 * k + 2).toNat = 5 * k.toNat + 2 by omega, show (5 * k + 3).toNat = 5 * k.toNat + 3 by omega, show (5 * k + 4).toNat = 5 * k.toNat + 4 by omega, e] at d
  exact d
abbrev P_X12_begin2 (h0 : m_H) : m_H → Prop := fun h' => GI h' ∧ FR [] [(108, 9), (108, 10), (108, 11), (108, 12), (108, 13), (108, 14)] h0 h' ∧ MTk h' ∧ Qm h' = nx (h0 113) (h0 108 8) 0 ∧ h' 108 14 = 0 ∧ h' 108 13 = -1
set_option maxHeartbeats 4000000 in
set_option maxRecDepth 100000 in
theorem c_X12_begin2 (h0 : m_H) (G0 : GI h0) : m_CV M_X12_begin [mR 108] h0 (P_X12_begin2 h0) := by
  refine m_CV_of ⟨by decide, rfl, by simp [m_arg, m_isL, M_X12_begin], ⟨rfl, rfl⟩, rfl, rfl⟩ (ls := [some (mR 108)]) rfl ?_
  refine z_aload_n (M := M_X12_begin) 0 dX12_begin_0 rfl ?_
  refine z_iconst (M := M_X12_begin) 1 dX12_begin_1 ?_
  refine z_putIH (M := M_X12_begin) 2 dX12_begin_2 p_X12_211 o_108 rfl (u_108_10 G0 (by omega) (by omega)) ((FR.rf (cs := []) (ss := [(108, 9), (108, 10), (108, 11), (108, 12), (108, 13), (108, 14)]) (h := h0)).up rfl) (fun h1 E1 G1 R1 => ?_)
  refine z_aload_n (M := M_X12_begin) 5 dX12_begin_5 rfl ?_
  refine z_iconst (M := M_X12_begin) 6 dX12_begin_6 ?_
  refine z_putZH (M := M_X12_begin) 7 dX12_begin_7 p_X12_214 o_108 rfl (by omega) (u_108_14 G1 (by omega) (by omega)) (R1.up rfl) (fun h2 E2 G2 R2 => ?_)
  refine z_aload_n (M := M_X12_begin) 10 dX12_begin_10 rfl ?_
  refine z_iconst (M := M_X12_begin) 11 dX12_begin_11 ?_
  refine z_putIH (M := M_X12_begin) 12 dX12_begin_12 p_X12_26 o_108 rfl (u_108_13 G2) (R2.up rfl) (fun h3 E3 G3 R3 => ?_)
  refine z_aload_n (M := M_X12_begin) 15 dX12_begin_15 rfl ?_
  refine z_vV (M := M_X12_begin) 16 dX12_begin_16 t_X12_next l_X12_218 (m_rr_of rfl) (rest := []) (c_X12_next2 h3 G3 (by have z_ : h3 108 10 = 0 := ((upN E3 (fun q => absurd q.2 (by decide))).trans ((upN E2 (fun q => absurd q.2 (by decide))).trans (upE E1))); have y_ := (g_108_8 G3).1; omega)) o_108 rfl rfl rfl (Nat.le_of_ble_eq_true rfl) ⟨rfl, rfl⟩ (fun h4 qx1 => ?_)
  obtain ⟨G4, S4, Tx1, Mx1⟩ := qx1
  have R4 := R3.call S4 (by decide +kernel)
  exact z_retV (M := M_X12_begin) 19 dX12_begin_19 rfl ⟨G4, R4, Mx1, bg_q Tx1 (rowz R3 (fun _ => rfl)) (R3 108 8 rfl) ((upN E3 (fun q => absurd q.2 (by decide))).trans ((upN E2 (fun q => absurd q.2 (by decide))).trans (upE E1))), ((S4 108 14 rfl).trans ((upN E3 (fun q => absurd q.2 (by decide))).trans (upE E2))), ((S4 108 13 rfl).trans (upE E3))⟩
abbrev P_X12_book2 (h0 : m_H) : Int → m_H → Prop := fun x h' => GI h' ∧ FR [109, 110, 114] [(108, 0), (108, 1), (108, 8), (108, 9), (108, 10), (108, 11), (108, 12), (108, 13), (108, 14), (108, 16), (108, 17), (108, 18)] h0 h' ∧ (-6) ≤ x ∧ x ≤ 401 ∧ h' 108 8 = 0 ∧ bmQ (rdBook (h0 113) (h0 108 8) 400 (nx (h0 113) (h0 108 8) 0) (h0 110) 1) x h0 h' ∧ NPi h0 h'
def q_X12_book2 (h0 : m_H) (n : Nat) : Prop := (∀ (l1 y_108_8 y_108_9 y_108_14 : Int) (h : m_H), GI h → FR [109, 110, 114] [(108, 0), (108, 1), (108, 8), (108, 9), (108, 10), (108, 11), (108, 12), (108, 13), (108, 14), (108, 16), (108, 17), (108, 18)] h0 h → 1 ≤ l1 → l1 ≤ 401 → 0 ≤ y_108_8 → y_108_8 ≤ 400 → 0 ≤ y_108_9 → y_108_9 ≤ 400 → 0 ≤ y_108_14 → y_108_14 ≤ 1 → (h 108 8 = y_108_8) → (h 108 9 = y_108_9) → (h 108 14 = y_108_14) → (y_108_14 = 1 → (rdBook (h0 113) (h0 108 8) 400 (nx (h0 113) (h0 108 8) 0) (h0 110) 1) = .error (h 108 13)) → (y_108_14 = 0 → ∃ p f, boM (rdBook (h0 113) (h0 108 8) 400 (nx (h0 113) (h0 108 8) 0) (h0 110) 1) (h0 113) (h0 108 8) l1 f p h) → (y_108_8 = h0 108 8) → (h 110 = h0 110) → (y_108_14 = 0 → 2 * l1 ≤ y_108_9 + 1) → (NPi h0 h) → 2 * (400 - y_108_9) + (404) ≤ (n : Int) → m_Z oF M_X12_book 30 [some (mR 108), some (mI l1), none] [] h (m_QI (P_X12_book2 h0))) ∧ (∀ (l1 l2 y_108_8 y_108_16 : Int) (h : m_H), GI h → FR [109, 110, 114] [(108, 0), (108, 1), (108, 8), (108, 9), (108, 10), (108, 11), (108, 12), (108, 13), (108, 14), (108, 16), (108, 17), (108, 18)] h0 h → 1 ≤ l1 → l1 ≤ 401 → 0 ≤ l2 → l2 ≤ 200 → 0 ≤ y_108_8 → y_108_8 ≤ 0 → 0 ≤ y_108_16 → y_108_16 ≤ 200 → (h 108 8 = y_108_8) → (h 108 16 = y_108_16) → (DI h l2.toNat) → (∃ r, (rdBook (h0 113) (h0 108 8) 400 (nx (h0 113) (h0 108 8) 0) (h0 110) 1) = .ok (l1, r) ∧ apA (h 114) y_108_16.toNat (h0 110) = r) → (h 110 = apA (h 114) l2.toNat (h0 110)) → (h 108 13 = -1) → (l2 ≤ y_108_16) → (NPi h0 h) → 2 * (200 - l2) + (1) ≤ (n : Int) → m_Z oF M_X12_book 100 [some (mR 108), some (mI l1), some (mI l2)] [] h (m_QI (P_X12_book2 h0)))
set_option maxHeartbeats 4000000 in
set_option maxRecDepth 100000 in
theorem s_X12_book2_30 (h0 : m_H) (G0 : GI h0) (n : Nat) (ih : q_X12_book2 h0 n) : ∀ (l1 y_108_8 y_108_9 y_108_14 : Int) (h : m_H), GI h → FR [109, 110, 114] [(108, 0), (108, 1), (108, 8), (108, 9), (108, 10), (108, 11), (108, 12), (108, 13), (108, 14), (108, 16), (108, 17), (108, 18)] h0 h → 1 ≤ l1 → l1 ≤ 401 → 0 ≤ y_108_8 → y_108_8 ≤ 400 → 0 ≤ y_108_9 → y_108_9 ≤ 400 → 0 ≤ y_108_14 → y_108_14 ≤ 1 → (h 108 8 = y_108_8) → (h 108 9 = y_108_9) → (h 108 14 = y_108_14) → (y_108_14 = 1 → (rdBook (h0 113) (h0 108 8) 400 (nx (h0 113) (h0 108 8) 0) (h0 110) 1) = .error (h 108 13)) → (y_108_14 = 0 → ∃ p f, boM (rdBook (h0 113) (h0 108 8) 400 (nx (h0 113) (h0 108 8) 0) (h0 110) 1) (h0 113) (h0 108 8) l1 f p h) → (y_108_8 = h0 108 8) → (h 110 = h0 110) → (y_108_14 = 0 → 2 * l1 ≤ y_108_9 + 1) → (NPi h0 h) → 2 * (400 - y_108_9) + (404) ≤ ((n + 1 : Nat) : Int) → m_Z oF M_X12_book 30 [some (mR 108), some (mI l1), none] [] h (m_QI (P_X12_book2 h0)) := by
  intro l1 y_108_8 y_108_9 y_108_14 h G R v0 v1 v2 v3 v4 v5 v6 v7 t_108_8 t_108_9 t_108_14 i0 i1 i2 i3 i4 i5 hr
  refine z_aload_n (M := M_X12_book) 30 dX12_book_30 rfl ?_
  refine z_getIE (M := M_X12_book) 31 dX12_book_31 f_X12_214 o_108 (by decide) t_108_14 ?_
  refine z_if_ne (M := M_X12_book) 34 dX12_book_34 60 rfl (fun c1 => ?_) (fun c1 => ?_)
  · refine z_aload_n (M := M_X12_book) 60 dX12_book_60 rfl ?_
    refine z_getIE (M := M_X12_book) 61 dX12_book_61 f_X12_214 o_108 (by decide) t_108_14 ?_
    refine z_if_ne_T (M := M_X12_book) 64 dX12_book_64 79 rfl (by omega) ?_
    refine z_aload_n (M := M_X12_book) 79 dX12_book_79 rfl ?_
    refine z_iconst (M := M_X12_book) 80 dX12_book_80 ?_
    refine z_putIH (M := M_X12_book) 81 dX12_book_81 p_X12_201 o_108 rfl (u_108_8 G (by omega) (by omega)) (R.up rfl) (fun h1 E1 G1 R1 => ?_)
    have rw_ : h1 110 = h0 110 := ((tl_r E1 (by decide)).trans i3)
    have fl_ : h1 108 13 = h 108 13 := upN E1 (by decide)
    refine z_aload_n (M := M_X12_book) 84 dX12_book_84 rfl ?_
    refine z_getIE (M := M_X12_book) 85 dX12_book_85 f_X12_214 o_108 (by decide) ((upN E1 (fun q => absurd q.2 (by decide))).trans t_108_14) ?_
    refine z_if_eq_F (M := M_X12_book) 88 dX12_book_88 98 rfl (by omega) ?_
    refine z_aload_n (M := M_X12_book) 91 dX12_book_91 rfl ?_
    refine z_bipush (M := M_X12_book) 92 dX12_book_92 ?_
    refine z_vI (M := M_X12_book) 94 dX12_book_94 t_X12_answer l_X12_147 (m_rr_of rfl) (rest := []) (c_X12_answer h1 (-6) G1 ⟨by omega, by omega⟩) o_108 rfl rfl rfl (Nat.le_of_ble_eq_true rfl) ⟨rfl, rfl⟩ (fun x2 h2 qx2 => ?_)
    obtain ⟨G2, S2, rfl⟩ := qx2
    have R2 := R1.call S2 (by decide +kernel)
    have z8 : h2 108 8 = 0 := ((S2 108 8 rfl).trans (upE E1))
    exact z_retI (M := M_X12_book) 97 dX12_book_97 rfl ⟨G2, R2, by omega, by omega, by omega, bm_er (i0 (by omega)) ((rowz S2 (fun _ => rfl)).trans rw_) ((S2 108 13 rfl).trans fl_), (NPi.call (NPi.put i5 E1 (by decide)) S2 (fun _ => rfl) (fun _ => rfl) (fun _ => rfl))⟩
  · obtain ⟨p_, f_, M_, A_, N_, Q_, V_, Z_, F_, K_⟩ := i1 (by omega)
    have ef_ : f_ = (f_ - 1) + 1 := by have := i4 (by omega); omega
    have q1_ := i4 (by omega)
    have hb0_ : h 108 14 = 0 := t_108_14.trans (by omega)
    have en_ := M_.end
    have lt_ := M_.2.2
    refine z_aload_n (M := M_X12_book) 37 dX12_book_37 rfl ?_
    refine z_bipush (M := M_X12_book) 38 dX12_book_38 ?_
    refine z_vI (M := M_X12_book) 40 dX12_book_40 t_X12_isSign l_X12_300 (m_rr_of rfl) (rest := []) (c_X12_isSign h 59 G) o_108 rfl rfl rfl (Nat.le_of_ble_eq_true rfl) ⟨rfl, rfl⟩ (fun x3 h3 qx3 => ?_)
    obtain ⟨rfl, ⟨rfl, cx3⟩ | ⟨rfl, cx3⟩⟩ := qx3
    · refine z_if_eq_F (M := M_X12_book) 43 dX12_book_43 60 rfl (by omega) ?_
      refine z_aload_n (M := M_X12_book) 46 dX12_book_46 rfl ?_
      refine z_vV (M := M_X12_book) 47 dX12_book_47 t_X12_next l_X12_218 (m_rr_of rfl) (rest := []) (c_X12_next2 h G M_.2.2.2) o_108 rfl rfl rfl (Nat.le_of_ble_eq_true rfl) ⟨rfl, rfl⟩ (fun h4 qx4 => ?_)
      obtain ⟨G4, S4, Tx4, Mx4⟩ := qx4
      have R4 := R.call S4 (by decide +kernel)
      have A4 := A_.fr S4 (fun _ => rfl) rfl rfl rfl rfl rfl
      have Qx4 : Qm h4 = (nxt (h0 113) (h0 108 8) p_.1) := nx_m (rowz R (fun _ => rfl)) (t_108_8.trans i2) Q_ (g_108_10 G).1 Tx4
      have Px4 : h 108 10 ≤ h4 108 9 := Tx4.1.1
      have Lx4 : h 108 9 < h 108 10 := M_.lt (by omega)
      have na4 : h4 108 16 = h 108 16 := S4 108 16 rfl
      have V4 : vr h4 = p_.2 := (vr_S S4 (fun _ => rfl) rfl (fun _ => rfl)).trans V_
      refine z_aload_n (M := M_X12_book) 50 dX12_book_50 rfl ?_
      have nn4 : 2 * h4 108 16 ≤ h4 108 9 := by omega
      refine z_vV (M := M_X12_book) 51 dX12_book_51 t_X12_readClause l_X12_321 (m_rr_of rfl) (rest := []) (c_X12_readClause2 h4 G4 ((S4 108 14 rfl).trans hb0_) Mx4 A4 nn4) o_108 rfl rfl rfl (Nat.le_of_ble_eq_true rfl) ⟨rfl, rfl⟩ (fun h5 qx5 => ?_)
      obtain ⟨G5, S5, Kx5, Jx5, Ix5⟩ := qx5
      have R5 := R4.call S5 (by decide +kernel)
      rcases md_cs (md_c (F := fun b n q r => rdCl b n q r) (rowz R4 (fun _ => rfl)) (((S4 108 8 rfl).trans t_108_8).trans i2) Qx4 V4 Kx5) with ⟨px5, Zx5, bx5, Mx5, Ax5, Px5_, Qx5, Vx5, flx5⟩ | ⟨ex5, Zx5, bx5, fx5⟩
      · have Ix5_ := Ix5 bx5
        refine z_iincN (M := M_X12_book) 54 dX12_book_54 (ls' := [some (mR 108), some (mI (l1 + 1)), none]) (by decide) rfl (by (unfold m_32; decide)) (by omega) (by omega) rfl ?_
        refine z_goto (M := M_X12_book) 57 dX12_book_57 30 rfl ?_
        obtain ⟨x6, ex6⟩ : ∃ y : Int, h5 108 9 = y := ⟨_, rfl⟩
        have bx6 : 0 ≤ x6 ∧ x6 ≤ 400 := ex6 ▸ g_108_9 G5
        have bb_ : h5 108 14 = 0 := bx5
        have gf_ := (g_108_9 G5).2
        exact z_mask [true, true, false] rfl (ih.1 (l1 + 1) y_108_8 x6 0 h5 G5 R5 (by omega) (by omega) (by omega) (by omega) (by omega) (by omega) (by omega) (by omega) ((S5 108 8 rfl).trans ((S4 108 8 rfl).trans t_108_8)) ex6 bx5 (fun q => by omega) (fun _ => ⟨px5, f_ - 1, Mx5, Ax5, (by omega), Qx5, Vx5, (Z_.trans ((cif_neg (by rw [← Q_]; show ¬ h0 108 8 ≤ h 108 9; omega)).trans ((cif_pos ((iw_c (rowz R (fun _ => rfl)) Q_ (mw_15 M_ (g_108_9 G).1)).mpr cx3)).trans (by rw [ef_]; exact bk_un Zx5)))), (flx5.trans ((S4 108 13 rfl).trans F_)), (by omega)⟩) (by omega) ((rowz S5 (fun _ => rfl)).trans ((rowz S4 (fun _ => rfl)).trans i3)) (fun _ => by omega) (NPi.call (NPi.call i5 S4 (fun _ => rfl) (fun _ => rfl) (fun _ => rfl)) S5 (fun _ => rfl) (fun _ => rfl) (fun _ => rfl)) (by omega))
      · refine z_iincN (M := M_X12_book) 54 dX12_book_54 (ls' := [some (mR 108), some (mI (l1 + 1)), none]) (by decide) rfl (by (unfold m_32; decide)) (by omega) (by omega) rfl ?_
        refine z_goto (M := M_X12_book) 57 dX12_book_57 30 rfl ?_
        obtain ⟨x7, ex7⟩ : ∃ y : Int, h5 108 9 = y := ⟨_, rfl⟩
        have bx7 : 0 ≤ x7 ∧ x7 ≤ 400 := ex7 ▸ g_108_9 G5
        have bb_ : h5 108 14 = 1 := bx5
        have gf_ := (g_108_9 G5).2
        exact z_mask [true, true, false] rfl (ih.1 (l1 + 1) y_108_8 x7 1 h5 G5 R5 (by omega) (by omega) (by omega) (by omega) (by omega) (by omega) (by omega) (by omega) ((S5 108 8 rfl).trans ((S4 108 8 rfl).trans t_108_8)) ex7 bx5 (fun _ => er_b (Z_.trans ((cif_neg (by rw [← Q_]; show ¬ h0 108 8 ≤ h 108 9; omega)).trans ((cif_pos ((iw_c (rowz R (fun _ => rfl)) Q_ (mw_15 M_ (g_108_9 G).1)).mpr cx3)).trans (by rw [ef_]; exact bk_er Zx5)))) fx5) (fun q => by omega) (by omega) ((rowz S5 (fun _ => rfl)).trans ((rowz S4 (fun _ => rfl)).trans i3)) (fun q => by omega) (NPi.call (NPi.call i5 S4 (fun _ => rfl) (fun _ => rfl) (fun _ => rfl)) S5 (fun _ => rfl) (fun _ => rfl) (fun _ => rfl)) (by omega))
    · refine z_if_eq_T (M := M_X12_book) 43 dX12_book_43 60 rfl (by omega) ?_
      refine z_aload_n (M := M_X12_book) 60 dX12_book_60 rfl ?_
      refine z_getIE (M := M_X12_book) 61 dX12_book_61 f_X12_214 o_108 (by decide) hb0_ ?_
      refine z_if_ne_F (M := M_X12_book) 64 dX12_book_64 79 rfl (by omega) ?_
      refine z_aload_n (M := M_X12_book) 67 dX12_book_67 rfl ?_
      refine z_getIG (M := M_X12_book) 68 dX12_book_68 f_X12_234 o_108 (by decide) (g_108_11 G) (fun x8 ex8 ax8 bx8 => ?_)
      refine z_if_eq (M := M_X12_book) 71 dX12_book_71 79 rfl (fun c9 => ?_) (fun c9 => ?_)
      · refine z_aload_n (M := M_X12_book) 79 dX12_book_79 rfl ?_
        refine z_iconst (M := M_X12_book) 80 dX12_book_80 ?_
        refine z_putIH (M := M_X12_book) 81 dX12_book_81 p_X12_201 o_108 rfl (u_108_8 G (by omega) (by omega)) (R.up rfl) (fun h6 E6 G6 R6 => ?_)
        have A6 := A_.same (fun j => upN E6 (fun q => absurd q.1 (by decide))) (upN E6 (by decide)) (upN E6 (by decide)) (upN E6 (by decide)) (upN E6 (by decide)) (upN E6 (by decide))
        have rw_ : h6 110 = h0 110 := ((tl_r E6 (by decide)).trans i3)
        have fl_ : h6 108 13 = (-1) := ((upN E6 (fun q => absurd q.2 (by decide))).trans F_)
        have vv_ : vr h6 = p_.2 := (vr_up E6 (by decide)).trans V_
        refine z_aload_n (M := M_X12_book) 84 dX12_book_84 rfl ?_
        refine z_getIE (M := M_X12_book) 85 dX12_book_85 f_X12_214 o_108 (by decide) ((upN E6 (fun q => absurd q.2 (by decide))).trans hb0_) ?_
        refine z_if_eq_T (M := M_X12_book) 88 dX12_book_88 98 rfl (by omega) ?_
        refine z_iconst (M := M_X12_book) 98 dX12_book_98 ?_
        refine z_istore_n (M := M_X12_book) 99 dX12_book_99 (ls' := [some (mR 108), some (mI l1), some (mI 0)]) (by decide) rfl ?_
        obtain ⟨x10, ex10⟩ : ∃ y : Int, h6 108 16 = y := ⟨_, rfl⟩
        have bx10 : 0 ≤ x10 ∧ x10 ≤ 200 := ex10 ▸ g_108_16 G6
        have n16_ : h6 108 16 = x10 := ex10
        have gg_ := (g_108_16 G6)
        exact z_mask [true, true, true] rfl (ih.2 l1 0 0 x10 h6 G6 R6 (by omega) (by omega) (by omega) (by omega) (by omega) (by omega) (by omega) (by omega) (upE E6) ex10 (DI_0 A6) ⟨p_.2, (Z_.trans (cif_pos (by rw [← Q_]; show h0 108 8 ≤ h 108 9; omega))), (by rw [← n16_, ← rw_]; exact vv_)⟩ (by rw [rw_]; rfl) fl_ (by omega) (NPi.put i5 E6 (by decide)) (by omega))
      · refine z_aload_n (M := M_X12_book) 74 dX12_book_74 rfl ?_
        refine z_iconst (M := M_X12_book) 75 dX12_book_75 ?_
        refine z_vV (M := M_X12_book) 76 dX12_book_76 t_X12_must l_X12_247 (m_rr_of rfl) (rest := []) (c_X12_must_0 h 0 G ⟨by omega, by omega⟩ hb0_) o_108 rfl rfl rfl (Nat.le_of_ble_eq_true rfl) ⟨rfl, rfl⟩ (fun h7 qx11 => ?_)
        obtain ⟨G7, S7, bx11, fx11⟩ := qx11
        have R7 := R.call S7 (by decide +kernel)
        have A7 := A_.fr S7 (fun _ => rfl) rfl rfl rfl rfl rfl
        have Px11 : h7 108 9 = h 108 9 := S7 108 9 rfl
        have fpx11 : h7 108 13 = p_.1.1 := fx11.trans (fst_m Q_)
        refine z_aload_n (M := M_X12_book) 79 dX12_book_79 rfl ?_
        refine z_iconst (M := M_X12_book) 80 dX12_book_80 ?_
        refine z_putIH (M := M_X12_book) 81 dX12_book_81 p_X12_201 o_108 rfl (u_108_8 G7 (by omega) (by omega)) (R7.up rfl) (fun h8 E8 G8 R8 => ?_)
        have rw_ : h8 110 = h0 110 := ((tl_r E8 (by decide)).trans ((rowz S7 (fun _ => rfl)).trans i3))
        have fl_ : h8 108 13 = p_.1.1 := ((upN E8 (fun q => absurd q.2 (by decide))).trans fpx11)
        refine z_aload_n (M := M_X12_book) 84 dX12_book_84 rfl ?_
        refine z_getIE (M := M_X12_book) 85 dX12_book_85 f_X12_214 o_108 (by decide) ((upN E8 (fun q => absurd q.2 (by decide))).trans bx11) ?_
        refine z_if_eq_F (M := M_X12_book) 88 dX12_book_88 98 rfl (by omega) ?_
        refine z_aload_n (M := M_X12_book) 91 dX12_book_91 rfl ?_
        refine z_bipush (M := M_X12_book) 92 dX12_book_92 ?_
        refine z_vI (M := M_X12_book) 94 dX12_book_94 t_X12_answer l_X12_147 (m_rr_of rfl) (rest := []) (c_X12_answer h8 (-6) G8 ⟨by omega, by omega⟩) o_108 rfl rfl rfl (Nat.le_of_ble_eq_true rfl) ⟨rfl, rfl⟩ (fun x12 h9 qx12 => ?_)
        obtain ⟨G9, S9, rfl⟩ := qx12
        have R9 := R8.call S9 (by decide +kernel)
        have z8 : h9 108 8 = 0 := ((S9 108 8 rfl).trans (upE E8))
        exact z_retI (M := M_X12_book) 97 dX12_book_97 rfl ⟨G9, R9, by omega, by omega, by omega, bm_er (Z_.trans ((cif_neg (by rw [← Q_]; show ¬ h0 108 8 ≤ h 108 9; omega)).trans (cif_neg (fun z => cx3 ((iw_c (rowz R (fun _ => rfl)) Q_ (mw_15 M_ (g_108_9 G).1)).mp z))))) ((rowz S9 (fun _ => rfl)).trans rw_) ((S9 108 13 rfl).trans fl_), (NPi.call (NPi.put (NPi.call i5 S7 (fun _ => rfl) (fun _ => rfl) (fun _ => rfl)) E8 (by decide)) S9 (fun _ => rfl) (fun _ => rfl) (fun _ => rfl))⟩
set_option maxHeartbeats 4000000 in
set_option maxRecDepth 100000 in
theorem s_X12_book2_100 (h0 : m_H) (G0 : GI h0) (n : Nat) (ih : q_X12_book2 h0 n) : ∀ (l1 l2 y_108_8 y_108_16 : Int) (h : m_H), GI h → FR [109, 110, 114] [(108, 0), (108, 1), (108, 8), (108, 9), (108, 10), (108, 11), (108, 12), (108, 13), (108, 14), (108, 16), (108, 17), (108, 18)] h0 h → 1 ≤ l1 → l1 ≤ 401 → 0 ≤ l2 → l2 ≤ 200 → 0 ≤ y_108_8 → y_108_8 ≤ 0 → 0 ≤ y_108_16 → y_108_16 ≤ 200 → (h 108 8 = y_108_8) → (h 108 16 = y_108_16) → (DI h l2.toNat) → (∃ r, (rdBook (h0 113) (h0 108 8) 400 (nx (h0 113) (h0 108 8) 0) (h0 110) 1) = .ok (l1, r) ∧ apA (h 114) y_108_16.toNat (h0 110) = r) → (h 110 = apA (h 114) l2.toNat (h0 110)) → (h 108 13 = -1) → (l2 ≤ y_108_16) → (NPi h0 h) → 2 * (200 - l2) + (1) ≤ ((n + 1 : Nat) : Int) → m_Z oF M_X12_book 100 [some (mR 108), some (mI l1), some (mI l2)] [] h (m_QI (P_X12_book2 h0)) := by
  intro l1 l2 y_108_8 y_108_16 h G R v0 v1 v2 v3 v4 v5 v6 v7 t_108_8 t_108_16 i0 i1 i2 i3 i4 i5 hr
  obtain ⟨r_, zr_, ar_⟩ := i1
  refine z_iload_n (M := M_X12_book) 100 dX12_book_100 rfl ?_
  refine z_aload_n (M := M_X12_book) 101 dX12_book_101 rfl ?_
  refine z_getIE (M := M_X12_book) 102 dX12_book_102 f_X12_251 o_108 (by decide) t_108_16 ?_
  refine z_icmp_ge (M := M_X12_book) 105 dX12_book_105 121 rfl (fun c1 => ?_) (fun c1 => ?_)
  · refine z_aload_n (M := M_X12_book) 121 dX12_book_121 rfl ?_
    refine z_iload_n (M := M_X12_book) 122 dX12_book_122 rfl ?_
    refine z_vI (M := M_X12_book) 123 dX12_book_123 t_X12_answer l_X12_147 (m_rr_of rfl) (rest := []) (c_X12_answer h l1 G ⟨by omega, by omega⟩) o_108 rfl rfl rfl (Nat.le_of_ble_eq_true rfl) ⟨rfl, rfl⟩ (fun x2 h1 qx2 => ?_)
    obtain ⟨G1, S1, rfl⟩ := qx2
    have R1 := R.call S1 (by decide +kernel)
    have z8 : h1 108 8 = y_108_8 := ((S1 108 8 rfl).trans t_108_8)
    exact z_retI (M := M_X12_book) 126 dX12_book_126 rfl ⟨G1, R1, by omega, by omega, by omega, bm_ok zr_ ((rowz S1 (fun _ => rfl)).trans (i2.trans (by rw [show l2.toNat = y_108_16.toNat by omega]; exact ar_))) ((S1 108 13 rfl).trans i3), (NPi.call i5 S1 (fun _ => rfl) (fun _ => rfl) (fun _ => rfl))⟩
  · refine z_aload_n (M := M_X12_book) 108 dX12_book_108 rfl ?_
    refine z_iconst (M := M_X12_book) 109 dX12_book_109 ?_
    refine z_iload_n (M := M_X12_book) 110 dX12_book_110 rfl ?_
    refine z_imulN (M := M_X12_book) 111 dX12_book_111 (by omega) (by omega) ?_
    have w3 : h 108 16 = y_108_16 := t_108_16
    have dq := DI_args i0 (by omega) (by omega)
    refine z_vV (M := M_X12_book) 112 dX12_book_112 t_X12_doAct l_X12_324 (m_rr_of rfl) (rest := []) (c_X12_doAct2 h (5 * l2) G ⟨by omega, by omega⟩ dq.1 dq.2.1 dq.2.2) o_108 rfl rfl rfl (Nat.le_of_ble_eq_true rfl) ⟨rfl, rfl⟩ (fun h2 qx4 => ?_)
    obtain ⟨G2, S2, fx4_0, fx4_1, fx4_2, npx4⟩ := qx4
    have R2 := R.call S2 (by decide +kernel)
    refine z_iincN (M := M_X12_book) 115 dX12_book_115 (ls' := [some (mR 108), some (mI l1), some (mI (l2 + 1))]) (by decide) rfl (by (unfold m_32; decide)) (by omega) (by omega) rfl ?_
    refine z_goto (M := M_X12_book) 118 dX12_book_118 100 rfl ?_
    exact z_mask [true, true, true] rfl (ih.2 l1 (l2 + 1) y_108_8 y_108_16 h2 G2 R2 (by omega) (by omega) (by omega) (by omega) (by omega) (by omega) (by omega) (by omega) ((S2 108 8 rfl).trans t_108_8) ((S2 108 16 rfl).trans t_108_16) (DI_nx i0 (by omega) (by omega) S2 (fun _ => rfl) rfl fx4_0 fx4_1) ⟨r_, zr_, (by rw [rowz (c := 114) S2 (fun _ => rfl)]; exact ar_)⟩ (by rw [rowz (c := 114) S2 (fun _ => rfl)]; exact ap_st (by omega) i2 fx4_2) ((S2 108 13 rfl).trans i3) (by omega) (NPi.tr i5 npx4) (by omega))
theorem a_X12_book2 (h0 : m_H) (G0 : GI h0) : ∀ n, q_X12_book2 h0 n := by
  intro n
  induction n with
  | zero => unfold q_X12_book2; refine ⟨?_, ?_⟩ <;> (intros; omega)
  | succ n ih => exact ⟨s_X12_book2_30 h0 G0 n ih, s_X12_book2_100 h0 G0 n ih⟩
set_option maxHeartbeats 4000000 in
set_option maxRecDepth 100000 in
theorem c_X12_book2 (h0 : m_H) (G0 : GI h0) : m_CI M_X12_book [mR 108] h0 (P_X12_book2 h0) := by
  refine m_CI_of ⟨by decide, rfl, by simp [m_arg, m_isL, M_X12_book], ⟨rfl, rfl⟩, rfl, rfl⟩ (ls := [some (mR 108), none, none]) rfl ?_
  have ih := a_X12_book2 h0 G0 1211
  obtain ⟨x1, ex1⟩ : ∃ y : Int, h0 108 8 = y := ⟨_, rfl⟩
  have bx1 : 0 ≤ x1 ∧ x1 ≤ 400 := ex1 ▸ g_108_8 G0
  refine z_aload_n (M := M_X12_book) 0 dX12_book_0 rfl ?_
  refine z_iconst (M := M_X12_book) 1 dX12_book_1 ?_
  refine z_putIH (M := M_X12_book) 2 dX12_book_2 p_X12_133 o_108 rfl (u_108_0 G0) ((FR.rf (cs := [109, 110, 114]) (ss := [(108, 0), (108, 1), (108, 8), (108, 9), (108, 10), (108, 11), (108, 12), (108, 13), (108, 14), (108, 16), (108, 17), (108, 18)]) (h := h0)).up rfl) (fun h1 E1 G1 R1 => ?_)
  refine z_aload_n (M := M_X12_book) 5 dX12_book_5 rfl ?_
  refine z_iconst (M := M_X12_book) 6 dX12_book_6 ?_
  refine z_putIH (M := M_X12_book) 7 dX12_book_7 p_X12_251 o_108 rfl (u_108_16 G1 (by omega) (by omega)) (R1.up rfl) (fun h2 E2 G2 R2 => ?_)
  refine z_aload_n (M := M_X12_book) 10 dX12_book_10 rfl ?_
  refine z_iconst (M := M_X12_book) 11 dX12_book_11 ?_
  refine z_putIH (M := M_X12_book) 12 dX12_book_12 p_X12_282 o_108 rfl (u_108_17 G2 (by omega) (by omega)) (R2.up rfl) (fun h3 E3 G3 R3 => ?_)
  refine z_aload_n (M := M_X12_book) 15 dX12_book_15 rfl ?_
  refine z_iconst (M := M_X12_book) 16 dX12_book_16 ?_
  refine z_putIH (M := M_X12_book) 17 dX12_book_17 p_X12_277 o_108 rfl (u_108_18 G3 (by omega) (by omega)) (R3.up rfl) (fun h4 E4 G4 R4 => ?_)
  refine z_aload_n (M := M_X12_book) 20 dX12_book_20 rfl ?_
  refine z_vV (M := M_X12_book) 21 dX12_book_21 t_X12_begin l_X12_318 (m_rr_of rfl) (rest := []) (c_X12_begin2 h4 G4) o_108 rfl rfl rfl (Nat.le_of_ble_eq_true rfl) ⟨rfl, rfl⟩ (fun h5 qx2 => ?_)
  obtain ⟨G5, S5, Mx2, Kx2, bx2, fx2⟩ := qx2
  have R5 := R4.call S5 (by decide +kernel)
  have Qb : Qm h5 = nx (h0 113) (h0 108 8) 0 := Kx2.trans (by rw [(rowz R4 (fun _ => rfl)), (((upN E4 (fun q => absurd q.2 (by decide))).trans ((upN E3 (fun q => absurd q.2 (by decide))).trans ((upN E2 (fun q => absurd q.2 (by decide))).trans ((upN E1 (fun q => absurd q.2 (by decide))).trans ex1)))).trans ex1.symm)])
  have n16 : h5 108 16 = 0 := ((S5 108 16 rfl).trans ((upN E4 (fun q => absurd q.2 (by decide))).trans ((upN E3 (fun q => absurd q.2 (by decide))).trans (upE E2))))
  have n17 : h5 108 17 = 0 := ((S5 108 17 rfl).trans ((upN E4 (fun q => absurd q.2 (by decide))).trans (upE E3)))
  have n18 : h5 108 18 = 0 := ((S5 108 18 rfl).trans (upE E4))
  have row0 : h5 110 = h0 110 := (rowz S5 (fun _ => rfl)).trans ((tl_r E4 (by decide)).trans ((tl_r E3 (by decide)).trans ((tl_r E2 (by decide)).trans (tl_r E1 (by decide)))))
  have Ab := AI_0 n16 n17 n18 (gw_0 G5).2 (gw_1 G5).2
  have Vb : vr h5 = h0 110 := vr_0 n16 row0
  have p9 := (g_108_9 G5).1
  refine z_iconst (M := M_X12_book) 24 dX12_book_24 ?_
  refine z_istore_n (M := M_X12_book) 25 dX12_book_25 (ls' := [some (mR 108), some (mI 1), none]) (by decide) rfl ?_
  refine z_aload_n (M := M_X12_book) 26 dX12_book_26 rfl ?_
  have nn5 : 2 * h5 108 16 ≤ h5 108 9 := by omega
  refine z_vV (M := M_X12_book) 27 dX12_book_27 t_X12_readClause l_X12_321 (m_rr_of rfl) (rest := []) (c_X12_readClause2 h5 G5 bx2 Mx2 Ab nn5) o_108 rfl rfl rfl (Nat.le_of_ble_eq_true rfl) ⟨rfl, rfl⟩ (fun h6 qx3 => ?_)
  obtain ⟨G6, S6, Kx3, Jx3, Ix3⟩ := qx3
  have R6 := R5.call S6 (by decide +kernel)
  rcases md_cs (md_c (F := fun b n q r => rdCl b n q r) (rowz R5 (fun _ => rfl)) (((S5 108 8 rfl).trans ((upN E4 (fun q => absurd q.2 (by decide))).trans ((upN E3 (fun q => absurd q.2 (by decide))).trans ((upN E2 (fun q => absurd q.2 (by decide))).trans ((upN E1 (fun q => absurd q.2 (by decide))).trans ex1))))).trans ex1.symm) Qb Vb Kx3) with ⟨px3, Zx3, bx3, Mx3, Ax3, Px3_, Qx3, Vx3, flx3⟩ | ⟨ex3, Zx3, bx3, fx3⟩
  · have Ix3_ := Ix3 bx3
    obtain ⟨x4, ex4⟩ : ∃ y : Int, h6 108 9 = y := ⟨_, rfl⟩
    have bx4 : 0 ≤ x4 ∧ x4 ≤ 400 := ex4 ▸ g_108_9 G6
    have bb_ : h6 108 14 = 0 := bx3
    have gf_ := (g_108_9 G6).2
    exact z_mask [true, true, false] rfl (ih.1 1 x1 x4 0 h6 G6 R6 (by omega) (by omega) (by omega) (by omega) (by omega) (by omega) (by omega) (by omega) ((S6 108 8 rfl).trans ((S5 108 8 rfl).trans ((upN E4 (fun q => absurd q.2 (by decide))).trans ((upN E3 (fun q => absurd q.2 (by decide))).trans ((upN E2 (fun q => absurd q.2 (by decide))).trans ((upN E1 (fun q => absurd q.2 (by decide))).trans ex1)))))) ex4 bx3 (fun q => by omega) (fun _ => ⟨px3, 399, Mx3, Ax3, (by omega), Qx3, Vx3, bk_un Zx3, (flx3.trans fx2), (by omega)⟩) (by have z_ := ((S6 108 8 rfl).trans ((S5 108 8 rfl).trans ((upN E4 (fun q => absurd q.2 (by decide))).trans ((upN E3 (fun q => absurd q.2 (by decide))).trans ((upN E2 (fun q => absurd q.2 (by decide))).trans ((upN E1 (fun q => absurd q.2 (by decide))).trans ex1)))))); have y_ := ex1; omega) ((rowz S6 (fun _ => rfl)).trans row0) (fun _ => by omega) (NPi.call (NPi.call (NPi.put (NPi.put (NPi.put (NPi.put NPi.rf E1 (by decide)) E2 (by decide)) E3 (by decide)) E4 (by decide)) S5 (fun _ => rfl) (fun _ => rfl) (fun _ => rfl)) S6 (fun _ => rfl) (fun _ => rfl) (fun _ => rfl)) (by omega))
  · obtain ⟨x5, ex5⟩ : ∃ y : Int, h6 108 9 = y := ⟨_, rfl⟩
    have bx5 : 0 ≤ x5 ∧ x5 ≤ 400 := ex5 ▸ g_108_9 G6
    have bb_ : h6 108 14 = 1 := bx3
    have gf_ := (g_108_9 G6).2
    exact z_mask [true, true, false] rfl (ih.1 1 x1 x5 1 h6 G6 R6 (by omega) (by omega) (by omega) (by omega) (by omega) (by omega) (by omega) (by omega) ((S6 108 8 rfl).trans ((S5 108 8 rfl).trans ((upN E4 (fun q => absurd q.2 (by decide))).trans ((upN E3 (fun q => absurd q.2 (by decide))).trans ((upN E2 (fun q => absurd q.2 (by decide))).trans ((upN E1 (fun q => absurd q.2 (by decide))).trans ex1)))))) ex5 bx3 (fun _ => er_b (bk_er Zx3) fx3) (fun q => by omega) (by have z_ := ((S6 108 8 rfl).trans ((S5 108 8 rfl).trans ((upN E4 (fun q => absurd q.2 (by decide))).trans ((upN E3 (fun q => absurd q.2 (by decide))).trans ((upN E2 (fun q => absurd q.2 (by decide))).trans ((upN E1 (fun q => absurd q.2 (by decide))).trans ex1)))))); have y_ := ex1; omega) ((rowz S6 (fun _ => rfl)).trans row0) (fun q => by omega) (NPi.call (NPi.call (NPi.put (NPi.put (NPi.put (NPi.put NPi.rf E1 (by decide)) E2 (by decide)) E3 (by decide)) E4 (by decide)) S5 (fun _ => rfl) (fun _ => rfl) (fun _ => rfl)) S6 (fun _ => rfl) (fun _ => rfl) (fun _ => rfl)) (by omega))
