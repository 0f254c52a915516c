/-! ends, with how far they go -/
def lPb (h0 h : m_H) (a f : Int) : Prop := lP h0 h a f ∧ (h 108 44 = 1 → (1 ≤ vS (h 138) 0 5 ∧ vS (h 138) 0 5 ≤ 25091827216) ∧ (1 ≤ vS (h 138) 5 5 ∧ vS (h 138) 5 5 ≤ 25091827216))
def hPb (h0 h : m_H) (a f : Int) : Prop := hP h0 h a f ∧ (h 108 45 = 1 → (1 ≤ vS (h 138) 10 5 ∧ vS (h 138) 10 5 ≤ 25091827216) ∧ (1 ≤ vS (h 138) 15 5 ∧ vS (h 138) 15 5 ≤ 25091827216))
theorem lPb_of {h0 h : m_H} {a f l : Int} (hl : 5 ≤ l) (ha : 0 ≤ a ∧ a ≤ 15) (I : feA h a l) (J : fL h0 h a f) : lPb h0 h a f := by
  refine ⟨lP_of hl ha I J, fun z => ?_⟩
  obtain ⟨g, e, d⟩ := I
  have k := (g a.toNat (by omega)).2.2 (e.symm.trans z)
  have e1 : vS (h 138) 0 5 = vS (h 124) (5 * a.toNat) 5 := vS_same (fun j hj => by rw [Nat.zero_add]; exact (d j (by omega)).1)
  have e2 : vS (h 138) 5 5 = vS (h 125) (5 * a.toNat) 5 := vS_same (fun j hj => (d j (by omega)).2)
  rw [e1, e2]
  exact k
theorem hPb_of {h0 h : m_H} {a f l : Int} (hl : 5 ≤ l) (hf : 0 ≤ f ∧ f ≤ 3) (I : feB h (12 + f) l) (J : fH h0 h a f) : hPb h0 h a f := by
  refine ⟨hP_of hl hf I J, fun z => ?_⟩
  obtain ⟨g, e, d⟩ := I
  have k := (g (12 + f).toNat (by omega)).2.2 (e.symm.trans z)
  have e1 : vS (h 138) 10 5 = vS (h 125) (5 * (12 + f).toNat) 5 := vS_same (fun j hj => (d j (by omega)).1)
  have e2 : vS (h 138) 15 5 = vS (h 124) (5 * (12 + f).toNat) 5 := vS_same (fun j hj => (d j (by omega)).2)
  rw [e1, e2]
  exact ⟨k.2, k.1⟩
theorem lPb.same {h0 h h' : m_H} {a f : Int} (I : lPb h0 h a f) (e1 : h' 108 44 = h 108 44) (e2 : h' 108 46 = h 108 46) (e3 : ∀ j, j < 10 → h' 138 j = h 138 j) : lPb h0 h' a f := by
  refine ⟨I.1.same e1 e2 e3, fun z => ?_⟩
  have k := I.2 (e1.symm.trans z)
  have k1 : vS (h' 138) 0 5 = vS (h 138) 0 5 := vS_same (fun j hj => e3 _ (by omega))
  have k2 : vS (h' 138) 5 5 = vS (h 138) 5 5 := vS_same (fun j hj => e3 _ (by omega))
  rw [k1, k2]; exact k
theorem lPb.put {h0 h h' : m_H} {a f v : Int} {j : Nat} (I : lPb h0 h a f) (E : h' = m_up h 138 j v) (hj : 10 ≤ j) : lPb h0 h' a f :=
  I.same (upN E (fun z => absurd z.1 (by decide))) (upN E (fun z => absurd z.1 (by decide))) (fun i hi => upN E (fun z => by have := z.2; omega))
theorem fe_h0 {h0 h2 h : m_H} {a f : Int} (e : h2 110 = h0 110) (b : lPb h2 h a f ∧ hPb h2 h a f) : lPb h0 h a f ∧ hPb h0 h a f := by
  unfold lPb hPb lP hP at b ⊢
  rw [e] at b
  exact b
abbrev P_X12_findEnds5 (h0 : m_H) (a1 a2 : Int) : m_H → Prop := fun h' => GI h' ∧ FR [115, 116, 117, 118, 119, 120, 121, 122, 123, 124, 125, 126, 127, 128, 129, 130, 131, 132, 133, 138] [(108, 21), (108, 44), (108, 45), (108, 46), (108, 47)] h0 h' ∧ enQ h' ∧ (lPb h0 h' a1 a2 ∧ hPb h0 h' a1 a2)
def q_X12_findEnds5 (h0 : m_H) (a1 a2 : Int) (n : Nat) : Prop := (∀ (l3 : Int) (h : m_H), GI h → FR [115, 116, 117, 118, 119, 120, 121, 122, 123, 124, 125, 126, 127, 128, 129, 130, 131, 132, 133, 138] [(108, 21), (108, 44), (108, 45), (108, 46), (108, 47)] h0 h → 0 ≤ l3 → l3 ≤ 5 → (feA h a1 l3) → (fL h0 h a1 a2) → 2 * (5 - l3) + (14) ≤ (n : Int) → m_Z oF M_X12_findEnds 45 [some (mR 108), some (mI a1), some (mI a2), some (mI l3), none] [] h (m_QV (P_X12_findEnds5 h0 a1 a2))) ∧ (∀ (l4 : Int) (h : m_H), GI h → FR [115, 116, 117, 118, 119, 120, 121, 122, 123, 124, 125, 126, 127, 128, 129, 130, 131, 132, 133, 138] [(108, 21), (108, 44), (108, 45), (108, 46), (108, 47)] h0 h → 0 ≤ l4 → l4 ≤ 5 → (e1Q h) → (feB h (12 + a2) l4) → (lPb h0 h a1 a2) → (fH h0 h a1 a2) → 2 * (5 - l4) + (1) ≤ (n : Int) → m_Z oF M_X12_findEnds 138 [some (mR 108), none, none, some (mI (12 + a2)), some (mI l4)] [] h (m_QV (P_X12_findEnds5 h0 a1 a2)))
set_option maxHeartbeats 4000000 in
set_option maxRecDepth 100000 in
theorem s_X12_findEnds5_45 (h0 : m_H) (a1 a2 : Int) (G0 : GI h0) (pa1 : 0 ≤ a1 ∧ a1 ≤ 11) (pa2 : 0 ≤ a2 ∧ a2 ≤ 3) (hN : NP h0) (hG : gG (bR (h0 110))) (n : Nat) (ih : q_X12_findEnds5 h0 a1 a2 n) : ∀ (l3 : Int) (h : m_H), GI h → FR [115, 116, 117, 118, 119, 120, 121, 122, 123, 124, 125, 126, 127, 128, 129, 130, 131, 132, 133, 138] [(108, 21), (108, 44), (108, 45), (108, 46), (108, 47)] h0 h → 0 ≤ l3 → l3 ≤ 5 → (feA h a1 l3) → (fL h0 h a1 a2) → 2 * (5 - l3) + (14) ≤ ((n + 1 : Nat) : Int) → m_Z oF M_X12_findEnds 45 [some (mR 108), some (mI a1), some (mI a2), some (mI l3), none] [] h (m_QV (P_X12_findEnds5 h0 a1 a2)) := by
  intro l3 h G R v0 v1 i0 j0 hr
  refine z_iload_n (M := M_X12_findEnds) 45 dX12_findEnds_45 rfl ?_
  refine z_iconst (M := M_X12_findEnds) 46 dX12_findEnds_46 ?_
  refine z_icmp_ge (M := M_X12_findEnds) 47 dX12_findEnds_47 90 rfl (fun c1 => ?_) (fun c1 => ?_)
  · refine z_bipush (M := M_X12_findEnds) 90 dX12_findEnds_90 ?_
    refine z_iload_n (M := M_X12_findEnds) 92 dX12_findEnds_92 rfl ?_
    refine z_iaddN (M := M_X12_findEnds) 93 dX12_findEnds_93 (by omega) (by omega) ?_
    refine z_istore_n (M := M_X12_findEnds) 94 dX12_findEnds_94 (ls' := [some (mR 108), some (mI a1), some (mI a2), some (mI (12 + a2)), none]) (by decide) rfl ?_
    refine z_aload_n (M := M_X12_findEnds) 95 dX12_findEnds_95 rfl ?_
    refine z_iload_n (M := M_X12_findEnds) 96 dX12_findEnds_96 rfl ?_
    refine z_vV (M := M_X12_findEnds) 97 dX12_findEnds_97 t_X12_goFrom l_X12_397 (m_rr_of rfl) (rest := []) (c_X12_goFrom2 h a1 G ⟨by omega, by omega⟩ (NP.call hN R (fun _ => rfl) (fun _ => rfl) (fun _ => rfl)) (gG_f hG R (fun _ => rfl))) o_108 rfl rfl rfl (Nat.le_of_ble_eq_true rfl) ⟨rfl, rfl⟩ (fun h1 qx2 => ?_)
    obtain ⟨G1, S1, fx2_0, fx2_1⟩ := qx2
    rw [(FR.row R (fun _ => rfl) : h 110 = h0 110)] at fx2_1
    have b_ := fx2_1 (12 + a2).toNat (by omega)
    have R1 := R.call S1 (by decide +kernel)
    refine z_aload_n (M := M_X12_findEnds) 100 dX12_findEnds_100 rfl ?_
    refine z_aload_n (M := M_X12_findEnds) 101 dX12_findEnds_101 rfl ?_
    refine z_getR (M := M_X12_findEnds) 102 dX12_findEnds_102 f_X12_70 o_108 rfl (g_108_32 G1) ?_
    refine z_iload_n (M := M_X12_findEnds) 105 dX12_findEnds_105 rfl ?_
    refine z_zaldG (M := M_X12_findEnds) 106 dX12_findEnds_106 o_127 (by omega) (by omega) (g_127 G1 (by omega)) (fun x3 ex3 ax3 bx3 => ?_)
    refine z_putZH (M := M_X12_findEnds) 107 dX12_findEnds_107 p_X12_415 o_108 rfl (by omega) (u_108_45 G1 (by omega) (by omega)) (R1.up rfl) (fun h2 E2 G2 R2 => ?_)
    refine z_aload_n (M := M_X12_findEnds) 110 dX12_findEnds_110 rfl ?_
    refine z_aload_n (M := M_X12_findEnds) 111 dX12_findEnds_111 rfl ?_
    refine z_getIE (M := M_X12_findEnds) 112 dX12_findEnds_112 f_X12_415 o_108 (by decide) (upE E2) ?_
    refine z_if_eq (M := M_X12_findEnds) 115 dX12_findEnds_115 131 rfl (fun c4 => ?_) (fun c4 => ?_)
    · refine z_iconst (M := M_X12_findEnds) 131 dX12_findEnds_131 ?_
      refine z_putZH (M := M_X12_findEnds) 132 dX12_findEnds_132 p_X12_418 o_108 rfl (by omega) (u_108_47 G2 (by omega) (by omega)) (R2.up rfl) (fun h3 E3 G3 R3 => ?_)
      refine z_iconst (M := M_X12_findEnds) 135 dX12_findEnds_135 ?_
      refine z_istore (M := M_X12_findEnds) 136 dX12_findEnds_136 (ls' := [some (mR 108), some (mI a1), some (mI a2), some (mI (12 + a2)), some (mI 0)]) (by decide) rfl ?_
      exact z_mask [true, false, false, true, true] rfl (ih.2 0 h3 G3 R3 (by omega) (by omega) (e1Q.same (feA_end G (by omega) (by omega) (by omega) i0) ((upN E3 (by decide)).trans ((upN E2 (by decide)).trans (S1 108 44 rfl))) ((upo E3 (by decide)).trans ((upo E2 (by decide)).trans (FR.row S1 (fun _ => rfl))))) (feB_0 fx2_0 ex3 E2 E3) ((lPb_of (by omega) ⟨by omega, by omega⟩ i0 j0).same ((upN E3 (by decide)).trans ((upN E2 (by decide)).trans (S1 108 44 rfl))) ((upN E3 (by decide)).trans ((upN E2 (by decide)).trans (S1 108 46 rfl))) (fun j _ => (congrFun ((upo E3 (by decide)).trans ((upo E2 (by decide)).trans (FR.row S1 (fun _ => rfl)))) j))) (fH_0 b_ ex3 E2 E3 ⟨fun z => absurd z (by decide), fun z => absurd z.1 (by omega)⟩) (by omega))
    · refine z_aload_n (M := M_X12_findEnds) 118 dX12_findEnds_118 rfl ?_
      refine z_getR (M := M_X12_findEnds) 119 dX12_findEnds_119 f_X12_67 o_108 rfl (g_108_31 G2) ?_
      refine z_iload_n (M := M_X12_findEnds) 122 dX12_findEnds_122 rfl ?_
      refine z_zaldG (M := M_X12_findEnds) 123 dX12_findEnds_123 o_126 (by omega) (by omega) (g_126 G2 (by omega)) (fun x5 ex5 ax5 bx5 => ?_)
      refine z_if_ne (M := M_X12_findEnds) 124 dX12_findEnds_124 131 rfl (fun c6 => ?_) (fun c6 => ?_)
      · refine z_iconst (M := M_X12_findEnds) 131 dX12_findEnds_131 ?_
        refine z_putZH (M := M_X12_findEnds) 132 dX12_findEnds_132 p_X12_418 o_108 rfl (by omega) (u_108_47 G2 (by omega) (by omega)) (R2.up rfl) (fun h4 E4 G4 R4 => ?_)
        refine z_iconst (M := M_X12_findEnds) 135 dX12_findEnds_135 ?_
        refine z_istore (M := M_X12_findEnds) 136 dX12_findEnds_136 (ls' := [some (mR 108), some (mI a1), some (mI a2), some (mI (12 + a2)), some (mI 0)]) (by decide) rfl ?_
        exact z_mask [true, false, false, true, true] rfl (ih.2 0 h4 G4 R4 (by omega) (by omega) (e1Q.same (feA_end G (by omega) (by omega) (by omega) i0) ((upN E4 (by decide)).trans ((upN E2 (by decide)).trans (S1 108 44 rfl))) ((upo E4 (by decide)).trans ((upo E2 (by decide)).trans (FR.row S1 (fun _ => rfl))))) (feB_0 fx2_0 ex3 E2 E4) ((lPb_of (by omega) ⟨by omega, by omega⟩ i0 j0).same ((upN E4 (by decide)).trans ((upN E2 (by decide)).trans (S1 108 44 rfl))) ((upN E4 (by decide)).trans ((upN E2 (by decide)).trans (S1 108 46 rfl))) (fun j _ => (congrFun ((upo E4 (by decide)).trans ((upo E2 (by decide)).trans (FR.row S1 (fun _ => rfl)))) j))) (fH_0 b_ ex3 E2 E4 ⟨fun z => absurd z (by decide), fun z => absurd ((show h1 126 (12 + a2).toNat = x5 by rw [← (upo E2 (by decide) : h2 126 = h1 126)]; exact ex5).trans (by omega)) z.2⟩) (by omega))
      · refine z_iconst (M := M_X12_findEnds) 127 dX12_findEnds_127 ?_
        refine z_goto (M := M_X12_findEnds) 128 dX12_findEnds_128 132 rfl ?_
        refine z_putZH (M := M_X12_findEnds) 132 dX12_findEnds_132 p_X12_418 o_108 rfl (by omega) (u_108_47 G2 (by omega) (by omega)) (R2.up rfl) (fun h5 E5 G5 R5 => ?_)
        refine z_iconst (M := M_X12_findEnds) 135 dX12_findEnds_135 ?_
        refine z_istore (M := M_X12_findEnds) 136 dX12_findEnds_136 (ls' := [some (mR 108), some (mI a1), some (mI a2), some (mI (12 + a2)), some (mI 0)]) (by decide) rfl ?_
        exact z_mask [true, false, false, true, true] rfl (ih.2 0 h5 G5 R5 (by omega) (by omega) (e1Q.same (feA_end G (by omega) (by omega) (by omega) i0) ((upN E5 (by decide)).trans ((upN E2 (by decide)).trans (S1 108 44 rfl))) ((upo E5 (by decide)).trans ((upo E2 (by decide)).trans (FR.row S1 (fun _ => rfl))))) (feB_0 fx2_0 ex3 E2 E5) ((lPb_of (by omega) ⟨by omega, by omega⟩ i0 j0).same ((upN E5 (by decide)).trans ((upN E2 (by decide)).trans (S1 108 44 rfl))) ((upN E5 (by decide)).trans ((upN E2 (by decide)).trans (S1 108 46 rfl))) (fun j _ => (congrFun ((upo E5 (by decide)).trans ((upo E2 (by decide)).trans (FR.row S1 (fun _ => rfl)))) j))) (fH_0 b_ ex3 E2 E5 ⟨fun _ => ⟨by omega, fun z => absurd ((show h1 126 (12 + a2).toNat = x5 by rw [← (upo E2 (by decide) : h2 126 = h1 126)]; exact ex5).symm.trans z) (by omega)⟩, fun _ => rfl⟩) (by omega))
  · refine z_aload_n (M := M_X12_findEnds) 50 dX12_findEnds_50 rfl ?_
    refine z_getR (M := M_X12_findEnds) 51 dX12_findEnds_51 f_X12_103 o_108 rfl (g_108_43 G) ?_
    refine z_iload_n (M := M_X12_findEnds) 54 dX12_findEnds_54 rfl ?_
    refine z_aload_n (M := M_X12_findEnds) 55 dX12_findEnds_55 rfl ?_
    refine z_getR (M := M_X12_findEnds) 56 dX12_findEnds_56 f_X12_61 o_108 rfl (g_108_29 G) ?_
    refine z_iconst (M := M_X12_findEnds) 59 dX12_findEnds_59 ?_
    refine z_iload_n (M := M_X12_findEnds) 60 dX12_findEnds_60 rfl ?_
    refine z_imulN (M := M_X12_findEnds) 61 dX12_findEnds_61 (by omega) (by omega) ?_
    refine z_iload_n (M := M_X12_findEnds) 62 dX12_findEnds_62 rfl ?_
    refine z_iaddN (M := M_X12_findEnds) 63 dX12_findEnds_63 (by omega) (by omega) ?_
    refine z_laldG (M := M_X12_findEnds) 64 dX12_findEnds_64 o_124 (by omega) (by omega) (g_124 G (by omega)) (fun x7 ex7 ax7 bx7 => ?_)
    refine z_lastH (M := M_X12_findEnds) 65 dX12_findEnds_65 o_138 (by omega) (by omega) (u_138 G (by omega) (by omega)) (R.up rfl) (fun h6 E6 G6 R6 => ?_)
    refine z_aload_n (M := M_X12_findEnds) 66 dX12_findEnds_66 rfl ?_
    refine z_getR (M := M_X12_findEnds) 67 dX12_findEnds_67 f_X12_103 o_108 rfl (g_108_43 G6) ?_
    refine z_iconst (M := M_X12_findEnds) 70 dX12_findEnds_70 ?_
    refine z_iload_n (M := M_X12_findEnds) 71 dX12_findEnds_71 rfl ?_
    refine z_iaddN (M := M_X12_findEnds) 72 dX12_findEnds_72 (by omega) (by omega) ?_
    refine z_aload_n (M := M_X12_findEnds) 73 dX12_findEnds_73 rfl ?_
    refine z_getR (M := M_X12_findEnds) 74 dX12_findEnds_74 f_X12_64 o_108 rfl (g_108_30 G6) ?_
    refine z_iconst (M := M_X12_findEnds) 77 dX12_findEnds_77 ?_
    refine z_iload_n (M := M_X12_findEnds) 78 dX12_findEnds_78 rfl ?_
    refine z_imulN (M := M_X12_findEnds) 79 dX12_findEnds_79 (by omega) (by omega) ?_
    refine z_iload_n (M := M_X12_findEnds) 80 dX12_findEnds_80 rfl ?_
    refine z_iaddN (M := M_X12_findEnds) 81 dX12_findEnds_81 (by omega) (by omega) ?_
    refine z_laldG (M := M_X12_findEnds) 82 dX12_findEnds_82 o_125 (by omega) (by omega) (g_125 G6 (by omega)) (fun x8 ex8 ax8 bx8 => ?_)
    refine z_lastH (M := M_X12_findEnds) 83 dX12_findEnds_83 o_138 (by omega) (by omega) (u_138 G6 (by omega) (by omega)) (R6.up rfl) (fun h7 E7 G7 R7 => ?_)
    refine z_iincN (M := M_X12_findEnds) 84 dX12_findEnds_84 (ls' := [some (mR 108), some (mI a1), some (mI a2), some (mI (l3 + 1)), none]) (by decide) rfl (by (unfold m_32; decide)) (by omega) (by omega) rfl ?_
    refine z_goto (M := M_X12_findEnds) 87 dX12_findEnds_87 45 rfl ?_
    exact z_mask [true, true, true, true, false] rfl (ih.1 (l3 + 1) h7 G7 R7 (by omega) (by omega) (feA_step (by omega) (by omega) (by omega) i0 ex7 E6 ex8 E7) ((j0.put E6).put E7) (by omega))
set_option maxHeartbeats 4000000 in
set_option maxRecDepth 100000 in
theorem s_X12_findEnds5_138 (h0 : m_H) (a1 a2 : Int) (G0 : GI h0) (pa1 : 0 ≤ a1 ∧ a1 ≤ 11) (pa2 : 0 ≤ a2 ∧ a2 ≤ 3) (hN : NP h0) (hG : gG (bR (h0 110))) (n : Nat) (ih : q_X12_findEnds5 h0 a1 a2 n) : ∀ (l4 : Int) (h : m_H), GI h → FR [115, 116, 117, 118, 119, 120, 121, 122, 123, 124, 125, 126, 127, 128, 129, 130, 131, 132, 133, 138] [(108, 21), (108, 44), (108, 45), (108, 46), (108, 47)] h0 h → 0 ≤ l4 → l4 ≤ 5 → (e1Q h) → (feB h (12 + a2) l4) → (lPb h0 h a1 a2) → (fH h0 h a1 a2) → 2 * (5 - l4) + (1) ≤ ((n + 1 : Nat) : Int) → m_Z oF M_X12_findEnds 138 [some (mR 108), none, none, some (mI (12 + a2)), some (mI l4)] [] h (m_QV (P_X12_findEnds5 h0 a1 a2)) := by
  intro l4 h G R v0 v1 i0 i1 j0 j1 hr
  refine z_iload (M := M_X12_findEnds) 138 dX12_findEnds_138 rfl ?_
  refine z_iconst (M := M_X12_findEnds) 140 dX12_findEnds_140 ?_
  refine z_icmp_ge (M := M_X12_findEnds) 141 dX12_findEnds_141 192 rfl (fun c1 => ?_) (fun c1 => ?_)
  · exact z_retV (M := M_X12_findEnds) 192 dX12_findEnds_192 rfl ⟨G, R, ⟨i0, feB_end G (by omega) (by omega) (by omega) i1⟩, ⟨j0, hPb_of (by omega) ⟨by omega, by omega⟩ i1 j1⟩⟩
  · refine z_aload_n (M := M_X12_findEnds) 144 dX12_findEnds_144 rfl ?_
    refine z_getR (M := M_X12_findEnds) 145 dX12_findEnds_145 f_X12_103 o_108 rfl (g_108_43 G) ?_
    refine z_bipush (M := M_X12_findEnds) 148 dX12_findEnds_148 ?_
    refine z_iload (M := M_X12_findEnds) 150 dX12_findEnds_150 rfl ?_
    refine z_iaddN (M := M_X12_findEnds) 152 dX12_findEnds_152 (by omega) (by omega) ?_
    refine z_aload_n (M := M_X12_findEnds) 153 dX12_findEnds_153 rfl ?_
    refine z_getR (M := M_X12_findEnds) 154 dX12_findEnds_154 f_X12_64 o_108 rfl (g_108_30 G) ?_
    refine z_iconst (M := M_X12_findEnds) 157 dX12_findEnds_157 ?_
    refine z_iload_n (M := M_X12_findEnds) 158 dX12_findEnds_158 rfl ?_
    refine z_imulN (M := M_X12_findEnds) 159 dX12_findEnds_159 (by omega) (by omega) ?_
    refine z_iload (M := M_X12_findEnds) 160 dX12_findEnds_160 rfl ?_
    refine z_iaddN (M := M_X12_findEnds) 162 dX12_findEnds_162 (by omega) (by omega) ?_
    refine z_laldG (M := M_X12_findEnds) 163 dX12_findEnds_163 o_125 (by omega) (by omega) (g_125 G (by omega)) (fun x2 ex2 ax2 bx2 => ?_)
    refine z_lastH (M := M_X12_findEnds) 164 dX12_findEnds_164 o_138 (by omega) (by omega) (u_138 G (by omega) (by omega)) (R.up rfl) (fun h1 E1 G1 R1 => ?_)
    refine z_aload_n (M := M_X12_findEnds) 165 dX12_findEnds_165 rfl ?_
    refine z_getR (M := M_X12_findEnds) 166 dX12_findEnds_166 f_X12_103 o_108 rfl (g_108_43 G1) ?_
    refine z_bipush (M := M_X12_findEnds) 169 dX12_findEnds_169 ?_
    refine z_iload (M := M_X12_findEnds) 171 dX12_findEnds_171 rfl ?_
    refine z_iaddN (M := M_X12_findEnds) 173 dX12_findEnds_173 (by omega) (by omega) ?_
    refine z_aload_n (M := M_X12_findEnds) 174 dX12_findEnds_174 rfl ?_
    refine z_getR (M := M_X12_findEnds) 175 dX12_findEnds_175 f_X12_61 o_108 rfl (g_108_29 G1) ?_
    refine z_iconst (M := M_X12_findEnds) 178 dX12_findEnds_178 ?_
    refine z_iload_n (M := M_X12_findEnds) 179 dX12_findEnds_179 rfl ?_
    refine z_imulN (M := M_X12_findEnds) 180 dX12_findEnds_180 (by omega) (by omega) ?_
    refine z_iload (M := M_X12_findEnds) 181 dX12_findEnds_181 rfl ?_
    refine z_iaddN (M := M_X12_findEnds) 183 dX12_findEnds_183 (by omega) (by omega) ?_
    refine z_laldG (M := M_X12_findEnds) 184 dX12_findEnds_184 o_124 (by omega) (by omega) (g_124 G1 (by omega)) (fun x3 ex3 ax3 bx3 => ?_)
    refine z_lastH (M := M_X12_findEnds) 185 dX12_findEnds_185 o_138 (by omega) (by omega) (u_138 G1 (by omega) (by omega)) (R1.up rfl) (fun h2 E2 G2 R2 => ?_)
    refine z_iincN (M := M_X12_findEnds) 186 dX12_findEnds_186 (ls' := [some (mR 108), none, none, some (mI (12 + a2)), some (mI (l4 + 1))]) (by decide) rfl (by (unfold m_32; decide)) (by omega) (by omega) rfl ?_
    refine z_goto (M := M_X12_findEnds) 189 dX12_findEnds_189 138 rfl ?_
    exact z_mask [true, false, false, true, true] rfl (ih.2 (l4 + 1) h2 G2 R2 (by omega) (by omega) ((i0.put E1 (by omega)).put E2 (by omega)) (feB_step (by omega) (by omega) (by omega) i1 ex2 E1 ex3 E2) ((j0.put E1 (by omega)).put E2 (by omega)) ((j1.put E1).put E2) (by omega))
theorem a_X12_findEnds5 (h0 : m_H) (a1 a2 : Int) (G0 : GI h0) (pa1 : 0 ≤ a1 ∧ a1 ≤ 11) (pa2 : 0 ≤ a2 ∧ a2 ≤ 3) (hN : NP h0) (hG : gG (bR (h0 110))) : ∀ n, q_X12_findEnds5 h0 a1 a2 n := by
  intro n
  induction n with
  | zero => unfold q_X12_findEnds5; refine ⟨?_, ?_⟩ <;> (intros; omega)
  | succ n ih => exact ⟨s_X12_findEnds5_45 h0 a1 a2 G0 pa1 pa2 hN hG n ih, s_X12_findEnds5_138 h0 a1 a2 G0 pa1 pa2 hN hG n ih⟩
set_option maxHeartbeats 4000000 in
set_option maxRecDepth 100000 in
theorem c_X12_findEnds5 (h0 : m_H) (a1 a2 : Int) (G0 : GI h0) (pa1 : 0 ≤ a1 ∧ a1 ≤ 11) (pa2 : 0 ≤ a2 ∧ a2 ≤ 3) (hN : NP h0) (hG : gG (bR (h0 110))) : m_CV M_X12_findEnds [mR 108, mI a1, mI a2] h0 (P_X12_findEnds5 h0 a1 a2) := by
  refine m_CV_of ⟨by decide, rfl, by simp [m_arg, m_isL, M_X12_findEnds], ⟨rfl, rfl⟩, rfl, rfl⟩ (ls := [some (mR 108), some (mI a1), some (mI a2), none, none]) rfl ?_
  have ih := a_X12_findEnds5 h0 a1 a2 G0 pa1 pa2 hN hG 31
  refine z_aload_n (M := M_X12_findEnds) 0 dX12_findEnds_0 rfl ?_
  refine z_bipush (M := M_X12_findEnds) 1 dX12_findEnds_1 ?_
  refine z_iload_n (M := M_X12_findEnds) 3 dX12_findEnds_3 rfl ?_
  refine z_iaddN (M := M_X12_findEnds) 4 dX12_findEnds_4 (by omega) (by omega) ?_
  refine z_vV (M := M_X12_findEnds) 5 dX12_findEnds_5 t_X12_goFrom l_X12_397 (m_rr_of rfl) (rest := []) (c_X12_goFrom2 h0 (12 + a2) G0 ⟨by omega, by omega⟩ (NP.call hN (FR.rf (cs := [115, 116, 117, 118, 119, 120, 121, 122, 123, 124, 125, 126, 127, 128, 129, 130, 131, 132, 133, 138]) (ss := [(108, 21), (108, 44), (108, 45), (108, 46), (108, 47)]) (h := h0)) (fun _ => rfl) (fun _ => rfl) (fun _ => rfl)) (gG_f hG (FR.rf (cs := [115, 116, 117, 118, 119, 120, 121, 122, 123, 124, 125, 126, 127, 128, 129, 130, 131, 132, 133, 138]) (ss := [(108, 21), (108, 44), (108, 45), (108, 46), (108, 47)]) (h := h0)) (fun _ => rfl))) o_108 rfl rfl rfl (Nat.le_of_ble_eq_true rfl) ⟨rfl, rfl⟩ (fun h1 qx1 => ?_)
  obtain ⟨G1, S1, fx1_0, fx1_1⟩ := qx1
  have b_ := fx1_1 a1.toNat (by omega)
  have R1 := (FR.rf (cs := [115, 116, 117, 118, 119, 120, 121, 122, 123, 124, 125, 126, 127, 128, 129, 130, 131, 132, 133, 138]) (ss := [(108, 21), (108, 44), (108, 45), (108, 46), (108, 47)]) (h := h0)).call S1 (by decide +kernel)
  refine z_aload_n (M := M_X12_findEnds) 8 dX12_findEnds_8 rfl ?_
  refine z_aload_n (M := M_X12_findEnds) 9 dX12_findEnds_9 rfl ?_
  refine z_getR (M := M_X12_findEnds) 10 dX12_findEnds_10 f_X12_70 o_108 rfl (g_108_32 G1) ?_
  refine z_iload_n (M := M_X12_findEnds) 13 dX12_findEnds_13 rfl ?_
  refine z_zaldG (M := M_X12_findEnds) 14 dX12_findEnds_14 o_127 (by omega) (by omega) (g_127 G1 (by omega)) (fun x2 ex2 ax2 bx2 => ?_)
  refine z_putZH (M := M_X12_findEnds) 15 dX12_findEnds_15 p_X12_409 o_108 rfl (by omega) (u_108_44 G1 (by omega) (by omega)) (R1.up rfl) (fun h2 E2 G2 R2 => ?_)
  refine z_aload_n (M := M_X12_findEnds) 18 dX12_findEnds_18 rfl ?_
  refine z_aload_n (M := M_X12_findEnds) 19 dX12_findEnds_19 rfl ?_
  refine z_getIE (M := M_X12_findEnds) 20 dX12_findEnds_20 f_X12_409 o_108 (by decide) (upE E2) ?_
  refine z_if_eq (M := M_X12_findEnds) 23 dX12_findEnds_23 39 rfl (fun c3 => ?_) (fun c3 => ?_)
  · refine z_iconst (M := M_X12_findEnds) 39 dX12_findEnds_39 ?_
    refine z_putZH (M := M_X12_findEnds) 40 dX12_findEnds_40 p_X12_412 o_108 rfl (by omega) (u_108_46 G2 (by omega) (by omega)) (R2.up rfl) (fun h3 E3 G3 R3 => ?_)
    refine z_iconst (M := M_X12_findEnds) 43 dX12_findEnds_43 ?_
    refine z_istore_n (M := M_X12_findEnds) 44 dX12_findEnds_44 (ls' := [some (mR 108), some (mI a1), some (mI a2), some (mI 0), none]) (by decide) rfl ?_
    exact z_mask [true, true, true, true, false] rfl (ih.1 0 h3 G3 R3 (by omega) (by omega) (feA_0 fx1_0 ex2 E2 E3) (fL_0 b_ ex2 E2 E3 ⟨fun z => absurd z (by decide), fun z => absurd z.1 (by omega)⟩) (by omega))
  · refine z_aload_n (M := M_X12_findEnds) 26 dX12_findEnds_26 rfl ?_
    refine z_getR (M := M_X12_findEnds) 27 dX12_findEnds_27 f_X12_67 o_108 rfl (g_108_31 G2) ?_
    refine z_iload_n (M := M_X12_findEnds) 30 dX12_findEnds_30 rfl ?_
    refine z_zaldG (M := M_X12_findEnds) 31 dX12_findEnds_31 o_126 (by omega) (by omega) (g_126 G2 (by omega)) (fun x4 ex4 ax4 bx4 => ?_)
    refine z_if_ne (M := M_X12_findEnds) 32 dX12_findEnds_32 39 rfl (fun c5 => ?_) (fun c5 => ?_)
    · refine z_iconst (M := M_X12_findEnds) 39 dX12_findEnds_39 ?_
      refine z_putZH (M := M_X12_findEnds) 40 dX12_findEnds_40 p_X12_412 o_108 rfl (by omega) (u_108_46 G2 (by omega) (by omega)) (R2.up rfl) (fun h4 E4 G4 R4 => ?_)
      refine z_iconst (M := M_X12_findEnds) 43 dX12_findEnds_43 ?_
      refine z_istore_n (M := M_X12_findEnds) 44 dX12_findEnds_44 (ls' := [some (mR 108), some (mI a1), some (mI a2), some (mI 0), none]) (by decide) rfl ?_
      exact z_mask [true, true, true, true, false] rfl (ih.1 0 h4 G4 R4 (by omega) (by omega) (feA_0 fx1_0 ex2 E2 E4) (fL_0 b_ ex2 E2 E4 ⟨fun z => absurd z (by decide), fun z => absurd ((show h1 126 a1.toNat = x4 by rw [← (upo E2 (by decide) : h2 126 = h1 126)]; exact ex4).trans (by omega)) z.2⟩) (by omega))
    · refine z_iconst (M := M_X12_findEnds) 35 dX12_findEnds_35 ?_
      refine z_goto (M := M_X12_findEnds) 36 dX12_findEnds_36 40 rfl ?_
      refine z_putZH (M := M_X12_findEnds) 40 dX12_findEnds_40 p_X12_412 o_108 rfl (by omega) (u_108_46 G2 (by omega) (by omega)) (R2.up rfl) (fun h5 E5 G5 R5 => ?_)
      refine z_iconst (M := M_X12_findEnds) 43 dX12_findEnds_43 ?_
      refine z_istore_n (M := M_X12_findEnds) 44 dX12_findEnds_44 (ls' := [some (mR 108), some (mI a1), some (mI a2), some (mI 0), none]) (by decide) rfl ?_
      exact z_mask [true, true, true, true, false] rfl (ih.1 0 h5 G5 R5 (by omega) (by omega) (feA_0 fx1_0 ex2 E2 E5) (fL_0 b_ ex2 E2 E5 ⟨fun _ => ⟨by omega, fun z => absurd ((show h1 126 a1.toNat = x4 by rw [← (upo E2 (by decide) : h2 126 = h1 126)]; exact ex4).symm.trans z) (by omega)⟩, fun _ => rfl⟩) (by omega))
/-! one end taken -/
theorem fy_dv {T L g n d : Int} (hT : 1 ≤ T ∧ T ≤ 25091827216) (hL : 1 ≤ L ∧ L ≤ 25091827216) (eg : gd T L = g) (en : T / g = n) (ed : L / g = d) : 0 < d ∧ (0 ≤ n ∧ n ≤ 100000000000 ∧ d ≤ 100000000000) ∧ n * L = d * T := by
  have g0 : 0 < g := by rw [← eg]; exact gd_p (by omega)
  have x1 : g * n = T := by rw [← en, ← eg]; exact gd_x L (by omega)
  have x2 : g * d = L := by rw [← ed, ← eg, gd_c]; exact gd_x T (by omega)
  have n1 : 0 ≤ n := by rw [← en]; exact Int.ediv_nonneg (by omega) (by omega)
  have n2 : n ≤ T := by rw [← en]; exact Int.ediv_le_self g (by omega)
  have d1 : 0 ≤ d := by rw [← ed]; exact Int.ediv_nonneg (by omega) (by omega)
  have d2 : d ≤ L := by rw [← ed]; exact Int.ediv_le_self g (by omega)
  have d3 : d ≠ 0 := fun z => by rw [z, Int.mul_zero] at x2; omega
  refine ⟨by omega, ⟨n1, by omega, by omega⟩, ?_⟩
  rw [← x1, ← x2]; ac_rfl
def teJ (r : Nat → Int) (i a f s l : Int) (h0 h : m_H) : Prop := ((∀ j, j ≠ i.toNat → h 143 j = h0 143 j ∧ h 144 j = h0 144 j) ∧ h 143 i.toNat = 0 ∧ h 144 i.toNat = 1) ∧ (BX (bR r) (12 + f).toNat a.toNat (eLo h) ∧ (h 108 44 = 1 → (1 ≤ vS (h 138) 0 5 ∧ vS (h 138) 0 5 ≤ 25091827216) ∧ (1 ≤ vS (h 138) 5 5 ∧ vS (h 138) 5 5 ≤ 25091827216))) ∧ (BX (bR r) a.toNat (12 + f).toNat (eHi h) ∧ (h 108 45 = 1 → (1 ≤ vS (h 138) 10 5 ∧ vS (h 138) 10 5 ≤ 25091827216) ∧ (1 ≤ vS (h 138) 15 5 ∧ vS (h 138) 15 5 ≤ 25091827216))) ∧ (h 108 54 = 1 ↔ (h0 108 54 = 1 ∧ l = 1)) ∧ (s = 0 → (h 108 55 = 1 ↔ (h0 108 55 = 1 ∧ h 108 47 = 1)))
def teQ (r : Nat → Int) (i a f s : Int) (h0 h' : m_H) : Prop := (∀ j, j ≠ i.toNat → h' 143 j = h0 143 j ∧ h' 144 j = h0 144 j) ∧ ((a = -1 ∧ h' 143 i.toNat = 0 ∧ h' 144 i.toNat = 1 ∧ h' 108 54 = h0 108 54 ∧ h' 108 55 = h0 108 55) ∨ (a ≠ -1 ∧ ∃ n d o, fyL r a f (if s = 0 then 1 else 0) n d o ∧ ((d = 0 ∧ s = 0 ∧ h' 108 54 = 0) ∨ (0 < d ∧ (0 ≤ n ∧ n ≤ 100000000000 ∧ d ≤ 100000000000) ∧ h' 143 i.toNat = n ∧ h' 144 i.toNat = d ∧ (s = 0 → h' 108 54 = h0 108 54 ∧ (h' 108 55 = 1 ↔ (h0 108 55 = 1 ∧ o ≠ 1)))))))
theorem te_u {h0 h1 h2 : m_H} {i : Nat} (E1 : h1 = m_up h0 143 i 0) (E2 : h2 = m_up h1 144 i 1) : ((∀ j, j ≠ i → h2 143 j = h0 143 j ∧ h2 144 j = h0 144 j) ∧ h2 143 i = 0 ∧ h2 144 i = 1) ∧ ∀ q, h2 108 q = h0 108 q := by
  have a : h2 143 = h1 143 := upo E2 (by decide)
  have b : h1 144 = h0 144 := upo E1 (by decide)
  have c : h2 108 = h1 108 := upo E2 (by decide)
  have d : h1 108 = h0 108 := upo E1 (by decide)
  refine ⟨⟨fun j hj => ⟨?_, ?_⟩, ?_, upE E2⟩, fun q => by rw [c, d]⟩
  · rw [a]; exact upN E1 (fun z => hj z.2)
  · rw [upN E2 (fun z => hj z.2), b]
  · rw [a]; exact upE E1
theorem teJ_of {h0 h1 h2 h3 h4 h5 : m_H} {i a f s l u v : Int} {cs : List Nat} {ss : List (Nat × Nat)} (E1 : h1 = m_up h0 143 i.toNat 0) (E2 : h2 = m_up h1 144 i.toNat 1) (S3 : FR cs ss h2 h3) (o3 : h3 143 = h2 143 ∧ h3 144 = h2 144 ∧ h3 108 54 = h2 108 54 ∧ h3 108 55 = h2 108 55) (b : lPb h0 h3 a f ∧ hPb h0 h3 a f) (E4 : h4 = m_up h3 108 54 u) (E5 : h5 = m_up h4 108 55 v) (hu : u = 1 ↔ (h3 108 54 = 1 ∧ l = 1)) (hv : s = 0 → (v = 1 ↔ (h4 108 55 = 1 ∧ h4 108 47 = 1))) : teJ (h0 110) i a f s l h0 h5 := by
  obtain ⟨⟨u1, u2, u3⟩, u4⟩ := te_u E1 E2
  have r3 : h5 143 = h3 143 := (upo E5 (by decide)).trans (upo E4 (by decide))
  have r4 : h5 144 = h3 144 := (upo E5 (by decide)).trans (upo E4 (by decide))
  have r8 : h5 138 = h3 138 := (upo E5 (by decide)).trans (upo E4 (by decide))
  have k44 : h5 108 44 = h3 108 44 := (upN E5 (by decide)).trans (upN E4 (by decide))
  have k45 : h5 108 45 = h3 108 45 := (upN E5 (by decide)).trans (upN E4 (by decide))
  have k46 : h5 108 46 = h3 108 46 := (upN E5 (by decide)).trans (upN E4 (by decide))
  have k47 : h5 108 47 = h3 108 47 := (upN E5 (by decide)).trans (upN E4 (by decide))
  have k54 : h5 108 54 = u := (upN E5 (by decide)).trans (upE E4)
  have k55 : h5 108 55 = v := upE E5
  have j55 : h4 108 55 = h3 108 55 := upN E4 (by decide)
  have j47 : h4 108 47 = h3 108 47 := upN E4 (by decide)
  have eL : eLo h5 = eLo h3 := by unfold eLo; rw [k44, k46, r8]
  have eH : eHi h5 = eHi h3 := by unfold eHi; rw [k45, k47, r8]
  unfold teJ
  rw [r3, r4, r8, k44, k45, k54, k55, k47, eL, eH, o3.1, o3.2.1]
  obtain ⟨⟨⟨b1, _⟩, b2⟩, ⟨b3, _⟩, b4⟩ := b
  rw [j55, j47, o3.2.2.2, u4] at hv
  rw [o3.2.2.1, u4] at hu
  exact ⟨⟨u1, u2, u3⟩, ⟨b1, b2⟩, ⟨b3, b4⟩, hu, hv⟩
theorem te_r0 {h0 h : m_H} {i a f s l : Int} (G : GI h) (I : teI h s l) (J : teJ (h0 110) i a f s l h0 h) (hs : 0 ≤ s ∧ s ≤ 1) (hl : l = 0) (ha : 0 ≤ a) : teQ (h0 110) i a f s h0 h := by
  obtain ⟨⟨j1, j2, j3⟩, ⟨b1, _⟩, ⟨b2, _⟩, j4, j5⟩ := J
  refine ⟨j1, Or.inr ⟨by omega, ?_⟩⟩
  by_cases g : s = 0
  · have e := I.2.2 g
    rw [eHi_n (by omega)] at b2
    refine ⟨0, 0, 1, ?_, Or.inl ⟨rfl, g, ?_⟩⟩
    · rw [if_pos g]; exact Or.inr ⟨by decide, _, b2, Or.inl ⟨rfl, rfl⟩, ⟨fun _ => rfl, fun _ => rfl⟩⟩
    · have z := g_108_54 G
      omega
  · have e := I.2.1 (by omega)
    rw [eLo_n (by omega)] at b1
    refine ⟨0, 1, 0, ?_, Or.inr ⟨by decide, ⟨by decide, by decide, by decide⟩, j2, j3, fun q => absurd q g⟩⟩
    rw [if_neg g]; exact Or.inl ⟨rfl, _, b1, by decide, rfl, rfl⟩
theorem te_p {h0 h h3 h4 h5 : m_H} {i n d : Int} (j1 : ∀ j, j ≠ i.toNat → h 143 j = h0 143 j ∧ h 144 j = h0 144 j) (r : h3 143 = h 143 ∧ h3 144 = h 144 ∧ h3 108 = h 108) (E4 : h4 = m_up h3 143 i.toNat n) (E5 : h5 = m_up h4 144 i.toNat d) : (∀ j, j ≠ i.toNat → h5 143 j = h0 143 j ∧ h5 144 j = h0 144 j) ∧ h5 143 i.toNat = n ∧ h5 144 i.toNat = d ∧ h5 108 = h 108 := by
  have a : h5 143 = h4 143 := upo E5 (by decide)
  have b : h4 144 = h3 144 := upo E4 (by decide)
  have c : h5 108 = h4 108 := upo E5 (by decide)
  have e : h4 108 = h3 108 := upo E4 (by decide)
  refine ⟨fun j hj => ⟨?_, ?_⟩, by rw [a]; exact upE E4, upE E5, by rw [c, e, r.2.2]⟩
  · rw [a, upN E4 (fun z => hj z.2), r.1]; exact (j1 j hj).1
  · rw [upN E5 (fun z => hj z.2), b, r.2.1]; exact (j1 j hj).2
theorem te_r1 {h0 h h3 h4 h5 : m_H} {i a f s l T L g n d : Int} (G0 : GI h0) (G : GI h) (I : teI h s l) (J : teJ (h0 110) i a f s l h0 h) (g0 : s = 0) (hl : l = 1) (ha : 0 ≤ a) (eT : T = vS (h 138) 10 5) (eL : L = vS (h 138) 15 5) (eg : gd T L = g) (en : T / g = n) (ed : L / g = d) (r : h3 143 = h 143 ∧ h3 144 = h 144 ∧ h3 108 = h 108) (E4 : h4 = m_up h3 143 i.toNat n) (E5 : h5 = m_up h4 144 i.toNat d) : teQ (h0 110) i a f s h0 h5 := by
  obtain ⟨⟨j1, _, _⟩, _, ⟨b2, b3⟩, j4, j5⟩ := J
  have e := (I.2.2 g0).trans hl
  have bb := b3 e
  obtain ⟨q1, q2, q3⟩ := fy_dv (T := T) (L := L) (by rw [eT]; exact bb.1) (by rw [eL]; exact bb.2) eg en ed
  rw [eHi_y e] at b2
  obtain ⟨p1, p2, p3, p4⟩ := te_p j1 r E4 E5
  refine ⟨p1, Or.inr ⟨by omega, n, d, if h 108 47 = 1 then 0 else 1, ?_, Or.inr ⟨q1, q2, p2, p3, fun _ => ?_⟩⟩⟩
  · rw [if_pos g0]
    exact Or.inr ⟨by decide, _, b2, Or.inr ⟨by show vS (h 138) 15 5 ≠ 0; omega, q1, by show n * vS (h 138) 15 5 = d * vS (h 138) 10 5; rw [← eT, ← eL]; exact q3⟩, Iff.rfl⟩
  · rw [p4]
    have z0 := g_108_54 G0
    have z1 := g_108_54 G
    have j5' := j5 g0
    refine ⟨by omega, ?_⟩
    by_cases c : h 108 47 = 1
    · rw [if_pos c]; exact ⟨fun x => ⟨(j5'.mp x).1, by decide⟩, fun x => j5'.mpr ⟨x.1, c⟩⟩
    · rw [if_neg c]; exact ⟨fun x => absurd (j5'.mp x).2 c, fun x => absurd rfl x.2⟩
theorem te_r2 {h0 h h3 h4 h5 : m_H} {i a f s l T L g n d : Int} (I : teI h s l) (J : teJ (h0 110) i a f s l h0 h) (g1 : s = 1) (hl : l = 1) (ha : 0 ≤ a) (eT : T = vS (h 138) 0 5) (eL : L = vS (h 138) 5 5) (eg : gd T L = g) (en : T / g = n) (ed : L / g = d) (r : h3 143 = h 143 ∧ h3 144 = h 144 ∧ h3 108 = h 108) (E4 : h4 = m_up h3 143 i.toNat n) (E5 : h5 = m_up h4 144 i.toNat d) : teQ (h0 110) i a f s h0 h5 := by
  obtain ⟨⟨j1, _, _⟩, ⟨b2, b3⟩, _, j4, j5⟩ := J
  have e := (I.2.1 g1).trans hl
  have bb := b3 e
  obtain ⟨q1, q2, q3⟩ := fy_dv (T := T) (L := L) (by rw [eT]; exact bb.1) (by rw [eL]; exact bb.2) eg en ed
  rw [eLo_y e] at b2
  obtain ⟨p1, p2, p3, p4⟩ := te_p j1 r E4 E5
  refine ⟨p1, Or.inr ⟨by omega, n, d, 0, ?_, Or.inr ⟨q1, q2, p2, p3, fun z => absurd z (by omega)⟩⟩⟩
  rw [if_neg (by omega)]
  exact Or.inl ⟨rfl, _, b2, q1, by show n * vS (h 138) 5 5 = d * vS (h 138) 0 5; rw [← eT, ← eL]; exact q3, rfl⟩
theorem te_r3 {h0 h1 h2 : m_H} {r : Nat → Int} {i a f s : Int} (E1 : h1 = m_up h0 143 i.toNat 0) (E2 : h2 = m_up h1 144 i.toNat 1) (ha : a = -1) : teQ r i a f s h0 h2 := by
  obtain ⟨⟨u1, u2, u3⟩, u4⟩ := te_u E1 E2
  exact ⟨u1, Or.inl ⟨ha, u2, u3, u4 54, u4 55⟩⟩
abbrev P_X12_takeEnd4 (h0 : m_H) (a1 a2 a3 a4 : Int) : m_H → Prop := fun h' => GI h' ∧ FR [115, 116, 117, 118, 119, 120, 121, 122, 123, 124, 125, 126, 127, 128, 129, 130, 131, 132, 133, 138, 143, 144] [(108, 21), (108, 44), (108, 45), (108, 46), (108, 47), (108, 54), (108, 55)] h0 h' ∧ teQ (h0 110) a1 a2 a3 a4 h0 h'
def q_X12_takeEnd4 (h0 : m_H) (a1 a2 a3 a4 : Int) (n : Nat) : Prop := (∀ (l5 : Int) (h : m_H), GI h → FR [115, 116, 117, 118, 119, 120, 121, 122, 123, 124, 125, 126, 127, 128, 129, 130, 131, 132, 133, 138, 143, 144] [(108, 21), (108, 44), (108, 45), (108, 46), (108, 47), (108, 54), (108, 55)] h0 h → 0 ≤ l5 → l5 ≤ 1 → 0 ≤ a2 → a2 ≤ 11 → (teI h a4 l5) → (teJ (h0 110) a1 a2 a3 a4 l5 h0 h) → (1) ≤ (n : Int) → m_Z oF M_X12_takeEnd 103 [some (mR 108), some (mI a1), none, none, some (mI a4), some (mI l5), none, none, none, none, none, none] [] h (m_QV (P_X12_takeEnd4 h0 a1 a2 a3 a4)))
set_option maxHeartbeats 4000000 in
set_option maxRecDepth 100000 in
theorem s_X12_takeEnd4_103 (h0 : m_H) (a1 a2 a3 a4 : Int) (G0 : GI h0) (pa1 : 0 ≤ a1 ∧ a1 ≤ 2) (pa2 : (-1) ≤ a2 ∧ a2 ≤ 11) (pa3 : 0 ≤ a3 ∧ a3 ≤ 3) (pa4 : 0 ≤ a4 ∧ a4 ≤ 1) (hN : NP h0) (hG : gG (bR (h0 110))) (n : Nat) (ih : q_X12_takeEnd4 h0 a1 a2 a3 a4 n) : ∀ (l5 : Int) (h : m_H), GI h → FR [115, 116, 117, 118, 119, 120, 121, 122, 123, 124, 125, 126, 127, 128, 129, 130, 131, 132, 133, 138, 143, 144] [(108, 21), (108, 44), (108, 45), (108, 46), (108, 47), (108, 54), (108, 55)] h0 h → 0 ≤ l5 → l5 ≤ 1 → 0 ≤ a2 → a2 ≤ 11 → (teI h a4 l5) → (teJ (h0 110) a1 a2 a3 a4 l5 h0 h) → (1) ≤ ((n + 1 : Nat) : Int) → m_Z oF M_X12_takeEnd 103 [some (mR 108), some (mI a1), none, none, some (mI a4), some (mI l5), none, none, none, none, none, none] [] h (m_QV (P_X12_takeEnd4 h0 a1 a2 a3 a4)) := by
  intro l5 h G R v0 v1 v2 v3 i0 j0 hr
  refine z_iload (M := M_X12_takeEnd) 103 dX12_takeEnd_103 rfl ?_
  refine z_if_eq (M := M_X12_takeEnd) 105 dX12_takeEnd_105 179 rfl (fun c1 => ?_) (fun c1 => ?_)
  · exact z_retV (M := M_X12_takeEnd) 179 dX12_takeEnd_179 rfl ⟨G, R, te_r0 G i0 j0 pa4 (by omega) v2⟩
  · refine z_aload_n (M := M_X12_takeEnd) 108 dX12_takeEnd_108 rfl ?_
    refine z_getR (M := M_X12_takeEnd) 109 dX12_takeEnd_109 f_X12_103 o_108 rfl (g_108_43 G) ?_
    refine z_iload (M := M_X12_takeEnd) 112 dX12_takeEnd_112 rfl ?_
    refine z_if_eq (M := M_X12_takeEnd) 114 dX12_takeEnd_114 121 rfl (fun c2 => ?_) (fun c2 => ?_)
    · refine z_bipush (M := M_X12_takeEnd) 121 dX12_takeEnd_121 ?_
      have hi_ := j0.2.2.1.2 ((i0.2.2 (by omega)).trans (by omega))
      refine z_sJ (M := M_X12_takeEnd) 123 dX12_takeEnd_123 t_X12_whole l_X12_439 (m_rr_of rfl) (rest := []) (c_X12_whole138x h 10 G ⟨by omega, by omega⟩ (by omega) hi_.1.2) rfl rfl (Nat.le_of_ble_eq_true rfl) ⟨rfl, rfl⟩ (fun x3 h1 qx3 => ?_)
      obtain ⟨G1, S1, fx3_0⟩ := qx3
      have r1_ : h1 138 = h 138 := FR.row S1 (fun _ => rfl)
      have w1_ : x3 = vS (h 138) 10 5 := fx3_0
      have R1 := R.call S1 (by decide +kernel)
      refine z_lstore (M := M_X12_takeEnd) 126 dX12_takeEnd_126 (ls' := [some (mR 108), some (mI a1), none, none, some (mI a4), some (mI l5), some (mJ x3), none, none, none, none, none]) (by decide) rfl ?_
      refine z_aload_n (M := M_X12_takeEnd) 128 dX12_takeEnd_128 rfl ?_
      refine z_getR (M := M_X12_takeEnd) 129 dX12_takeEnd_129 f_X12_103 o_108 rfl (g_108_43 G1) ?_
      refine z_iload (M := M_X12_takeEnd) 132 dX12_takeEnd_132 rfl ?_
      refine z_if_eq_T (M := M_X12_takeEnd) 134 dX12_takeEnd_134 141 rfl (by omega) ?_
      refine z_bipush (M := M_X12_takeEnd) 141 dX12_takeEnd_141 ?_
      refine z_sJ (M := M_X12_takeEnd) 143 dX12_takeEnd_143 t_X12_whole l_X12_439 (m_rr_of rfl) (rest := []) (c_X12_whole138x h1 15 G1 ⟨by omega, by omega⟩ (by omega) (by rw [r1_]; exact hi_.2.2)) rfl rfl (Nat.le_of_ble_eq_true rfl) ⟨rfl, rfl⟩ (fun x4 h2 qx4 => ?_)
      obtain ⟨G2, S2, fx4_0⟩ := qx4
      rw [r1_] at fx4_0
      have w2_ : x4 = vS (h 138) 15 5 := fx4_0
      have R2 := R1.call S2 (by decide +kernel)
      refine z_lstore (M := M_X12_takeEnd) 146 dX12_takeEnd_146 (ls' := [some (mR 108), some (mI a1), none, none, some (mI a4), some (mI l5), some (mJ x3), none, some (mJ x4), none, none, none]) (by decide) rfl ?_
      refine z_lload (M := M_X12_takeEnd) 148 dX12_takeEnd_148 rfl ?_
      refine z_lload (M := M_X12_takeEnd) 150 dX12_takeEnd_150 rfl ?_
      refine z_sJ (M := M_X12_takeEnd) 152 dX12_takeEnd_152 t_X12_common l_X12_443 (m_rr_of rfl) (rest := []) (c_X12_common4 h2 x3 x4 G2 (by omega) (by omega)) rfl rfl (Nat.le_of_ble_eq_true rfl) ⟨rfl, rfl⟩ (fun x5 h3 qx5 => ?_)
      obtain ⟨G3, S3, fx5_0⟩ := qx5
      have R3 := R2.call S3 (by decide +kernel)
      refine z_lstore (M := M_X12_takeEnd) 155 dX12_takeEnd_155 (ls' := [some (mR 108), some (mI a1), none, none, some (mI a4), some (mI l5), some (mJ x3), none, some (mJ x4), none, some (mJ x5), none]) (by decide) rfl ?_
      have wc : 0 < x5 := by rw [← fx5_0]; exact gd_p (by omega)
      refine z_aload_n (M := M_X12_takeEnd) 157 dX12_takeEnd_157 rfl ?_
      refine z_getR (M := M_X12_takeEnd) 158 dX12_takeEnd_158 f_X12_118 o_108 rfl (g_108_52 G3) ?_
      refine z_iload_n (M := M_X12_takeEnd) 161 dX12_takeEnd_161 rfl ?_
      refine z_lload (M := M_X12_takeEnd) 162 dX12_takeEnd_162 rfl ?_
      refine z_lload (M := M_X12_takeEnd) 164 dX12_takeEnd_164 rfl ?_
      refine z_ldivN (M := M_X12_takeEnd) 166 dX12_takeEnd_166 (by omega) wc ?_
      refine z_topJ (fun x6 ex6 => ?_)
      refine z_lastH (M := M_X12_takeEnd) 167 dX12_takeEnd_167 o_143 (by omega) (by omega) (u_143 G3) (R3.up rfl) (fun h4 E4 G4 R4 => ?_)
      refine z_aload_n (M := M_X12_takeEnd) 168 dX12_takeEnd_168 rfl ?_
      refine z_getR (M := M_X12_takeEnd) 169 dX12_takeEnd_169 f_X12_121 o_108 rfl (g_108_53 G4) ?_
      refine z_iload_n (M := M_X12_takeEnd) 172 dX12_takeEnd_172 rfl ?_
      refine z_lload (M := M_X12_takeEnd) 173 dX12_takeEnd_173 rfl ?_
      refine z_lload (M := M_X12_takeEnd) 175 dX12_takeEnd_175 rfl ?_
      refine z_ldivN (M := M_X12_takeEnd) 177 dX12_takeEnd_177 (by omega) wc ?_
      refine z_topJ (fun x7 ex7 => ?_)
      refine z_lastH (M := M_X12_takeEnd) 178 dX12_takeEnd_178 o_144 (by omega) (by omega) (u_144 G4) (R4.up rfl) (fun h5 E5 G5 R5 => ?_)
      exact z_retV (M := M_X12_takeEnd) 179 dX12_takeEnd_179 rfl ⟨G5, R5, te_r1 G0 G i0 j0 (by omega) (by omega) v2 w1_ w2_ fx5_0 ex6 ex7 ⟨(FR.row S3 (fun _ => rfl)).trans ((FR.row S2 (fun _ => rfl)).trans (FR.row S1 (fun _ => rfl) : h1 143 = h 143)), (FR.row S3 (fun _ => rfl)).trans ((FR.row S2 (fun _ => rfl)).trans (FR.row S1 (fun _ => rfl) : h1 144 = h 144)), (FR.row S3 (fun _ => rfl)).trans ((FR.row S2 (fun _ => rfl)).trans (FR.row S1 (fun _ => rfl) : h1 108 = h 108))⟩ E4 E5⟩
    · refine z_iconst (M := M_X12_takeEnd) 117 dX12_takeEnd_117 ?_
      refine z_goto (M := M_X12_takeEnd) 118 dX12_takeEnd_118 123 rfl ?_
      have hi_ := j0.2.1.2 ((i0.2.1 (by omega)).trans (by omega))
      refine z_sJ (M := M_X12_takeEnd) 123 dX12_takeEnd_123 t_X12_whole l_X12_439 (m_rr_of rfl) (rest := []) (c_X12_whole138x h 0 G ⟨by omega, by omega⟩ (by omega) hi_.1.2) rfl rfl (Nat.le_of_ble_eq_true rfl) ⟨rfl, rfl⟩ (fun x8 h6 qx8 => ?_)
      obtain ⟨G6, S6, fx8_0⟩ := qx8
      have r6_ : h6 138 = h 138 := FR.row S6 (fun _ => rfl)
      have w1_ : x8 = vS (h 138) 0 5 := fx8_0
      have R6 := R.call S6 (by decide +kernel)
      refine z_lstore (M := M_X12_takeEnd) 126 dX12_takeEnd_126 (ls' := [some (mR 108), some (mI a1), none, none, some (mI a4), some (mI l5), some (mJ x8), none, none, none, none, none]) (by decide) rfl ?_
      refine z_aload_n (M := M_X12_takeEnd) 128 dX12_takeEnd_128 rfl ?_
      refine z_getR (M := M_X12_takeEnd) 129 dX12_takeEnd_129 f_X12_103 o_108 rfl (g_108_43 G6) ?_
      refine z_iload (M := M_X12_takeEnd) 132 dX12_takeEnd_132 rfl ?_
      refine z_if_eq_F (M := M_X12_takeEnd) 134 dX12_takeEnd_134 141 rfl (by omega) ?_
      refine z_iconst (M := M_X12_takeEnd) 137 dX12_takeEnd_137 ?_
      refine z_goto (M := M_X12_takeEnd) 138 dX12_takeEnd_138 143 rfl ?_
      refine z_sJ (M := M_X12_takeEnd) 143 dX12_takeEnd_143 t_X12_whole l_X12_439 (m_rr_of rfl) (rest := []) (c_X12_whole138x h6 5 G6 ⟨by omega, by omega⟩ (by omega) (by rw [r6_]; exact hi_.2.2)) rfl rfl (Nat.le_of_ble_eq_true rfl) ⟨rfl, rfl⟩ (fun x9 h7 qx9 => ?_)
      obtain ⟨G7, S7, fx9_0⟩ := qx9
      rw [r6_] at fx9_0
      have w2_ : x9 = vS (h 138) 5 5 := fx9_0
      have R7 := R6.call S7 (by decide +kernel)
      refine z_lstore (M := M_X12_takeEnd) 146 dX12_takeEnd_146 (ls' := [some (mR 108), some (mI a1), none, none, some (mI a4), some (mI l5), some (mJ x8), none, some (mJ x9), none, none, none]) (by decide) rfl ?_
      refine z_lload (M := M_X12_takeEnd) 148 dX12_takeEnd_148 rfl ?_
      refine z_lload (M := M_X12_takeEnd) 150 dX12_takeEnd_150 rfl ?_
      refine z_sJ (M := M_X12_takeEnd) 152 dX12_takeEnd_152 t_X12_common l_X12_443 (m_rr_of rfl) (rest := []) (c_X12_common4 h7 x8 x9 G7 (by omega) (by omega)) rfl rfl (Nat.le_of_ble_eq_true rfl) ⟨rfl, rfl⟩ (fun x10 h8 qx10 => ?_)
      obtain ⟨G8, S8, fx10_0⟩ := qx10
      have R8 := R7.call S8 (by decide +kernel)
      refine z_lstore (M := M_X12_takeEnd) 155 dX12_takeEnd_155 (ls' := [some (mR 108), some (mI a1), none, none, some (mI a4), some (mI l5), some (mJ x8), none, some (mJ x9), none, some (mJ x10), none]) (by decide) rfl ?_
      have wc : 0 < x10 := by rw [← fx10_0]; exact gd_p (by omega)
      refine z_aload_n (M := M_X12_takeEnd) 157 dX12_takeEnd_157 rfl ?_
      refine z_getR (M := M_X12_takeEnd) 158 dX12_takeEnd_158 f_X12_118 o_108 rfl (g_108_52 G8) ?_
      refine z_iload_n (M := M_X12_takeEnd) 161 dX12_takeEnd_161 rfl ?_
      refine z_lload (M := M_X12_takeEnd) 162 dX12_takeEnd_162 rfl ?_
      refine z_lload (M := M_X12_takeEnd) 164 dX12_takeEnd_164 rfl ?_
      refine z_ldivN (M := M_X12_takeEnd) 166 dX12_takeEnd_166 (by omega) wc ?_
      refine z_topJ (fun x11 ex11 => ?_)
      refine z_lastH (M := M_X12_takeEnd) 167 dX12_takeEnd_167 o_143 (by omega) (by omega) (u_143 G8) (R8.up rfl) (fun h9 E9 G9 R9 => ?_)
      refine z_aload_n (M := M_X12_takeEnd) 168 dX12_takeEnd_168 rfl ?_
      refine z_getR (M := M_X12_takeEnd) 169 dX12_takeEnd_169 f_X12_121 o_108 rfl (g_108_53 G9) ?_
      refine z_iload_n (M := M_X12_takeEnd) 172 dX12_takeEnd_172 rfl ?_
      refine z_lload (M := M_X12_takeEnd) 173 dX12_takeEnd_173 rfl ?_
      refine z_lload (M := M_X12_takeEnd) 175 dX12_takeEnd_175 rfl ?_
      refine z_ldivN (M := M_X12_takeEnd) 177 dX12_takeEnd_177 (by omega) wc ?_
      refine z_topJ (fun x12 ex12 => ?_)
      refine z_lastH (M := M_X12_takeEnd) 178 dX12_takeEnd_178 o_144 (by omega) (by omega) (u_144 G9) (R9.up rfl) (fun h10 E10 G10 R10 => ?_)
      exact z_retV (M := M_X12_takeEnd) 179 dX12_takeEnd_179 rfl ⟨G10, R10, te_r2 i0 j0 (by omega) (by omega) v2 w1_ w2_ fx10_0 ex11 ex12 ⟨(FR.row S8 (fun _ => rfl)).trans ((FR.row S7 (fun _ => rfl)).trans (FR.row S6 (fun _ => rfl) : h6 143 = h 143)), (FR.row S8 (fun _ => rfl)).trans ((FR.row S7 (fun _ => rfl)).trans (FR.row S6 (fun _ => rfl) : h6 144 = h 144)), (FR.row S8 (fun _ => rfl)).trans ((FR.row S7 (fun _ => rfl)).trans (FR.row S6 (fun _ => rfl) : h6 108 = h 108))⟩ E9 E10⟩
theorem a_X12_takeEnd4 (h0 : m_H) (a1 a2 a3 a4 : Int) (G0 : GI h0) (pa1 : 0 ≤ a1 ∧ a1 ≤ 2) (pa2 : (-1) ≤ a2 ∧ a2 ≤ 11) (pa3 : 0 ≤ a3 ∧ a3 ≤ 3) (pa4 : 0 ≤ a4 ∧ a4 ≤ 1) (hN : NP h0) (hG : gG (bR (h0 110))) : ∀ n, q_X12_takeEnd4 h0 a1 a2 a3 a4 n := by
  intro n
  induction n with
  | zero => unfold q_X12_takeEnd4; intros; omega
  | succ n ih => exact s_X12_takeEnd4_103 h0 a1 a2 a3 a4 G0 pa1 pa2 pa3 pa4 hN hG n ih
set_option maxHeartbeats 4000000 in
set_option maxRecDepth 100000 in
theorem c_X12_takeEnd4 (h0 : m_H) (a1 a2 a3 a4 : Int) (G0 : GI h0) (pa1 : 0 ≤ a1 ∧ a1 ≤ 2) (pa2 : (-1) ≤ a2 ∧ a2 ≤ 11) (pa3 : 0 ≤ a3 ∧ a3 ≤ 3) (pa4 : 0 ≤ a4 ∧ a4 ≤ 1) (hN : NP h0) (hG : gG (bR (h0 110))) : m_CV M_X12_takeEnd [mR 108, mI a1, mI a2, mI a3, mI a4] h0 (P_X12_takeEnd4 h0 a1 a2 a3 a4) := by
  refine m_CV_of ⟨by decide, rfl, by simp [m_arg, m_isL, M_X12_takeEnd], ⟨rfl, rfl⟩, rfl, rfl⟩ (ls := [some (mR 108), some (mI a1), some (mI a2), some (mI a3), some (mI a4), none, none, none, none, none, none, none]) rfl ?_
  have ih := a_X12_takeEnd4 h0 a1 a2 a3 a4 G0 pa1 pa2 pa3 pa4 hN hG 6
  refine z_aload_n (M := M_X12_takeEnd) 0 dX12_takeEnd_0 rfl ?_
  refine z_getR (M := M_X12_takeEnd) 1 dX12_takeEnd_1 f_X12_118 o_108 rfl (g_108_52 G0) ?_
  refine z_iload_n (M := M_X12_takeEnd) 4 dX12_takeEnd_4 rfl ?_
  refine z_lconst (M := M_X12_takeEnd) 5 dX12_takeEnd_5 (v := 0) ?_
  refine z_lastH (M := M_X12_takeEnd) 6 dX12_takeEnd_6 o_143 (by omega) (by omega) (u_143 G0) ((FR.rf (cs := [115, 116, 117, 118, 119, 120, 121, 122, 123, 124, 125, 126, 127, 128, 129, 130, 131, 132, 133, 138, 143, 144]) (ss := [(108, 21), (108, 44), (108, 45), (108, 46), (108, 47), (108, 54), (108, 55)]) (h := h0)).up rfl) (fun h1 E1 G1 R1 => ?_)
  refine z_aload_n (M := M_X12_takeEnd) 7 dX12_takeEnd_7 rfl ?_
  refine z_getR (M := M_X12_takeEnd) 8 dX12_takeEnd_8 f_X12_121 o_108 rfl (g_108_53 G1) ?_
  refine z_iload_n (M := M_X12_takeEnd) 11 dX12_takeEnd_11 rfl ?_
  refine z_lconst (M := M_X12_takeEnd) 12 dX12_takeEnd_12 (v := 1) ?_
  refine z_lastH (M := M_X12_takeEnd) 13 dX12_takeEnd_13 o_144 (by omega) (by omega) (u_144 G1) (R1.up rfl) (fun h2 E2 G2 R2 => ?_)
  refine z_iload_n (M := M_X12_takeEnd) 14 dX12_takeEnd_14 rfl ?_
  refine z_iconst (M := M_X12_takeEnd) 15 dX12_takeEnd_15 ?_
  refine z_icmp_ne (M := M_X12_takeEnd) 16 dX12_takeEnd_16 20 rfl (fun c1 => ?_) (fun c1 => ?_)
  · refine z_aload_n (M := M_X12_takeEnd) 20 dX12_takeEnd_20 rfl ?_
    refine z_iload_n (M := M_X12_takeEnd) 21 dX12_takeEnd_21 rfl ?_
    refine z_iload_n (M := M_X12_takeEnd) 22 dX12_takeEnd_22 rfl ?_
    refine z_vV (M := M_X12_takeEnd) 23 dX12_takeEnd_23 t_X12_findEnds l_X12_428 (m_rr_of rfl) (rest := []) (c_X12_findEnds5 h2 a2 a3 G2 ⟨by omega, by omega⟩ ⟨by omega, by omega⟩ (NP.call hN R2 (fun _ => rfl) (fun _ => rfl) (fun _ => rfl)) (gG_f hG R2 (fun _ => rfl))) o_108 rfl rfl rfl (Nat.le_of_ble_eq_true rfl) ⟨rfl, rfl⟩ (fun h3 qx2 => ?_)
    obtain ⟨G3, S3, fx2_0, b_⟩ := qx2
    have b2_ := fe_h0 (FR.row R2 (fun _ => rfl) : h2 110 = h0 110) b_
    have o3_ : h3 143 = h2 143 ∧ h3 144 = h2 144 ∧ h3 108 54 = h2 108 54 ∧ h3 108 55 = h2 108 55 := ⟨FR.row S3 (fun _ => rfl), FR.row S3 (fun _ => rfl), S3 108 54 rfl, S3 108 55 rfl⟩
    have R3 := R2.call S3 (by decide +kernel)
    refine z_iload (M := M_X12_takeEnd) 26 dX12_takeEnd_26 rfl ?_
    refine z_if_eq (M := M_X12_takeEnd) 28 dX12_takeEnd_28 38 rfl (fun c3 => ?_) (fun c3 => ?_)
    · refine z_aload_n (M := M_X12_takeEnd) 38 dX12_takeEnd_38 rfl ?_
      refine z_getIG (M := M_X12_takeEnd) 39 dX12_takeEnd_39 f_X12_415 o_108 (by decide) (g_108_45 G3) (fun x4 ex4 ax4 bx4 => ?_)
      refine z_istore (M := M_X12_takeEnd) 42 dX12_takeEnd_42 (ls' := [some (mR 108), some (mI a1), some (mI a2), some (mI a3), some (mI a4), some (mI x4), none, none, none, none, none, none]) (by decide) rfl ?_
      refine z_aload_n (M := M_X12_takeEnd) 44 dX12_takeEnd_44 rfl ?_
      refine z_aload_n (M := M_X12_takeEnd) 45 dX12_takeEnd_45 rfl ?_
      refine z_getIG (M := M_X12_takeEnd) 46 dX12_takeEnd_46 f_X12_459 o_108 (by decide) (g_108_54 G3) (fun x5 ex5 ax5 bx5 => ?_)
      refine z_if_eq (M := M_X12_takeEnd) 49 dX12_takeEnd_49 61 rfl (fun c6 => ?_) (fun c6 => ?_)
      · refine z_iconst (M := M_X12_takeEnd) 61 dX12_takeEnd_61 ?_
        refine z_putZH (M := M_X12_takeEnd) 62 dX12_takeEnd_62 p_X12_459 o_108 rfl (by omega) (u_108_54 G3 (by omega) (by omega)) (R3.up rfl) (fun h4 E4 G4 R4 => ?_)
        refine z_aload_n (M := M_X12_takeEnd) 65 dX12_takeEnd_65 rfl ?_
        refine z_aload_n (M := M_X12_takeEnd) 66 dX12_takeEnd_66 rfl ?_
        refine z_getIG (M := M_X12_takeEnd) 67 dX12_takeEnd_67 f_X12_462 o_108 (by decide) (g_108_55 G4) (fun x7 ex7 ax7 bx7 => ?_)
        refine z_if_eq (M := M_X12_takeEnd) 70 dX12_takeEnd_70 99 rfl (fun c8 => ?_) (fun c8 => ?_)
        · refine z_iconst (M := M_X12_takeEnd) 99 dX12_takeEnd_99 ?_
          refine z_putZH (M := M_X12_takeEnd) 100 dX12_takeEnd_100 p_X12_462 o_108 rfl (by omega) (u_108_55 G4 (by omega) (by omega)) (R4.up rfl) (fun h5 E5 G5 R5 => ?_)
          exact z_mask [true, true, false, false, true, true, false, false, false, false, false, false] rfl (ih x4 h5 G5 R5 (by omega) (by omega) (by omega) (by omega) (te_of fx2_0 (fun q => absurd q (by omega)) (fun _ => ex4) E4 E5) (teJ_of E1 E2 S3 o3_ b2_ E4 E5 (by omega) (fun _ => by omega)) (by omega))
        · refine z_iload (M := M_X12_takeEnd) 73 dX12_takeEnd_73 rfl ?_
          refine z_if_eq_T (M := M_X12_takeEnd) 75 dX12_takeEnd_75 88 rfl (by omega) ?_
          refine z_aload_n (M := M_X12_takeEnd) 88 dX12_takeEnd_88 rfl ?_
          refine z_getIG (M := M_X12_takeEnd) 89 dX12_takeEnd_89 f_X12_418 o_108 (by decide) (g_108_47 G4) (fun x9 ex9 ax9 bx9 => ?_)
          refine z_if_eq (M := M_X12_takeEnd) 92 dX12_takeEnd_92 99 rfl (fun c10 => ?_) (fun c10 => ?_)
          · refine z_iconst (M := M_X12_takeEnd) 99 dX12_takeEnd_99 ?_
            refine z_putZH (M := M_X12_takeEnd) 100 dX12_takeEnd_100 p_X12_462 o_108 rfl (by omega) (u_108_55 G4 (by omega) (by omega)) (R4.up rfl) (fun h6 E6 G6 R6 => ?_)
            exact z_mask [true, true, false, false, true, true, false, false, false, false, false, false] rfl (ih x4 h6 G6 R6 (by omega) (by omega) (by omega) (by omega) (te_of fx2_0 (fun q => absurd q (by omega)) (fun _ => ex4) E4 E6) (teJ_of E1 E2 S3 o3_ b2_ E4 E6 (by omega) (fun _ => by omega)) (by omega))
          · refine z_iconst (M := M_X12_takeEnd) 95 dX12_takeEnd_95 ?_
            refine z_goto (M := M_X12_takeEnd) 96 dX12_takeEnd_96 100 rfl ?_
            refine z_putZH (M := M_X12_takeEnd) 100 dX12_takeEnd_100 p_X12_462 o_108 rfl (by omega) (u_108_55 G4 (by omega) (by omega)) (R4.up rfl) (fun h7 E7 G7 R7 => ?_)
            exact z_mask [true, true, false, false, true, true, false, false, false, false, false, false] rfl (ih x4 h7 G7 R7 (by omega) (by omega) (by omega) (by omega) (te_of fx2_0 (fun q => absurd q (by omega)) (fun _ => ex4) E4 E7) (teJ_of E1 E2 S3 o3_ b2_ E4 E7 (by omega) (fun _ => by omega)) (by omega))
      · refine z_iload (M := M_X12_takeEnd) 52 dX12_takeEnd_52 rfl ?_
        refine z_if_eq (M := M_X12_takeEnd) 54 dX12_takeEnd_54 61 rfl (fun c11 => ?_) (fun c11 => ?_)
        · refine z_iconst (M := M_X12_takeEnd) 61 dX12_takeEnd_61 ?_
          refine z_putZH (M := M_X12_takeEnd) 62 dX12_takeEnd_62 p_X12_459 o_108 rfl (by omega) (u_108_54 G3 (by omega) (by omega)) (R3.up rfl) (fun h8 E8 G8 R8 => ?_)
          refine z_aload_n (M := M_X12_takeEnd) 65 dX12_takeEnd_65 rfl ?_
          refine z_aload_n (M := M_X12_takeEnd) 66 dX12_takeEnd_66 rfl ?_
          refine z_getIG (M := M_X12_takeEnd) 67 dX12_takeEnd_67 f_X12_462 o_108 (by decide) (g_108_55 G8) (fun x12 ex12 ax12 bx12 => ?_)
          refine z_if_eq (M := M_X12_takeEnd) 70 dX12_takeEnd_70 99 rfl (fun c13 => ?_) (fun c13 => ?_)
          · refine z_iconst (M := M_X12_takeEnd) 99 dX12_takeEnd_99 ?_
            refine z_putZH (M := M_X12_takeEnd) 100 dX12_takeEnd_100 p_X12_462 o_108 rfl (by omega) (u_108_55 G8 (by omega) (by omega)) (R8.up rfl) (fun h9 E9 G9 R9 => ?_)
            exact z_mask [true, true, false, false, true, true, false, false, false, false, false, false] rfl (ih x4 h9 G9 R9 (by omega) (by omega) (by omega) (by omega) (te_of fx2_0 (fun q => absurd q (by omega)) (fun _ => ex4) E8 E9) (teJ_of E1 E2 S3 o3_ b2_ E8 E9 (by omega) (fun _ => by omega)) (by omega))
          · refine z_iload (M := M_X12_takeEnd) 73 dX12_takeEnd_73 rfl ?_
            refine z_if_eq_T (M := M_X12_takeEnd) 75 dX12_takeEnd_75 88 rfl (by omega) ?_
            refine z_aload_n (M := M_X12_takeEnd) 88 dX12_takeEnd_88 rfl ?_
            refine z_getIG (M := M_X12_takeEnd) 89 dX12_takeEnd_89 f_X12_418 o_108 (by decide) (g_108_47 G8) (fun x14 ex14 ax14 bx14 => ?_)
            refine z_if_eq (M := M_X12_takeEnd) 92 dX12_takeEnd_92 99 rfl (fun c15 => ?_) (fun c15 => ?_)
            · refine z_iconst (M := M_X12_takeEnd) 99 dX12_takeEnd_99 ?_
              refine z_putZH (M := M_X12_takeEnd) 100 dX12_takeEnd_100 p_X12_462 o_108 rfl (by omega) (u_108_55 G8 (by omega) (by omega)) (R8.up rfl) (fun h10 E10 G10 R10 => ?_)
              exact z_mask [true, true, false, false, true, true, false, false, false, false, false, false] rfl (ih x4 h10 G10 R10 (by omega) (by omega) (by omega) (by omega) (te_of fx2_0 (fun q => absurd q (by omega)) (fun _ => ex4) E8 E10) (teJ_of E1 E2 S3 o3_ b2_ E8 E10 (by omega) (fun _ => by omega)) (by omega))
            · refine z_iconst (M := M_X12_takeEnd) 95 dX12_takeEnd_95 ?_
              refine z_goto (M := M_X12_takeEnd) 96 dX12_takeEnd_96 100 rfl ?_
              refine z_putZH (M := M_X12_takeEnd) 100 dX12_takeEnd_100 p_X12_462 o_108 rfl (by omega) (u_108_55 G8 (by omega) (by omega)) (R8.up rfl) (fun h11 E11 G11 R11 => ?_)
              exact z_mask [true, true, false, false, true, true, false, false, false, false, false, false] rfl (ih x4 h11 G11 R11 (by omega) (by omega) (by omega) (by omega) (te_of fx2_0 (fun q => absurd q (by omega)) (fun _ => ex4) E8 E11) (teJ_of E1 E2 S3 o3_ b2_ E8 E11 (by omega) (fun _ => by omega)) (by omega))
        · refine z_iconst (M := M_X12_takeEnd) 57 dX12_takeEnd_57 ?_
          refine z_goto (M := M_X12_takeEnd) 58 dX12_takeEnd_58 62 rfl ?_
          refine z_putZH (M := M_X12_takeEnd) 62 dX12_takeEnd_62 p_X12_459 o_108 rfl (by omega) (u_108_54 G3 (by omega) (by omega)) (R3.up rfl) (fun h12 E12 G12 R12 => ?_)
          refine z_aload_n (M := M_X12_takeEnd) 65 dX12_takeEnd_65 rfl ?_
          refine z_aload_n (M := M_X12_takeEnd) 66 dX12_takeEnd_66 rfl ?_
          refine z_getIG (M := M_X12_takeEnd) 67 dX12_takeEnd_67 f_X12_462 o_108 (by decide) (g_108_55 G12) (fun x16 ex16 ax16 bx16 => ?_)
          refine z_if_eq (M := M_X12_takeEnd) 70 dX12_takeEnd_70 99 rfl (fun c17 => ?_) (fun c17 => ?_)
          · refine z_iconst (M := M_X12_takeEnd) 99 dX12_takeEnd_99 ?_
            refine z_putZH (M := M_X12_takeEnd) 100 dX12_takeEnd_100 p_X12_462 o_108 rfl (by omega) (u_108_55 G12 (by omega) (by omega)) (R12.up rfl) (fun h13 E13 G13 R13 => ?_)
            exact z_mask [true, true, false, false, true, true, false, false, false, false, false, false] rfl (ih x4 h13 G13 R13 (by omega) (by omega) (by omega) (by omega) (te_of fx2_0 (fun q => absurd q (by omega)) (fun _ => ex4) E12 E13) (teJ_of E1 E2 S3 o3_ b2_ E12 E13 (by omega) (fun _ => by omega)) (by omega))
          · refine z_iload (M := M_X12_takeEnd) 73 dX12_takeEnd_73 rfl ?_
            refine z_if_eq_T (M := M_X12_takeEnd) 75 dX12_takeEnd_75 88 rfl (by omega) ?_
            refine z_aload_n (M := M_X12_takeEnd) 88 dX12_takeEnd_88 rfl ?_
            refine z_getIG (M := M_X12_takeEnd) 89 dX12_takeEnd_89 f_X12_418 o_108 (by decide) (g_108_47 G12) (fun x18 ex18 ax18 bx18 => ?_)
            refine z_if_eq (M := M_X12_takeEnd) 92 dX12_takeEnd_92 99 rfl (fun c19 => ?_) (fun c19 => ?_)
            · refine z_iconst (M := M_X12_takeEnd) 99 dX12_takeEnd_99 ?_
              refine z_putZH (M := M_X12_takeEnd) 100 dX12_takeEnd_100 p_X12_462 o_108 rfl (by omega) (u_108_55 G12 (by omega) (by omega)) (R12.up rfl) (fun h14 E14 G14 R14 => ?_)
              exact z_mask [true, true, false, false, true, true, false, false, false, false, false, false] rfl (ih x4 h14 G14 R14 (by omega) (by omega) (by omega) (by omega) (te_of fx2_0 (fun q => absurd q (by omega)) (fun _ => ex4) E12 E14) (teJ_of E1 E2 S3 o3_ b2_ E12 E14 (by omega) (fun _ => by omega)) (by omega))
            · refine z_iconst (M := M_X12_takeEnd) 95 dX12_takeEnd_95 ?_
              refine z_goto (M := M_X12_takeEnd) 96 dX12_takeEnd_96 100 rfl ?_
              refine z_putZH (M := M_X12_takeEnd) 100 dX12_takeEnd_100 p_X12_462 o_108 rfl (by omega) (u_108_55 G12 (by omega) (by omega)) (R12.up rfl) (fun h15 E15 G15 R15 => ?_)
              exact z_mask [true, true, false, false, true, true, false, false, false, false, false, false] rfl (ih x4 h15 G15 R15 (by omega) (by omega) (by omega) (by omega) (te_of fx2_0 (fun q => absurd q (by omega)) (fun _ => ex4) E12 E15) (teJ_of E1 E2 S3 o3_ b2_ E12 E15 (by omega) (fun _ => by omega)) (by omega))
    · refine z_aload_n (M := M_X12_takeEnd) 31 dX12_takeEnd_31 rfl ?_
      refine z_getIG (M := M_X12_takeEnd) 32 dX12_takeEnd_32 f_X12_409 o_108 (by decide) (g_108_44 G3) (fun x20 ex20 ax20 bx20 => ?_)
      refine z_goto (M := M_X12_takeEnd) 35 dX12_takeEnd_35 42 rfl ?_
      refine z_istore (M := M_X12_takeEnd) 42 dX12_takeEnd_42 (ls' := [some (mR 108), some (mI a1), some (mI a2), some (mI a3), some (mI a4), some (mI x20), none, none, none, none, none, none]) (by decide) rfl ?_
      refine z_aload_n (M := M_X12_takeEnd) 44 dX12_takeEnd_44 rfl ?_
      refine z_aload_n (M := M_X12_takeEnd) 45 dX12_takeEnd_45 rfl ?_
      refine z_getIG (M := M_X12_takeEnd) 46 dX12_takeEnd_46 f_X12_459 o_108 (by decide) (g_108_54 G3) (fun x21 ex21 ax21 bx21 => ?_)
      refine z_if_eq (M := M_X12_takeEnd) 49 dX12_takeEnd_49 61 rfl (fun c22 => ?_) (fun c22 => ?_)
      · refine z_iconst (M := M_X12_takeEnd) 61 dX12_takeEnd_61 ?_
        refine z_putZH (M := M_X12_takeEnd) 62 dX12_takeEnd_62 p_X12_459 o_108 rfl (by omega) (u_108_54 G3 (by omega) (by omega)) (R3.up rfl) (fun h16 E16 G16 R16 => ?_)
        refine z_aload_n (M := M_X12_takeEnd) 65 dX12_takeEnd_65 rfl ?_
        refine z_aload_n (M := M_X12_takeEnd) 66 dX12_takeEnd_66 rfl ?_
        refine z_getIG (M := M_X12_takeEnd) 67 dX12_takeEnd_67 f_X12_462 o_108 (by decide) (g_108_55 G16) (fun x23 ex23 ax23 bx23 => ?_)
        refine z_if_eq (M := M_X12_takeEnd) 70 dX12_takeEnd_70 99 rfl (fun c24 => ?_) (fun c24 => ?_)
        · refine z_iconst (M := M_X12_takeEnd) 99 dX12_takeEnd_99 ?_
          refine z_putZH (M := M_X12_takeEnd) 100 dX12_takeEnd_100 p_X12_462 o_108 rfl (by omega) (u_108_55 G16 (by omega) (by omega)) (R16.up rfl) (fun h17 E17 G17 R17 => ?_)
          exact z_mask [true, true, false, false, true, true, false, false, false, false, false, false] rfl (ih x20 h17 G17 R17 (by omega) (by omega) (by omega) (by omega) (te_of fx2_0 (fun _ => ex20) (fun q => absurd q (by omega)) E16 E17) (teJ_of E1 E2 S3 o3_ b2_ E16 E17 (by omega) (fun q => absurd q (by omega))) (by omega))
        · refine z_iload (M := M_X12_takeEnd) 73 dX12_takeEnd_73 rfl ?_
          refine z_if_eq_F (M := M_X12_takeEnd) 75 dX12_takeEnd_75 88 rfl (by omega) ?_
          refine z_aload_n (M := M_X12_takeEnd) 78 dX12_takeEnd_78 rfl ?_
          refine z_getIG (M := M_X12_takeEnd) 79 dX12_takeEnd_79 f_X12_412 o_108 (by decide) (g_108_46 G16) (fun x25 ex25 ax25 bx25 => ?_)
          refine z_if_eq (M := M_X12_takeEnd) 82 dX12_takeEnd_82 99 rfl (fun c26 => ?_) (fun c26 => ?_)
          · refine z_iconst (M := M_X12_takeEnd) 99 dX12_takeEnd_99 ?_
            refine z_putZH (M := M_X12_takeEnd) 100 dX12_takeEnd_100 p_X12_462 o_108 rfl (by omega) (u_108_55 G16 (by omega) (by omega)) (R16.up rfl) (fun h18 E18 G18 R18 => ?_)
            exact z_mask [true, true, false, false, true, true, false, false, false, false, false, false] rfl (ih x20 h18 G18 R18 (by omega) (by omega) (by omega) (by omega) (te_of fx2_0 (fun _ => ex20) (fun q => absurd q (by omega)) E16 E18) (teJ_of E1 E2 S3 o3_ b2_ E16 E18 (by omega) (fun q => absurd q (by omega))) (by omega))
          · refine z_goto (M := M_X12_takeEnd) 85 dX12_takeEnd_85 95 rfl ?_
            refine z_iconst (M := M_X12_takeEnd) 95 dX12_takeEnd_95 ?_
            refine z_goto (M := M_X12_takeEnd) 96 dX12_takeEnd_96 100 rfl ?_
            refine z_putZH (M := M_X12_takeEnd) 100 dX12_takeEnd_100 p_X12_462 o_108 rfl (by omega) (u_108_55 G16 (by omega) (by omega)) (R16.up rfl) (fun h19 E19 G19 R19 => ?_)
            exact z_mask [true, true, false, false, true, true, false, false, false, false, false, false] rfl (ih x20 h19 G19 R19 (by omega) (by omega) (by omega) (by omega) (te_of fx2_0 (fun _ => ex20) (fun q => absurd q (by omega)) E16 E19) (teJ_of E1 E2 S3 o3_ b2_ E16 E19 (by omega) (fun q => absurd q (by omega))) (by omega))
      · refine z_iload (M := M_X12_takeEnd) 52 dX12_takeEnd_52 rfl ?_
        refine z_if_eq (M := M_X12_takeEnd) 54 dX12_takeEnd_54 61 rfl (fun c27 => ?_) (fun c27 => ?_)
        · refine z_iconst (M := M_X12_takeEnd) 61 dX12_takeEnd_61 ?_
          refine z_putZH (M := M_X12_takeEnd) 62 dX12_takeEnd_62 p_X12_459 o_108 rfl (by omega) (u_108_54 G3 (by omega) (by omega)) (R3.up rfl) (fun h20 E20 G20 R20 => ?_)
          refine z_aload_n (M := M_X12_takeEnd) 65 dX12_takeEnd_65 rfl ?_
          refine z_aload_n (M := M_X12_takeEnd) 66 dX12_takeEnd_66 rfl ?_
          refine z_getIG (M := M_X12_takeEnd) 67 dX12_takeEnd_67 f_X12_462 o_108 (by decide) (g_108_55 G20) (fun x28 ex28 ax28 bx28 => ?_)
          refine z_if_eq (M := M_X12_takeEnd) 70 dX12_takeEnd_70 99 rfl (fun c29 => ?_) (fun c29 => ?_)
          · refine z_iconst (M := M_X12_takeEnd) 99 dX12_takeEnd_99 ?_
            refine z_putZH (M := M_X12_takeEnd) 100 dX12_takeEnd_100 p_X12_462 o_108 rfl (by omega) (u_108_55 G20 (by omega) (by omega)) (R20.up rfl) (fun h21 E21 G21 R21 => ?_)
            exact z_mask [true, true, false, false, true, true, false, false, false, false, false, false] rfl (ih x20 h21 G21 R21 (by omega) (by omega) (by omega) (by omega) (te_of fx2_0 (fun _ => ex20) (fun q => absurd q (by omega)) E20 E21) (teJ_of E1 E2 S3 o3_ b2_ E20 E21 (by omega) (fun q => absurd q (by omega))) (by omega))
          · refine z_iload (M := M_X12_takeEnd) 73 dX12_takeEnd_73 rfl ?_
            refine z_if_eq_F (M := M_X12_takeEnd) 75 dX12_takeEnd_75 88 rfl (by omega) ?_
            refine z_aload_n (M := M_X12_takeEnd) 78 dX12_takeEnd_78 rfl ?_
            refine z_getIG (M := M_X12_takeEnd) 79 dX12_takeEnd_79 f_X12_412 o_108 (by decide) (g_108_46 G20) (fun x30 ex30 ax30 bx30 => ?_)
            refine z_if_eq (M := M_X12_takeEnd) 82 dX12_takeEnd_82 99 rfl (fun c31 => ?_) (fun c31 => ?_)
            · refine z_iconst (M := M_X12_takeEnd) 99 dX12_takeEnd_99 ?_
              refine z_putZH (M := M_X12_takeEnd) 100 dX12_takeEnd_100 p_X12_462 o_108 rfl (by omega) (u_108_55 G20 (by omega) (by omega)) (R20.up rfl) (fun h22 E22 G22 R22 => ?_)
              exact z_mask [true, true, false, false, true, true, false, false, false, false, false, false] rfl (ih x20 h22 G22 R22 (by omega) (by omega) (by omega) (by omega) (te_of fx2_0 (fun _ => ex20) (fun q => absurd q (by omega)) E20 E22) (teJ_of E1 E2 S3 o3_ b2_ E20 E22 (by omega) (fun q => absurd q (by omega))) (by omega))
            · refine z_goto (M := M_X12_takeEnd) 85 dX12_takeEnd_85 95 rfl ?_
              refine z_iconst (M := M_X12_takeEnd) 95 dX12_takeEnd_95 ?_
              refine z_goto (M := M_X12_takeEnd) 96 dX12_takeEnd_96 100 rfl ?_
              refine z_putZH (M := M_X12_takeEnd) 100 dX12_takeEnd_100 p_X12_462 o_108 rfl (by omega) (u_108_55 G20 (by omega) (by omega)) (R20.up rfl) (fun h23 E23 G23 R23 => ?_)
              exact z_mask [true, true, false, false, true, true, false, false, false, false, false, false] rfl (ih x20 h23 G23 R23 (by omega) (by omega) (by omega) (by omega) (te_of fx2_0 (fun _ => ex20) (fun q => absurd q (by omega)) E20 E23) (teJ_of E1 E2 S3 o3_ b2_ E20 E23 (by omega) (fun q => absurd q (by omega))) (by omega))
        · refine z_iconst (M := M_X12_takeEnd) 57 dX12_takeEnd_57 ?_
          refine z_goto (M := M_X12_takeEnd) 58 dX12_takeEnd_58 62 rfl ?_
          refine z_putZH (M := M_X12_takeEnd) 62 dX12_takeEnd_62 p_X12_459 o_108 rfl (by omega) (u_108_54 G3 (by omega) (by omega)) (R3.up rfl) (fun h24 E24 G24 R24 => ?_)
          refine z_aload_n (M := M_X12_takeEnd) 65 dX12_takeEnd_65 rfl ?_
          refine z_aload_n (M := M_X12_takeEnd) 66 dX12_takeEnd_66 rfl ?_
          refine z_getIG (M := M_X12_takeEnd) 67 dX12_takeEnd_67 f_X12_462 o_108 (by decide) (g_108_55 G24) (fun x32 ex32 ax32 bx32 => ?_)
          refine z_if_eq (M := M_X12_takeEnd) 70 dX12_takeEnd_70 99 rfl (fun c33 => ?_) (fun c33 => ?_)
          · refine z_iconst (M := M_X12_takeEnd) 99 dX12_takeEnd_99 ?_
            refine z_putZH (M := M_X12_takeEnd) 100 dX12_takeEnd_100 p_X12_462 o_108 rfl (by omega) (u_108_55 G24 (by omega) (by omega)) (R24.up rfl) (fun h25 E25 G25 R25 => ?_)
            exact z_mask [true, true, false, false, true, true, false, false, false, false, false, false] rfl (ih x20 h25 G25 R25 (by omega) (by omega) (by omega) (by omega) (te_of fx2_0 (fun _ => ex20) (fun q => absurd q (by omega)) E24 E25) (teJ_of E1 E2 S3 o3_ b2_ E24 E25 (by omega) (fun q => absurd q (by omega))) (by omega))
          · refine z_iload (M := M_X12_takeEnd) 73 dX12_takeEnd_73 rfl ?_
            refine z_if_eq_F (M := M_X12_takeEnd) 75 dX12_takeEnd_75 88 rfl (by omega) ?_
            refine z_aload_n (M := M_X12_takeEnd) 78 dX12_takeEnd_78 rfl ?_
            refine z_getIG (M := M_X12_takeEnd) 79 dX12_takeEnd_79 f_X12_412 o_108 (by decide) (g_108_46 G24) (fun x34 ex34 ax34 bx34 => ?_)
            refine z_if_eq (M := M_X12_takeEnd) 82 dX12_takeEnd_82 99 rfl (fun c35 => ?_) (fun c35 => ?_)
            · refine z_iconst (M := M_X12_takeEnd) 99 dX12_takeEnd_99 ?_
              refine z_putZH (M := M_X12_takeEnd) 100 dX12_takeEnd_100 p_X12_462 o_108 rfl (by omega) (u_108_55 G24 (by omega) (by omega)) (R24.up rfl) (fun h26 E26 G26 R26 => ?_)
              exact z_mask [true, true, false, false, true, true, false, false, false, false, false, false] rfl (ih x20 h26 G26 R26 (by omega) (by omega) (by omega) (by omega) (te_of fx2_0 (fun _ => ex20) (fun q => absurd q (by omega)) E24 E26) (teJ_of E1 E2 S3 o3_ b2_ E24 E26 (by omega) (fun q => absurd q (by omega))) (by omega))
            · refine z_goto (M := M_X12_takeEnd) 85 dX12_takeEnd_85 95 rfl ?_
              refine z_iconst (M := M_X12_takeEnd) 95 dX12_takeEnd_95 ?_
              refine z_goto (M := M_X12_takeEnd) 96 dX12_takeEnd_96 100 rfl ?_
              refine z_putZH (M := M_X12_takeEnd) 100 dX12_takeEnd_100 p_X12_462 o_108 rfl (by omega) (u_108_55 G24 (by omega) (by omega)) (R24.up rfl) (fun h27 E27 G27 R27 => ?_)
              exact z_mask [true, true, false, false, true, true, false, false, false, false, false, false] rfl (ih x20 h27 G27 R27 (by omega) (by omega) (by omega) (by omega) (te_of fx2_0 (fun _ => ex20) (fun q => absurd q (by omega)) E24 E27) (teJ_of E1 E2 S3 o3_ b2_ E24 E27 (by omega) (fun q => absurd q (by omega))) (by omega))
  · exact z_retV (M := M_X12_takeEnd) 19 dX12_takeEnd_19 rfl ⟨G2, R2, te_r3 E1 E2 (by omega)⟩
/-! ends of what is laid -/
theorem ly3_f {r : Nat → Int} {a f w n d o : Int} (F : ly3 r a f w n d o) (h : a ≠ -1) : fyL r a f w n d o := F.elim (fun z => absurd z.1 h) (fun z => z.2)
theorem ly3_o {r : Nat → Int} {a f n d o : Int} (F : ly3 r a f 0 n d o) : o = 0 := by
  rcases F with ⟨_, _, _, z⟩ | ⟨_, ⟨_, _, _, _, _, z⟩ | ⟨z, _⟩⟩
  · exact z
  · exact z
  · exact absurd rfl z
theorem te_v {r : Nat → Int} {i a f s w : Int} {h0 h' : m_H} (A : teQ r i a f s h0 h') (hw : w = if s = 0 then 1 else 0) : (∀ j, j ≠ i.toNat → h' 143 j = h0 143 j ∧ h' 144 j = h0 144 j) ∧ ∃ n d o, ly3 r a f w n d o ∧ ((d = 0 ∧ s = 0 ∧ h' 108 54 = 0) ∨ (0 < d ∧ (0 ≤ n ∧ n ≤ 100000000000 ∧ d ≤ 100000000000) ∧ h' 143 i.toNat = n ∧ h' 144 i.toNat = d ∧ (s = 0 → h' 108 54 = h0 108 54 ∧ (h' 108 55 = 1 ↔ (h0 108 55 = 1 ∧ o ≠ 1))))) := by
  obtain ⟨a1, ⟨b1, b2, b3, b4, b5⟩ | ⟨b1, n, d, o, b2, b3⟩⟩ := A
  · refine ⟨a1, 0, 1, 0, Or.inl ⟨b1, rfl, rfl, rfl⟩, Or.inr ⟨by decide, ⟨by decide, by decide, by decide⟩, b2, b3, fun _ => ⟨b4, ?_⟩⟩⟩
    rw [b5]; exact ⟨fun z => ⟨z, by decide⟩, fun z => z.1⟩
  · rw [← hw] at b2
    exact ⟨a1, n, d, o, Or.inr ⟨b1, b2⟩, b3⟩
def teB (n d : Int) : Prop := 0 ≤ n ∧ n ≤ 100000000000 ∧ d ≤ 100000000000
theorem te_2 {r : Nat → Int} {a b f s w : Int} {h0 h1 h2 : m_H} (A1 : teQ r 0 a f s h0 h1) (A2 : teQ r 1 b f s h1 h2) (hw : w = if s = 0 then 1 else 0) (z4 : h0 108 54 = 1) (z5 : h0 108 55 = 1) : ∃ n1 d1 o1 n2 d2 o2, (ly3 r a f w n1 d1 o1 ∧ ly3 r b f w n2 d2 o2) ∧ ((s = 0 ∧ h2 108 54 = 0 ∧ (d1 = 0 ∨ d2 = 0)) ∨ ((s = 0 → h2 108 54 = 1) ∧ (0 < d1 ∧ 0 < d2) ∧ teB n1 d1 ∧ teB n2 d2 ∧ (h2 143 0 = n1 ∧ h2 144 0 = d1) ∧ (h2 143 1 = n2 ∧ h2 144 1 = d2) ∧ (s = 0 → (h2 108 55 = 1 ↔ (o1 ≠ 1 ∧ o2 ≠ 1))))) := by
  obtain ⟨_, n1, d1, o1, f1, c1⟩ := te_v A1 hw
  obtain ⟨u2, n2, d2, o2, f2, c2⟩ := te_v A2 hw
  obtain ⟨p1, p2⟩ := u2 0 (by decide)
  refine ⟨n1, d1, o1, n2, d2, o2, ⟨f1, f2⟩, ?_⟩
  rcases c1 with ⟨x1, x2, x3⟩ | ⟨x1, x2, x3, x4, x5⟩ <;> rcases c2 with ⟨y1, y2, y3⟩ | ⟨y1, y2, y3, y4, y5⟩
  · exact Or.inl ⟨x2, y3, Or.inl x1⟩
  · exact Or.inl ⟨x2, (y5 x2).1.trans x3, Or.inl x1⟩
  · exact Or.inl ⟨y2, y3, Or.inr y1⟩
  · refine Or.inr ⟨fun g => (y5 g).1.trans ((x5 g).1.trans z4), ⟨x1, y1⟩, x2, y2, ⟨p1.trans x3, p2.trans x4⟩, ⟨y3, y4⟩, fun g => ?_⟩
    have q1 := (x5 g).2
    have q2 := (y5 g).2
    exact ⟨fun z => ⟨(q1.mp (q2.mp z).1).2, (q2.mp z).2⟩, fun z => q2.mpr ⟨q1.mpr ⟨z5, z.1⟩, z.2⟩⟩
theorem te_3 {r : Nat → Int} {a b c f s w : Int} {h0 h1 h2 h3 : m_H} (A1 : teQ r 0 a f s h0 h1) (A2 : teQ r 1 b f s h1 h2) (A3 : teQ r 2 c f s h2 h3) (hw : w = if s = 0 then 1 else 0) (z4 : h0 108 54 = 1) (z5 : h0 108 55 = 1) : ∃ n1 d1 o1 n2 d2 o2 n3 d3 o3, (ly3 r a f w n1 d1 o1 ∧ ly3 r b f w n2 d2 o2 ∧ ly3 r c f w n3 d3 o3) ∧ ((s = 0 ∧ h3 108 54 = 0 ∧ (d1 = 0 ∨ d2 = 0 ∨ d3 = 0)) ∨ ((s = 0 → h3 108 54 = 1) ∧ (0 < d1 ∧ 0 < d2 ∧ 0 < d3) ∧ teB n1 d1 ∧ teB n2 d2 ∧ teB n3 d3 ∧ (h3 143 0 = n1 ∧ h3 144 0 = d1) ∧ (h3 143 1 = n2 ∧ h3 144 1 = d2) ∧ (h3 143 2 = n3 ∧ h3 144 2 = d3) ∧ (s = 0 → (h3 108 55 = 1 ↔ (o1 ≠ 1 ∧ o2 ≠ 1 ∧ o3 ≠ 1))))) := by
  obtain ⟨n1, d1, o1, n2, d2, o2, ⟨f1, f2⟩, c1⟩ := te_2 A1 A2 hw z4 z5
  obtain ⟨u3, n3, d3, o3, f3, c3⟩ := te_v A3 hw
  obtain ⟨p1, p2⟩ := u3 0 (by decide)
  obtain ⟨p3, p4⟩ := u3 1 (by decide)
  refine ⟨n1, d1, o1, n2, d2, o2, n3, d3, o3, ⟨f1, f2, f3⟩, ?_⟩
  rcases c1 with ⟨x1, x2, x3⟩ | ⟨x1, x2, x3, x4, x5, x6, x7⟩ <;> rcases c3 with ⟨y1, y2, y3⟩ | ⟨y1, y2, y3, y4, y5⟩
  · exact Or.inl ⟨x1, y3, x3.elim Or.inl (fun z => Or.inr (Or.inl z))⟩
  · exact Or.inl ⟨x1, (y5 x1).1.trans x2, x3.elim Or.inl (fun z => Or.inr (Or.inl z))⟩
  · exact Or.inl ⟨y2, y3, Or.inr (Or.inr y1)⟩
  · refine Or.inr ⟨fun g => (y5 g).1.trans (x1 g), ⟨x2.1, x2.2, y1⟩, x3, x4, y2, ⟨p1.trans x5.1, p2.trans x5.2⟩, ⟨p3.trans x6.1, p4.trans x6.2⟩, ⟨y3, y4⟩, fun g => ?_⟩
    have q1 := x7 g
    have q2 := (y5 g).2
    exact ⟨fun z => ⟨(q1.mp (q2.mp z).1).1, (q1.mp (q2.mp z).1).2, (q2.mp z).2⟩, fun z => q2.mpr ⟨q1.mpr ⟨z.1, z.2.1⟩, z.2.2⟩⟩
theorem tri_b {x y z : Int} (hx : 0 ≤ x ∧ x ≤ 100000000000) (hy : 0 ≤ y ∧ y ≤ 100000000000) (hz : 0 ≤ z ∧ z ≤ 100000000000) : 0 ≤ x * y * z ∧ x * y * z ≤ 1000000000000000000000000000000000 := by
  have a := mul_bd hx.1 hx.2 hy.1 hy.2
  have b := mul_bd a.1 a.2 hz.1 hz.2
  exact ⟨b.1, by omega⟩
theorem or_b {o1 o2 o3 b : Int} (hb : b = 0 ↔ (o1 = 1 ∨ o2 = 1 ∨ o3 = 1)) : (if b = 0 then (1 : Int) else 0) = orO o1 o2 o3 := by
  unfold orO
  by_cases c : o1 = 1 ∨ o2 = 1 ∨ o3 = 1
  · rw [if_pos c, if_pos (hb.mpr c)]
  · rw [if_neg c, if_neg (fun z => c (hb.mp z))]
theorem ly_e {n1 d1 o1 n2 d2 o2 n3 d3 o3 U L b x : Int} (eU : U = n1 * d2 * d3 + d1 * n2 * d3 + d1 * d2 * n3) (eL : L = d1 * d2 * d3) (e : x = cap 6000 (gnG U L (if b = 0 then 1 else 0))) (hb : b = 0 ↔ (o1 = 1 ∨ o2 = 1 ∨ o3 = 1)) (z : 0 < d1 ∧ 0 < d2 ∧ 0 < d3) : lyV 6000 n1 d1 o1 n2 d2 o2 n3 d3 o3 x := by
  have k1 : n1 * d2 * d3 = n1 * (d2 * d3) := Int.mul_assoc _ _ _
  have k2 : d1 * n2 * d3 = n2 * (d1 * d3) := by ac_rfl
  have k3 : d1 * d2 * n3 = n3 * (d1 * d2) := Int.mul_comm _ _
  refine Or.inr ⟨⟨by omega, by omega, by omega⟩, ?_⟩
  rw [e, eU, eL, k1, k2, k3, or_b hb]
theorem ar_e {n1 d1 o1 n2 d2 o2 U L b x : Int} (eU : U = n1 * n2 * 1) (eL : L = d1 * d2 * 1) (e : x = cap 4000000 (gnG U L (if b = 0 then 1 else 0))) (hb : b = 0 ↔ (o1 = 1 ∨ o2 = 1 ∨ (0 : Int) = 1)) (z : 0 < d1 ∧ 0 < d2) : arV 4000000 n1 d1 o1 n2 d2 o2 x := by
  refine Or.inr ⟨⟨by omega, by omega⟩, ?_⟩
  rw [e, eU, eL, Int.mul_one, Int.mul_one, or_b hb]
abbrev P_X12_lay3 (h0 : m_H) (a1 a2 a3 a4 a5 : Int) : Int → m_H → Prop := fun x h' => GI h' ∧ FR [115, 116, 117, 118, 119, 120, 121, 122, 123, 124, 125, 126, 127, 128, 129, 130, 131, 132, 133, 134, 138, 139, 140, 141, 142, 143, 144] [(108, 0), (108, 21), (108, 44), (108, 45), (108, 46), (108, 47), (108, 54), (108, 55)] h0 h' ∧ (-2) ≤ x ∧ x ≤ 4000000 ∧ lyQ (h0 110) a1 a2 a3 a4 a5 x
set_option maxHeartbeats 4000000 in
set_option maxRecDepth 100000 in
theorem c_X12_lay3 (h0 : m_H) (a1 a2 a3 a4 a5 : Int) (G0 : GI h0) (hN : NP h0) : m_CI M_X12_lay [mR 108, mI a1, mI a2, mI a3, mI a4, mI a5] h0 (P_X12_lay3 h0 a1 a2 a3 a4 a5) := by
  refine m_CI_of ⟨by decide, rfl, by simp [m_arg, m_isL, M_X12_lay], ⟨rfl, rfl⟩, rfl, rfl⟩ (ls := [some (mR 108), some (mI a1), some (mI a2), some (mI a3), some (mI a4), some (mI a5), none]) rfl ?_
  refine z_ok (fun _ _ ok => ?_)
  have oa1 : m_32 a1 := ok 1 _ rfl
  unfold m_32 at oa1
  have oa2 : m_32 a2 := ok 2 _ rfl
  unfold m_32 at oa2
  have oa3 : m_32 a3 := ok 3 _ rfl
  unfold m_32 at oa3
  have oa4 : m_32 a4 := ok 4 _ rfl
  unfold m_32 at oa4
  have oa5 : m_32 a5 := ok 5 _ rfl
  unfold m_32 at oa5
  refine z_aload_n (M := M_X12_lay) 0 dX12_lay_0 rfl ?_
  refine z_iconst (M := M_X12_lay) 1 dX12_lay_1 ?_
  refine z_putIH (M := M_X12_lay) 2 dX12_lay_2 p_X12_133 o_108 rfl (u_108_0 G0) ((FR.rf (cs := [115, 116, 117, 118, 119, 120, 121, 122, 123, 124, 125, 126, 127, 128, 129, 130, 131, 132, 133, 134, 138, 139, 140, 141, 142, 143, 144]) (ss := [(108, 0), (108, 21), (108, 44), (108, 45), (108, 46), (108, 47), (108, 54), (108, 55)]) (h := h0)).up rfl) (fun h1 E1 G1 R1 => ?_)
  refine z_iload_n (M := M_X12_lay) 5 dX12_lay_5 rfl ?_
  refine z_sI (M := M_X12_lay) 6 dX12_lay_6 t_X12_isGround l_X12_465 (m_rr_of rfl) (rest := []) (c_X12_isGround h1 a1 G1) rfl rfl (Nat.le_of_ble_eq_true rfl) ⟨rfl, rfl⟩ (fun x1 h2 qx1 => ?_)
  obtain ⟨rfl, ⟨rfl, cx1⟩ | ⟨rfl, cx1⟩⟩ := qx1
  · refine z_if_eq_F (M := M_X12_lay) 9 dX12_lay_9 54 rfl (by omega) ?_
    refine z_iload_n (M := M_X12_lay) 12 dX12_lay_12 rfl ?_
    refine z_sI (M := M_X12_lay) 13 dX12_lay_13 t_X12_isGround l_X12_465 (m_rr_of rfl) (rest := []) (c_X12_isGround h1 a2 G1) rfl rfl (Nat.le_of_ble_eq_true rfl) ⟨rfl, rfl⟩ (fun x2 h3 qx2 => ?_)
    obtain ⟨rfl, ⟨rfl, cx2⟩ | ⟨rfl, cx2⟩⟩ := qx2
    · refine z_if_eq_F (M := M_X12_lay) 16 dX12_lay_16 54 rfl (by omega) ?_
      refine z_iload_n (M := M_X12_lay) 19 dX12_lay_19 rfl ?_
      refine z_iconst (M := M_X12_lay) 20 dX12_lay_20 ?_
      refine z_icmp_eq (M := M_X12_lay) 21 dX12_lay_21 31 rfl (fun c3 => ?_) (fun c3 => ?_)
      · refine z_iload (M := M_X12_lay) 31 dX12_lay_31 rfl ?_
        refine z_sI (M := M_X12_lay) 33 dX12_lay_33 t_X12_isKeeper l_X12_169 (m_rr_of rfl) (rest := []) (c_X12_isKeeper h1 a4 G1) rfl rfl (Nat.le_of_ble_eq_true rfl) ⟨rfl, rfl⟩ (fun x4 h4 qx4 => ?_)
        obtain ⟨rfl, ⟨rfl, cx4⟩ | ⟨rfl, cx4⟩⟩ := qx4
        · refine z_if_eq_F (M := M_X12_lay) 36 dX12_lay_36 54 rfl (by omega) ?_
          refine z_iload (M := M_X12_lay) 39 dX12_lay_39 rfl ?_
          refine z_i2l (M := M_X12_lay) 41 dX12_lay_41 ?_
          refine z_lconst (M := M_X12_lay) 42 dX12_lay_42 (v := 0) ?_
          refine z_lconst (M := M_X12_lay) 43 dX12_lay_43 (v := 1) ?_
          refine z_sI (M := M_X12_lay) 44 dX12_lay_44 t_X12_in l_X12_143 (m_rr_of rfl) (rest := []) (c_X12_in h1 a5 0 1 G1) rfl rfl (Nat.le_of_ble_eq_true rfl) ⟨rfl, rfl⟩ (fun x5 h5 qx5 => ?_)
          obtain ⟨rfl, ⟨rfl, cx5⟩ | ⟨rfl, cx5⟩⟩ := qx5
          · refine z_if_eq_F (M := M_X12_lay) 47 dX12_lay_47 54 rfl (by omega) ?_
            refine z_iconst (M := M_X12_lay) 50 dX12_lay_50 ?_
            refine z_goto (M := M_X12_lay) 51 dX12_lay_51 55 rfl ?_
            refine z_istore (M := M_X12_lay) 55 dX12_lay_55 (ls' := [some (mR 108), some (mI a1), some (mI a2), some (mI a3), some (mI a4), some (mI a5), some (mI 1)]) (by decide) rfl ?_
            refine z_iload (M := M_X12_lay) 57 dX12_lay_57 rfl ?_
            refine z_if_eq_F (M := M_X12_lay) 59 dX12_lay_59 96 rfl (by omega) ?_
            refine z_aload_n (M := M_X12_lay) 62 dX12_lay_62 rfl ?_
            refine z_iload_n (M := M_X12_lay) 63 dX12_lay_63 rfl ?_
            refine z_vI (M := M_X12_lay) 64 dX12_lay_64 t_X12_isLength l_X12_391 (m_rr_of rfl) (rest := []) (c_X12_isLength2 h1 a2 G1) o_108 rfl rfl rfl (Nat.le_of_ble_eq_true rfl) ⟨rfl, rfl⟩ (fun x6 h6 qx6 => ?_)
            obtain ⟨G6, S6, ax6, bx6, fx6_0, fx6_1⟩ := qx6
            rw [(FR.row R1 (fun _ => rfl) : h1 110 = h0 110)] at fx6_1
            have R6 := R1.call S6 (by decide +kernel)
            refine z_if_eq (M := M_X12_lay) 67 dX12_lay_67 96 rfl (fun c7 => ?_) (fun c7 => ?_)
            · refine z_bipush (M := M_X12_lay) 96 dX12_lay_96 ?_
              exact z_retI (M := M_X12_lay) 98 dX12_lay_98 rfl ⟨G6, R6, by omega, by omega, Or.inl ⟨fun z => absurd (fx6_1.mpr z.2.1.2) (by omega), rfl⟩⟩
            · refine z_iload_n (M := M_X12_lay) 70 dX12_lay_70 rfl ?_
              refine z_iconst (M := M_X12_lay) 71 dX12_lay_71 ?_
              refine z_icmp_eq_T (M := M_X12_lay) 72 dX12_lay_72 83 rfl (by omega) ?_
              refine z_aload_n (M := M_X12_lay) 83 dX12_lay_83 rfl ?_
              refine z_iload_n (M := M_X12_lay) 84 dX12_lay_84 rfl ?_
              refine z_bipush (M := M_X12_lay) 85 dX12_lay_85 ?_
              refine z_iload (M := M_X12_lay) 87 dX12_lay_87 rfl ?_
              refine z_iaddN (M := M_X12_lay) 89 dX12_lay_89 (by omega) (by omega) ?_
              refine z_vI (M := M_X12_lay) 90 dX12_lay_90 t_X12_isAnswered l_X12_394 (m_rr_of rfl) (rest := []) (c_X12_isAnswered2 h6 a1 (12 + a4) G6 (NP.call hN R6 (fun _ => rfl) (fun _ => rfl) (fun _ => rfl))) o_108 rfl rfl rfl (Nat.le_of_ble_eq_true rfl) ⟨rfl, rfl⟩ (fun x8 h7 qx8 => ?_)
              obtain ⟨G7, S7, ax8, bx8, fx8_0, fx8_1⟩ := qx8
              rw [(FR.row R6 (fun _ => rfl) : h6 110 = h0 110)] at fx8_1
              have tf_ : thr (h0 110) (12 + a4) := ⟨by omega, by omega, Or.inr (Or.inl (by omega))⟩
              have R7 := R6.call S7 (by decide +kernel)
              refine z_if_ne (M := M_X12_lay) 93 dX12_lay_93 99 rfl (fun c9 => ?_) (fun c9 => ?_)
              · have an := fx8_0 (by omega)
                have an1 := an.1
                have Q_ := fx8_1.mp (by omega)
                have K_ : lyK (h0 110) a1 a2 a3 a4 a5 := ⟨⟨⟨by omega, by omega⟩, Q_.1⟩, ⟨⟨by omega, by omega⟩, fx6_1.mp (by omega)⟩, Or.inl (by omega), cx4, cx5, Q_.2.2⟩
                have an2 := an.2.1
                refine z_aload_n (M := M_X12_lay) 99 dX12_lay_99 rfl ?_
                refine z_iconst (M := M_X12_lay) 100 dX12_lay_100 ?_
                refine z_putZH (M := M_X12_lay) 101 dX12_lay_101 p_X12_459 o_108 rfl (by omega) (u_108_54 G7 (by omega) (by omega)) (R7.up rfl) (fun h8 E8 G8 R8 => ?_)
                refine z_aload_n (M := M_X12_lay) 104 dX12_lay_104 rfl ?_
                refine z_iconst (M := M_X12_lay) 105 dX12_lay_105 ?_
                refine z_putZH (M := M_X12_lay) 106 dX12_lay_106 p_X12_462 o_108 rfl (by omega) (u_108_55 G8 (by omega) (by omega)) (R8.up rfl) (fun h9 E9 G9 R9 => ?_)
                refine z_aload_n (M := M_X12_lay) 109 dX12_lay_109 rfl ?_
                refine z_iconst (M := M_X12_lay) 110 dX12_lay_110 ?_
                refine z_iload_n (M := M_X12_lay) 111 dX12_lay_111 rfl ?_
                refine z_iload (M := M_X12_lay) 112 dX12_lay_112 rfl ?_
                refine z_iload (M := M_X12_lay) 114 dX12_lay_114 rfl ?_
                refine z_if_ne (M := M_X12_lay) 116 dX12_lay_116 123 rfl (fun c10 => ?_) (fun c10 => ?_)
                · refine z_iconst (M := M_X12_lay) 123 dX12_lay_123 ?_
                  refine z_vV (M := M_X12_lay) 124 dX12_lay_124 t_X12_takeEnd l_X12_468 (m_rr_of rfl) (rest := []) (c_X12_takeEnd4 h9 0 a1 a4 0 G9 ⟨by omega, by omega⟩ ⟨by omega, by omega⟩ ⟨by omega, by omega⟩ ⟨by omega, by omega⟩ (NP.call hN R9 (fun _ => rfl) (fun _ => rfl) (fun _ => rfl)) (gG_f (gG_b an.2.2 R6 (fun _ => rfl)) R9 (fun _ => rfl))) o_108 rfl rfl rfl (Nat.le_of_ble_eq_true rfl) ⟨rfl, rfl⟩ (fun h10 qx11 => ?_)
                  obtain ⟨G10, S10, A10_⟩ := qx11
                  rw [(FR.row R9 (fun _ => rfl) : h9 110 = h0 110)] at A10_
                  have R10 := R9.call S10 (by decide +kernel)
                  refine z_aload_n (M := M_X12_lay) 127 dX12_lay_127 rfl ?_
                  refine z_iconst (M := M_X12_lay) 128 dX12_lay_128 ?_
                  refine z_iload_n (M := M_X12_lay) 129 dX12_lay_129 rfl ?_
                  refine z_iload (M := M_X12_lay) 130 dX12_lay_130 rfl ?_
                  refine z_iload (M := M_X12_lay) 132 dX12_lay_132 rfl ?_
                  refine z_if_ne_T (M := M_X12_lay) 134 dX12_lay_134 141 rfl (by omega) ?_
                  refine z_iconst (M := M_X12_lay) 141 dX12_lay_141 ?_
                  refine z_vV (M := M_X12_lay) 142 dX12_lay_142 t_X12_takeEnd l_X12_468 (m_rr_of rfl) (rest := []) (c_X12_takeEnd4 h10 1 a2 a4 0 G10 ⟨by omega, by omega⟩ ⟨by omega, by omega⟩ ⟨by omega, by omega⟩ ⟨by omega, by omega⟩ (NP.call hN R10 (fun _ => rfl) (fun _ => rfl) (fun _ => rfl)) (gG_f (gG_b an.2.2 R6 (fun _ => rfl)) R10 (fun _ => rfl))) o_108 rfl rfl rfl (Nat.le_of_ble_eq_true rfl) ⟨rfl, rfl⟩ (fun h11 qx12 => ?_)
                  obtain ⟨G11, S11, A11_⟩ := qx12
                  rw [(FR.row R10 (fun _ => rfl) : h10 110 = h0 110)] at A11_
                  have R11 := R10.call S11 (by decide +kernel)
                  refine z_aload_n (M := M_X12_lay) 145 dX12_lay_145 rfl ?_
                  refine z_iconst (M := M_X12_lay) 146 dX12_lay_146 ?_
                  refine z_iload_n (M := M_X12_lay) 147 dX12_lay_147 rfl ?_
                  refine z_iload (M := M_X12_lay) 148 dX12_lay_148 rfl ?_
                  refine z_iload (M := M_X12_lay) 150 dX12_lay_150 rfl ?_
                  refine z_if_ne_T (M := M_X12_lay) 152 dX12_lay_152 159 rfl (by omega) ?_
                  refine z_iconst (M := M_X12_lay) 159 dX12_lay_159 ?_
                  refine z_vV (M := M_X12_lay) 160 dX12_lay_160 t_X12_takeEnd l_X12_468 (m_rr_of rfl) (rest := []) (c_X12_takeEnd4 h11 2 a3 a4 0 G11 ⟨by omega, by omega⟩ ⟨by omega, by omega⟩ ⟨by omega, by omega⟩ ⟨by omega, by omega⟩ (NP.call hN R11 (fun _ => rfl) (fun _ => rfl) (fun _ => rfl)) (gG_f (gG_b an.2.2 R6 (fun _ => rfl)) R11 (fun _ => rfl))) o_108 rfl rfl rfl (Nat.le_of_ble_eq_true rfl) ⟨rfl, rfl⟩ (fun h12 qx13 => ?_)
                  obtain ⟨G12, S12, A12_⟩ := qx13
                  rw [(FR.row R11 (fun _ => rfl) : h11 110 = h0 110)] at A12_
                  have R12 := R11.call S12 (by decide +kernel)
                  obtain ⟨n1, d1, o1, n2, d2, o2, n3, d3, o3, F_, Z_⟩ := te_3 A10_ A11_ A12_ (w := a5) (by rw [if_pos rfl]; omega) ((upN E9 (by decide)).trans (upE E8)) (upE E9)
                  refine z_iload (M := M_X12_lay) 163 dX12_lay_163 rfl ?_
                  refine z_iconst (M := M_X12_lay) 165 dX12_lay_165 ?_
                  refine z_icmp_ne_F (M := M_X12_lay) 166 dX12_lay_166 178 rfl (by omega) ?_
                  refine z_aload_n (M := M_X12_lay) 169 dX12_lay_169 rfl ?_
                  refine z_getIG (M := M_X12_lay) 170 dX12_lay_170 f_X12_459 o_108 (by decide) (g_108_54 G12) (fun x14 ex14 ax14 bx14 => ?_)
                  refine z_if_ne (M := M_X12_lay) 173 dX12_lay_173 178 rfl (fun c15 => ?_) (fun c15 => ?_)
                  · refine z_aload_n (M := M_X12_lay) 178 dX12_lay_178 rfl ?_
                    refine z_aload_n (M := M_X12_lay) 179 dX12_lay_179 rfl ?_
                    refine z_getR (M := M_X12_lay) 180 dX12_lay_180 f_X12_109 o_108 rfl (g_108_49 G12) ?_
                    refine z_aload_n (M := M_X12_lay) 183 dX12_lay_183 rfl ?_
                    refine z_getR (M := M_X12_lay) 184 dX12_lay_184 f_X12_121 o_108 rfl (g_108_53 G12) ?_
                    refine z_iconst (M := M_X12_lay) 187 dX12_lay_187 ?_
                    obtain ⟨y54_, P_, B1_, B2_, B3_, ⟨m1_, e1_⟩, ⟨m2_, e2_⟩, ⟨m3_, e3_⟩, t55_⟩ := Z_.resolve_left (fun y => by have z1 := y.1; have z2 := y.2.1; omega)
                    unfold teB at B1_ B2_ B3_
                    refine z_laldV (M := M_X12_lay) 188 dX12_lay_188 o_144 (by omega) (by omega) (fun x16 ex16 => ?_)
                    obtain rfl : x16 = d1 := ex16.symm.trans e1_
                    refine z_aload_n (M := M_X12_lay) 189 dX12_lay_189 rfl ?_
                    refine z_getR (M := M_X12_lay) 190 dX12_lay_190 f_X12_121 o_108 rfl (g_108_53 G12) ?_
                    refine z_iconst (M := M_X12_lay) 193 dX12_lay_193 ?_
                    refine z_laldV (M := M_X12_lay) 194 dX12_lay_194 o_144 (by omega) (by omega) (fun x17 ex17 => ?_)
                    obtain rfl : x17 = d2 := ex17.symm.trans e2_
                    refine z_aload_n (M := M_X12_lay) 195 dX12_lay_195 rfl ?_
                    refine z_getR (M := M_X12_lay) 196 dX12_lay_196 f_X12_121 o_108 rfl (g_108_53 G12) ?_
                    refine z_iconst (M := M_X12_lay) 199 dX12_lay_199 ?_
                    refine z_laldV (M := M_X12_lay) 200 dX12_lay_200 o_144 (by omega) (by omega) (fun x18 ex18 => ?_)
                    obtain rfl : x18 = d3 := ex18.symm.trans e3_
                    refine z_vV (M := M_X12_lay) 201 dX12_lay_201 t_X12_triple l_X12_472 (m_rr_of rfl) (rest := []) (c_X12_triple4 h12 140 x16 x17 x18 (Or.inr (Or.inl rfl)) G12 ⟨by omega, by omega⟩ ⟨by omega, by omega⟩ ⟨by omega, by omega⟩) o_108 rfl rfl rfl (Nat.le_of_ble_eq_true rfl) ⟨rfl, rfl⟩ (fun h13 qx19 => ?_)
                    obtain ⟨G13, S13, D13_, V13_⟩ := qx19
                    have T13_ := tri_b (x := x16) (y := x17) (z := x18) ⟨by omega, by omega⟩ ⟨by omega, by omega⟩ ⟨by omega, by omega⟩
                    have R13 := R12.call S13 (by decide +kernel)
                    refine z_aload_n (M := M_X12_lay) 204 dX12_lay_204 rfl ?_
                    refine z_aload_n (M := M_X12_lay) 205 dX12_lay_205 rfl ?_
                    refine z_getR (M := M_X12_lay) 206 dX12_lay_206 f_X12_106 o_108 rfl (g_108_48 G13) ?_
                    refine z_aload_n (M := M_X12_lay) 209 dX12_lay_209 rfl ?_
                    refine z_getR (M := M_X12_lay) 210 dX12_lay_210 f_X12_118 o_108 rfl (g_108_52 G13) ?_
                    refine z_iconst (M := M_X12_lay) 213 dX12_lay_213 ?_
                    refine z_laldV (M := M_X12_lay) 214 dX12_lay_214 o_143 (by omega) (by omega) (fun x20 ex20 => ?_)
                    obtain rfl : x20 = n1 := ex20.symm.trans ((S13 143 0 rfl).trans m1_)
                    refine z_aload_n (M := M_X12_lay) 215 dX12_lay_215 rfl ?_
                    refine z_getR (M := M_X12_lay) 216 dX12_lay_216 f_X12_121 o_108 rfl (g_108_53 G13) ?_
                    refine z_iconst (M := M_X12_lay) 219 dX12_lay_219 ?_
                    refine z_laldE (M := M_X12_lay) 220 dX12_lay_220 o_144 (by omega) (by omega) ((S13 144 1 rfl).trans ex17) ?_
                    refine z_aload_n (M := M_X12_lay) 221 dX12_lay_221 rfl ?_
                    refine z_getR (M := M_X12_lay) 222 dX12_lay_222 f_X12_121 o_108 rfl (g_108_53 G13) ?_
                    refine z_iconst (M := M_X12_lay) 225 dX12_lay_225 ?_
                    refine z_laldE (M := M_X12_lay) 226 dX12_lay_226 o_144 (by omega) (by omega) ((S13 144 2 rfl).trans ex18) ?_
                    refine z_vV (M := M_X12_lay) 227 dX12_lay_227 t_X12_triple l_X12_472 (m_rr_of rfl) (rest := []) (c_X12_triple4 h13 139 x20 x17 x18 (Or.inl rfl) G13 ⟨by omega, by omega⟩ ⟨by omega, by omega⟩ ⟨by omega, by omega⟩) o_108 rfl rfl rfl (Nat.le_of_ble_eq_true rfl) ⟨rfl, rfl⟩ (fun h14 qx21 => ?_)
                    obtain ⟨G14, S14, D14_, V14_⟩ := qx21
                    have T14_ := tri_b (x := x20) (y := x17) (z := x18) ⟨by omega, by omega⟩ ⟨by omega, by omega⟩ ⟨by omega, by omega⟩
                    have R14 := R13.call S14 (by decide +kernel)
                    refine z_aload_n (M := M_X12_lay) 230 dX12_lay_230 rfl ?_
                    refine z_aload_n (M := M_X12_lay) 231 dX12_lay_231 rfl ?_
                    refine z_getR (M := M_X12_lay) 232 dX12_lay_232 f_X12_112 o_108 rfl (g_108_50 G14) ?_
                    refine z_aload_n (M := M_X12_lay) 235 dX12_lay_235 rfl ?_
                    refine z_getR (M := M_X12_lay) 236 dX12_lay_236 f_X12_121 o_108 rfl (g_108_53 G14) ?_
                    refine z_iconst (M := M_X12_lay) 239 dX12_lay_239 ?_
                    refine z_laldE (M := M_X12_lay) 240 dX12_lay_240 o_144 (by omega) (by omega) ((S14 144 0 rfl).trans ((S13 144 0 rfl).trans ex16)) ?_
                    refine z_aload_n (M := M_X12_lay) 241 dX12_lay_241 rfl ?_
                    refine z_getR (M := M_X12_lay) 242 dX12_lay_242 f_X12_118 o_108 rfl (g_108_52 G14) ?_
                    refine z_iconst (M := M_X12_lay) 245 dX12_lay_245 ?_
                    refine z_laldV (M := M_X12_lay) 246 dX12_lay_246 o_143 (by omega) (by omega) (fun x22 ex22 => ?_)
                    obtain rfl : x22 = n2 := ex22.symm.trans (((S14 143 1 rfl).trans (S13 143 1 rfl)).trans m2_)
                    refine z_aload_n (M := M_X12_lay) 247 dX12_lay_247 rfl ?_
                    refine z_getR (M := M_X12_lay) 248 dX12_lay_248 f_X12_121 o_108 rfl (g_108_53 G14) ?_
                    refine z_iconst (M := M_X12_lay) 251 dX12_lay_251 ?_
                    refine z_laldE (M := M_X12_lay) 252 dX12_lay_252 o_144 (by omega) (by omega) ((S14 144 2 rfl).trans ((S13 144 2 rfl).trans ex18)) ?_
                    refine z_vV (M := M_X12_lay) 253 dX12_lay_253 t_X12_triple l_X12_472 (m_rr_of rfl) (rest := []) (c_X12_triple4 h14 141 x16 x22 x18 (Or.inr (Or.inr rfl)) G14 ⟨by omega, by omega⟩ ⟨by omega, by omega⟩ ⟨by omega, by omega⟩) o_108 rfl rfl rfl (Nat.le_of_ble_eq_true rfl) ⟨rfl, rfl⟩ (fun h15 qx23 => ?_)
                    obtain ⟨G15, S15, D15_, V15_⟩ := qx23
                    have T15_ := tri_b (x := x16) (y := x22) (z := x18) ⟨by omega, by omega⟩ ⟨by omega, by omega⟩ ⟨by omega, by omega⟩
                    have R15 := R14.call S15 (by decide +kernel)
                    refine z_aload_n (M := M_X12_lay) 256 dX12_lay_256 rfl ?_
                    refine z_vV (M := M_X12_lay) 257 dX12_lay_257 t_X12_addFactor l_X12_476 (m_rr_of rfl) (rest := []) (c_X12_addFactor4 h15 G15 (by rw [(FR.row S15 (fun _ => rfl) : h15 139 = h14 139)]; exact D14_) D15_ (by rw [(FR.row S15 (fun _ => rfl) : h15 139 = h14 139), V14_, V15_]; omega)) o_108 rfl rfl rfl (Nat.le_of_ble_eq_true rfl) ⟨rfl, rfl⟩ (fun h16 qx24 => ?_)
                    obtain ⟨G16, S16, D16_, V16_⟩ := qx24
                    rw [(FR.row S15 (fun _ => rfl) : h15 139 = h14 139), V14_, V15_] at V16_
                    have R16 := R15.call S16 (by decide +kernel)
                    refine z_aload_n (M := M_X12_lay) 260 dX12_lay_260 rfl ?_
                    refine z_aload_n (M := M_X12_lay) 261 dX12_lay_261 rfl ?_
                    refine z_getR (M := M_X12_lay) 262 dX12_lay_262 f_X12_112 o_108 rfl (g_108_50 G16) ?_
                    refine z_aload_n (M := M_X12_lay) 265 dX12_lay_265 rfl ?_
                    refine z_getR (M := M_X12_lay) 266 dX12_lay_266 f_X12_121 o_108 rfl (g_108_53 G16) ?_
                    refine z_iconst (M := M_X12_lay) 269 dX12_lay_269 ?_
                    refine z_laldE (M := M_X12_lay) 270 dX12_lay_270 o_144 (by omega) (by omega) ((S16 144 0 rfl).trans ((S15 144 0 rfl).trans ((S14 144 0 rfl).trans ((S13 144 0 rfl).trans ex16)))) ?_
                    refine z_aload_n (M := M_X12_lay) 271 dX12_lay_271 rfl ?_
                    refine z_getR (M := M_X12_lay) 272 dX12_lay_272 f_X12_121 o_108 rfl (g_108_53 G16) ?_
                    refine z_iconst (M := M_X12_lay) 275 dX12_lay_275 ?_
                    refine z_laldE (M := M_X12_lay) 276 dX12_lay_276 o_144 (by omega) (by omega) ((S16 144 1 rfl).trans ((S15 144 1 rfl).trans ((S14 144 1 rfl).trans ((S13 144 1 rfl).trans ex17)))) ?_
                    refine z_aload_n (M := M_X12_lay) 277 dX12_lay_277 rfl ?_
                    refine z_getR (M := M_X12_lay) 278 dX12_lay_278 f_X12_118 o_108 rfl (g_108_52 G16) ?_
                    refine z_iconst (M := M_X12_lay) 281 dX12_lay_281 ?_
                    refine z_laldV (M := M_X12_lay) 282 dX12_lay_282 o_143 (by omega) (by omega) (fun x25 ex25 => ?_)
                    obtain rfl : x25 = n3 := ex25.symm.trans (((S16 143 2 rfl).trans ((S15 143 2 rfl).trans ((S14 143 2 rfl).trans (S13 143 2 rfl)))).trans m3_)
                    refine z_vV (M := M_X12_lay) 283 dX12_lay_283 t_X12_triple l_X12_472 (m_rr_of rfl) (rest := []) (c_X12_triple4 h16 141 x16 x17 x25 (Or.inr (Or.inr rfl)) G16 ⟨by omega, by omega⟩ ⟨by omega, by omega⟩ ⟨by omega, by omega⟩) o_108 rfl rfl rfl (Nat.le_of_ble_eq_true rfl) ⟨rfl, rfl⟩ (fun h17 qx26 => ?_)
                    obtain ⟨G17, S17, D17_, V17_⟩ := qx26
                    have T17_ := tri_b (x := x16) (y := x17) (z := x25) ⟨by omega, by omega⟩ ⟨by omega, by omega⟩ ⟨by omega, by omega⟩
                    have R17 := R16.call S17 (by decide +kernel)
                    refine z_aload_n (M := M_X12_lay) 286 dX12_lay_286 rfl ?_
                    refine z_vV (M := M_X12_lay) 287 dX12_lay_287 t_X12_addFactor l_X12_476 (m_rr_of rfl) (rest := []) (c_X12_addFactor4 h17 G17 (by rw [(FR.row S17 (fun _ => rfl) : h17 139 = h16 139)]; exact D16_) D17_ (by rw [(FR.row S17 (fun _ => rfl) : h17 139 = h16 139), V16_, V17_]; omega)) o_108 rfl rfl rfl (Nat.le_of_ble_eq_true rfl) ⟨rfl, rfl⟩ (fun h18 qx27 => ?_)
                    obtain ⟨G18, S18, D18_, V18_⟩ := qx27
                    rw [(FR.row S17 (fun _ => rfl) : h17 139 = h16 139), V16_, V17_] at V18_
                    have k_ : h18 140 = h13 140 := ((FR.row S18 (fun _ => rfl)).trans ((FR.row S17 (fun _ => rfl)).trans ((FR.row S16 (fun _ => rfl)).trans ((FR.row S15 (fun _ => rfl)).trans (FR.row S14 (fun _ => rfl))))))
                    have L_ : vS (h18 140) 0 10 = x16 * x17 * x18 := by rw [k_]; exact V13_
                    have W_ := Int.mul_pos (Int.mul_pos P_.1 P_.2.1) P_.2.2
                    have F55_ : h18 108 55 = h12 108 55 := ((S18 108 55 rfl).trans ((S17 108 55 rfl).trans ((S16 108 55 rfl).trans ((S15 108 55 rfl).trans ((S14 108 55 rfl).trans (S13 108 55 rfl))))))
                    have R18 := R17.call S18 (by decide +kernel)
                    refine z_aload_n (M := M_X12_lay) 290 dX12_lay_290 rfl ?_
                    refine z_sipush (M := M_X12_lay) 291 dX12_lay_291 ?_
                    refine z_iload (M := M_X12_lay) 294 dX12_lay_294 rfl ?_
                    refine z_if_eq_F (M := M_X12_lay) 296 dX12_lay_296 306 rfl (by omega) ?_
                    refine z_aload_n (M := M_X12_lay) 299 dX12_lay_299 rfl ?_
                    refine z_getIG (M := M_X12_lay) 300 dX12_lay_300 f_X12_462 o_108 (by decide) (g_108_55 G18) (fun x28 ex28 ax28 bx28 => ?_)
                    refine z_if_eq (M := M_X12_lay) 303 dX12_lay_303 310 rfl (fun c29 => ?_) (fun c29 => ?_)
                    · refine z_iconst (M := M_X12_lay) 310 dX12_lay_310 ?_
                      refine z_vI (M := M_X12_lay) 311 dX12_lay_311 t_X12_often l_X12_479 (m_rr_of rfl) (rest := []) (c_X12_often4 h18 6000 0 G18 ⟨by omega, by omega⟩ ⟨by omega, by omega⟩ D18_ (by rw [k_]; exact D13_) (by rw [L_]; omega)) o_108 rfl rfl rfl (Nat.le_of_ble_eq_true rfl) ⟨rfl, rfl⟩ (fun x30 h19 qx30 => ?_)
                      obtain ⟨G19, S19, ax30, bx30, fo_⟩ := qx30
                      have R19 := R18.call S19 (by decide +kernel)
                      exact z_retI (M := M_X12_lay) 314 dX12_lay_314 rfl ⟨G19, R19, by omega, by omega, Or.inr ⟨K_, x20, x16, o1, x22, x17, o2, x25, x18, o3, ⟨ly3_f F_.1 (by omega), ly3_f F_.2.1 (by omega), F_.2.2⟩, ly_e V18_ L_ fo_ ⟨fun _ => by have z := t55_ rfl; omega, fun _ => rfl⟩ P_⟩⟩
                    · refine z_iconst (M := M_X12_lay) 306 dX12_lay_306 ?_
                      refine z_goto (M := M_X12_lay) 307 dX12_lay_307 311 rfl ?_
                      refine z_vI (M := M_X12_lay) 311 dX12_lay_311 t_X12_often l_X12_479 (m_rr_of rfl) (rest := []) (c_X12_often4 h18 6000 1 G18 ⟨by omega, by omega⟩ ⟨by omega, by omega⟩ D18_ (by rw [k_]; exact D13_) (by rw [L_]; omega)) o_108 rfl rfl rfl (Nat.le_of_ble_eq_true rfl) ⟨rfl, rfl⟩ (fun x31 h20 qx31 => ?_)
                      obtain ⟨G20, S20, ax31, bx31, fo_⟩ := qx31
                      have R20 := R18.call S20 (by decide +kernel)
                      exact z_retI (M := M_X12_lay) 314 dX12_lay_314 rfl ⟨G20, R20, by omega, by omega, Or.inr ⟨K_, x20, x16, o1, x22, x17, o2, x25, x18, o3, ⟨ly3_f F_.1 (by omega), ly3_f F_.2.1 (by omega), F_.2.2⟩, ly_e V18_ L_ fo_ ⟨fun z => absurd z (by decide), fun z => by have t := t55_ rfl; omega⟩ P_⟩⟩
                  · refine z_iconst (M := M_X12_lay) 176 dX12_lay_176 ?_
                    exact z_retI (M := M_X12_lay) 177 dX12_lay_177 rfl ⟨G12, R12, by omega, by omega, Or.inr ⟨K_, n1, d1, o1, n2, d2, o2, n3, d3, o3, ⟨ly3_f F_.1 (by omega), ly3_f F_.2.1 (by omega), F_.2.2⟩, Or.inl ⟨(Z_.resolve_right (fun y => by have z := y.1 rfl; omega)).2.2, rfl⟩⟩⟩
                · refine z_iconst (M := M_X12_lay) 119 dX12_lay_119 ?_
                  refine z_goto (M := M_X12_lay) 120 dX12_lay_120 124 rfl ?_
                  refine z_vV (M := M_X12_lay) 124 dX12_lay_124 t_X12_takeEnd l_X12_468 (m_rr_of rfl) (rest := []) (c_X12_takeEnd4 h9 0 a1 a4 1 G9 ⟨by omega, by omega⟩ ⟨by omega, by omega⟩ ⟨by omega, by omega⟩ ⟨by omega, by omega⟩ (NP.call hN R9 (fun _ => rfl) (fun _ => rfl) (fun _ => rfl)) (gG_f (gG_b an.2.2 R6 (fun _ => rfl)) R9 (fun _ => rfl))) o_108 rfl rfl rfl (Nat.le_of_ble_eq_true rfl) ⟨rfl, rfl⟩ (fun h21 qx32 => ?_)
                  obtain ⟨G21, S21, A21_⟩ := qx32
                  rw [(FR.row R9 (fun _ => rfl) : h9 110 = h0 110)] at A21_
                  have R21 := R9.call S21 (by decide +kernel)
                  refine z_aload_n (M := M_X12_lay) 127 dX12_lay_127 rfl ?_
                  refine z_iconst (M := M_X12_lay) 128 dX12_lay_128 ?_
                  refine z_iload_n (M := M_X12_lay) 129 dX12_lay_129 rfl ?_
                  refine z_iload (M := M_X12_lay) 130 dX12_lay_130 rfl ?_
                  refine z_iload (M := M_X12_lay) 132 dX12_lay_132 rfl ?_
                  refine z_if_ne_F (M := M_X12_lay) 134 dX12_lay_134 141 rfl (by omega) ?_
                  refine z_iconst (M := M_X12_lay) 137 dX12_lay_137 ?_
                  refine z_goto (M := M_X12_lay) 138 dX12_lay_138 142 rfl ?_
                  refine z_vV (M := M_X12_lay) 142 dX12_lay_142 t_X12_takeEnd l_X12_468 (m_rr_of rfl) (rest := []) (c_X12_takeEnd4 h21 1 a2 a4 1 G21 ⟨by omega, by omega⟩ ⟨by omega, by omega⟩ ⟨by omega, by omega⟩ ⟨by omega, by omega⟩ (NP.call hN R21 (fun _ => rfl) (fun _ => rfl) (fun _ => rfl)) (gG_f (gG_b an.2.2 R6 (fun _ => rfl)) R21 (fun _ => rfl))) o_108 rfl rfl rfl (Nat.le_of_ble_eq_true rfl) ⟨rfl, rfl⟩ (fun h22 qx33 => ?_)
                  obtain ⟨G22, S22, A22_⟩ := qx33
                  rw [(FR.row R21 (fun _ => rfl) : h21 110 = h0 110)] at A22_
                  have R22 := R21.call S22 (by decide +kernel)
                  refine z_aload_n (M := M_X12_lay) 145 dX12_lay_145 rfl ?_
                  refine z_iconst (M := M_X12_lay) 146 dX12_lay_146 ?_
                  refine z_iload_n (M := M_X12_lay) 147 dX12_lay_147 rfl ?_
                  refine z_iload (M := M_X12_lay) 148 dX12_lay_148 rfl ?_
                  refine z_iload (M := M_X12_lay) 150 dX12_lay_150 rfl ?_
                  refine z_if_ne_F (M := M_X12_lay) 152 dX12_lay_152 159 rfl (by omega) ?_
                  refine z_iconst (M := M_X12_lay) 155 dX12_lay_155 ?_
                  refine z_goto (M := M_X12_lay) 156 dX12_lay_156 160 rfl ?_
                  refine z_vV (M := M_X12_lay) 160 dX12_lay_160 t_X12_takeEnd l_X12_468 (m_rr_of rfl) (rest := []) (c_X12_takeEnd4 h22 2 a3 a4 1 G22 ⟨by omega, by omega⟩ ⟨by omega, by omega⟩ ⟨by omega, by omega⟩ ⟨by omega, by omega⟩ (NP.call hN R22 (fun _ => rfl) (fun _ => rfl) (fun _ => rfl)) (gG_f (gG_b an.2.2 R6 (fun _ => rfl)) R22 (fun _ => rfl))) o_108 rfl rfl rfl (Nat.le_of_ble_eq_true rfl) ⟨rfl, rfl⟩ (fun h23 qx34 => ?_)
                  obtain ⟨G23, S23, A23_⟩ := qx34
                  rw [(FR.row R22 (fun _ => rfl) : h22 110 = h0 110)] at A23_
                  have R23 := R22.call S23 (by decide +kernel)
                  obtain ⟨n1, d1, o1, n2, d2, o2, n3, d3, o3, F_, Z_⟩ := te_3 A21_ A22_ A23_ (w := a5) (by rw [if_neg (by decide)]; omega) ((upN E9 (by decide)).trans (upE E8)) (upE E9)
                  have w0_ : a5 = 0 := by omega
                  have F0_ := F_
                  rw [w0_] at F0_
                  refine z_iload (M := M_X12_lay) 163 dX12_lay_163 rfl ?_
                  refine z_iconst (M := M_X12_lay) 165 dX12_lay_165 ?_
                  refine z_icmp_ne_T (M := M_X12_lay) 166 dX12_lay_166 178 rfl (by omega) ?_
                  refine z_aload_n (M := M_X12_lay) 178 dX12_lay_178 rfl ?_
                  refine z_aload_n (M := M_X12_lay) 179 dX12_lay_179 rfl ?_
                  refine z_getR (M := M_X12_lay) 180 dX12_lay_180 f_X12_109 o_108 rfl (g_108_49 G23) ?_
                  refine z_aload_n (M := M_X12_lay) 183 dX12_lay_183 rfl ?_
                  refine z_getR (M := M_X12_lay) 184 dX12_lay_184 f_X12_121 o_108 rfl (g_108_53 G23) ?_
                  refine z_iconst (M := M_X12_lay) 187 dX12_lay_187 ?_
                  obtain ⟨y54_, P_, B1_, B2_, B3_, ⟨m1_, e1_⟩, ⟨m2_, e2_⟩, ⟨m3_, e3_⟩, t55_⟩ := Z_.resolve_left (fun y => by have z1 := y.1; have z2 := y.2.1; omega)
                  unfold teB at B1_ B2_ B3_
                  refine z_laldV (M := M_X12_lay) 188 dX12_lay_188 o_144 (by omega) (by omega) (fun x35 ex35 => ?_)
                  obtain rfl : x35 = d1 := ex35.symm.trans e1_
                  refine z_aload_n (M := M_X12_lay) 189 dX12_lay_189 rfl ?_
                  refine z_getR (M := M_X12_lay) 190 dX12_lay_190 f_X12_121 o_108 rfl (g_108_53 G23) ?_
                  refine z_iconst (M := M_X12_lay) 193 dX12_lay_193 ?_
                  refine z_laldV (M := M_X12_lay) 194 dX12_lay_194 o_144 (by omega) (by omega) (fun x36 ex36 => ?_)
                  obtain rfl : x36 = d2 := ex36.symm.trans e2_
                  refine z_aload_n (M := M_X12_lay) 195 dX12_lay_195 rfl ?_
                  refine z_getR (M := M_X12_lay) 196 dX12_lay_196 f_X12_121 o_108 rfl (g_108_53 G23) ?_
                  refine z_iconst (M := M_X12_lay) 199 dX12_lay_199 ?_
                  refine z_laldV (M := M_X12_lay) 200 dX12_lay_200 o_144 (by omega) (by omega) (fun x37 ex37 => ?_)
                  obtain rfl : x37 = d3 := ex37.symm.trans e3_
                  refine z_vV (M := M_X12_lay) 201 dX12_lay_201 t_X12_triple l_X12_472 (m_rr_of rfl) (rest := []) (c_X12_triple4 h23 140 x35 x36 x37 (Or.inr (Or.inl rfl)) G23 ⟨by omega, by omega⟩ ⟨by omega, by omega⟩ ⟨by omega, by omega⟩) o_108 rfl rfl rfl (Nat.le_of_ble_eq_true rfl) ⟨rfl, rfl⟩ (fun h24 qx38 => ?_)
                  obtain ⟨G24, S24, D24_, V24_⟩ := qx38
                  have T24_ := tri_b (x := x35) (y := x36) (z := x37) ⟨by omega, by omega⟩ ⟨by omega, by omega⟩ ⟨by omega, by omega⟩
                  have R24 := R23.call S24 (by decide +kernel)
                  refine z_aload_n (M := M_X12_lay) 204 dX12_lay_204 rfl ?_
                  refine z_aload_n (M := M_X12_lay) 205 dX12_lay_205 rfl ?_
                  refine z_getR (M := M_X12_lay) 206 dX12_lay_206 f_X12_106 o_108 rfl (g_108_48 G24) ?_
                  refine z_aload_n (M := M_X12_lay) 209 dX12_lay_209 rfl ?_
                  refine z_getR (M := M_X12_lay) 210 dX12_lay_210 f_X12_118 o_108 rfl (g_108_52 G24) ?_
                  refine z_iconst (M := M_X12_lay) 213 dX12_lay_213 ?_
                  refine z_laldV (M := M_X12_lay) 214 dX12_lay_214 o_143 (by omega) (by omega) (fun x39 ex39 => ?_)
                  obtain rfl : x39 = n1 := ex39.symm.trans ((S24 143 0 rfl).trans m1_)
                  refine z_aload_n (M := M_X12_lay) 215 dX12_lay_215 rfl ?_
                  refine z_getR (M := M_X12_lay) 216 dX12_lay_216 f_X12_121 o_108 rfl (g_108_53 G24) ?_
                  refine z_iconst (M := M_X12_lay) 219 dX12_lay_219 ?_
                  refine z_laldE (M := M_X12_lay) 220 dX12_lay_220 o_144 (by omega) (by omega) ((S24 144 1 rfl).trans ex36) ?_
                  refine z_aload_n (M := M_X12_lay) 221 dX12_lay_221 rfl ?_
                  refine z_getR (M := M_X12_lay) 222 dX12_lay_222 f_X12_121 o_108 rfl (g_108_53 G24) ?_
                  refine z_iconst (M := M_X12_lay) 225 dX12_lay_225 ?_
                  refine z_laldE (M := M_X12_lay) 226 dX12_lay_226 o_144 (by omega) (by omega) ((S24 144 2 rfl).trans ex37) ?_
                  refine z_vV (M := M_X12_lay) 227 dX12_lay_227 t_X12_triple l_X12_472 (m_rr_of rfl) (rest := []) (c_X12_triple4 h24 139 x39 x36 x37 (Or.inl rfl) G24 ⟨by omega, by omega⟩ ⟨by omega, by omega⟩ ⟨by omega, by omega⟩) o_108 rfl rfl rfl (Nat.le_of_ble_eq_true rfl) ⟨rfl, rfl⟩ (fun h25 qx40 => ?_)
                  obtain ⟨G25, S25, D25_, V25_⟩ := qx40
                  have T25_ := tri_b (x := x39) (y := x36) (z := x37) ⟨by omega, by omega⟩ ⟨by omega, by omega⟩ ⟨by omega, by omega⟩
                  have R25 := R24.call S25 (by decide +kernel)
                  refine z_aload_n (M := M_X12_lay) 230 dX12_lay_230 rfl ?_
                  refine z_aload_n (M := M_X12_lay) 231 dX12_lay_231 rfl ?_
                  refine z_getR (M := M_X12_lay) 232 dX12_lay_232 f_X12_112 o_108 rfl (g_108_50 G25) ?_
                  refine z_aload_n (M := M_X12_lay) 235 dX12_lay_235 rfl ?_
                  refine z_getR (M := M_X12_lay) 236 dX12_lay_236 f_X12_121 o_108 rfl (g_108_53 G25) ?_
                  refine z_iconst (M := M_X12_lay) 239 dX12_lay_239 ?_
                  refine z_laldE (M := M_X12_lay) 240 dX12_lay_240 o_144 (by omega) (by omega) ((S25 144 0 rfl).trans ((S24 144 0 rfl).trans ex35)) ?_
                  refine z_aload_n (M := M_X12_lay) 241 dX12_lay_241 rfl ?_
                  refine z_getR (M := M_X12_lay) 242 dX12_lay_242 f_X12_118 o_108 rfl (g_108_52 G25) ?_
                  refine z_iconst (M := M_X12_lay) 245 dX12_lay_245 ?_
                  refine z_laldV (M := M_X12_lay) 246 dX12_lay_246 o_143 (by omega) (by omega) (fun x41 ex41 => ?_)
                  obtain rfl : x41 = n2 := ex41.symm.trans (((S25 143 1 rfl).trans (S24 143 1 rfl)).trans m2_)
                  refine z_aload_n (M := M_X12_lay) 247 dX12_lay_247 rfl ?_
                  refine z_getR (M := M_X12_lay) 248 dX12_lay_248 f_X12_121 o_108 rfl (g_108_53 G25) ?_
                  refine z_iconst (M := M_X12_lay) 251 dX12_lay_251 ?_
                  refine z_laldE (M := M_X12_lay) 252 dX12_lay_252 o_144 (by omega) (by omega) ((S25 144 2 rfl).trans ((S24 144 2 rfl).trans ex37)) ?_
                  refine z_vV (M := M_X12_lay) 253 dX12_lay_253 t_X12_triple l_X12_472 (m_rr_of rfl) (rest := []) (c_X12_triple4 h25 141 x35 x41 x37 (Or.inr (Or.inr rfl)) G25 ⟨by omega, by omega⟩ ⟨by omega, by omega⟩ ⟨by omega, by omega⟩) o_108 rfl rfl rfl (Nat.le_of_ble_eq_true rfl) ⟨rfl, rfl⟩ (fun h26 qx42 => ?_)
                  obtain ⟨G26, S26, D26_, V26_⟩ := qx42
                  have T26_ := tri_b (x := x35) (y := x41) (z := x37) ⟨by omega, by omega⟩ ⟨by omega, by omega⟩ ⟨by omega, by omega⟩
                  have R26 := R25.call S26 (by decide +kernel)
                  refine z_aload_n (M := M_X12_lay) 256 dX12_lay_256 rfl ?_
                  refine z_vV (M := M_X12_lay) 257 dX12_lay_257 t_X12_addFactor l_X12_476 (m_rr_of rfl) (rest := []) (c_X12_addFactor4 h26 G26 (by rw [(FR.row S26 (fun _ => rfl) : h26 139 = h25 139)]; exact D25_) D26_ (by rw [(FR.row S26 (fun _ => rfl) : h26 139 = h25 139), V25_, V26_]; omega)) o_108 rfl rfl rfl (Nat.le_of_ble_eq_true rfl) ⟨rfl, rfl⟩ (fun h27 qx43 => ?_)
                  obtain ⟨G27, S27, D27_, V27_⟩ := qx43
                  rw [(FR.row S26 (fun _ => rfl) : h26 139 = h25 139), V25_, V26_] at V27_
                  have R27 := R26.call S27 (by decide +kernel)
                  refine z_aload_n (M := M_X12_lay) 260 dX12_lay_260 rfl ?_
                  refine z_aload_n (M := M_X12_lay) 261 dX12_lay_261 rfl ?_
                  refine z_getR (M := M_X12_lay) 262 dX12_lay_262 f_X12_112 o_108 rfl (g_108_50 G27) ?_
                  refine z_aload_n (M := M_X12_lay) 265 dX12_lay_265 rfl ?_
                  refine z_getR (M := M_X12_lay) 266 dX12_lay_266 f_X12_121 o_108 rfl (g_108_53 G27) ?_
                  refine z_iconst (M := M_X12_lay) 269 dX12_lay_269 ?_
                  refine z_laldE (M := M_X12_lay) 270 dX12_lay_270 o_144 (by omega) (by omega) ((S27 144 0 rfl).trans ((S26 144 0 rfl).trans ((S25 144 0 rfl).trans ((S24 144 0 rfl).trans ex35)))) ?_
                  refine z_aload_n (M := M_X12_lay) 271 dX12_lay_271 rfl ?_
                  refine z_getR (M := M_X12_lay) 272 dX12_lay_272 f_X12_121 o_108 rfl (g_108_53 G27) ?_
                  refine z_iconst (M := M_X12_lay) 275 dX12_lay_275 ?_
                  refine z_laldE (M := M_X12_lay) 276 dX12_lay_276 o_144 (by omega) (by omega) ((S27 144 1 rfl).trans ((S26 144 1 rfl).trans ((S25 144 1 rfl).trans ((S24 144 1 rfl).trans ex36)))) ?_
                  refine z_aload_n (M := M_X12_lay) 277 dX12_lay_277 rfl ?_
                  refine z_getR (M := M_X12_lay) 278 dX12_lay_278 f_X12_118 o_108 rfl (g_108_52 G27) ?_
                  refine z_iconst (M := M_X12_lay) 281 dX12_lay_281 ?_
                  refine z_laldV (M := M_X12_lay) 282 dX12_lay_282 o_143 (by omega) (by omega) (fun x44 ex44 => ?_)
                  obtain rfl : x44 = n3 := ex44.symm.trans (((S27 143 2 rfl).trans ((S26 143 2 rfl).trans ((S25 143 2 rfl).trans (S24 143 2 rfl)))).trans m3_)
                  refine z_vV (M := M_X12_lay) 283 dX12_lay_283 t_X12_triple l_X12_472 (m_rr_of rfl) (rest := []) (c_X12_triple4 h27 141 x35 x36 x44 (Or.inr (Or.inr rfl)) G27 ⟨by omega, by omega⟩ ⟨by omega, by omega⟩ ⟨by omega, by omega⟩) o_108 rfl rfl rfl (Nat.le_of_ble_eq_true rfl) ⟨rfl, rfl⟩ (fun h28 qx45 => ?_)
                  obtain ⟨G28, S28, D28_, V28_⟩ := qx45
                  have T28_ := tri_b (x := x35) (y := x36) (z := x44) ⟨by omega, by omega⟩ ⟨by omega, by omega⟩ ⟨by omega, by omega⟩
                  have R28 := R27.call S28 (by decide +kernel)
                  refine z_aload_n (M := M_X12_lay) 286 dX12_lay_286 rfl ?_
                  refine z_vV (M := M_X12_lay) 287 dX12_lay_287 t_X12_addFactor l_X12_476 (m_rr_of rfl) (rest := []) (c_X12_addFactor4 h28 G28 (by rw [(FR.row S28 (fun _ => rfl) : h28 139 = h27 139)]; exact D27_) D28_ (by rw [(FR.row S28 (fun _ => rfl) : h28 139 = h27 139), V27_, V28_]; omega)) o_108 rfl rfl rfl (Nat.le_of_ble_eq_true rfl) ⟨rfl, rfl⟩ (fun h29 qx46 => ?_)
                  obtain ⟨G29, S29, D29_, V29_⟩ := qx46
                  rw [(FR.row S28 (fun _ => rfl) : h28 139 = h27 139), V27_, V28_] at V29_
                  have k_ : h29 140 = h24 140 := ((FR.row S29 (fun _ => rfl)).trans ((FR.row S28 (fun _ => rfl)).trans ((FR.row S27 (fun _ => rfl)).trans ((FR.row S26 (fun _ => rfl)).trans (FR.row S25 (fun _ => rfl))))))
                  have L_ : vS (h29 140) 0 10 = x35 * x36 * x37 := by rw [k_]; exact V24_
                  have W_ := Int.mul_pos (Int.mul_pos P_.1 P_.2.1) P_.2.2
                  have F55_ : h29 108 55 = h23 108 55 := ((S29 108 55 rfl).trans ((S28 108 55 rfl).trans ((S27 108 55 rfl).trans ((S26 108 55 rfl).trans ((S25 108 55 rfl).trans (S24 108 55 rfl))))))
                  have R29 := R28.call S29 (by decide +kernel)
                  refine z_aload_n (M := M_X12_lay) 290 dX12_lay_290 rfl ?_
                  refine z_sipush (M := M_X12_lay) 291 dX12_lay_291 ?_
                  refine z_iload (M := M_X12_lay) 294 dX12_lay_294 rfl ?_
                  refine z_if_eq_T (M := M_X12_lay) 296 dX12_lay_296 306 rfl (by omega) ?_
                  refine z_iconst (M := M_X12_lay) 306 dX12_lay_306 ?_
                  refine z_goto (M := M_X12_lay) 307 dX12_lay_307 311 rfl ?_
                  refine z_vI (M := M_X12_lay) 311 dX12_lay_311 t_X12_often l_X12_479 (m_rr_of rfl) (rest := []) (c_X12_often4 h29 6000 1 G29 ⟨by omega, by omega⟩ ⟨by omega, by omega⟩ D29_ (by rw [k_]; exact D24_) (by rw [L_]; omega)) o_108 rfl rfl rfl (Nat.le_of_ble_eq_true rfl) ⟨rfl, rfl⟩ (fun x47 h30 qx47 => ?_)
                  obtain ⟨G30, S30, ax47, bx47, fo_⟩ := qx47
                  have R30 := R29.call S30 (by decide +kernel)
                  exact z_retI (M := M_X12_lay) 314 dX12_lay_314 rfl ⟨G30, R30, by omega, by omega, Or.inr ⟨K_, x39, x35, o1, x41, x36, o2, x44, x37, o3, ⟨ly3_f F_.1 (by omega), ly3_f F_.2.1 (by omega), F_.2.2⟩, ly_e V29_ L_ fo_ ⟨fun z => absurd z (by decide), fun z => by have q0 := ly3_o F0_.1; have q1 := ly3_o F0_.2.1; have q2 := ly3_o F0_.2.2; omega⟩ P_⟩⟩
              · refine z_bipush (M := M_X12_lay) 96 dX12_lay_96 ?_
                exact z_retI (M := M_X12_lay) 98 dX12_lay_98 rfl ⟨G7, R7, by omega, by omega, Or.inl ⟨fun z => absurd (fx8_1.mpr ⟨z.1.2, tf_, z.2.2.2.2.2⟩) (by omega), rfl⟩⟩
          · refine z_if_eq_T (M := M_X12_lay) 47 dX12_lay_47 54 rfl (by omega) ?_
            refine z_iconst (M := M_X12_lay) 54 dX12_lay_54 ?_
            refine z_istore (M := M_X12_lay) 55 dX12_lay_55 (ls' := [some (mR 108), some (mI a1), some (mI a2), some (mI a3), some (mI a4), some (mI a5), some (mI 0)]) (by decide) rfl ?_
            refine z_iload (M := M_X12_lay) 57 dX12_lay_57 rfl ?_
            refine z_if_eq_T (M := M_X12_lay) 59 dX12_lay_59 96 rfl (by omega) ?_
            refine z_bipush (M := M_X12_lay) 96 dX12_lay_96 ?_
            exact z_retI (M := M_X12_lay) 98 dX12_lay_98 rfl ⟨G1, R1, by omega, by omega, Or.inl ⟨fun z => cx5 z.2.2.2.2.1, rfl⟩⟩
        · refine z_if_eq_T (M := M_X12_lay) 36 dX12_lay_36 54 rfl (by omega) ?_
          refine z_iconst (M := M_X12_lay) 54 dX12_lay_54 ?_
          refine z_istore (M := M_X12_lay) 55 dX12_lay_55 (ls' := [some (mR 108), some (mI a1), some (mI a2), some (mI a3), some (mI a4), some (mI a5), some (mI 0)]) (by decide) rfl ?_
          refine z_iload (M := M_X12_lay) 57 dX12_lay_57 rfl ?_
          refine z_if_eq_T (M := M_X12_lay) 59 dX12_lay_59 96 rfl (by omega) ?_
          refine z_bipush (M := M_X12_lay) 96 dX12_lay_96 ?_
          exact z_retI (M := M_X12_lay) 98 dX12_lay_98 rfl ⟨G1, R1, by omega, by omega, Or.inl ⟨fun z => cx4 z.2.2.2.1, rfl⟩⟩
      · refine z_iload_n (M := M_X12_lay) 24 dX12_lay_24 rfl ?_
        refine z_sI (M := M_X12_lay) 25 dX12_lay_25 t_X12_isGround l_X12_465 (m_rr_of rfl) (rest := []) (c_X12_isGround h1 a3 G1) rfl rfl (Nat.le_of_ble_eq_true rfl) ⟨rfl, rfl⟩ (fun x48 h31 qx48 => ?_)
        obtain ⟨rfl, ⟨rfl, cx48⟩ | ⟨rfl, cx48⟩⟩ := qx48
        · refine z_if_eq_F (M := M_X12_lay) 28 dX12_lay_28 54 rfl (by omega) ?_
          refine z_iload (M := M_X12_lay) 31 dX12_lay_31 rfl ?_
          refine z_sI (M := M_X12_lay) 33 dX12_lay_33 t_X12_isKeeper l_X12_169 (m_rr_of rfl) (rest := []) (c_X12_isKeeper h1 a4 G1) rfl rfl (Nat.le_of_ble_eq_true rfl) ⟨rfl, rfl⟩ (fun x49 h32 qx49 => ?_)
          obtain ⟨rfl, ⟨rfl, cx49⟩ | ⟨rfl, cx49⟩⟩ := qx49
          · refine z_if_eq_F (M := M_X12_lay) 36 dX12_lay_36 54 rfl (by omega) ?_
            refine z_iload (M := M_X12_lay) 39 dX12_lay_39 rfl ?_
            refine z_i2l (M := M_X12_lay) 41 dX12_lay_41 ?_
            refine z_lconst (M := M_X12_lay) 42 dX12_lay_42 (v := 0) ?_
            refine z_lconst (M := M_X12_lay) 43 dX12_lay_43 (v := 1) ?_
            refine z_sI (M := M_X12_lay) 44 dX12_lay_44 t_X12_in l_X12_143 (m_rr_of rfl) (rest := []) (c_X12_in h1 a5 0 1 G1) rfl rfl (Nat.le_of_ble_eq_true rfl) ⟨rfl, rfl⟩ (fun x50 h33 qx50 => ?_)
            obtain ⟨rfl, ⟨rfl, cx50⟩ | ⟨rfl, cx50⟩⟩ := qx50
            · refine z_if_eq_F (M := M_X12_lay) 47 dX12_lay_47 54 rfl (by omega) ?_
              refine z_iconst (M := M_X12_lay) 50 dX12_lay_50 ?_
              refine z_goto (M := M_X12_lay) 51 dX12_lay_51 55 rfl ?_
              refine z_istore (M := M_X12_lay) 55 dX12_lay_55 (ls' := [some (mR 108), some (mI a1), some (mI a2), some (mI a3), some (mI a4), some (mI a5), some (mI 1)]) (by decide) rfl ?_
              refine z_iload (M := M_X12_lay) 57 dX12_lay_57 rfl ?_
              refine z_if_eq_F (M := M_X12_lay) 59 dX12_lay_59 96 rfl (by omega) ?_
              refine z_aload_n (M := M_X12_lay) 62 dX12_lay_62 rfl ?_
              refine z_iload_n (M := M_X12_lay) 63 dX12_lay_63 rfl ?_
              refine z_vI (M := M_X12_lay) 64 dX12_lay_64 t_X12_isLength l_X12_391 (m_rr_of rfl) (rest := []) (c_X12_isLength2 h1 a2 G1) o_108 rfl rfl rfl (Nat.le_of_ble_eq_true rfl) ⟨rfl, rfl⟩ (fun x51 h34 qx51 => ?_)
              obtain ⟨G34, S34, ax51, bx51, fx51_0, fx51_1⟩ := qx51
              rw [(FR.row R1 (fun _ => rfl) : h1 110 = h0 110)] at fx51_1
              have R34 := R1.call S34 (by decide +kernel)
              refine z_if_eq (M := M_X12_lay) 67 dX12_lay_67 96 rfl (fun c52 => ?_) (fun c52 => ?_)
              · refine z_bipush (M := M_X12_lay) 96 dX12_lay_96 ?_
                exact z_retI (M := M_X12_lay) 98 dX12_lay_98 rfl ⟨G34, R34, by omega, by omega, Or.inl ⟨fun z => absurd (fx51_1.mpr z.2.1.2) (by omega), rfl⟩⟩
              · refine z_iload_n (M := M_X12_lay) 70 dX12_lay_70 rfl ?_
                refine z_iconst (M := M_X12_lay) 71 dX12_lay_71 ?_
                refine z_icmp_eq_F (M := M_X12_lay) 72 dX12_lay_72 83 rfl (by omega) ?_
                refine z_aload_n (M := M_X12_lay) 75 dX12_lay_75 rfl ?_
                refine z_iload_n (M := M_X12_lay) 76 dX12_lay_76 rfl ?_
                refine z_vI (M := M_X12_lay) 77 dX12_lay_77 t_X12_isLength l_X12_391 (m_rr_of rfl) (rest := []) (c_X12_isLength2 h34 a3 G34) o_108 rfl rfl rfl (Nat.le_of_ble_eq_true rfl) ⟨rfl, rfl⟩ (fun x53 h35 qx53 => ?_)
                obtain ⟨G35, S35, ax53, bx53, fx53_0, fx53_1⟩ := qx53
                rw [(FR.row R34 (fun _ => rfl) : h34 110 = h0 110)] at fx53_1
                have R35 := R34.call S35 (by decide +kernel)
                refine z_if_eq (M := M_X12_lay) 80 dX12_lay_80 96 rfl (fun c54 => ?_) (fun c54 => ?_)
                · refine z_bipush (M := M_X12_lay) 96 dX12_lay_96 ?_
                  exact z_retI (M := M_X12_lay) 98 dX12_lay_98 rfl ⟨G35, R35, by omega, by omega, Or.inl ⟨fun z => z.2.2.1.elim (fun y => absurd y (by omega)) (fun y => absurd (fx53_1.mpr y.2) (by omega)), rfl⟩⟩
                · refine z_aload_n (M := M_X12_lay) 83 dX12_lay_83 rfl ?_
                  refine z_iload_n (M := M_X12_lay) 84 dX12_lay_84 rfl ?_
                  refine z_bipush (M := M_X12_lay) 85 dX12_lay_85 ?_
                  refine z_iload (M := M_X12_lay) 87 dX12_lay_87 rfl ?_
                  refine z_iaddN (M := M_X12_lay) 89 dX12_lay_89 (by omega) (by omega) ?_
                  refine z_vI (M := M_X12_lay) 90 dX12_lay_90 t_X12_isAnswered l_X12_394 (m_rr_of rfl) (rest := []) (c_X12_isAnswered2 h35 a1 (12 + a4) G35 (NP.call hN R35 (fun _ => rfl) (fun _ => rfl) (fun _ => rfl))) o_108 rfl rfl rfl (Nat.le_of_ble_eq_true rfl) ⟨rfl, rfl⟩ (fun x55 h36 qx55 => ?_)
                  obtain ⟨G36, S36, ax55, bx55, fx55_0, fx55_1⟩ := qx55
                  rw [(FR.row R35 (fun _ => rfl) : h35 110 = h0 110)] at fx55_1
                  have tf_ : thr (h0 110) (12 + a4) := ⟨by omega, by omega, Or.inr (Or.inl (by omega))⟩
                  have R36 := R35.call S36 (by decide +kernel)
                  refine z_if_ne (M := M_X12_lay) 93 dX12_lay_93 99 rfl (fun c56 => ?_) (fun c56 => ?_)
                  · have an := fx55_0 (by omega)
                    have an1 := an.1
                    have Q_ := fx55_1.mp (by omega)
                    have K_ : lyK (h0 110) a1 a2 a3 a4 a5 := ⟨⟨⟨by omega, by omega⟩, Q_.1⟩, ⟨⟨by omega, by omega⟩, fx51_1.mp (by omega)⟩, Or.inr ⟨⟨by omega, by omega⟩, fx53_1.mp (by omega)⟩, cx49, cx50, Q_.2.2⟩
                    have an2 := an.2.1
                    refine z_aload_n (M := M_X12_lay) 99 dX12_lay_99 rfl ?_
                    refine z_iconst (M := M_X12_lay) 100 dX12_lay_100 ?_
                    refine z_putZH (M := M_X12_lay) 101 dX12_lay_101 p_X12_459 o_108 rfl (by omega) (u_108_54 G36 (by omega) (by omega)) (R36.up rfl) (fun h37 E37 G37 R37 => ?_)
                    refine z_aload_n (M := M_X12_lay) 104 dX12_lay_104 rfl ?_
                    refine z_iconst (M := M_X12_lay) 105 dX12_lay_105 ?_
                    refine z_putZH (M := M_X12_lay) 106 dX12_lay_106 p_X12_462 o_108 rfl (by omega) (u_108_55 G37 (by omega) (by omega)) (R37.up rfl) (fun h38 E38 G38 R38 => ?_)
                    refine z_aload_n (M := M_X12_lay) 109 dX12_lay_109 rfl ?_
                    refine z_iconst (M := M_X12_lay) 110 dX12_lay_110 ?_
                    refine z_iload_n (M := M_X12_lay) 111 dX12_lay_111 rfl ?_
                    refine z_iload (M := M_X12_lay) 112 dX12_lay_112 rfl ?_
                    refine z_iload (M := M_X12_lay) 114 dX12_lay_114 rfl ?_
                    refine z_if_ne (M := M_X12_lay) 116 dX12_lay_116 123 rfl (fun c57 => ?_) (fun c57 => ?_)
                    · refine z_iconst (M := M_X12_lay) 123 dX12_lay_123 ?_
                      refine z_vV (M := M_X12_lay) 124 dX12_lay_124 t_X12_takeEnd l_X12_468 (m_rr_of rfl) (rest := []) (c_X12_takeEnd4 h38 0 a1 a4 0 G38 ⟨by omega, by omega⟩ ⟨by omega, by omega⟩ ⟨by omega, by omega⟩ ⟨by omega, by omega⟩ (NP.call hN R38 (fun _ => rfl) (fun _ => rfl) (fun _ => rfl)) (gG_f (gG_b an.2.2 R35 (fun _ => rfl)) R38 (fun _ => rfl))) o_108 rfl rfl rfl (Nat.le_of_ble_eq_true rfl) ⟨rfl, rfl⟩ (fun h39 qx58 => ?_)
                      obtain ⟨G39, S39, A39_⟩ := qx58
                      rw [(FR.row R38 (fun _ => rfl) : h38 110 = h0 110)] at A39_
                      have R39 := R38.call S39 (by decide +kernel)
                      refine z_aload_n (M := M_X12_lay) 127 dX12_lay_127 rfl ?_
                      refine z_iconst (M := M_X12_lay) 128 dX12_lay_128 ?_
                      refine z_iload_n (M := M_X12_lay) 129 dX12_lay_129 rfl ?_
                      refine z_iload (M := M_X12_lay) 130 dX12_lay_130 rfl ?_
                      refine z_iload (M := M_X12_lay) 132 dX12_lay_132 rfl ?_
                      refine z_if_ne_T (M := M_X12_lay) 134 dX12_lay_134 141 rfl (by omega) ?_
                      refine z_iconst (M := M_X12_lay) 141 dX12_lay_141 ?_
                      refine z_vV (M := M_X12_lay) 142 dX12_lay_142 t_X12_takeEnd l_X12_468 (m_rr_of rfl) (rest := []) (c_X12_takeEnd4 h39 1 a2 a4 0 G39 ⟨by omega, by omega⟩ ⟨by omega, by omega⟩ ⟨by omega, by omega⟩ ⟨by omega, by omega⟩ (NP.call hN R39 (fun _ => rfl) (fun _ => rfl) (fun _ => rfl)) (gG_f (gG_b an.2.2 R35 (fun _ => rfl)) R39 (fun _ => rfl))) o_108 rfl rfl rfl (Nat.le_of_ble_eq_true rfl) ⟨rfl, rfl⟩ (fun h40 qx59 => ?_)
                      obtain ⟨G40, S40, A40_⟩ := qx59
                      rw [(FR.row R39 (fun _ => rfl) : h39 110 = h0 110)] at A40_
                      have R40 := R39.call S40 (by decide +kernel)
                      refine z_aload_n (M := M_X12_lay) 145 dX12_lay_145 rfl ?_
                      refine z_iconst (M := M_X12_lay) 146 dX12_lay_146 ?_
                      refine z_iload_n (M := M_X12_lay) 147 dX12_lay_147 rfl ?_
                      refine z_iload (M := M_X12_lay) 148 dX12_lay_148 rfl ?_
                      refine z_iload (M := M_X12_lay) 150 dX12_lay_150 rfl ?_
                      refine z_if_ne_T (M := M_X12_lay) 152 dX12_lay_152 159 rfl (by omega) ?_
                      refine z_iconst (M := M_X12_lay) 159 dX12_lay_159 ?_
                      refine z_vV (M := M_X12_lay) 160 dX12_lay_160 t_X12_takeEnd l_X12_468 (m_rr_of rfl) (rest := []) (c_X12_takeEnd4 h40 2 a3 a4 0 G40 ⟨by omega, by omega⟩ ⟨by omega, by omega⟩ ⟨by omega, by omega⟩ ⟨by omega, by omega⟩ (NP.call hN R40 (fun _ => rfl) (fun _ => rfl) (fun _ => rfl)) (gG_f (gG_b an.2.2 R35 (fun _ => rfl)) R40 (fun _ => rfl))) o_108 rfl rfl rfl (Nat.le_of_ble_eq_true rfl) ⟨rfl, rfl⟩ (fun h41 qx60 => ?_)
                      obtain ⟨G41, S41, A41_⟩ := qx60
                      rw [(FR.row R40 (fun _ => rfl) : h40 110 = h0 110)] at A41_
                      have R41 := R40.call S41 (by decide +kernel)
                      obtain ⟨n1, d1, o1, n2, d2, o2, n3, d3, o3, F_, Z_⟩ := te_3 A39_ A40_ A41_ (w := a5) (by rw [if_pos rfl]; omega) ((upN E38 (by decide)).trans (upE E37)) (upE E38)
                      refine z_iload (M := M_X12_lay) 163 dX12_lay_163 rfl ?_
                      refine z_iconst (M := M_X12_lay) 165 dX12_lay_165 ?_
                      refine z_icmp_ne_F (M := M_X12_lay) 166 dX12_lay_166 178 rfl (by omega) ?_
                      refine z_aload_n (M := M_X12_lay) 169 dX12_lay_169 rfl ?_
                      refine z_getIG (M := M_X12_lay) 170 dX12_lay_170 f_X12_459 o_108 (by decide) (g_108_54 G41) (fun x61 ex61 ax61 bx61 => ?_)
                      refine z_if_ne (M := M_X12_lay) 173 dX12_lay_173 178 rfl (fun c62 => ?_) (fun c62 => ?_)
                      · refine z_aload_n (M := M_X12_lay) 178 dX12_lay_178 rfl ?_
                        refine z_aload_n (M := M_X12_lay) 179 dX12_lay_179 rfl ?_
                        refine z_getR (M := M_X12_lay) 180 dX12_lay_180 f_X12_109 o_108 rfl (g_108_49 G41) ?_
                        refine z_aload_n (M := M_X12_lay) 183 dX12_lay_183 rfl ?_
                        refine z_getR (M := M_X12_lay) 184 dX12_lay_184 f_X12_121 o_108 rfl (g_108_53 G41) ?_
                        refine z_iconst (M := M_X12_lay) 187 dX12_lay_187 ?_
                        obtain ⟨y54_, P_, B1_, B2_, B3_, ⟨m1_, e1_⟩, ⟨m2_, e2_⟩, ⟨m3_, e3_⟩, t55_⟩ := Z_.resolve_left (fun y => by have z1 := y.1; have z2 := y.2.1; omega)
                        unfold teB at B1_ B2_ B3_
                        refine z_laldV (M := M_X12_lay) 188 dX12_lay_188 o_144 (by omega) (by omega) (fun x63 ex63 => ?_)
                        obtain rfl : x63 = d1 := ex63.symm.trans e1_
                        refine z_aload_n (M := M_X12_lay) 189 dX12_lay_189 rfl ?_
                        refine z_getR (M := M_X12_lay) 190 dX12_lay_190 f_X12_121 o_108 rfl (g_108_53 G41) ?_
                        refine z_iconst (M := M_X12_lay) 193 dX12_lay_193 ?_
                        refine z_laldV (M := M_X12_lay) 194 dX12_lay_194 o_144 (by omega) (by omega) (fun x64 ex64 => ?_)
                        obtain rfl : x64 = d2 := ex64.symm.trans e2_
                        refine z_aload_n (M := M_X12_lay) 195 dX12_lay_195 rfl ?_
                        refine z_getR (M := M_X12_lay) 196 dX12_lay_196 f_X12_121 o_108 rfl (g_108_53 G41) ?_
                        refine z_iconst (M := M_X12_lay) 199 dX12_lay_199 ?_
                        refine z_laldV (M := M_X12_lay) 200 dX12_lay_200 o_144 (by omega) (by omega) (fun x65 ex65 => ?_)
                        obtain rfl : x65 = d3 := ex65.symm.trans e3_
                        refine z_vV (M := M_X12_lay) 201 dX12_lay_201 t_X12_triple l_X12_472 (m_rr_of rfl) (rest := []) (c_X12_triple4 h41 140 x63 x64 x65 (Or.inr (Or.inl rfl)) G41 ⟨by omega, by omega⟩ ⟨by omega, by omega⟩ ⟨by omega, by omega⟩) o_108 rfl rfl rfl (Nat.le_of_ble_eq_true rfl) ⟨rfl, rfl⟩ (fun h42 qx66 => ?_)
                        obtain ⟨G42, S42, D42_, V42_⟩ := qx66
                        have T42_ := tri_b (x := x63) (y := x64) (z := x65) ⟨by omega, by omega⟩ ⟨by omega, by omega⟩ ⟨by omega, by omega⟩
                        have R42 := R41.call S42 (by decide +kernel)
                        refine z_aload_n (M := M_X12_lay) 204 dX12_lay_204 rfl ?_
                        refine z_aload_n (M := M_X12_lay) 205 dX12_lay_205 rfl ?_
                        refine z_getR (M := M_X12_lay) 206 dX12_lay_206 f_X12_106 o_108 rfl (g_108_48 G42) ?_
                        refine z_aload_n (M := M_X12_lay) 209 dX12_lay_209 rfl ?_
                        refine z_getR (M := M_X12_lay) 210 dX12_lay_210 f_X12_118 o_108 rfl (g_108_52 G42) ?_
                        refine z_iconst (M := M_X12_lay) 213 dX12_lay_213 ?_
                        refine z_laldV (M := M_X12_lay) 214 dX12_lay_214 o_143 (by omega) (by omega) (fun x67 ex67 => ?_)
                        obtain rfl : x67 = n1 := ex67.symm.trans ((S42 143 0 rfl).trans m1_)
                        refine z_aload_n (M := M_X12_lay) 215 dX12_lay_215 rfl ?_
                        refine z_getR (M := M_X12_lay) 216 dX12_lay_216 f_X12_121 o_108 rfl (g_108_53 G42) ?_
                        refine z_iconst (M := M_X12_lay) 219 dX12_lay_219 ?_
                        refine z_laldE (M := M_X12_lay) 220 dX12_lay_220 o_144 (by omega) (by omega) ((S42 144 1 rfl).trans ex64) ?_
                        refine z_aload_n (M := M_X12_lay) 221 dX12_lay_221 rfl ?_
                        refine z_getR (M := M_X12_lay) 222 dX12_lay_222 f_X12_121 o_108 rfl (g_108_53 G42) ?_
                        refine z_iconst (M := M_X12_lay) 225 dX12_lay_225 ?_
                        refine z_laldE (M := M_X12_lay) 226 dX12_lay_226 o_144 (by omega) (by omega) ((S42 144 2 rfl).trans ex65) ?_
                        refine z_vV (M := M_X12_lay) 227 dX12_lay_227 t_X12_triple l_X12_472 (m_rr_of rfl) (rest := []) (c_X12_triple4 h42 139 x67 x64 x65 (Or.inl rfl) G42 ⟨by omega, by omega⟩ ⟨by omega, by omega⟩ ⟨by omega, by omega⟩) o_108 rfl rfl rfl (Nat.le_of_ble_eq_true rfl) ⟨rfl, rfl⟩ (fun h43 qx68 => ?_)
                        obtain ⟨G43, S43, D43_, V43_⟩ := qx68
                        have T43_ := tri_b (x := x67) (y := x64) (z := x65) ⟨by omega, by omega⟩ ⟨by omega, by omega⟩ ⟨by omega, by omega⟩
                        have R43 := R42.call S43 (by decide +kernel)
                        refine z_aload_n (M := M_X12_lay) 230 dX12_lay_230 rfl ?_
                        refine z_aload_n (M := M_X12_lay) 231 dX12_lay_231 rfl ?_
                        refine z_getR (M := M_X12_lay) 232 dX12_lay_232 f_X12_112 o_108 rfl (g_108_50 G43) ?_
                        refine z_aload_n (M := M_X12_lay) 235 dX12_lay_235 rfl ?_
                        refine z_getR (M := M_X12_lay) 236 dX12_lay_236 f_X12_121 o_108 rfl (g_108_53 G43) ?_
                        refine z_iconst (M := M_X12_lay) 239 dX12_lay_239 ?_
                        refine z_laldE (M := M_X12_lay) 240 dX12_lay_240 o_144 (by omega) (by omega) ((S43 144 0 rfl).trans ((S42 144 0 rfl).trans ex63)) ?_
                        refine z_aload_n (M := M_X12_lay) 241 dX12_lay_241 rfl ?_
                        refine z_getR (M := M_X12_lay) 242 dX12_lay_242 f_X12_118 o_108 rfl (g_108_52 G43) ?_
                        refine z_iconst (M := M_X12_lay) 245 dX12_lay_245 ?_
                        refine z_laldV (M := M_X12_lay) 246 dX12_lay_246 o_143 (by omega) (by omega) (fun x69 ex69 => ?_)
                        obtain rfl : x69 = n2 := ex69.symm.trans (((S43 143 1 rfl).trans (S42 143 1 rfl)).trans m2_)
                        refine z_aload_n (M := M_X12_lay) 247 dX12_lay_247 rfl ?_
                        refine z_getR (M := M_X12_lay) 248 dX12_lay_248 f_X12_121 o_108 rfl (g_108_53 G43) ?_
                        refine z_iconst (M := M_X12_lay) 251 dX12_lay_251 ?_
                        refine z_laldE (M := M_X12_lay) 252 dX12_lay_252 o_144 (by omega) (by omega) ((S43 144 2 rfl).trans ((S42 144 2 rfl).trans ex65)) ?_
                        refine z_vV (M := M_X12_lay) 253 dX12_lay_253 t_X12_triple l_X12_472 (m_rr_of rfl) (rest := []) (c_X12_triple4 h43 141 x63 x69 x65 (Or.inr (Or.inr rfl)) G43 ⟨by omega, by omega⟩ ⟨by omega, by omega⟩ ⟨by omega, by omega⟩) o_108 rfl rfl rfl (Nat.le_of_ble_eq_true rfl) ⟨rfl, rfl⟩ (fun h44 qx70 => ?_)
                        obtain ⟨G44, S44, D44_, V44_⟩ := qx70
                        have T44_ := tri_b (x := x63) (y := x69) (z := x65) ⟨by omega, by omega⟩ ⟨by omega, by omega⟩ ⟨by omega, by omega⟩
                        have R44 := R43.call S44 (by decide +kernel)
                        refine z_aload_n (M := M_X12_lay) 256 dX12_lay_256 rfl ?_
                        refine z_vV (M := M_X12_lay) 257 dX12_lay_257 t_X12_addFactor l_X12_476 (m_rr_of rfl) (rest := []) (c_X12_addFactor4 h44 G44 (by rw [(FR.row S44 (fun _ => rfl) : h44 139 = h43 139)]; exact D43_) D44_ (by rw [(FR.row S44 (fun _ => rfl) : h44 139 = h43 139), V43_, V44_]; omega)) o_108 rfl rfl rfl (Nat.le_of_ble_eq_true rfl) ⟨rfl, rfl⟩ (fun h45 qx71 => ?_)
                        obtain ⟨G45, S45, D45_, V45_⟩ := qx71
                        rw [(FR.row S44 (fun _ => rfl) : h44 139 = h43 139), V43_, V44_] at V45_
                        have R45 := R44.call S45 (by decide +kernel)
                        refine z_aload_n (M := M_X12_lay) 260 dX12_lay_260 rfl ?_
                        refine z_aload_n (M := M_X12_lay) 261 dX12_lay_261 rfl ?_
                        refine z_getR (M := M_X12_lay) 262 dX12_lay_262 f_X12_112 o_108 rfl (g_108_50 G45) ?_
                        refine z_aload_n (M := M_X12_lay) 265 dX12_lay_265 rfl ?_
                        refine z_getR (M := M_X12_lay) 266 dX12_lay_266 f_X12_121 o_108 rfl (g_108_53 G45) ?_
                        refine z_iconst (M := M_X12_lay) 269 dX12_lay_269 ?_
                        refine z_laldE (M := M_X12_lay) 270 dX12_lay_270 o_144 (by omega) (by omega) ((S45 144 0 rfl).trans ((S44 144 0 rfl).trans ((S43 144 0 rfl).trans ((S42 144 0 rfl).trans ex63)))) ?_
                        refine z_aload_n (M := M_X12_lay) 271 dX12_lay_271 rfl ?_
                        refine z_getR (M := M_X12_lay) 272 dX12_lay_272 f_X12_121 o_108 rfl (g_108_53 G45) ?_
                        refine z_iconst (M := M_X12_lay) 275 dX12_lay_275 ?_
                        refine z_laldE (M := M_X12_lay) 276 dX12_lay_276 o_144 (by omega) (by omega) ((S45 144 1 rfl).trans ((S44 144 1 rfl).trans ((S43 144 1 rfl).trans ((S42 144 1 rfl).trans ex64)))) ?_
                        refine z_aload_n (M := M_X12_lay) 277 dX12_lay_277 rfl ?_
                        refine z_getR (M := M_X12_lay) 278 dX12_lay_278 f_X12_118 o_108 rfl (g_108_52 G45) ?_
                        refine z_iconst (M := M_X12_lay) 281 dX12_lay_281 ?_
                        refine z_laldV (M := M_X12_lay) 282 dX12_lay_282 o_143 (by omega) (by omega) (fun x72 ex72 => ?_)
                        obtain rfl : x72 = n3 := ex72.symm.trans (((S45 143 2 rfl).trans ((S44 143 2 rfl).trans ((S43 143 2 rfl).trans (S42 143 2 rfl)))).trans m3_)
                        refine z_vV (M := M_X12_lay) 283 dX12_lay_283 t_X12_triple l_X12_472 (m_rr_of rfl) (rest := []) (c_X12_triple4 h45 141 x63 x64 x72 (Or.inr (Or.inr rfl)) G45 ⟨by omega, by omega⟩ ⟨by omega, by omega⟩ ⟨by omega, by omega⟩) o_108 rfl rfl rfl (Nat.le_of_ble_eq_true rfl) ⟨rfl, rfl⟩ (fun h46 qx73 => ?_)
                        obtain ⟨G46, S46, D46_, V46_⟩ := qx73
                        have T46_ := tri_b (x := x63) (y := x64) (z := x72) ⟨by omega, by omega⟩ ⟨by omega, by omega⟩ ⟨by omega, by omega⟩
                        have R46 := R45.call S46 (by decide +kernel)
                        refine z_aload_n (M := M_X12_lay) 286 dX12_lay_286 rfl ?_
                        refine z_vV (M := M_X12_lay) 287 dX12_lay_287 t_X12_addFactor l_X12_476 (m_rr_of rfl) (rest := []) (c_X12_addFactor4 h46 G46 (by rw [(FR.row S46 (fun _ => rfl) : h46 139 = h45 139)]; exact D45_) D46_ (by rw [(FR.row S46 (fun _ => rfl) : h46 139 = h45 139), V45_, V46_]; omega)) o_108 rfl rfl rfl (Nat.le_of_ble_eq_true rfl) ⟨rfl, rfl⟩ (fun h47 qx74 => ?_)
                        obtain ⟨G47, S47, D47_, V47_⟩ := qx74
                        rw [(FR.row S46 (fun _ => rfl) : h46 139 = h45 139), V45_, V46_] at V47_
                        have k_ : h47 140 = h42 140 := ((FR.row S47 (fun _ => rfl)).trans ((FR.row S46 (fun _ => rfl)).trans ((FR.row S45 (fun _ => rfl)).trans ((FR.row S44 (fun _ => rfl)).trans (FR.row S43 (fun _ => rfl))))))
                        have L_ : vS (h47 140) 0 10 = x63 * x64 * x65 := by rw [k_]; exact V42_
                        have W_ := Int.mul_pos (Int.mul_pos P_.1 P_.2.1) P_.2.2
                        have F55_ : h47 108 55 = h41 108 55 := ((S47 108 55 rfl).trans ((S46 108 55 rfl).trans ((S45 108 55 rfl).trans ((S44 108 55 rfl).trans ((S43 108 55 rfl).trans (S42 108 55 rfl))))))
                        have R47 := R46.call S47 (by decide +kernel)
                        refine z_aload_n (M := M_X12_lay) 290 dX12_lay_290 rfl ?_
                        refine z_sipush (M := M_X12_lay) 291 dX12_lay_291 ?_
                        refine z_iload (M := M_X12_lay) 294 dX12_lay_294 rfl ?_
                        refine z_if_eq_F (M := M_X12_lay) 296 dX12_lay_296 306 rfl (by omega) ?_
                        refine z_aload_n (M := M_X12_lay) 299 dX12_lay_299 rfl ?_
                        refine z_getIG (M := M_X12_lay) 300 dX12_lay_300 f_X12_462 o_108 (by decide) (g_108_55 G47) (fun x75 ex75 ax75 bx75 => ?_)
                        refine z_if_eq (M := M_X12_lay) 303 dX12_lay_303 310 rfl (fun c76 => ?_) (fun c76 => ?_)
                        · refine z_iconst (M := M_X12_lay) 310 dX12_lay_310 ?_
                          refine z_vI (M := M_X12_lay) 311 dX12_lay_311 t_X12_often l_X12_479 (m_rr_of rfl) (rest := []) (c_X12_often4 h47 6000 0 G47 ⟨by omega, by omega⟩ ⟨by omega, by omega⟩ D47_ (by rw [k_]; exact D42_) (by rw [L_]; omega)) o_108 rfl rfl rfl (Nat.le_of_ble_eq_true rfl) ⟨rfl, rfl⟩ (fun x77 h48 qx77 => ?_)
                          obtain ⟨G48, S48, ax77, bx77, fo_⟩ := qx77
                          have R48 := R47.call S48 (by decide +kernel)
                          exact z_retI (M := M_X12_lay) 314 dX12_lay_314 rfl ⟨G48, R48, by omega, by omega, Or.inr ⟨K_, x67, x63, o1, x69, x64, o2, x72, x65, o3, ⟨ly3_f F_.1 (by omega), ly3_f F_.2.1 (by omega), F_.2.2⟩, ly_e V47_ L_ fo_ ⟨fun _ => by have z := t55_ rfl; omega, fun _ => rfl⟩ P_⟩⟩
                        · refine z_iconst (M := M_X12_lay) 306 dX12_lay_306 ?_
                          refine z_goto (M := M_X12_lay) 307 dX12_lay_307 311 rfl ?_
                          refine z_vI (M := M_X12_lay) 311 dX12_lay_311 t_X12_often l_X12_479 (m_rr_of rfl) (rest := []) (c_X12_often4 h47 6000 1 G47 ⟨by omega, by omega⟩ ⟨by omega, by omega⟩ D47_ (by rw [k_]; exact D42_) (by rw [L_]; omega)) o_108 rfl rfl rfl (Nat.le_of_ble_eq_true rfl) ⟨rfl, rfl⟩ (fun x78 h49 qx78 => ?_)
                          obtain ⟨G49, S49, ax78, bx78, fo_⟩ := qx78
                          have R49 := R47.call S49 (by decide +kernel)
                          exact z_retI (M := M_X12_lay) 314 dX12_lay_314 rfl ⟨G49, R49, by omega, by omega, Or.inr ⟨K_, x67, x63, o1, x69, x64, o2, x72, x65, o3, ⟨ly3_f F_.1 (by omega), ly3_f F_.2.1 (by omega), F_.2.2⟩, ly_e V47_ L_ fo_ ⟨fun z => absurd z (by decide), fun z => by have t := t55_ rfl; omega⟩ P_⟩⟩
                      · refine z_iconst (M := M_X12_lay) 176 dX12_lay_176 ?_
                        exact z_retI (M := M_X12_lay) 177 dX12_lay_177 rfl ⟨G41, R41, by omega, by omega, Or.inr ⟨K_, n1, d1, o1, n2, d2, o2, n3, d3, o3, ⟨ly3_f F_.1 (by omega), ly3_f F_.2.1 (by omega), F_.2.2⟩, Or.inl ⟨(Z_.resolve_right (fun y => by have z := y.1 rfl; omega)).2.2, rfl⟩⟩⟩
                    · refine z_iconst (M := M_X12_lay) 119 dX12_lay_119 ?_
                      refine z_goto (M := M_X12_lay) 120 dX12_lay_120 124 rfl ?_
                      refine z_vV (M := M_X12_lay) 124 dX12_lay_124 t_X12_takeEnd l_X12_468 (m_rr_of rfl) (rest := []) (c_X12_takeEnd4 h38 0 a1 a4 1 G38 ⟨by omega, by omega⟩ ⟨by omega, by omega⟩ ⟨by omega, by omega⟩ ⟨by omega, by omega⟩ (NP.call hN R38 (fun _ => rfl) (fun _ => rfl) (fun _ => rfl)) (gG_f (gG_b an.2.2 R35 (fun _ => rfl)) R38 (fun _ => rfl))) o_108 rfl rfl rfl (Nat.le_of_ble_eq_true rfl) ⟨rfl, rfl⟩ (fun h50 qx79 => ?_)
                      obtain ⟨G50, S50, A50_⟩ := qx79
                      rw [(FR.row R38 (fun _ => rfl) : h38 110 = h0 110)] at A50_
                      have R50 := R38.call S50 (by decide +kernel)
                      refine z_aload_n (M := M_X12_lay) 127 dX12_lay_127 rfl ?_
                      refine z_iconst (M := M_X12_lay) 128 dX12_lay_128 ?_
                      refine z_iload_n (M := M_X12_lay) 129 dX12_lay_129 rfl ?_
                      refine z_iload (M := M_X12_lay) 130 dX12_lay_130 rfl ?_
                      refine z_iload (M := M_X12_lay) 132 dX12_lay_132 rfl ?_
                      refine z_if_ne_F (M := M_X12_lay) 134 dX12_lay_134 141 rfl (by omega) ?_
                      refine z_iconst (M := M_X12_lay) 137 dX12_lay_137 ?_
                      refine z_goto (M := M_X12_lay) 138 dX12_lay_138 142 rfl ?_
                      refine z_vV (M := M_X12_lay) 142 dX12_lay_142 t_X12_takeEnd l_X12_468 (m_rr_of rfl) (rest := []) (c_X12_takeEnd4 h50 1 a2 a4 1 G50 ⟨by omega, by omega⟩ ⟨by omega, by omega⟩ ⟨by omega, by omega⟩ ⟨by omega, by omega⟩ (NP.call hN R50 (fun _ => rfl) (fun _ => rfl) (fun _ => rfl)) (gG_f (gG_b an.2.2 R35 (fun _ => rfl)) R50 (fun _ => rfl))) o_108 rfl rfl rfl (Nat.le_of_ble_eq_true rfl) ⟨rfl, rfl⟩ (fun h51 qx80 => ?_)
                      obtain ⟨G51, S51, A51_⟩ := qx80
                      rw [(FR.row R50 (fun _ => rfl) : h50 110 = h0 110)] at A51_
                      have R51 := R50.call S51 (by decide +kernel)
                      refine z_aload_n (M := M_X12_lay) 145 dX12_lay_145 rfl ?_
                      refine z_iconst (M := M_X12_lay) 146 dX12_lay_146 ?_
                      refine z_iload_n (M := M_X12_lay) 147 dX12_lay_147 rfl ?_
                      refine z_iload (M := M_X12_lay) 148 dX12_lay_148 rfl ?_
                      refine z_iload (M := M_X12_lay) 150 dX12_lay_150 rfl ?_
                      refine z_if_ne_F (M := M_X12_lay) 152 dX12_lay_152 159 rfl (by omega) ?_
                      refine z_iconst (M := M_X12_lay) 155 dX12_lay_155 ?_
                      refine z_goto (M := M_X12_lay) 156 dX12_lay_156 160 rfl ?_
                      refine z_vV (M := M_X12_lay) 160 dX12_lay_160 t_X12_takeEnd l_X12_468 (m_rr_of rfl) (rest := []) (c_X12_takeEnd4 h51 2 a3 a4 1 G51 ⟨by omega, by omega⟩ ⟨by omega, by omega⟩ ⟨by omega, by omega⟩ ⟨by omega, by omega⟩ (NP.call hN R51 (fun _ => rfl) (fun _ => rfl) (fun _ => rfl)) (gG_f (gG_b an.2.2 R35 (fun _ => rfl)) R51 (fun _ => rfl))) o_108 rfl rfl rfl (Nat.le_of_ble_eq_true rfl) ⟨rfl, rfl⟩ (fun h52 qx81 => ?_)
                      obtain ⟨G52, S52, A52_⟩ := qx81
                      rw [(FR.row R51 (fun _ => rfl) : h51 110 = h0 110)] at A52_
                      have R52 := R51.call S52 (by decide +kernel)
                      obtain ⟨n1, d1, o1, n2, d2, o2, n3, d3, o3, F_, Z_⟩ := te_3 A50_ A51_ A52_ (w := a5) (by rw [if_neg (by decide)]; omega) ((upN E38 (by decide)).trans (upE E37)) (upE E38)
                      have w0_ : a5 = 0 := by omega
                      have F0_ := F_
                      rw [w0_] at F0_
                      refine z_iload (M := M_X12_lay) 163 dX12_lay_163 rfl ?_
                      refine z_iconst (M := M_X12_lay) 165 dX12_lay_165 ?_
                      refine z_icmp_ne_T (M := M_X12_lay) 166 dX12_lay_166 178 rfl (by omega) ?_
                      refine z_aload_n (M := M_X12_lay) 178 dX12_lay_178 rfl ?_
                      refine z_aload_n (M := M_X12_lay) 179 dX12_lay_179 rfl ?_
                      refine z_getR (M := M_X12_lay) 180 dX12_lay_180 f_X12_109 o_108 rfl (g_108_49 G52) ?_
                      refine z_aload_n (M := M_X12_lay) 183 dX12_lay_183 rfl ?_
                      refine z_getR (M := M_X12_lay) 184 dX12_lay_184 f_X12_121 o_108 rfl (g_108_53 G52) ?_
                      refine z_iconst (M := M_X12_lay) 187 dX12_lay_187 ?_
                      obtain ⟨y54_, P_, B1_, B2_, B3_, ⟨m1_, e1_⟩, ⟨m2_, e2_⟩, ⟨m3_, e3_⟩, t55_⟩ := Z_.resolve_left (fun y => by have z1 := y.1; have z2 := y.2.1; omega)
                      unfold teB at B1_ B2_ B3_
                      refine z_laldV (M := M_X12_lay) 188 dX12_lay_188 o_144 (by omega) (by omega) (fun x82 ex82 => ?_)
                      obtain rfl : x82 = d1 := ex82.symm.trans e1_
                      refine z_aload_n (M := M_X12_lay) 189 dX12_lay_189 rfl ?_
                      refine z_getR (M := M_X12_lay) 190 dX12_lay_190 f_X12_121 o_108 rfl (g_108_53 G52) ?_
                      refine z_iconst (M := M_X12_lay) 193 dX12_lay_193 ?_
                      refine z_laldV (M := M_X12_lay) 194 dX12_lay_194 o_144 (by omega) (by omega) (fun x83 ex83 => ?_)
                      obtain rfl : x83 = d2 := ex83.symm.trans e2_
                      refine z_aload_n (M := M_X12_lay) 195 dX12_lay_195 rfl ?_
                      refine z_getR (M := M_X12_lay) 196 dX12_lay_196 f_X12_121 o_108 rfl (g_108_53 G52) ?_
                      refine z_iconst (M := M_X12_lay) 199 dX12_lay_199 ?_
                      refine z_laldV (M := M_X12_lay) 200 dX12_lay_200 o_144 (by omega) (by omega) (fun x84 ex84 => ?_)
                      obtain rfl : x84 = d3 := ex84.symm.trans e3_
                      refine z_vV (M := M_X12_lay) 201 dX12_lay_201 t_X12_triple l_X12_472 (m_rr_of rfl) (rest := []) (c_X12_triple4 h52 140 x82 x83 x84 (Or.inr (Or.inl rfl)) G52 ⟨by omega, by omega⟩ ⟨by omega, by omega⟩ ⟨by omega, by omega⟩) o_108 rfl rfl rfl (Nat.le_of_ble_eq_true rfl) ⟨rfl, rfl⟩ (fun h53 qx85 => ?_)
                      obtain ⟨G53, S53, D53_, V53_⟩ := qx85
                      have T53_ := tri_b (x := x82) (y := x83) (z := x84) ⟨by omega, by omega⟩ ⟨by omega, by omega⟩ ⟨by omega, by omega⟩
                      have R53 := R52.call S53 (by decide +kernel)
                      refine z_aload_n (M := M_X12_lay) 204 dX12_lay_204 rfl ?_
                      refine z_aload_n (M := M_X12_lay) 205 dX12_lay_205 rfl ?_
                      refine z_getR (M := M_X12_lay) 206 dX12_lay_206 f_X12_106 o_108 rfl (g_108_48 G53) ?_
                      refine z_aload_n (M := M_X12_lay) 209 dX12_lay_209 rfl ?_
                      refine z_getR (M := M_X12_lay) 210 dX12_lay_210 f_X12_118 o_108 rfl (g_108_52 G53) ?_
                      refine z_iconst (M := M_X12_lay) 213 dX12_lay_213 ?_
                      refine z_laldV (M := M_X12_lay) 214 dX12_lay_214 o_143 (by omega) (by omega) (fun x86 ex86 => ?_)
                      obtain rfl : x86 = n1 := ex86.symm.trans ((S53 143 0 rfl).trans m1_)
                      refine z_aload_n (M := M_X12_lay) 215 dX12_lay_215 rfl ?_
                      refine z_getR (M := M_X12_lay) 216 dX12_lay_216 f_X12_121 o_108 rfl (g_108_53 G53) ?_
                      refine z_iconst (M := M_X12_lay) 219 dX12_lay_219 ?_
                      refine z_laldE (M := M_X12_lay) 220 dX12_lay_220 o_144 (by omega) (by omega) ((S53 144 1 rfl).trans ex83) ?_
                      refine z_aload_n (M := M_X12_lay) 221 dX12_lay_221 rfl ?_
                      refine z_getR (M := M_X12_lay) 222 dX12_lay_222 f_X12_121 o_108 rfl (g_108_53 G53) ?_
                      refine z_iconst (M := M_X12_lay) 225 dX12_lay_225 ?_
                      refine z_laldE (M := M_X12_lay) 226 dX12_lay_226 o_144 (by omega) (by omega) ((S53 144 2 rfl).trans ex84) ?_
                      refine z_vV (M := M_X12_lay) 227 dX12_lay_227 t_X12_triple l_X12_472 (m_rr_of rfl) (rest := []) (c_X12_triple4 h53 139 x86 x83 x84 (Or.inl rfl) G53 ⟨by omega, by omega⟩ ⟨by omega, by omega⟩ ⟨by omega, by omega⟩) o_108 rfl rfl rfl (Nat.le_of_ble_eq_true rfl) ⟨rfl, rfl⟩ (fun h54 qx87 => ?_)
                      obtain ⟨G54, S54, D54_, V54_⟩ := qx87
                      have T54_ := tri_b (x := x86) (y := x83) (z := x84) ⟨by omega, by omega⟩ ⟨by omega, by omega⟩ ⟨by omega, by omega⟩
                      have R54 := R53.call S54 (by decide +kernel)
                      refine z_aload_n (M := M_X12_lay) 230 dX12_lay_230 rfl ?_
                      refine z_aload_n (M := M_X12_lay) 231 dX12_lay_231 rfl ?_
                      refine z_getR (M := M_X12_lay) 232 dX12_lay_232 f_X12_112 o_108 rfl (g_108_50 G54) ?_
                      refine z_aload_n (M := M_X12_lay) 235 dX12_lay_235 rfl ?_
                      refine z_getR (M := M_X12_lay) 236 dX12_lay_236 f_X12_121 o_108 rfl (g_108_53 G54) ?_
                      refine z_iconst (M := M_X12_lay) 239 dX12_lay_239 ?_
                      refine z_laldE (M := M_X12_lay) 240 dX12_lay_240 o_144 (by omega) (by omega) ((S54 144 0 rfl).trans ((S53 144 0 rfl).trans ex82)) ?_
                      refine z_aload_n (M := M_X12_lay) 241 dX12_lay_241 rfl ?_
                      refine z_getR (M := M_X12_lay) 242 dX12_lay_242 f_X12_118 o_108 rfl (g_108_52 G54) ?_
                      refine z_iconst (M := M_X12_lay) 245 dX12_lay_245 ?_
                      refine z_laldV (M := M_X12_lay) 246 dX12_lay_246 o_143 (by omega) (by omega) (fun x88 ex88 => ?_)
                      obtain rfl : x88 = n2 := ex88.symm.trans (((S54 143 1 rfl).trans (S53 143 1 rfl)).trans m2_)
                      refine z_aload_n (M := M_X12_lay) 247 dX12_lay_247 rfl ?_
                      refine z_getR (M := M_X12_lay) 248 dX12_lay_248 f_X12_121 o_108 rfl (g_108_53 G54) ?_
                      refine z_iconst (M := M_X12_lay) 251 dX12_lay_251 ?_
                      refine z_laldE (M := M_X12_lay) 252 dX12_lay_252 o_144 (by omega) (by omega) ((S54 144 2 rfl).trans ((S53 144 2 rfl).trans ex84)) ?_
                      refine z_vV (M := M_X12_lay) 253 dX12_lay_253 t_X12_triple l_X12_472 (m_rr_of rfl) (rest := []) (c_X12_triple4 h54 141 x82 x88 x84 (Or.inr (Or.inr rfl)) G54 ⟨by omega, by omega⟩ ⟨by omega, by omega⟩ ⟨by omega, by omega⟩) o_108 rfl rfl rfl (Nat.le_of_ble_eq_true rfl) ⟨rfl, rfl⟩ (fun h55 qx89 => ?_)
                      obtain ⟨G55, S55, D55_, V55_⟩ := qx89
                      have T55_ := tri_b (x := x82) (y := x88) (z := x84) ⟨by omega, by omega⟩ ⟨by omega, by omega⟩ ⟨by omega, by omega⟩
                      have R55 := R54.call S55 (by decide +kernel)
                      refine z_aload_n (M := M_X12_lay) 256 dX12_lay_256 rfl ?_
                      refine z_vV (M := M_X12_lay) 257 dX12_lay_257 t_X12_addFactor l_X12_476 (m_rr_of rfl) (rest := []) (c_X12_addFactor4 h55 G55 (by rw [(FR.row S55 (fun _ => rfl) : h55 139 = h54 139)]; exact D54_) D55_ (by rw [(FR.row S55 (fun _ => rfl) : h55 139 = h54 139), V54_, V55_]; omega)) o_108 rfl rfl rfl (Nat.le_of_ble_eq_true rfl) ⟨rfl, rfl⟩ (fun h56 qx90 => ?_)
                      obtain ⟨G56, S56, D56_, V56_⟩ := qx90
                      rw [(FR.row S55 (fun _ => rfl) : h55 139 = h54 139), V54_, V55_] at V56_
                      have R56 := R55.call S56 (by decide +kernel)
                      refine z_aload_n (M := M_X12_lay) 260 dX12_lay_260 rfl ?_
                      refine z_aload_n (M := M_X12_lay) 261 dX12_lay_261 rfl ?_
                      refine z_getR (M := M_X12_lay) 262 dX12_lay_262 f_X12_112 o_108 rfl (g_108_50 G56) ?_
                      refine z_aload_n (M := M_X12_lay) 265 dX12_lay_265 rfl ?_
                      refine z_getR (M := M_X12_lay) 266 dX12_lay_266 f_X12_121 o_108 rfl (g_108_53 G56) ?_
                      refine z_iconst (M := M_X12_lay) 269 dX12_lay_269 ?_
                      refine z_laldE (M := M_X12_lay) 270 dX12_lay_270 o_144 (by omega) (by omega) ((S56 144 0 rfl).trans ((S55 144 0 rfl).trans ((S54 144 0 rfl).trans ((S53 144 0 rfl).trans ex82)))) ?_
                      refine z_aload_n (M := M_X12_lay) 271 dX12_lay_271 rfl ?_
                      refine z_getR (M := M_X12_lay) 272 dX12_lay_272 f_X12_121 o_108 rfl (g_108_53 G56) ?_
                      refine z_iconst (M := M_X12_lay) 275 dX12_lay_275 ?_
                      refine z_laldE (M := M_X12_lay) 276 dX12_lay_276 o_144 (by omega) (by omega) ((S56 144 1 rfl).trans ((S55 144 1 rfl).trans ((S54 144 1 rfl).trans ((S53 144 1 rfl).trans ex83)))) ?_
                      refine z_aload_n (M := M_X12_lay) 277 dX12_lay_277 rfl ?_
                      refine z_getR (M := M_X12_lay) 278 dX12_lay_278 f_X12_118 o_108 rfl (g_108_52 G56) ?_
                      refine z_iconst (M := M_X12_lay) 281 dX12_lay_281 ?_
                      refine z_laldV (M := M_X12_lay) 282 dX12_lay_282 o_143 (by omega) (by omega) (fun x91 ex91 => ?_)
                      obtain rfl : x91 = n3 := ex91.symm.trans (((S56 143 2 rfl).trans ((S55 143 2 rfl).trans ((S54 143 2 rfl).trans (S53 143 2 rfl)))).trans m3_)
                      refine z_vV (M := M_X12_lay) 283 dX12_lay_283 t_X12_triple l_X12_472 (m_rr_of rfl) (rest := []) (c_X12_triple4 h56 141 x82 x83 x91 (Or.inr (Or.inr rfl)) G56 ⟨by omega, by omega⟩ ⟨by omega, by omega⟩ ⟨by omega, by omega⟩) o_108 rfl rfl rfl (Nat.le_of_ble_eq_true rfl) ⟨rfl, rfl⟩ (fun h57 qx92 => ?_)
                      obtain ⟨G57, S57, D57_, V57_⟩ := qx92
                      have T57_ := tri_b (x := x82) (y := x83) (z := x91) ⟨by omega, by omega⟩ ⟨by omega, by omega⟩ ⟨by omega, by omega⟩
                      have R57 := R56.call S57 (by decide +kernel)
                      refine z_aload_n (M := M_X12_lay) 286 dX12_lay_286 rfl ?_
                      refine z_vV (M := M_X12_lay) 287 dX12_lay_287 t_X12_addFactor l_X12_476 (m_rr_of rfl) (rest := []) (c_X12_addFactor4 h57 G57 (by rw [(FR.row S57 (fun _ => rfl) : h57 139 = h56 139)]; exact D56_) D57_ (by rw [(FR.row S57 (fun _ => rfl) : h57 139 = h56 139), V56_, V57_]; omega)) o_108 rfl rfl rfl (Nat.le_of_ble_eq_true rfl) ⟨rfl, rfl⟩ (fun h58 qx93 => ?_)
                      obtain ⟨G58, S58, D58_, V58_⟩ := qx93
                      rw [(FR.row S57 (fun _ => rfl) : h57 139 = h56 139), V56_, V57_] at V58_
                      have k_ : h58 140 = h53 140 := ((FR.row S58 (fun _ => rfl)).trans ((FR.row S57 (fun _ => rfl)).trans ((FR.row S56 (fun _ => rfl)).trans ((FR.row S55 (fun _ => rfl)).trans (FR.row S54 (fun _ => rfl))))))
                      have L_ : vS (h58 140) 0 10 = x82 * x83 * x84 := by rw [k_]; exact V53_
                      have W_ := Int.mul_pos (Int.mul_pos P_.1 P_.2.1) P_.2.2
                      have F55_ : h58 108 55 = h52 108 55 := ((S58 108 55 rfl).trans ((S57 108 55 rfl).trans ((S56 108 55 rfl).trans ((S55 108 55 rfl).trans ((S54 108 55 rfl).trans (S53 108 55 rfl))))))
                      have R58 := R57.call S58 (by decide +kernel)
                      refine z_aload_n (M := M_X12_lay) 290 dX12_lay_290 rfl ?_
                      refine z_sipush (M := M_X12_lay) 291 dX12_lay_291 ?_
                      refine z_iload (M := M_X12_lay) 294 dX12_lay_294 rfl ?_
                      refine z_if_eq_T (M := M_X12_lay) 296 dX12_lay_296 306 rfl (by omega) ?_
                      refine z_iconst (M := M_X12_lay) 306 dX12_lay_306 ?_
                      refine z_goto (M := M_X12_lay) 307 dX12_lay_307 311 rfl ?_
                      refine z_vI (M := M_X12_lay) 311 dX12_lay_311 t_X12_often l_X12_479 (m_rr_of rfl) (rest := []) (c_X12_often4 h58 6000 1 G58 ⟨by omega, by omega⟩ ⟨by omega, by omega⟩ D58_ (by rw [k_]; exact D53_) (by rw [L_]; omega)) o_108 rfl rfl rfl (Nat.le_of_ble_eq_true rfl) ⟨rfl, rfl⟩ (fun x94 h59 qx94 => ?_)
                      obtain ⟨G59, S59, ax94, bx94, fo_⟩ := qx94
                      have R59 := R58.call S59 (by decide +kernel)
                      exact z_retI (M := M_X12_lay) 314 dX12_lay_314 rfl ⟨G59, R59, by omega, by omega, Or.inr ⟨K_, x86, x82, o1, x88, x83, o2, x91, x84, o3, ⟨ly3_f F_.1 (by omega), ly3_f F_.2.1 (by omega), F_.2.2⟩, ly_e V58_ L_ fo_ ⟨fun z => absurd z (by decide), fun z => by have q0 := ly3_o F0_.1; have q1 := ly3_o F0_.2.1; have q2 := ly3_o F0_.2.2; omega⟩ P_⟩⟩
                  · refine z_bipush (M := M_X12_lay) 96 dX12_lay_96 ?_
                    exact z_retI (M := M_X12_lay) 98 dX12_lay_98 rfl ⟨G36, R36, by omega, by omega, Or.inl ⟨fun z => absurd (fx55_1.mpr ⟨z.1.2, tf_, z.2.2.2.2.2⟩) (by omega), rfl⟩⟩
            · refine z_if_eq_T (M := M_X12_lay) 47 dX12_lay_47 54 rfl (by omega) ?_
              refine z_iconst (M := M_X12_lay) 54 dX12_lay_54 ?_
              refine z_istore (M := M_X12_lay) 55 dX12_lay_55 (ls' := [some (mR 108), some (mI a1), some (mI a2), some (mI a3), some (mI a4), some (mI a5), some (mI 0)]) (by decide) rfl ?_
              refine z_iload (M := M_X12_lay) 57 dX12_lay_57 rfl ?_
              refine z_if_eq_T (M := M_X12_lay) 59 dX12_lay_59 96 rfl (by omega) ?_
              refine z_bipush (M := M_X12_lay) 96 dX12_lay_96 ?_
              exact z_retI (M := M_X12_lay) 98 dX12_lay_98 rfl ⟨G1, R1, by omega, by omega, Or.inl ⟨fun z => cx50 z.2.2.2.2.1, rfl⟩⟩
          · refine z_if_eq_T (M := M_X12_lay) 36 dX12_lay_36 54 rfl (by omega) ?_
            refine z_iconst (M := M_X12_lay) 54 dX12_lay_54 ?_
            refine z_istore (M := M_X12_lay) 55 dX12_lay_55 (ls' := [some (mR 108), some (mI a1), some (mI a2), some (mI a3), some (mI a4), some (mI a5), some (mI 0)]) (by decide) rfl ?_
            refine z_iload (M := M_X12_lay) 57 dX12_lay_57 rfl ?_
            refine z_if_eq_T (M := M_X12_lay) 59 dX12_lay_59 96 rfl (by omega) ?_
            refine z_bipush (M := M_X12_lay) 96 dX12_lay_96 ?_
            exact z_retI (M := M_X12_lay) 98 dX12_lay_98 rfl ⟨G1, R1, by omega, by omega, Or.inl ⟨fun z => cx49 z.2.2.2.1, rfl⟩⟩
        · refine z_if_eq_T (M := M_X12_lay) 28 dX12_lay_28 54 rfl (by omega) ?_
          refine z_iconst (M := M_X12_lay) 54 dX12_lay_54 ?_
          refine z_istore (M := M_X12_lay) 55 dX12_lay_55 (ls' := [some (mR 108), some (mI a1), some (mI a2), some (mI a3), some (mI a4), some (mI a5), some (mI 0)]) (by decide) rfl ?_
          refine z_iload (M := M_X12_lay) 57 dX12_lay_57 rfl ?_
          refine z_if_eq_T (M := M_X12_lay) 59 dX12_lay_59 96 rfl (by omega) ?_
          refine z_bipush (M := M_X12_lay) 96 dX12_lay_96 ?_
          exact z_retI (M := M_X12_lay) 98 dX12_lay_98 rfl ⟨G1, R1, by omega, by omega, Or.inl ⟨fun z => z.2.2.1.elim (fun y => absurd y (by omega)) (fun y => cx48 y.1), rfl⟩⟩
    · refine z_if_eq_T (M := M_X12_lay) 16 dX12_lay_16 54 rfl (by omega) ?_
      refine z_iconst (M := M_X12_lay) 54 dX12_lay_54 ?_
      refine z_istore (M := M_X12_lay) 55 dX12_lay_55 (ls' := [some (mR 108), some (mI a1), some (mI a2), some (mI a3), some (mI a4), some (mI a5), some (mI 0)]) (by decide) rfl ?_
      refine z_iload (M := M_X12_lay) 57 dX12_lay_57 rfl ?_
      refine z_if_eq_T (M := M_X12_lay) 59 dX12_lay_59 96 rfl (by omega) ?_
      refine z_bipush (M := M_X12_lay) 96 dX12_lay_96 ?_
      exact z_retI (M := M_X12_lay) 98 dX12_lay_98 rfl ⟨G1, R1, by omega, by omega, Or.inl ⟨fun z => cx2 z.2.1.1, rfl⟩⟩
  · refine z_if_eq_T (M := M_X12_lay) 9 dX12_lay_9 54 rfl (by omega) ?_
    refine z_iconst (M := M_X12_lay) 54 dX12_lay_54 ?_
    refine z_istore (M := M_X12_lay) 55 dX12_lay_55 (ls' := [some (mR 108), some (mI a1), some (mI a2), some (mI a3), some (mI a4), some (mI a5), some (mI 0)]) (by decide) rfl ?_
    refine z_iload (M := M_X12_lay) 57 dX12_lay_57 rfl ?_
    refine z_if_eq_T (M := M_X12_lay) 59 dX12_lay_59 96 rfl (by omega) ?_
    refine z_bipush (M := M_X12_lay) 96 dX12_lay_96 ?_
    exact z_retI (M := M_X12_lay) 98 dX12_lay_98 rfl ⟨G1, R1, by omega, by omega, Or.inl ⟨fun z => cx1 z.1.1, rfl⟩⟩
abbrev P_X12_area3 (h0 : m_H) (a1 a2 a3 a4 : Int) : Int → m_H → Prop := fun x h' => GI h' ∧ FR [115, 116, 117, 118, 119, 120, 121, 122, 123, 124, 125, 126, 127, 128, 129, 130, 131, 132, 133, 134, 138, 139, 140, 141, 142, 143, 144] [(108, 0), (108, 21), (108, 44), (108, 45), (108, 46), (108, 47), (108, 54), (108, 55)] h0 h' ∧ (-2) ≤ x ∧ x ≤ 4000000 ∧ arQ (h0 110) a1 a2 a3 a4 x
set_option maxHeartbeats 4000000 in
set_option maxRecDepth 100000 in
theorem c_X12_area3 (h0 : m_H) (a1 a2 a3 a4 : Int) (G0 : GI h0) (hN : NP h0) : m_CI M_X12_area [mR 108, mI a1, mI a2, mI a3, mI a4] h0 (P_X12_area3 h0 a1 a2 a3 a4) := by
  refine m_CI_of ⟨by decide, rfl, by simp [m_arg, m_isL, M_X12_area], ⟨rfl, rfl⟩, rfl, rfl⟩ (ls := [some (mR 108), some (mI a1), some (mI a2), some (mI a3), some (mI a4), none]) rfl ?_
  refine z_ok (fun _ _ ok => ?_)
  have oa1 : m_32 a1 := ok 1 _ rfl
  unfold m_32 at oa1
  have oa2 : m_32 a2 := ok 2 _ rfl
  unfold m_32 at oa2
  have oa3 : m_32 a3 := ok 3 _ rfl
  unfold m_32 at oa3
  have oa4 : m_32 a4 := ok 4 _ rfl
  unfold m_32 at oa4
  refine z_aload_n (M := M_X12_area) 0 dX12_area_0 rfl ?_
  refine z_iconst (M := M_X12_area) 1 dX12_area_1 ?_
  refine z_putIH (M := M_X12_area) 2 dX12_area_2 p_X12_133 o_108 rfl (u_108_0 G0) ((FR.rf (cs := [115, 116, 117, 118, 119, 120, 121, 122, 123, 124, 125, 126, 127, 128, 129, 130, 131, 132, 133, 134, 138, 139, 140, 141, 142, 143, 144]) (ss := [(108, 0), (108, 21), (108, 44), (108, 45), (108, 46), (108, 47), (108, 54), (108, 55)]) (h := h0)).up rfl) (fun h1 E1 G1 R1 => ?_)
  refine z_iload_n (M := M_X12_area) 5 dX12_area_5 rfl ?_
  refine z_sI (M := M_X12_area) 6 dX12_area_6 t_X12_isGround l_X12_465 (m_rr_of rfl) (rest := []) (c_X12_isGround h1 a1 G1) rfl rfl (Nat.le_of_ble_eq_true rfl) ⟨rfl, rfl⟩ (fun x1 h2 qx1 => ?_)
  obtain ⟨rfl, ⟨rfl, cx1⟩ | ⟨rfl, cx1⟩⟩ := qx1
  · refine z_if_eq_F (M := M_X12_area) 9 dX12_area_9 41 rfl (by omega) ?_
    refine z_iload_n (M := M_X12_area) 12 dX12_area_12 rfl ?_
    refine z_sI (M := M_X12_area) 13 dX12_area_13 t_X12_isGround l_X12_465 (m_rr_of rfl) (rest := []) (c_X12_isGround h1 a2 G1) rfl rfl (Nat.le_of_ble_eq_true rfl) ⟨rfl, rfl⟩ (fun x2 h3 qx2 => ?_)
    obtain ⟨rfl, ⟨rfl, cx2⟩ | ⟨rfl, cx2⟩⟩ := qx2
    · refine z_if_eq_F (M := M_X12_area) 16 dX12_area_16 41 rfl (by omega) ?_
      refine z_iload_n (M := M_X12_area) 19 dX12_area_19 rfl ?_
      refine z_sI (M := M_X12_area) 20 dX12_area_20 t_X12_isKeeper l_X12_169 (m_rr_of rfl) (rest := []) (c_X12_isKeeper h1 a3 G1) rfl rfl (Nat.le_of_ble_eq_true rfl) ⟨rfl, rfl⟩ (fun x3 h4 qx3 => ?_)
      obtain ⟨rfl, ⟨rfl, cx3⟩ | ⟨rfl, cx3⟩⟩ := qx3
      · refine z_if_eq_F (M := M_X12_area) 23 dX12_area_23 41 rfl (by omega) ?_
        refine z_iload (M := M_X12_area) 26 dX12_area_26 rfl ?_
        refine z_i2l (M := M_X12_area) 28 dX12_area_28 ?_
        refine z_lconst (M := M_X12_area) 29 dX12_area_29 (v := 0) ?_
        refine z_lconst (M := M_X12_area) 30 dX12_area_30 (v := 1) ?_
        refine z_sI (M := M_X12_area) 31 dX12_area_31 t_X12_in l_X12_143 (m_rr_of rfl) (rest := []) (c_X12_in h1 a4 0 1 G1) rfl rfl (Nat.le_of_ble_eq_true rfl) ⟨rfl, rfl⟩ (fun x4 h5 qx4 => ?_)
        obtain ⟨rfl, ⟨rfl, cx4⟩ | ⟨rfl, cx4⟩⟩ := qx4
        · refine z_if_eq_F (M := M_X12_area) 34 dX12_area_34 41 rfl (by omega) ?_
          refine z_iconst (M := M_X12_area) 37 dX12_area_37 ?_
          refine z_goto (M := M_X12_area) 38 dX12_area_38 42 rfl ?_
          refine z_istore (M := M_X12_area) 42 dX12_area_42 (ls' := [some (mR 108), some (mI a1), some (mI a2), some (mI a3), some (mI a4), some (mI 1)]) (by decide) rfl ?_
          refine z_iload (M := M_X12_area) 44 dX12_area_44 rfl ?_
          refine z_if_eq_F (M := M_X12_area) 46 dX12_area_46 69 rfl (by omega) ?_
          refine z_aload_n (M := M_X12_area) 49 dX12_area_49 rfl ?_
          refine z_iload_n (M := M_X12_area) 50 dX12_area_50 rfl ?_
          refine z_vI (M := M_X12_area) 51 dX12_area_51 t_X12_isLength l_X12_391 (m_rr_of rfl) (rest := []) (c_X12_isLength2 h1 a2 G1) o_108 rfl rfl rfl (Nat.le_of_ble_eq_true rfl) ⟨rfl, rfl⟩ (fun x5 h6 qx5 => ?_)
          obtain ⟨G6, S6, ax5, bx5, fx5_0, fx5_1⟩ := qx5
          rw [(FR.row R1 (fun _ => rfl) : h1 110 = h0 110)] at fx5_1
          have R6 := R1.call S6 (by decide +kernel)
          refine z_if_eq (M := M_X12_area) 54 dX12_area_54 69 rfl (fun c6 => ?_) (fun c6 => ?_)
          · refine z_bipush (M := M_X12_area) 69 dX12_area_69 ?_
            exact z_retI (M := M_X12_area) 71 dX12_area_71 rfl ⟨G6, R6, by omega, by omega, Or.inl ⟨fun z => absurd (fx5_1.mpr z.2.1.2) (by omega), rfl⟩⟩
          · refine z_aload_n (M := M_X12_area) 57 dX12_area_57 rfl ?_
            refine z_iload_n (M := M_X12_area) 58 dX12_area_58 rfl ?_
            refine z_bipush (M := M_X12_area) 59 dX12_area_59 ?_
            refine z_iload_n (M := M_X12_area) 61 dX12_area_61 rfl ?_
            refine z_iaddN (M := M_X12_area) 62 dX12_area_62 (by omega) (by omega) ?_
            refine z_vI (M := M_X12_area) 63 dX12_area_63 t_X12_isAnswered l_X12_394 (m_rr_of rfl) (rest := []) (c_X12_isAnswered2 h6 a1 (12 + a3) G6 (NP.call hN R6 (fun _ => rfl) (fun _ => rfl) (fun _ => rfl))) o_108 rfl rfl rfl (Nat.le_of_ble_eq_true rfl) ⟨rfl, rfl⟩ (fun x7 h7 qx7 => ?_)
            obtain ⟨G7, S7, ax7, bx7, fx7_0, fx7_1⟩ := qx7
            rw [(FR.row R6 (fun _ => rfl) : h6 110 = h0 110)] at fx7_1
            have tf_ : thr (h0 110) (12 + a3) := ⟨by omega, by omega, Or.inr (Or.inl (by omega))⟩
            have R7 := R6.call S7 (by decide +kernel)
            refine z_if_ne (M := M_X12_area) 66 dX12_area_66 72 rfl (fun c8 => ?_) (fun c8 => ?_)
            · have an := fx7_0 (by omega)
              have an1 := an.1
              have Q_ := fx7_1.mp (by omega)
              have K_ : arK (h0 110) a1 a2 a3 a4 := ⟨⟨⟨by omega, by omega⟩, Q_.1⟩, ⟨⟨by omega, by omega⟩, fx5_1.mp (by omega)⟩, cx3, cx4, Q_.2.2⟩
              have an2 := an.2.1
              refine z_aload_n (M := M_X12_area) 72 dX12_area_72 rfl ?_
              refine z_iconst (M := M_X12_area) 73 dX12_area_73 ?_
              refine z_putZH (M := M_X12_area) 74 dX12_area_74 p_X12_459 o_108 rfl (by omega) (u_108_54 G7 (by omega) (by omega)) (R7.up rfl) (fun h8 E8 G8 R8 => ?_)
              refine z_aload_n (M := M_X12_area) 77 dX12_area_77 rfl ?_
              refine z_iconst (M := M_X12_area) 78 dX12_area_78 ?_
              refine z_putZH (M := M_X12_area) 79 dX12_area_79 p_X12_462 o_108 rfl (by omega) (u_108_55 G8 (by omega) (by omega)) (R8.up rfl) (fun h9 E9 G9 R9 => ?_)
              refine z_aload_n (M := M_X12_area) 82 dX12_area_82 rfl ?_
              refine z_iconst (M := M_X12_area) 83 dX12_area_83 ?_
              refine z_iload_n (M := M_X12_area) 84 dX12_area_84 rfl ?_
              refine z_iload_n (M := M_X12_area) 85 dX12_area_85 rfl ?_
              refine z_iload (M := M_X12_area) 86 dX12_area_86 rfl ?_
              refine z_if_ne (M := M_X12_area) 88 dX12_area_88 95 rfl (fun c9 => ?_) (fun c9 => ?_)
              · refine z_iconst (M := M_X12_area) 95 dX12_area_95 ?_
                refine z_vV (M := M_X12_area) 96 dX12_area_96 t_X12_takeEnd l_X12_468 (m_rr_of rfl) (rest := []) (c_X12_takeEnd4 h9 0 a1 a3 0 G9 ⟨by omega, by omega⟩ ⟨by omega, by omega⟩ ⟨by omega, by omega⟩ ⟨by omega, by omega⟩ (NP.call hN R9 (fun _ => rfl) (fun _ => rfl) (fun _ => rfl)) (gG_f (gG_b an.2.2 R6 (fun _ => rfl)) R9 (fun _ => rfl))) o_108 rfl rfl rfl (Nat.le_of_ble_eq_true rfl) ⟨rfl, rfl⟩ (fun h10 qx10 => ?_)
                obtain ⟨G10, S10, A10_⟩ := qx10
                rw [(FR.row R9 (fun _ => rfl) : h9 110 = h0 110)] at A10_
                have R10 := R9.call S10 (by decide +kernel)
                refine z_aload_n (M := M_X12_area) 99 dX12_area_99 rfl ?_
                refine z_iconst (M := M_X12_area) 100 dX12_area_100 ?_
                refine z_iload_n (M := M_X12_area) 101 dX12_area_101 rfl ?_
                refine z_iload_n (M := M_X12_area) 102 dX12_area_102 rfl ?_
                refine z_iload (M := M_X12_area) 103 dX12_area_103 rfl ?_
                refine z_if_ne_T (M := M_X12_area) 105 dX12_area_105 112 rfl (by omega) ?_
                refine z_iconst (M := M_X12_area) 112 dX12_area_112 ?_
                refine z_vV (M := M_X12_area) 113 dX12_area_113 t_X12_takeEnd l_X12_468 (m_rr_of rfl) (rest := []) (c_X12_takeEnd4 h10 1 a2 a3 0 G10 ⟨by omega, by omega⟩ ⟨by omega, by omega⟩ ⟨by omega, by omega⟩ ⟨by omega, by omega⟩ (NP.call hN R10 (fun _ => rfl) (fun _ => rfl) (fun _ => rfl)) (gG_f (gG_b an.2.2 R6 (fun _ => rfl)) R10 (fun _ => rfl))) o_108 rfl rfl rfl (Nat.le_of_ble_eq_true rfl) ⟨rfl, rfl⟩ (fun h11 qx11 => ?_)
                obtain ⟨G11, S11, A11_⟩ := qx11
                rw [(FR.row R10 (fun _ => rfl) : h10 110 = h0 110)] at A11_
                have R11 := R10.call S11 (by decide +kernel)
                obtain ⟨n1, d1, o1, n2, d2, o2, F_, Z_⟩ := te_2 A10_ A11_ (w := a4) (by rw [if_pos rfl]; omega) ((upN E9 (by decide)).trans (upE E8)) (upE E9)
                refine z_iload (M := M_X12_area) 116 dX12_area_116 rfl ?_
                refine z_iconst (M := M_X12_area) 118 dX12_area_118 ?_
                refine z_icmp_ne_F (M := M_X12_area) 119 dX12_area_119 131 rfl (by omega) ?_
                refine z_aload_n (M := M_X12_area) 122 dX12_area_122 rfl ?_
                refine z_getIG (M := M_X12_area) 123 dX12_area_123 f_X12_459 o_108 (by decide) (g_108_54 G11) (fun x12 ex12 ax12 bx12 => ?_)
                refine z_if_ne (M := M_X12_area) 126 dX12_area_126 131 rfl (fun c13 => ?_) (fun c13 => ?_)
                · refine z_aload_n (M := M_X12_area) 131 dX12_area_131 rfl ?_
                  refine z_aload_n (M := M_X12_area) 132 dX12_area_132 rfl ?_
                  refine z_getR (M := M_X12_area) 133 dX12_area_133 f_X12_106 o_108 rfl (g_108_48 G11) ?_
                  refine z_aload_n (M := M_X12_area) 136 dX12_area_136 rfl ?_
                  refine z_getR (M := M_X12_area) 137 dX12_area_137 f_X12_118 o_108 rfl (g_108_52 G11) ?_
                  refine z_iconst (M := M_X12_area) 140 dX12_area_140 ?_
                  obtain ⟨y54_, P_, B1_, B2_, ⟨m1_, e1_⟩, ⟨m2_, e2_⟩, t55_⟩ := Z_.resolve_left (fun y => by have z1 := y.1; have z2 := y.2.1; omega)
                  unfold teB at B1_ B2_
                  refine z_laldV (M := M_X12_area) 141 dX12_area_141 o_143 (by omega) (by omega) (fun x14 ex14 => ?_)
                  obtain rfl : x14 = n1 := ex14.symm.trans m1_
                  refine z_aload_n (M := M_X12_area) 142 dX12_area_142 rfl ?_
                  refine z_getR (M := M_X12_area) 143 dX12_area_143 f_X12_118 o_108 rfl (g_108_52 G11) ?_
                  refine z_iconst (M := M_X12_area) 146 dX12_area_146 ?_
                  refine z_laldV (M := M_X12_area) 147 dX12_area_147 o_143 (by omega) (by omega) (fun x15 ex15 => ?_)
                  obtain rfl : x15 = n2 := ex15.symm.trans m2_
                  refine z_lconst (M := M_X12_area) 148 dX12_area_148 (v := 1) ?_
                  refine z_vV (M := M_X12_area) 149 dX12_area_149 t_X12_triple l_X12_472 (m_rr_of rfl) (rest := []) (c_X12_triple4 h11 139 x14 x15 1 (Or.inl rfl) G11 ⟨by omega, by omega⟩ ⟨by omega, by omega⟩ ⟨by omega, by omega⟩) o_108 rfl rfl rfl (Nat.le_of_ble_eq_true rfl) ⟨rfl, rfl⟩ (fun h12 qx16 => ?_)
                  obtain ⟨G12, S12, D12_, V12_⟩ := qx16
                  have R12 := R11.call S12 (by decide +kernel)
                  refine z_aload_n (M := M_X12_area) 152 dX12_area_152 rfl ?_
                  refine z_aload_n (M := M_X12_area) 153 dX12_area_153 rfl ?_
                  refine z_getR (M := M_X12_area) 154 dX12_area_154 f_X12_109 o_108 rfl (g_108_49 G12) ?_
                  refine z_aload_n (M := M_X12_area) 157 dX12_area_157 rfl ?_
                  refine z_getR (M := M_X12_area) 158 dX12_area_158 f_X12_121 o_108 rfl (g_108_53 G12) ?_
                  refine z_iconst (M := M_X12_area) 161 dX12_area_161 ?_
                  refine z_laldV (M := M_X12_area) 162 dX12_area_162 o_144 (by omega) (by omega) (fun x17 ex17 => ?_)
                  obtain rfl : x17 = d1 := ex17.symm.trans ((S12 144 0 rfl).trans e1_)
                  refine z_aload_n (M := M_X12_area) 163 dX12_area_163 rfl ?_
                  refine z_getR (M := M_X12_area) 164 dX12_area_164 f_X12_121 o_108 rfl (g_108_53 G12) ?_
                  refine z_iconst (M := M_X12_area) 167 dX12_area_167 ?_
                  refine z_laldV (M := M_X12_area) 168 dX12_area_168 o_144 (by omega) (by omega) (fun x18 ex18 => ?_)
                  obtain rfl : x18 = d2 := ex18.symm.trans ((S12 144 1 rfl).trans e2_)
                  refine z_lconst (M := M_X12_area) 169 dX12_area_169 (v := 1) ?_
                  refine z_vV (M := M_X12_area) 170 dX12_area_170 t_X12_triple l_X12_472 (m_rr_of rfl) (rest := []) (c_X12_triple4 h12 140 x17 x18 1 (Or.inr (Or.inl rfl)) G12 ⟨by omega, by omega⟩ ⟨by omega, by omega⟩ ⟨by omega, by omega⟩) o_108 rfl rfl rfl (Nat.le_of_ble_eq_true rfl) ⟨rfl, rfl⟩ (fun h13 qx19 => ?_)
                  obtain ⟨G13, S13, D13_, L_⟩ := qx19
                  have T13_ := tri_b (x := x17) (y := x18) (z := 1) ⟨by omega, by omega⟩ ⟨by omega, by omega⟩ ⟨by decide, by decide⟩
                  have k_ : h13 139 = h12 139 := (FR.row S13 (fun _ => rfl))
                  have U_ : vS (h13 139) 0 10 = x14 * x15 * 1 := by rw [k_]; exact V12_
                  have W_ := Int.mul_pos (Int.mul_pos P_.1 P_.2) (show (0 : Int) < 1 by decide)
                  have F55_ : h13 108 55 = h11 108 55 := ((S13 108 55 rfl).trans (S12 108 55 rfl))
                  have R13 := R12.call S13 (by decide +kernel)
                  refine z_aload_n (M := M_X12_area) 173 dX12_area_173 rfl ?_
                  refine z_ldcw (M := M_X12_area) 174 dX12_area_174 k_X12_483 ?_
                  refine z_iload (M := M_X12_area) 177 dX12_area_177 rfl ?_
                  refine z_if_eq_F (M := M_X12_area) 179 dX12_area_179 189 rfl (by omega) ?_
                  refine z_aload_n (M := M_X12_area) 182 dX12_area_182 rfl ?_
                  refine z_getIG (M := M_X12_area) 183 dX12_area_183 f_X12_462 o_108 (by decide) (g_108_55 G13) (fun x20 ex20 ax20 bx20 => ?_)
                  refine z_if_eq (M := M_X12_area) 186 dX12_area_186 193 rfl (fun c21 => ?_) (fun c21 => ?_)
                  · refine z_iconst (M := M_X12_area) 193 dX12_area_193 ?_
                    refine z_vI (M := M_X12_area) 194 dX12_area_194 t_X12_often l_X12_479 (m_rr_of rfl) (rest := []) (c_X12_often4 h13 4000000 0 G13 ⟨by omega, by omega⟩ ⟨by omega, by omega⟩ (by rw [k_]; exact D12_) D13_ (by rw [L_]; omega)) o_108 rfl rfl rfl (Nat.le_of_ble_eq_true rfl) ⟨rfl, rfl⟩ (fun x22 h14 qx22 => ?_)
                    obtain ⟨G14, S14, ax22, bx22, fo_⟩ := qx22
                    have R14 := R13.call S14 (by decide +kernel)
                    exact z_retI (M := M_X12_area) 197 dX12_area_197 rfl ⟨G14, R14, by omega, by omega, Or.inr ⟨K_, x14, x17, o1, x15, x18, o2, ⟨ly3_f F_.1 (by omega), ly3_f F_.2 (by omega)⟩, ar_e U_ L_ fo_ ⟨fun _ => by have z := t55_ rfl; omega, fun _ => rfl⟩ P_⟩⟩
                  · refine z_iconst (M := M_X12_area) 189 dX12_area_189 ?_
                    refine z_goto (M := M_X12_area) 190 dX12_area_190 194 rfl ?_
                    refine z_vI (M := M_X12_area) 194 dX12_area_194 t_X12_often l_X12_479 (m_rr_of rfl) (rest := []) (c_X12_often4 h13 4000000 1 G13 ⟨by omega, by omega⟩ ⟨by omega, by omega⟩ (by rw [k_]; exact D12_) D13_ (by rw [L_]; omega)) o_108 rfl rfl rfl (Nat.le_of_ble_eq_true rfl) ⟨rfl, rfl⟩ (fun x23 h15 qx23 => ?_)
                    obtain ⟨G15, S15, ax23, bx23, fo_⟩ := qx23
                    have R15 := R13.call S15 (by decide +kernel)
                    exact z_retI (M := M_X12_area) 197 dX12_area_197 rfl ⟨G15, R15, by omega, by omega, Or.inr ⟨K_, x14, x17, o1, x15, x18, o2, ⟨ly3_f F_.1 (by omega), ly3_f F_.2 (by omega)⟩, ar_e U_ L_ fo_ ⟨fun z => absurd z (by decide), fun z => by have t := t55_ rfl; omega⟩ P_⟩⟩
                · refine z_iconst (M := M_X12_area) 129 dX12_area_129 ?_
                  exact z_retI (M := M_X12_area) 130 dX12_area_130 rfl ⟨G11, R11, by omega, by omega, Or.inr ⟨K_, n1, d1, o1, n2, d2, o2, ⟨ly3_f F_.1 (by omega), ly3_f F_.2 (by omega)⟩, Or.inl ⟨(Z_.resolve_right (fun y => by have z := y.1 rfl; omega)).2.2, rfl⟩⟩⟩
              · refine z_iconst (M := M_X12_area) 91 dX12_area_91 ?_
                refine z_goto (M := M_X12_area) 92 dX12_area_92 96 rfl ?_
                refine z_vV (M := M_X12_area) 96 dX12_area_96 t_X12_takeEnd l_X12_468 (m_rr_of rfl) (rest := []) (c_X12_takeEnd4 h9 0 a1 a3 1 G9 ⟨by omega, by omega⟩ ⟨by omega, by omega⟩ ⟨by omega, by omega⟩ ⟨by omega, by omega⟩ (NP.call hN R9 (fun _ => rfl) (fun _ => rfl) (fun _ => rfl)) (gG_f (gG_b an.2.2 R6 (fun _ => rfl)) R9 (fun _ => rfl))) o_108 rfl rfl rfl (Nat.le_of_ble_eq_true rfl) ⟨rfl, rfl⟩ (fun h16 qx24 => ?_)
                obtain ⟨G16, S16, A16_⟩ := qx24
                rw [(FR.row R9 (fun _ => rfl) : h9 110 = h0 110)] at A16_
                have R16 := R9.call S16 (by decide +kernel)
                refine z_aload_n (M := M_X12_area) 99 dX12_area_99 rfl ?_
                refine z_iconst (M := M_X12_area) 100 dX12_area_100 ?_
                refine z_iload_n (M := M_X12_area) 101 dX12_area_101 rfl ?_
                refine z_iload_n (M := M_X12_area) 102 dX12_area_102 rfl ?_
                refine z_iload (M := M_X12_area) 103 dX12_area_103 rfl ?_
                refine z_if_ne_F (M := M_X12_area) 105 dX12_area_105 112 rfl (by omega) ?_
                refine z_iconst (M := M_X12_area) 108 dX12_area_108 ?_
                refine z_goto (M := M_X12_area) 109 dX12_area_109 113 rfl ?_
                refine z_vV (M := M_X12_area) 113 dX12_area_113 t_X12_takeEnd l_X12_468 (m_rr_of rfl) (rest := []) (c_X12_takeEnd4 h16 1 a2 a3 1 G16 ⟨by omega, by omega⟩ ⟨by omega, by omega⟩ ⟨by omega, by omega⟩ ⟨by omega, by omega⟩ (NP.call hN R16 (fun _ => rfl) (fun _ => rfl) (fun _ => rfl)) (gG_f (gG_b an.2.2 R6 (fun _ => rfl)) R16 (fun _ => rfl))) o_108 rfl rfl rfl (Nat.le_of_ble_eq_true rfl) ⟨rfl, rfl⟩ (fun h17 qx25 => ?_)
                obtain ⟨G17, S17, A17_⟩ := qx25
                rw [(FR.row R16 (fun _ => rfl) : h16 110 = h0 110)] at A17_
                have R17 := R16.call S17 (by decide +kernel)
                obtain ⟨n1, d1, o1, n2, d2, o2, F_, Z_⟩ := te_2 A16_ A17_ (w := a4) (by rw [if_neg (by decide)]; omega) ((upN E9 (by decide)).trans (upE E8)) (upE E9)
                have w0_ : a4 = 0 := by omega
                have F0_ := F_
                rw [w0_] at F0_
                refine z_iload (M := M_X12_area) 116 dX12_area_116 rfl ?_
                refine z_iconst (M := M_X12_area) 118 dX12_area_118 ?_
                refine z_icmp_ne_T (M := M_X12_area) 119 dX12_area_119 131 rfl (by omega) ?_
                refine z_aload_n (M := M_X12_area) 131 dX12_area_131 rfl ?_
                refine z_aload_n (M := M_X12_area) 132 dX12_area_132 rfl ?_
                refine z_getR (M := M_X12_area) 133 dX12_area_133 f_X12_106 o_108 rfl (g_108_48 G17) ?_
                refine z_aload_n (M := M_X12_area) 136 dX12_area_136 rfl ?_
                refine z_getR (M := M_X12_area) 137 dX12_area_137 f_X12_118 o_108 rfl (g_108_52 G17) ?_
                refine z_iconst (M := M_X12_area) 140 dX12_area_140 ?_
                obtain ⟨y54_, P_, B1_, B2_, ⟨m1_, e1_⟩, ⟨m2_, e2_⟩, t55_⟩ := Z_.resolve_left (fun y => by have z1 := y.1; have z2 := y.2.1; omega)
                unfold teB at B1_ B2_
                refine z_laldV (M := M_X12_area) 141 dX12_area_141 o_143 (by omega) (by omega) (fun x26 ex26 => ?_)
                obtain rfl : x26 = n1 := ex26.symm.trans m1_
                refine z_aload_n (M := M_X12_area) 142 dX12_area_142 rfl ?_
                refine z_getR (M := M_X12_area) 143 dX12_area_143 f_X12_118 o_108 rfl (g_108_52 G17) ?_
                refine z_iconst (M := M_X12_area) 146 dX12_area_146 ?_
                refine z_laldV (M := M_X12_area) 147 dX12_area_147 o_143 (by omega) (by omega) (fun x27 ex27 => ?_)
                obtain rfl : x27 = n2 := ex27.symm.trans m2_
                refine z_lconst (M := M_X12_area) 148 dX12_area_148 (v := 1) ?_
                refine z_vV (M := M_X12_area) 149 dX12_area_149 t_X12_triple l_X12_472 (m_rr_of rfl) (rest := []) (c_X12_triple4 h17 139 x26 x27 1 (Or.inl rfl) G17 ⟨by omega, by omega⟩ ⟨by omega, by omega⟩ ⟨by omega, by omega⟩) o_108 rfl rfl rfl (Nat.le_of_ble_eq_true rfl) ⟨rfl, rfl⟩ (fun h18 qx28 => ?_)
                obtain ⟨G18, S18, D18_, V18_⟩ := qx28
                have R18 := R17.call S18 (by decide +kernel)
                refine z_aload_n (M := M_X12_area) 152 dX12_area_152 rfl ?_
                refine z_aload_n (M := M_X12_area) 153 dX12_area_153 rfl ?_
                refine z_getR (M := M_X12_area) 154 dX12_area_154 f_X12_109 o_108 rfl (g_108_49 G18) ?_
                refine z_aload_n (M := M_X12_area) 157 dX12_area_157 rfl ?_
                refine z_getR (M := M_X12_area) 158 dX12_area_158 f_X12_121 o_108 rfl (g_108_53 G18) ?_
                refine z_iconst (M := M_X12_area) 161 dX12_area_161 ?_
                refine z_laldV (M := M_X12_area) 162 dX12_area_162 o_144 (by omega) (by omega) (fun x29 ex29 => ?_)
                obtain rfl : x29 = d1 := ex29.symm.trans ((S18 144 0 rfl).trans e1_)
                refine z_aload_n (M := M_X12_area) 163 dX12_area_163 rfl ?_
                refine z_getR (M := M_X12_area) 164 dX12_area_164 f_X12_121 o_108 rfl (g_108_53 G18) ?_
                refine z_iconst (M := M_X12_area) 167 dX12_area_167 ?_
                refine z_laldV (M := M_X12_area) 168 dX12_area_168 o_144 (by omega) (by omega) (fun x30 ex30 => ?_)
                obtain rfl : x30 = d2 := ex30.symm.trans ((S18 144 1 rfl).trans e2_)
                refine z_lconst (M := M_X12_area) 169 dX12_area_169 (v := 1) ?_
                refine z_vV (M := M_X12_area) 170 dX12_area_170 t_X12_triple l_X12_472 (m_rr_of rfl) (rest := []) (c_X12_triple4 h18 140 x29 x30 1 (Or.inr (Or.inl rfl)) G18 ⟨by omega, by omega⟩ ⟨by omega, by omega⟩ ⟨by omega, by omega⟩) o_108 rfl rfl rfl (Nat.le_of_ble_eq_true rfl) ⟨rfl, rfl⟩ (fun h19 qx31 => ?_)
                obtain ⟨G19, S19, D19_, L_⟩ := qx31
                have T19_ := tri_b (x := x29) (y := x30) (z := 1) ⟨by omega, by omega⟩ ⟨by omega, by omega⟩ ⟨by decide, by decide⟩
                have k_ : h19 139 = h18 139 := (FR.row S19 (fun _ => rfl))
                have U_ : vS (h19 139) 0 10 = x26 * x27 * 1 := by rw [k_]; exact V18_
                have W_ := Int.mul_pos (Int.mul_pos P_.1 P_.2) (show (0 : Int) < 1 by decide)
                have F55_ : h19 108 55 = h17 108 55 := ((S19 108 55 rfl).trans (S18 108 55 rfl))
                have R19 := R18.call S19 (by decide +kernel)
                refine z_aload_n (M := M_X12_area) 173 dX12_area_173 rfl ?_
                refine z_ldcw (M := M_X12_area) 174 dX12_area_174 k_X12_483 ?_
                refine z_iload (M := M_X12_area) 177 dX12_area_177 rfl ?_
                refine z_if_eq_T (M := M_X12_area) 179 dX12_area_179 189 rfl (by omega) ?_
                refine z_iconst (M := M_X12_area) 189 dX12_area_189 ?_
                refine z_goto (M := M_X12_area) 190 dX12_area_190 194 rfl ?_
                refine z_vI (M := M_X12_area) 194 dX12_area_194 t_X12_often l_X12_479 (m_rr_of rfl) (rest := []) (c_X12_often4 h19 4000000 1 G19 ⟨by omega, by omega⟩ ⟨by omega, by omega⟩ (by rw [k_]; exact D18_) D19_ (by rw [L_]; omega)) o_108 rfl rfl rfl (Nat.le_of_ble_eq_true rfl) ⟨rfl, rfl⟩ (fun x32 h20 qx32 => ?_)
                obtain ⟨G20, S20, ax32, bx32, fo_⟩ := qx32
                have R20 := R19.call S20 (by decide +kernel)
                exact z_retI (M := M_X12_area) 197 dX12_area_197 rfl ⟨G20, R20, by omega, by omega, Or.inr ⟨K_, x26, x29, o1, x27, x30, o2, ⟨ly3_f F_.1 (by omega), ly3_f F_.2 (by omega)⟩, ar_e U_ L_ fo_ ⟨fun z => absurd z (by decide), fun z => by have q0 := ly3_o F0_.1; have q1 := ly3_o F0_.2; omega⟩ P_⟩⟩
            · refine z_bipush (M := M_X12_area) 69 dX12_area_69 ?_
              exact z_retI (M := M_X12_area) 71 dX12_area_71 rfl ⟨G7, R7, by omega, by omega, Or.inl ⟨fun z => absurd (fx7_1.mpr ⟨z.1.2, tf_, z.2.2.2.2⟩) (by omega), rfl⟩⟩
        · refine z_if_eq_T (M := M_X12_area) 34 dX12_area_34 41 rfl (by omega) ?_
          refine z_iconst (M := M_X12_area) 41 dX12_area_41 ?_
          refine z_istore (M := M_X12_area) 42 dX12_area_42 (ls' := [some (mR 108), some (mI a1), some (mI a2), some (mI a3), some (mI a4), some (mI 0)]) (by decide) rfl ?_
          refine z_iload (M := M_X12_area) 44 dX12_area_44 rfl ?_
          refine z_if_eq_T (M := M_X12_area) 46 dX12_area_46 69 rfl (by omega) ?_
          refine z_bipush (M := M_X12_area) 69 dX12_area_69 ?_
          exact z_retI (M := M_X12_area) 71 dX12_area_71 rfl ⟨G1, R1, by omega, by omega, Or.inl ⟨fun z => cx4 z.2.2.2.1, rfl⟩⟩
      · refine z_if_eq_T (M := M_X12_area) 23 dX12_area_23 41 rfl (by omega) ?_
        refine z_iconst (M := M_X12_area) 41 dX12_area_41 ?_
        refine z_istore (M := M_X12_area) 42 dX12_area_42 (ls' := [some (mR 108), some (mI a1), some (mI a2), some (mI a3), some (mI a4), some (mI 0)]) (by decide) rfl ?_
        refine z_iload (M := M_X12_area) 44 dX12_area_44 rfl ?_
        refine z_if_eq_T (M := M_X12_area) 46 dX12_area_46 69 rfl (by omega) ?_
        refine z_bipush (M := M_X12_area) 69 dX12_area_69 ?_
        exact z_retI (M := M_X12_area) 71 dX12_area_71 rfl ⟨G1, R1, by omega, by omega, Or.inl ⟨fun z => cx3 z.2.2.1, rfl⟩⟩
    · refine z_if_eq_T (M := M_X12_area) 16 dX12_area_16 41 rfl (by omega) ?_
      refine z_iconst (M := M_X12_area) 41 dX12_area_41 ?_
      refine z_istore (M := M_X12_area) 42 dX12_area_42 (ls' := [some (mR 108), some (mI a1), some (mI a2), some (mI a3), some (mI a4), some (mI 0)]) (by decide) rfl ?_
      refine z_iload (M := M_X12_area) 44 dX12_area_44 rfl ?_
      refine z_if_eq_T (M := M_X12_area) 46 dX12_area_46 69 rfl (by omega) ?_
      refine z_bipush (M := M_X12_area) 69 dX12_area_69 ?_
      exact z_retI (M := M_X12_area) 71 dX12_area_71 rfl ⟨G1, R1, by omega, by omega, Or.inl ⟨fun z => cx2 z.2.1.1, rfl⟩⟩
  · refine z_if_eq_T (M := M_X12_area) 9 dX12_area_9 41 rfl (by omega) ?_
    refine z_iconst (M := M_X12_area) 41 dX12_area_41 ?_
    refine z_istore (M := M_X12_area) 42 dX12_area_42 (ls' := [some (mR 108), some (mI a1), some (mI a2), some (mI a3), some (mI a4), some (mI 0)]) (by decide) rfl ?_
    refine z_iload (M := M_X12_area) 44 dX12_area_44 rfl ?_
    refine z_if_eq_T (M := M_X12_area) 46 dX12_area_46 69 rfl (by omega) ?_
    refine z_bipush (M := M_X12_area) 69 dX12_area_69 ?_
    exact z_retI (M := M_X12_area) 71 dX12_area_71 rfl ⟨G1, R1, by omega, by omega, Or.inl ⟨fun z => cx1 z.1.1, rfl⟩⟩
