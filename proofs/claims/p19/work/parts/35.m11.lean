abbrev P_X12_round (h0 : m_H) (a1 : Int) (L : List gE) : Int → m_H → Prop := fun x h' => GI h' ∧ FR [115, 116, 124, 125, 126, 127, 128, 129, 130, 131, 132, 133] [] h0 h' ∧ 0 ≤ x ∧ x ≤ 1 ∧ (∀ l, l < 16 → aS h' l = (gi a1 (aS h0) L L.length).1 l) ∧ x = (gi a1 (aS h0) L L.length).2
def q_X12_round (h0 : m_H) (a1 : Int) (L : List gE) (n : Nat) : Prop := (∀ (l2 l3 : Int) (h : m_H), GI h → FR [115, 116, 124, 125, 126, 127, 128, 129, 130, 131, 132, 133] [] h0 h → 0 ≤ l2 → l2 ≤ 1 → 0 ≤ l3 → l3 ≤ 61 → (rdI h0 h L a1 l3.toNat l2) → (l3 ≤ h0 108 21) → 16 * (61 - l3) + (15) ≤ (n : Int) → m_Z oF M_X12_round 9 [some (mR 108), some (mI a1), some (mI l2), some (mI l3), none, none, none, none, none] [] h (m_QI (P_X12_round h0 a1 L))) ∧ (∀ (l2 l3 l5 l6 : Int) (h : m_H), GI h → FR [115, 116, 124, 125, 126, 127, 128, 129, 130, 131, 132, 133] [] h0 h → 0 ≤ l2 → l2 ≤ 1 → 0 ≤ l3 → l3 ≤ 59 → 0 ≤ l5 → l5 ≤ 15 → 0 ≤ l6 → l6 ≤ 1 → (rcI h0 h L a1 l3 l2 l5 l6) → (l3 + 1 ≤ h0 108 21) → 16 * (61 - l3) + (14) ≤ (n : Int) → m_Z oF M_X12_round 117 [some (mR 108), some (mI a1), some (mI l2), some (mI l3), none, some (mI l5), some (mI l6), none, none] [] h (m_QI (P_X12_round h0 a1 L))) ∧ (∀ (l3 l5 l6 l8 : Int) (h : m_H), GI h → FR [115, 116, 124, 125, 126, 127, 128, 129, 130, 131, 132, 133] [] h0 h → 0 ≤ l3 → l3 ≤ 60 → 0 ≤ l5 → l5 ≤ 15 → 0 ≤ l6 → l6 ≤ 1 → 0 ≤ l8 → l8 ≤ 5 → (rkI h0 h L a1 l3 l5 l6 l8) → (l3 + 1 ≤ h0 108 21) → 16 * (61 - l3) + 2 * (5 - l8) + (1) ≤ (n : Int) → m_Z oF M_X12_round 186 [some (mR 108), some (mI a1), none, some (mI l3), none, some (mI l5), some (mI l6), none, some (mI l8)] [] h (m_QI (P_X12_round h0 a1 L)))
set_option maxHeartbeats 4000000 in
set_option maxRecDepth 100000 in
theorem s_X12_round_9 (h0 : m_H) (a1 : Int) (L : List gE) (G0 : GI h0) (pa1 : 0 ≤ a1 ∧ a1 ≤ 1) (hA : AR h0 L) (hE : ∀ q ∈ L, gEo q) (n : Nat) (ih : q_X12_round h0 a1 L n) : ∀ (l2 l3 : Int) (h : m_H), GI h → FR [115, 116, 124, 125, 126, 127, 128, 129, 130, 131, 132, 133] [] h0 h → 0 ≤ l2 → l2 ≤ 1 → 0 ≤ l3 → l3 ≤ 61 → (rdI h0 h L a1 l3.toNat l2) → (l3 ≤ h0 108 21) → 16 * (61 - l3) + (15) ≤ ((n + 1 : Nat) : Int) → m_Z oF M_X12_round 9 [some (mR 108), some (mI a1), some (mI l2), some (mI l3), none, none, none, none, none] [] h (m_QI (P_X12_round h0 a1 L)) := by
  intro l2 l3 h G R v0 v1 v2 v3 i0 i1 hr
  refine z_iload_n (M := M_X12_round) 9 dX12_round_9 rfl ?_
  refine z_aload_n (M := M_X12_round) 10 dX12_round_10 rfl ?_
  refine z_getIG (M := M_X12_round) 11 dX12_round_11 f_X12_333 o_108 (by decide) (g_108_21 G) (fun x1 ex1 ax1 bx1 => ?_)
  refine z_icmp_ge (M := M_X12_round) 14 dX12_round_14 261 rfl (fun c2 => ?_) (fun c2 => ?_)
  · refine z_aload_n (M := M_X12_round) 261 dX12_round_261 rfl ?_
    refine z_iconst (M := M_X12_round) 262 dX12_round_262 ?_
    refine z_vV (M := M_X12_round) 263 dX12_round_263 t_X12_keep l_X12_343 (m_rr_of rfl) (rest := []) (c_X12_keep1 h 1 G ⟨by omega, by omega⟩) o_108 rfl rfl rfl (Nat.le_of_ble_eq_true rfl) ⟨rfl, rfl⟩ (fun h1 qx3 => ?_)
    obtain ⟨G1, S1, fx3_0⟩ := qx3
    have R1 := R.call S1 (by decide +kernel)
    refine z_iload_n (M := M_X12_round) 266 dX12_round_266 rfl ?_
    exact z_retZ (M := M_X12_round) 267 dX12_round_267 rfl (by omega) ⟨G1, R1, by omega, by omega, (rd_end i0 (hA.call R rfl (fun _ => rfl) (fun _ => rfl) (fun _ => rfl) (fun _ => rfl) (fun _ => rfl)) ex1 (by omega) (by have r1 := R 108 21 rfl; omega) fx3_0).1, (rd_end i0 (hA.call R rfl (fun _ => rfl) (fun _ => rfl) (fun _ => rfl) (fun _ => rfl) (fun _ => rfl)) ex1 (by omega) (by have r1 := R 108 21 rfl; omega) fx3_0).2⟩
  · refine z_aload_n (M := M_X12_round) 17 dX12_round_17 rfl ?_
    refine z_getR (M := M_X12_round) 18 dX12_round_18 f_X12_40 o_108 rfl (g_108_22 G) ?_
    refine z_iload_n (M := M_X12_round) 21 dX12_round_21 rfl ?_
    refine z_ialdG (M := M_X12_round) 22 dX12_round_22 o_117 (by omega) (by omega) (g_117 G (by omega)) (fun x4 ex4 ax4 bx4 => ?_)
    refine z_istore (M := M_X12_round) 23 dX12_round_23 (ls' := [some (mR 108), some (mI a1), some (mI l2), some (mI l3), some (mI x4), none, none, none, none]) (by decide) rfl ?_
    refine z_aload_n (M := M_X12_round) 25 dX12_round_25 rfl ?_
    refine z_getR (M := M_X12_round) 26 dX12_round_26 f_X12_43 o_108 rfl (g_108_23 G) ?_
    refine z_iload_n (M := M_X12_round) 29 dX12_round_29 rfl ?_
    refine z_ialdG (M := M_X12_round) 30 dX12_round_30 o_118 (by omega) (by omega) (g_118 G (by omega)) (fun x5 ex5 ax5 bx5 => ?_)
    refine z_istore (M := M_X12_round) 31 dX12_round_31 (ls' := [some (mR 108), some (mI a1), some (mI l2), some (mI l3), some (mI x4), some (mI x5), none, none, none]) (by decide) rfl ?_
    refine z_aload_n (M := M_X12_round) 33 dX12_round_33 rfl ?_
    refine z_getR (M := M_X12_round) 34 dX12_round_34 f_X12_70 o_108 rfl (g_108_32 G) ?_
    refine z_iload (M := M_X12_round) 37 dX12_round_37 rfl ?_
    refine z_zaldG (M := M_X12_round) 39 dX12_round_39 o_127 (by omega) (by omega) (g_127 G (by omega)) (fun x6 ex6 ax6 bx6 => ?_)
    refine z_if_eq (M := M_X12_round) 40 dX12_round_40 255 rfl (fun c7 => ?_) (fun c7 => ?_)
    · refine z_iincN (M := M_X12_round) 255 dX12_round_255 (ls' := [some (mR 108), some (mI a1), some (mI l2), some (mI (l3 + 1)), some (mI x4), some (mI x5), none, none, none]) (by decide) rfl (by (unfold m_32; decide)) (by omega) (by omega) rfl ?_
      refine z_goto (M := M_X12_round) 258 dX12_round_258 9 rfl ?_
      exact z_mask [true, true, true, true, false, false, false, false, false] rfl (ih.1 l2 (l3 + 1) h G R (by omega) (by omega) (by omega) (by omega) (rd_skipA hE (hA.call R rfl (fun _ => rfl) (fun _ => rfl) (fun _ => rfl) (fun _ => rfl) (fun _ => rfl)) (by omega) i0 ex1 (by omega) ex4 ex6 (by omega)) (by have r1 := R 108 21 rfl; omega) (by omega))
    · refine z_aload_n (M := M_X12_round) 43 dX12_round_43 rfl ?_
      refine z_getR (M := M_X12_round) 44 dX12_round_44 f_X12_85 o_108 rfl (g_108_37 G) ?_
      refine z_iconst (M := M_X12_round) 47 dX12_round_47 ?_
      refine z_aload_n (M := M_X12_round) 48 dX12_round_48 rfl ?_
      refine z_getR (M := M_X12_round) 49 dX12_round_49 f_X12_61 o_108 rfl (g_108_29 G) ?_
      refine z_iconst (M := M_X12_round) 52 dX12_round_52 ?_
      refine z_iload (M := M_X12_round) 53 dX12_round_53 rfl ?_
      refine z_imulN (M := M_X12_round) 55 dX12_round_55 (by omega) (by omega) ?_
      refine z_aload_n (M := M_X12_round) 56 dX12_round_56 rfl ?_
      refine z_getR (M := M_X12_round) 57 dX12_round_57 f_X12_46 o_108 rfl (g_108_24 G) ?_
      refine z_iload_n (M := M_X12_round) 60 dX12_round_60 rfl ?_
      refine z_ialdG (M := M_X12_round) 61 dX12_round_61 o_119 (by omega) (by omega) (g_119 G (by omega)) (fun x8 ex8 ax8 bx8 => ?_)
      refine z_sV (M := M_X12_round) 62 dX12_round_62 t_X12_times l_X12_346 (m_rr_of rfl) (rest := []) (c_X12_timesU h 0 (5 * x4) x8 G ⟨by omega, by omega⟩ ⟨by omega, by omega⟩ ⟨by omega, by omega⟩) rfl rfl (Nat.le_of_ble_eq_true rfl) ⟨rfl, rfl⟩ (fun h2 qx9 => ?_)
      obtain ⟨G2, S2, fx9_0⟩ := qx9
      have R2 := R.call S2 (by decide +kernel)
      refine z_aload_n (M := M_X12_round) 65 dX12_round_65 rfl ?_
      refine z_getR (M := M_X12_round) 66 dX12_round_66 f_X12_88 o_108 rfl (g_108_38 G2) ?_
      refine z_iconst (M := M_X12_round) 69 dX12_round_69 ?_
      refine z_aload_n (M := M_X12_round) 70 dX12_round_70 rfl ?_
      refine z_getR (M := M_X12_round) 71 dX12_round_71 f_X12_64 o_108 rfl (g_108_30 G2) ?_
      refine z_iconst (M := M_X12_round) 74 dX12_round_74 ?_
      refine z_iload (M := M_X12_round) 75 dX12_round_75 rfl ?_
      refine z_imulN (M := M_X12_round) 77 dX12_round_77 (by omega) (by omega) ?_
      refine z_aload_n (M := M_X12_round) 78 dX12_round_78 rfl ?_
      refine z_getR (M := M_X12_round) 79 dX12_round_79 f_X12_49 o_108 rfl (g_108_25 G2) ?_
      refine z_iload_n (M := M_X12_round) 82 dX12_round_82 rfl ?_
      refine z_ialdG (M := M_X12_round) 83 dX12_round_83 o_120 (by omega) (by omega) (g_120 G2 (by omega)) (fun x10 ex10 ax10 bx10 => ?_)
      refine z_sV (M := M_X12_round) 84 dX12_round_84 t_X12_times l_X12_346 (m_rr_of rfl) (rest := []) (c_X12_timesL h2 0 (5 * x4) x10 G2 ⟨by omega, by omega⟩ ⟨by omega, by omega⟩ ⟨by omega, by omega⟩) rfl rfl (Nat.le_of_ble_eq_true rfl) ⟨rfl, rfl⟩ (fun h3 qx11 => ?_)
      obtain ⟨G3, S3, fx11_0⟩ := qx11
      have R3 := R2.call S3 (by decide +kernel)
      refine z_iload_n (M := M_X12_round) 87 dX12_round_87 rfl ?_
      refine z_if_eq (M := M_X12_round) 88 dX12_round_88 114 rfl (fun c12 => ?_) (fun c12 => ?_)
      · refine z_iconst (M := M_X12_round) 114 dX12_round_114 ?_
        refine z_istore (M := M_X12_round) 115 dX12_round_115 (ls' := [some (mR 108), some (mI a1), some (mI l2), some (mI l3), some (mI x4), some (mI x5), some (mI 0), none, none]) (by decide) rfl ?_
        exact z_mask [true, true, true, true, false, true, true, false, false] rfl (ih.2.1 l2 l3 x5 0 h3 G3 R3 (by omega) (by omega) (by omega) (by omega) (by omega) (by omega) (by omega) (by omega) (rc_of hE (hA.call R rfl (fun _ => rfl) (fun _ => rfl) (fun _ => rfl) (fun _ => rfl) (fun _ => rfl)) (by omega) i0 ex1 (by omega) ex4 ex5 ex6 (by omega) ex8 S2 fx9_0 ex10 S3 fx11_0 (by have s1 := (S3 126 x4.toNat rfl).trans (S2 126 x4.toNat rfl); have s2 := (S3 121 l3.toNat rfl).trans (S2 121 l3.toNat rfl); split <;> omega)) (by have r1 := R 108 21 rfl; omega) (by omega))
      · refine z_aload_n (M := M_X12_round) 91 dX12_round_91 rfl ?_
        refine z_getR (M := M_X12_round) 92 dX12_round_92 f_X12_67 o_108 rfl (g_108_31 G3) ?_
        refine z_iload (M := M_X12_round) 95 dX12_round_95 rfl ?_
        refine z_zaldG (M := M_X12_round) 97 dX12_round_97 o_126 (by omega) (by omega) (g_126 G3 (by omega)) (fun x13 ex13 ax13 bx13 => ?_)
        refine z_if_ne (M := M_X12_round) 98 dX12_round_98 110 rfl (fun c14 => ?_) (fun c14 => ?_)
        · refine z_iconst (M := M_X12_round) 110 dX12_round_110 ?_
          refine z_goto (M := M_X12_round) 111 dX12_round_111 115 rfl ?_
          refine z_istore (M := M_X12_round) 115 dX12_round_115 (ls' := [some (mR 108), some (mI a1), some (mI l2), some (mI l3), some (mI x4), some (mI x5), some (mI 1), none, none]) (by decide) rfl ?_
          exact z_mask [true, true, true, true, false, true, true, false, false] rfl (ih.2.1 l2 l3 x5 1 h3 G3 R3 (by omega) (by omega) (by omega) (by omega) (by omega) (by omega) (by omega) (by omega) (rc_of hE (hA.call R rfl (fun _ => rfl) (fun _ => rfl) (fun _ => rfl) (fun _ => rfl) (fun _ => rfl)) (by omega) i0 ex1 (by omega) ex4 ex5 ex6 (by omega) ex8 S2 fx9_0 ex10 S3 fx11_0 (by have s1 := (S3 126 x4.toNat rfl).trans (S2 126 x4.toNat rfl); have s2 := (S3 121 l3.toNat rfl).trans (S2 121 l3.toNat rfl); split <;> omega)) (by have r1 := R 108 21 rfl; omega) (by omega))
        · refine z_aload_n (M := M_X12_round) 101 dX12_round_101 rfl ?_
          refine z_getR (M := M_X12_round) 102 dX12_round_102 f_X12_52 o_108 rfl (g_108_26 G3) ?_
          refine z_iload_n (M := M_X12_round) 105 dX12_round_105 rfl ?_
          refine z_zaldG (M := M_X12_round) 106 dX12_round_106 o_121 (by omega) (by omega) (g_121 G3 (by omega)) (fun x15 ex15 ax15 bx15 => ?_)
          refine z_if_eq (M := M_X12_round) 107 dX12_round_107 114 rfl (fun c16 => ?_) (fun c16 => ?_)
          · refine z_iconst (M := M_X12_round) 114 dX12_round_114 ?_
            refine z_istore (M := M_X12_round) 115 dX12_round_115 (ls' := [some (mR 108), some (mI a1), some (mI l2), some (mI l3), some (mI x4), some (mI x5), some (mI 0), none, none]) (by decide) rfl ?_
            exact z_mask [true, true, true, true, false, true, true, false, false] rfl (ih.2.1 l2 l3 x5 0 h3 G3 R3 (by omega) (by omega) (by omega) (by omega) (by omega) (by omega) (by omega) (by omega) (rc_of hE (hA.call R rfl (fun _ => rfl) (fun _ => rfl) (fun _ => rfl) (fun _ => rfl) (fun _ => rfl)) (by omega) i0 ex1 (by omega) ex4 ex5 ex6 (by omega) ex8 S2 fx9_0 ex10 S3 fx11_0 (by have s1 := (S3 126 x4.toNat rfl).trans (S2 126 x4.toNat rfl); have s2 := (S3 121 l3.toNat rfl).trans (S2 121 l3.toNat rfl); split <;> omega)) (by have r1 := R 108 21 rfl; omega) (by omega))
          · refine z_iconst (M := M_X12_round) 110 dX12_round_110 ?_
            refine z_goto (M := M_X12_round) 111 dX12_round_111 115 rfl ?_
            refine z_istore (M := M_X12_round) 115 dX12_round_115 (ls' := [some (mR 108), some (mI a1), some (mI l2), some (mI l3), some (mI x4), some (mI x5), some (mI 1), none, none]) (by decide) rfl ?_
            exact z_mask [true, true, true, true, false, true, true, false, false] rfl (ih.2.1 l2 l3 x5 1 h3 G3 R3 (by omega) (by omega) (by omega) (by omega) (by omega) (by omega) (by omega) (by omega) (rc_of hE (hA.call R rfl (fun _ => rfl) (fun _ => rfl) (fun _ => rfl) (fun _ => rfl) (fun _ => rfl)) (by omega) i0 ex1 (by omega) ex4 ex5 ex6 (by omega) ex8 S2 fx9_0 ex10 S3 fx11_0 (by have s1 := (S3 126 x4.toNat rfl).trans (S2 126 x4.toNat rfl); have s2 := (S3 121 l3.toNat rfl).trans (S2 121 l3.toNat rfl); split <;> omega)) (by have r1 := R 108 21 rfl; omega) (by omega))
set_option maxHeartbeats 4000000 in
set_option maxRecDepth 100000 in
theorem s_X12_round_117 (h0 : m_H) (a1 : Int) (L : List gE) (G0 : GI h0) (pa1 : 0 ≤ a1 ∧ a1 ≤ 1) (hA : AR h0 L) (hE : ∀ q ∈ L, gEo q) (n : Nat) (ih : q_X12_round h0 a1 L n) : ∀ (l2 l3 l5 l6 : Int) (h : m_H), GI h → FR [115, 116, 124, 125, 126, 127, 128, 129, 130, 131, 132, 133] [] h0 h → 0 ≤ l2 → l2 ≤ 1 → 0 ≤ l3 → l3 ≤ 59 → 0 ≤ l5 → l5 ≤ 15 → 0 ≤ l6 → l6 ≤ 1 → (rcI h0 h L a1 l3 l2 l5 l6) → (l3 + 1 ≤ h0 108 21) → 16 * (61 - l3) + (14) ≤ ((n + 1 : Nat) : Int) → m_Z oF M_X12_round 117 [some (mR 108), some (mI a1), some (mI l2), some (mI l3), none, some (mI l5), some (mI l6), none, none] [] h (m_QI (P_X12_round h0 a1 L)) := by
  intro l2 l3 l5 l6 h G R v0 v1 v2 v3 v4 v5 v6 v7 i0 i1 hr
  refine z_aload_n (M := M_X12_round) 117 dX12_round_117 rfl ?_
  refine z_getR (M := M_X12_round) 118 dX12_round_118 f_X12_82 o_108 rfl (g_108_36 G) ?_
  refine z_iload (M := M_X12_round) 121 dX12_round_121 rfl ?_
  refine z_zaldG (M := M_X12_round) 123 dX12_round_123 o_131 (by omega) (by omega) (g_131 G (by omega)) (fun x1 ex1 ax1 bx1 => ?_)
  refine z_if_eq (M := M_X12_round) 124 dX12_round_124 155 rfl (fun c2 => ?_) (fun c2 => ?_)
  · refine z_iconst (M := M_X12_round) 155 dX12_round_155 ?_
    refine z_istore (M := M_X12_round) 156 dX12_round_156 (ls' := [some (mR 108), some (mI a1), some (mI l2), some (mI l3), none, some (mI l5), some (mI l6), some (mI 1), none]) (by decide) rfl ?_
    refine z_iload (M := M_X12_round) 158 dX12_round_158 rfl ?_
    refine z_if_gt_T (M := M_X12_round) 160 dX12_round_160 183 rfl (by omega) ?_
    refine z_iconst (M := M_X12_round) 183 dX12_round_183 ?_
    refine z_istore (M := M_X12_round) 184 dX12_round_184 (ls' := [some (mR 108), some (mI a1), some (mI l2), some (mI l3), none, some (mI l5), some (mI l6), some (mI 1), some (mI 0)]) (by decide) rfl ?_
    exact z_mask [true, true, false, true, false, true, true, false, true] rfl (ih.2.2 l3 l5 l6 0 h G R (by omega) (by omega) (by omega) (by omega) (by omega) (by omega) (by omega) (by omega) (rk_0 i0 (gbH_a ex1 (by omega))) i1 (by omega))
  · refine z_aload_n (M := M_X12_round) 127 dX12_round_127 rfl ?_
    refine z_aload_n (M := M_X12_round) 128 dX12_round_128 rfl ?_
    refine z_getR (M := M_X12_round) 129 dX12_round_129 f_X12_85 o_108 rfl (g_108_37 G) ?_
    refine z_aload_n (M := M_X12_round) 132 dX12_round_132 rfl ?_
    refine z_getR (M := M_X12_round) 133 dX12_round_133 f_X12_88 o_108 rfl (g_108_38 G) ?_
    refine z_iconst (M := M_X12_round) 136 dX12_round_136 ?_
    refine z_aload_n (M := M_X12_round) 137 dX12_round_137 rfl ?_
    refine z_getR (M := M_X12_round) 138 dX12_round_138 f_X12_73 o_108 rfl (g_108_33 G) ?_
    refine z_aload_n (M := M_X12_round) 141 dX12_round_141 rfl ?_
    refine z_getR (M := M_X12_round) 142 dX12_round_142 f_X12_76 o_108 rfl (g_108_34 G) ?_
    refine z_iconst (M := M_X12_round) 145 dX12_round_145 ?_
    refine z_iload (M := M_X12_round) 146 dX12_round_146 rfl ?_
    refine z_imulN (M := M_X12_round) 148 dX12_round_148 (by omega) (by omega) ?_
    refine z_vI (M := M_X12_round) 149 dX12_round_149 t_X12_compare l_X12_350 (m_rr_of rfl) (rest := []) (c_X12_compareA h 0 (5 * l5) G ⟨by omega, by omega⟩ ⟨by omega, by omega⟩) o_108 rfl rfl rfl (Nat.le_of_ble_eq_true rfl) ⟨rfl, rfl⟩ (fun x3 h1 qx3 => ?_)
    obtain ⟨G1, S1, ax3, bx3, fx3_0⟩ := qx3
    have R1 := R.call S1 (by decide +kernel)
    refine z_goto (M := M_X12_round) 152 dX12_round_152 156 rfl ?_
    refine z_istore (M := M_X12_round) 156 dX12_round_156 (ls' := [some (mR 108), some (mI a1), some (mI l2), some (mI l3), none, some (mI l5), some (mI l6), some (mI x3), none]) (by decide) rfl ?_
    refine z_iload (M := M_X12_round) 158 dX12_round_158 rfl ?_
    refine z_if_gt (M := M_X12_round) 160 dX12_round_160 183 rfl (fun c4 => ?_) (fun c4 => ?_)
    · refine z_iconst (M := M_X12_round) 183 dX12_round_183 ?_
      refine z_istore (M := M_X12_round) 184 dX12_round_184 (ls' := [some (mR 108), some (mI a1), some (mI l2), some (mI l3), none, some (mI l5), some (mI l6), some (mI x3), some (mI 0)]) (by decide) rfl ?_
      exact z_mask [true, true, false, true, false, true, true, false, true] rfl (ih.2.2 l3 l5 l6 0 h1 G1 R1 (by omega) (by omega) (by omega) (by omega) (by omega) (by omega) (by omega) (by omega) (rk_0 (i0.call S1) ((gbH_b (by omega) rfl fx3_0 (by omega)).call S1)) i1 (by omega))
    · refine z_iload (M := M_X12_round) 163 dX12_round_163 rfl ?_
      refine z_if_ne (M := M_X12_round) 165 dX12_round_165 255 rfl (fun c5 => ?_) (fun c5 => ?_)
      · refine z_iincN (M := M_X12_round) 255 dX12_round_255 (ls' := [some (mR 108), some (mI a1), some (mI l2), some (mI (l3 + 1)), none, some (mI l5), some (mI l6), some (mI x3), none]) (by decide) rfl (by (unfold m_32; decide)) (by omega) (by omega) rfl ?_
        refine z_goto (M := M_X12_round) 258 dX12_round_258 9 rfl ?_
        exact z_mask [true, true, true, true, false, false, false, false, false] rfl (ih.1 l2 (l3 + 1) h1 G1 R1 (by omega) (by omega) (by omega) (by omega) ((rc_skip (by omega) i0 (ngb_d (by omega) rfl ex1 (by omega) fx3_0 (by omega))).call S1 (fun _ => rfl) (fun _ => rfl) (fun _ => rfl) (fun _ => rfl) (fun _ => rfl) (fun _ => rfl) (fun _ => rfl) (fun _ => rfl)) i1 (by omega))
      · refine z_iload (M := M_X12_round) 168 dX12_round_168 rfl ?_
        refine z_if_eq (M := M_X12_round) 170 dX12_round_170 255 rfl (fun c6 => ?_) (fun c6 => ?_)
        · refine z_iincN (M := M_X12_round) 255 dX12_round_255 (ls' := [some (mR 108), some (mI a1), some (mI l2), some (mI (l3 + 1)), none, some (mI l5), some (mI l6), some (mI x3), none]) (by decide) rfl (by (unfold m_32; decide)) (by omega) (by omega) rfl ?_
          refine z_goto (M := M_X12_round) 258 dX12_round_258 9 rfl ?_
          exact z_mask [true, true, true, true, false, false, false, false, false] rfl (ih.1 l2 (l3 + 1) h1 G1 R1 (by omega) (by omega) (by omega) (by omega) ((rc_skip (by omega) i0 (ngb_e (by omega) rfl ex1 (by omega) fx3_0 (by omega) (Or.inl (by omega)))).call S1 (fun _ => rfl) (fun _ => rfl) (fun _ => rfl) (fun _ => rfl) (fun _ => rfl) (fun _ => rfl) (fun _ => rfl) (fun _ => rfl)) i1 (by omega))
        · refine z_aload_n (M := M_X12_round) 173 dX12_round_173 rfl ?_
          refine z_getR (M := M_X12_round) 174 dX12_round_174 f_X12_79 o_108 rfl (g_108_35 G1) ?_
          refine z_iload (M := M_X12_round) 177 dX12_round_177 rfl ?_
          refine z_zaldG (M := M_X12_round) 179 dX12_round_179 o_130 (by omega) (by omega) (g_130 G1 (by omega)) (fun x7 ex7 ax7 bx7 => ?_)
          refine z_if_ne (M := M_X12_round) 180 dX12_round_180 255 rfl (fun c8 => ?_) (fun c8 => ?_)
          · refine z_iincN (M := M_X12_round) 255 dX12_round_255 (ls' := [some (mR 108), some (mI a1), some (mI l2), some (mI (l3 + 1)), none, some (mI l5), some (mI l6), some (mI x3), none]) (by decide) rfl (by (unfold m_32; decide)) (by omega) (by omega) rfl ?_
            refine z_goto (M := M_X12_round) 258 dX12_round_258 9 rfl ?_
            exact z_mask [true, true, true, true, false, false, false, false, false] rfl (ih.1 l2 (l3 + 1) h1 G1 R1 (by omega) (by omega) (by omega) (by omega) ((rc_skip (by omega) i0 (ngb_e (by omega) rfl ex1 (by omega) fx3_0 (by omega) (Or.inr (((S1 130 _ rfl).symm.trans ex7).trans (by omega))))).call S1 (fun _ => rfl) (fun _ => rfl) (fun _ => rfl) (fun _ => rfl) (fun _ => rfl) (fun _ => rfl) (fun _ => rfl) (fun _ => rfl)) i1 (by omega))
          · refine z_iconst (M := M_X12_round) 183 dX12_round_183 ?_
            refine z_istore (M := M_X12_round) 184 dX12_round_184 (ls' := [some (mR 108), some (mI a1), some (mI l2), some (mI l3), none, some (mI l5), some (mI l6), some (mI x3), some (mI 0)]) (by decide) rfl ?_
            exact z_mask [true, true, false, true, false, true, true, false, true] rfl (ih.2.2 l3 l5 l6 0 h1 G1 R1 (by omega) (by omega) (by omega) (by omega) (by omega) (by omega) (by omega) (by omega) (rk_0 (i0.call S1) ((gbH_c (by omega) rfl fx3_0 (by omega) (by omega) ((S1 130 _ rfl).symm.trans ex7) (by omega)).call S1)) i1 (by omega))
set_option maxHeartbeats 4000000 in
set_option maxRecDepth 100000 in
theorem s_X12_round_186 (h0 : m_H) (a1 : Int) (L : List gE) (G0 : GI h0) (pa1 : 0 ≤ a1 ∧ a1 ≤ 1) (hA : AR h0 L) (hE : ∀ q ∈ L, gEo q) (n : Nat) (ih : q_X12_round h0 a1 L n) : ∀ (l3 l5 l6 l8 : Int) (h : m_H), GI h → FR [115, 116, 124, 125, 126, 127, 128, 129, 130, 131, 132, 133] [] h0 h → 0 ≤ l3 → l3 ≤ 60 → 0 ≤ l5 → l5 ≤ 15 → 0 ≤ l6 → l6 ≤ 1 → 0 ≤ l8 → l8 ≤ 5 → (rkI h0 h L a1 l3 l5 l6 l8) → (l3 + 1 ≤ h0 108 21) → 16 * (61 - l3) + 2 * (5 - l8) + (1) ≤ ((n + 1 : Nat) : Int) → m_Z oF M_X12_round 186 [some (mR 108), some (mI a1), none, some (mI l3), none, some (mI l5), some (mI l6), none, some (mI l8)] [] h (m_QI (P_X12_round h0 a1 L)) := by
  intro l3 l5 l6 l8 h G R v0 v1 v2 v3 v4 v5 v6 v7 i0 i1 hr
  refine z_iload (M := M_X12_round) 186 dX12_round_186 rfl ?_
  refine z_iconst (M := M_X12_round) 188 dX12_round_188 ?_
  refine z_icmp_ge (M := M_X12_round) 189 dX12_round_189 236 rfl (fun c1 => ?_) (fun c1 => ?_)
  · refine z_aload_n (M := M_X12_round) 236 dX12_round_236 rfl ?_
    refine z_getR (M := M_X12_round) 237 dX12_round_237 f_X12_79 o_108 rfl (g_108_35 G) ?_
    refine z_iload (M := M_X12_round) 240 dX12_round_240 rfl ?_
    refine z_iload (M := M_X12_round) 242 dX12_round_242 rfl ?_
    refine z_zastH (M := M_X12_round) 244 dX12_round_244 o_130 (by omega) (by omega) (by omega) (u_130 G (by omega) (by omega)) (R.up rfl) (fun h1 E1 G1 R1 => ?_)
    refine z_aload_n (M := M_X12_round) 245 dX12_round_245 rfl ?_
    refine z_getR (M := M_X12_round) 246 dX12_round_246 f_X12_82 o_108 rfl (g_108_36 G1) ?_
    refine z_iload (M := M_X12_round) 249 dX12_round_249 rfl ?_
    refine z_iconst (M := M_X12_round) 251 dX12_round_251 ?_
    refine z_zastH (M := M_X12_round) 252 dX12_round_252 o_131 (by omega) (by omega) (by omega) (u_131 G1 (by omega) (by omega)) (R1.up rfl) (fun h2 E2 G2 R2 => ?_)
    refine z_iconst (M := M_X12_round) 253 dX12_round_253 ?_
    refine z_istore_n (M := M_X12_round) 254 dX12_round_254 (ls' := [some (mR 108), some (mI a1), some (mI 1), some (mI l3), none, some (mI l5), some (mI l6), none, some (mI l8)]) (by decide) rfl ?_
    refine z_iincN (M := M_X12_round) 255 dX12_round_255 (ls' := [some (mR 108), some (mI a1), some (mI 1), some (mI (l3 + 1)), none, some (mI l5), some (mI l6), none, some (mI l8)]) (by decide) rfl (by (unfold m_32; decide)) (by omega) (by omega) rfl ?_
    refine z_goto (M := M_X12_round) 258 dX12_round_258 9 rfl ?_
    exact z_mask [true, true, true, true, false, false, false, false, false] rfl (ih.1 1 (l3 + 1) h2 G2 R2 (by omega) (by omega) (by omega) (by omega) (rk_end (by omega) (by omega) i0 E1 E2) i1 (by omega))
  · refine z_aload_n (M := M_X12_round) 192 dX12_round_192 rfl ?_
    refine z_getR (M := M_X12_round) 193 dX12_round_193 f_X12_73 o_108 rfl (g_108_33 G) ?_
    refine z_iconst (M := M_X12_round) 196 dX12_round_196 ?_
    refine z_iload (M := M_X12_round) 197 dX12_round_197 rfl ?_
    refine z_imulN (M := M_X12_round) 199 dX12_round_199 (by omega) (by omega) ?_
    refine z_iload (M := M_X12_round) 200 dX12_round_200 rfl ?_
    refine z_iaddN (M := M_X12_round) 202 dX12_round_202 (by omega) (by omega) ?_
    refine z_aload_n (M := M_X12_round) 203 dX12_round_203 rfl ?_
    refine z_getR (M := M_X12_round) 204 dX12_round_204 f_X12_85 o_108 rfl (g_108_37 G) ?_
    refine z_iload (M := M_X12_round) 207 dX12_round_207 rfl ?_
    refine z_laldG (M := M_X12_round) 209 dX12_round_209 o_132 (by omega) (by omega) (g_132 G (by omega)) (fun x2 ex2 ax2 bx2 => ?_)
    refine z_lastH (M := M_X12_round) 210 dX12_round_210 o_128 (by omega) (by omega) (u_128 G (by omega) (by omega)) (R.up rfl) (fun h3 E3 G3 R3 => ?_)
    refine z_aload_n (M := M_X12_round) 211 dX12_round_211 rfl ?_
    refine z_getR (M := M_X12_round) 212 dX12_round_212 f_X12_76 o_108 rfl (g_108_34 G3) ?_
    refine z_iconst (M := M_X12_round) 215 dX12_round_215 ?_
    refine z_iload (M := M_X12_round) 216 dX12_round_216 rfl ?_
    refine z_imulN (M := M_X12_round) 218 dX12_round_218 (by omega) (by omega) ?_
    refine z_iload (M := M_X12_round) 219 dX12_round_219 rfl ?_
    refine z_iaddN (M := M_X12_round) 221 dX12_round_221 (by omega) (by omega) ?_
    refine z_aload_n (M := M_X12_round) 222 dX12_round_222 rfl ?_
    refine z_getR (M := M_X12_round) 223 dX12_round_223 f_X12_88 o_108 rfl (g_108_38 G3) ?_
    refine z_iload (M := M_X12_round) 226 dX12_round_226 rfl ?_
    refine z_laldG (M := M_X12_round) 228 dX12_round_228 o_133 (by omega) (by omega) (g_133 G3 (by omega)) (fun x3 ex3 ax3 bx3 => ?_)
    refine z_lastH (M := M_X12_round) 229 dX12_round_229 o_129 (by omega) (by omega) (u_129 G3 (by omega) (by omega)) (R3.up rfl) (fun h4 E4 G4 R4 => ?_)
    refine z_iincN (M := M_X12_round) 230 dX12_round_230 (ls' := [some (mR 108), some (mI a1), none, some (mI l3), none, some (mI l5), some (mI l6), none, some (mI (l8 + 1))]) (by decide) rfl (by (unfold m_32; decide)) (by omega) (by omega) rfl ?_
    refine z_goto (M := M_X12_round) 233 dX12_round_233 186 rfl ?_
    exact z_mask [true, true, false, true, false, true, true, false, true] rfl (ih.2.2 l3 l5 l6 (l8 + 1) h4 G4 R4 (by omega) (by omega) (by omega) (by omega) (by omega) (by omega) (by omega) (by omega) (rk_step (by omega) (by omega) i0 ex2 E3 ex3 E4) i1 (by omega))
theorem a_X12_round (h0 : m_H) (a1 : Int) (L : List gE) (G0 : GI h0) (pa1 : 0 ≤ a1 ∧ a1 ≤ 1) (hA : AR h0 L) (hE : ∀ q ∈ L, gEo q) : ∀ n, q_X12_round h0 a1 L n := by
  intro n
  induction n with
  | zero => unfold q_X12_round; refine ⟨?_, ?_, ?_⟩ <;> (intros; omega)
  | succ n ih => exact ⟨s_X12_round_9 h0 a1 L G0 pa1 hA hE n ih, s_X12_round_117 h0 a1 L G0 pa1 hA hE n ih, s_X12_round_186 h0 a1 L G0 pa1 hA hE n ih⟩
set_option maxHeartbeats 4000000 in
set_option maxRecDepth 100000 in
theorem c_X12_round (h0 : m_H) (a1 : Int) (L : List gE) (G0 : GI h0) (pa1 : 0 ≤ a1 ∧ a1 ≤ 1) (hA : AR h0 L) (hE : ∀ q ∈ L, gEo q) : m_CI M_X12_round [mR 108, mI a1] h0 (P_X12_round h0 a1 L) := by
  refine m_CI_of ⟨by decide, rfl, by simp [m_arg, m_isL, M_X12_round], ⟨rfl, rfl⟩, rfl, rfl⟩ (ls := [some (mR 108), some (mI a1), none, none, none, none, none, none, none]) rfl ?_
  have ih := a_X12_round h0 a1 L G0 pa1 hA hE 998
  refine z_iconst (M := M_X12_round) 0 dX12_round_0 ?_
  refine z_istore_n (M := M_X12_round) 1 dX12_round_1 (ls' := [some (mR 108), some (mI a1), some (mI 0), none, none, none, none, none, none]) (by decide) rfl ?_
  refine z_aload_n (M := M_X12_round) 2 dX12_round_2 rfl ?_
  refine z_iconst (M := M_X12_round) 3 dX12_round_3 ?_
  refine z_vV (M := M_X12_round) 4 dX12_round_4 t_X12_keep l_X12_343 (m_rr_of rfl) (rest := []) (c_X12_keep0 h0 0 G0 ⟨by omega, by omega⟩) o_108 rfl rfl rfl (Nat.le_of_ble_eq_true rfl) ⟨rfl, rfl⟩ (fun h1 qx1 => ?_)
  obtain ⟨G1, S1, fx1_0⟩ := qx1
  have R1 := (FR.rf (cs := [115, 116, 124, 125, 126, 127, 128, 129, 130, 131, 132, 133]) (ss := []) (h := h0)).call S1 (by decide +kernel)
  refine z_iconst (M := M_X12_round) 7 dX12_round_7 ?_
  refine z_istore_n (M := M_X12_round) 8 dX12_round_8 (ls' := [some (mR 108), some (mI a1), some (mI 0), some (mI 0), none, none, none, none, none]) (by decide) rfl ?_
  exact z_mask [true, true, true, true, false, false, false, false, false] rfl (ih.1 0 0 h1 G1 R1 (by omega) (by omega) (by omega) (by omega) (rd_0 fx1_0) (g_108_21 G0).1 (by omega))
