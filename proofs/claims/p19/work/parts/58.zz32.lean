/-! which lengths are there; two compared -/
def thr (r : Nat → Int) (a : Int) : Prop := 0 ≤ a ∧ a ≤ 15 ∧ (a < 6 ∨ 12 ≤ a ∨ r (42 + (a - 6).toNat) ≠ -1)
theorem thr_c {h : m_H} {a : Int} (R : LR 1 h (h 110)) : (0 ≤ a ∧ a ≤ 15 ∧ (a < 6 ∨ 12 ≤ a ∨ h (1 + 2) (a - 6).toNat ≠ -1)) ↔ thr (h 110) a := by
  unfold thr
  by_cases g : 6 ≤ a ∧ a < 12
  · rw [R.2.2.1 (a - 6).toNat (by omega)]
  · constructor
    · rintro ⟨x, y, z⟩; exact ⟨x, y, by omega⟩
    · rintro ⟨x, y, z⟩; exact ⟨x, y, by omega⟩
theorem lm_op {h : m_H} {a b : Int} (hH : bkH h) (hR : bkR h) (a0 : 0 ≤ a) (b0 : 0 ≤ b) : ∀ n, n ≤ 16 → (lmN h a b n).2.1 = 0 → (lmN h a b n).2.2 = 1
  | 0, _ => by
    show (lmI a b).2.1 = 0 → (lmI a b).2.2 = 1
    unfold lmI
    split
    · intro z; exact absurd z (by decide)
    · intro _; rfl
  | n + 1, hn => by
    have i := lm_op hH hR a0 b0 n (by omega)
    show (lmS h a b (n : Int) (lmN h a b n)).2.1 = 0 → (lmS h a b (n : Int) (lmN h a b n)).2.2 = 1
    unfold lmS
    by_cases q : hiV h a ((n : Int) / 4) = 0 ∨ loV h b ((n : Int) % 4) = 0 ∨ h (77 + (n : Int).toNat) 1 = 0
    · rw [if_pos q]; exact i
    · rw [if_neg q]
      have c := cnd_p hH hR a0 b0 (by omega) (by omega) q
      unfold lsB
      split
      · intro z; omega
      · exact i
/-- what a comparison leaves -/
def cpB (r : Nat → Int) (a b : Int) (B : Int × Int × Int) : Prop := BW (bR r) a.toNat b.toNat B ∧ pBb 1600000000 B ∧ (B.2.1 = 0 → B.2.2 = 1) ∧ (B.2.2 = 0 ∨ B.2.2 = 1)
theorem cp_of {h h3 : m_H} {a b s : Int} {B : Int × Int × Int} (G : GI h) (N : NP h) (Y : TY (h 110) s h3) (ng : ¬ gain (bR (h 110))) (ta : thr (h 110) a) (tb : thr (h 110) b) (e : B = if a = b then (1, 1, 0) else lmN h3 a b 16) (o : B.2.2 = 0 ∨ B.2.2 = 1) : cpB (h 110) a b B := by
  obtain ⟨D, cl, X⟩ := Y
  obtain ⟨a0, a1, a2⟩ := ta
  obtain ⟨b0, b1, b2⟩ := tb
  have hE := bR_ok G N
  by_cases g : a = b
  · subst g
    rw [if_pos rfl] at e
    subst e
    exact ⟨one_BW ng (by omega), ⟨⟨by decide, by decide⟩, by decide, by decide⟩, fun z => absurd z (by decide), o⟩
  · rw [if_neg g] at e
    have ea : ((a.toNat : Nat) : Int) = a := by omega
    have eb : ((b.toNat : Nat) : Int) = b := by omega
    have w := lm_BW hE cl X ng (a := a.toNat) (b := b.toNat) (by omega) (by omega) (by omega) (fun h1 h2 => by
      refine List.mem_append.mpr (Or.inr (cA_at 6 b.toNat h1 ?_))
      rcases a2 with q | q | q
      · omega
      · omega
      · rw [show (a - 6).toNat = b.toNat by omega] at q; exact q)
    rw [ea, eb, ← e] at w
    refine ⟨w, ?_, ?_, o⟩
    · rw [e]; exact lmN_b X.1.1 (bkR_X X) a0 b0 16 (Nat.le_refl _)
    · rw [e]; exact lm_op X.1.1 (bkR_X X) a0 b0 16 (Nat.le_refl _)
abbrev P_X11_compare2 (h0 : m_H) (a1 a2 : Int) : Int → m_H → Prop := fun x h' => GI h' ∧ FR (csB ++ [39, 40, 41]) [] h0 h' ∧ 0 ≤ x ∧ x ≤ 1 ∧ (x = 1 ↔ (thr (h0 110) a1 ∧ thr (h0 110) a2 ∧ ¬ gain (bR (h0 110)))) ∧ (x = 1 → cpB (h0 110) a1 a2 (bd h' 95) ∧ cpB (h0 110) a2 a1 (bd h' 94))
set_option maxHeartbeats 4000000 in
set_option maxRecDepth 100000 in
theorem c_X11_compare2 (h0 : m_H) (a1 a2 : Int) (G0 : GI h0) (hR : LR 1 h0 (h0 110)) (hN : NP h0) : m_CI M_X11_compare [mR 0, mI a1, mI a2] h0 (P_X11_compare2 h0 a1 a2) := by
  refine m_CI_of ⟨by decide, rfl, by simp [m_arg, m_isL, M_X11_compare], ⟨rfl, rfl⟩, rfl, rfl⟩ (ls := [some (mR 0), some (mI a1), some (mI a2)]) rfl ?_
  refine z_ok (fun _ _ ok => ?_)
  have oa1 : m_32 a1 := ok 1 _ rfl
  unfold m_32 at oa1
  have oa2 : m_32 a2 := ok 2 _ rfl
  unfold m_32 at oa2
  refine z_aload_n (M := M_X11_compare) 0 dX11_compare_0 rfl ?_
  refine z_getR (M := M_X11_compare) 1 dX11_compare_1 f_X11_12 o_0 rfl (g_0_0 G0) ?_
  refine z_iload_n (M := M_X11_compare) 4 dX11_compare_4 rfl ?_
  refine z_vI (M := M_X11_compare) 5 dX11_compare_5 t_X4_isThere l_X11_329 (m_rr_of rfl) (rest := []) (c_X4_isThere h0 1 a1 (Or.inl rfl) G0) o_1 rfl rfl rfl (Nat.le_of_ble_eq_true rfl) ⟨rfl, rfl⟩ (fun x1 h1 qx1 => ?_)
  obtain ⟨rfl, ⟨rfl, cx1⟩ | ⟨rfl, cx1⟩⟩ := qx1
  · refine z_if_eq_F (M := M_X11_compare) 8 dX11_compare_8 29 rfl (by omega) ?_
    refine z_aload_n (M := M_X11_compare) 11 dX11_compare_11 rfl ?_
    refine z_getR (M := M_X11_compare) 12 dX11_compare_12 f_X11_12 o_0 rfl (g_0_0 G0) ?_
    refine z_iload_n (M := M_X11_compare) 15 dX11_compare_15 rfl ?_
    refine z_vI (M := M_X11_compare) 16 dX11_compare_16 t_X4_isThere l_X11_329 (m_rr_of rfl) (rest := []) (c_X4_isThere h0 1 a2 (Or.inl rfl) G0) o_1 rfl rfl rfl (Nat.le_of_ble_eq_true rfl) ⟨rfl, rfl⟩ (fun x2 h2 qx2 => ?_)
    obtain ⟨rfl, ⟨rfl, cx2⟩ | ⟨rfl, cx2⟩⟩ := qx2
    · refine z_if_eq_F (M := M_X11_compare) 19 dX11_compare_19 29 rfl (by omega) ?_
      refine z_aload_n (M := M_X11_compare) 22 dX11_compare_22 rfl ?_
      refine z_vI (M := M_X11_compare) 23 dX11_compare_23 t_X11_canBe l_X11_208 (m_rr_of rfl) (rest := []) (c_X11_canBe2 h0 G0 hR hN) o_0 rfl rfl rfl (Nat.le_of_ble_eq_true rfl) ⟨rfl, rfl⟩ (fun x3 h3 qx3 => ?_)
      obtain ⟨G3, S3, ax3, bx3, fx3⟩ := qx3
      have R3 := (FR.rf (cs := (csB ++ [39, 40, 41])) (ss := []) (h := h0)).call S3 (by decide +kernel)
      refine z_if_ne (M := M_X11_compare) 26 dX11_compare_26 31 rfl (fun c4 => ?_) (fun c4 => ?_)
      · refine z_aload_n (M := M_X11_compare) 31 dX11_compare_31 rfl ?_
        refine z_getR (M := M_X11_compare) 32 dX11_compare_32 f_X11_53 o_0 rfl (g_0_7 G3) ?_
        refine z_aload_n (M := M_X11_compare) 35 dX11_compare_35 rfl ?_
        refine z_getR (M := M_X11_compare) 36 dX11_compare_36 f_X11_46 o_0 rfl (g_0_6 G3) ?_
        refine z_iload_n (M := M_X11_compare) 39 dX11_compare_39 rfl ?_
        refine z_iload_n (M := M_X11_compare) 40 dX11_compare_40 rfl ?_
        refine z_vV (M := M_X11_compare) 41 dX11_compare_41 t_X7_measure l_X11_427 (m_rr_of rfl) (rest := []) (c_X7_measure2 h3 a1 a2 G3 ⟨by omega, by omega⟩ ⟨by omega, by omega⟩ (by obtain ⟨D, _, X⟩ := fx3.2 (by omega); exact X.1.1) (by obtain ⟨D, _, X⟩ := fx3.2 (by omega); exact bkR_X X)) o_93 rfl rfl rfl (Nat.le_of_ble_eq_true rfl) ⟨rfl, rfl⟩ (fun h4 qx5 => ?_)
        obtain ⟨G4, S4, M4⟩ := qx5
        have t1_ := (thr_c hR).mp cx1
        have t2_ := (thr_c hR).mp cx2
        have y_ := fx3.2 (by omega)
        have n_ := fx3.1.mp (by omega)
        have R4 := R3.call S4 (by decide +kernel)
        refine z_iconst (M := M_X11_compare) 44 dX11_compare_44 ?_
        exact z_retZ (M := M_X11_compare) 45 dX11_compare_45 rfl (by omega) ⟨G4, R4, by omega, by omega, ⟨fun _ => ⟨t1_, t2_, n_⟩, fun _ => rfl⟩, fun _ => ⟨cp_of G0 hN y_ n_ t1_ t2_ M4.2.1 (by have z := g_95_2 G4; show h4 95 2 = 0 ∨ h4 95 2 = 1; omega), cp_of G0 hN y_ n_ t2_ t1_ M4.2.2 (by have z := g_94_2 G4; show h4 94 2 = 0 ∨ h4 94 2 = 1; omega)⟩⟩
      · refine z_iconst (M := M_X11_compare) 29 dX11_compare_29 ?_
        exact z_retZ (M := M_X11_compare) 30 dX11_compare_30 rfl (by omega) ⟨G3, R3, by omega, by omega, ⟨fun z => absurd z (by decide), fun z => absurd (fx3.1.mpr z.2.2) (by omega)⟩, fun z => absurd z (by decide)⟩
    · refine z_if_eq_T (M := M_X11_compare) 19 dX11_compare_19 29 rfl (by omega) ?_
      refine z_iconst (M := M_X11_compare) 29 dX11_compare_29 ?_
      exact z_retZ (M := M_X11_compare) 30 dX11_compare_30 rfl (by omega) ⟨G0, (FR.rf (cs := (csB ++ [39, 40, 41])) (ss := []) (h := h0)), by omega, by omega, ⟨fun z => absurd z (by decide), fun z => absurd ((thr_c hR).mpr z.2.1) cx2⟩, fun z => absurd z (by decide)⟩
  · refine z_if_eq_T (M := M_X11_compare) 8 dX11_compare_8 29 rfl (by omega) ?_
    refine z_iconst (M := M_X11_compare) 29 dX11_compare_29 ?_
    exact z_retZ (M := M_X11_compare) 30 dX11_compare_30 rfl (by omega) ⟨G0, (FR.rf (cs := (csB ++ [39, 40, 41])) (ss := []) (h := h0)), by omega, by omega, ⟨fun z => absurd z (by decide), fun z => absurd ((thr_c hR).mpr z.1) cx1⟩, fun z => absurd z (by decide)⟩
abbrev P_X12_isLength2 (h0 : m_H) (a1 : Int) : Int → m_H → Prop := fun x h' => GI h' ∧ FR [] [] h0 h' ∧ 0 ≤ x ∧ x ≤ 1 ∧ lnQ x a1 ∧ (x = 1 ↔ thr (h0 110) a1)
set_option maxHeartbeats 4000000 in
set_option maxRecDepth 100000 in
theorem c_X12_isLength2 (h0 : m_H) (a1 : Int) (G0 : GI h0) : m_CI M_X12_isLength [mR 108, mI a1] h0 (P_X12_isLength2 h0 a1) := by
  refine m_CI_of ⟨by decide, rfl, by simp [m_arg, m_isL, M_X12_isLength], ⟨rfl, rfl⟩, rfl, rfl⟩ (ls := [some (mR 108), some (mI a1)]) rfl ?_
  refine z_ok (fun _ _ ok => ?_)
  have oa1 : m_32 a1 := ok 1 _ rfl
  unfold m_32 at oa1
  refine z_iload_n (M := M_X12_isLength) 0 dX12_isLength_0 rfl ?_
  refine z_i2l (M := M_X12_isLength) 1 dX12_isLength_1 ?_
  refine z_lconst (M := M_X12_isLength) 2 dX12_isLength_2 (v := 0) ?_
  refine z_ldc2 (M := M_X12_isLength) 3 dX12_isLength_3 k_X12_381 ?_
  refine z_sI (M := M_X12_isLength) 6 dX12_isLength_6 t_X12_in l_X12_143 (m_rr_of rfl) (rest := []) (c_X12_in h0 a1 0 15 G0) rfl rfl (Nat.le_of_ble_eq_true rfl) ⟨rfl, rfl⟩ (fun x1 h1 qx1 => ?_)
  obtain ⟨rfl, ⟨rfl, cx1⟩ | ⟨rfl, cx1⟩⟩ := qx1
  · refine z_if_eq_F (M := M_X12_isLength) 9 dX12_isLength_9 62 rfl (by omega) ?_
    refine z_iload_n (M := M_X12_isLength) 12 dX12_isLength_12 rfl ?_
    refine z_bipush (M := M_X12_isLength) 13 dX12_isLength_13 ?_
    refine z_icmp_lt (M := M_X12_isLength) 15 dX12_isLength_15 58 rfl (fun c2 => ?_) (fun c2 => ?_)
    · refine z_iconst (M := M_X12_isLength) 58 dX12_isLength_58 ?_
      refine z_goto (M := M_X12_isLength) 59 dX12_isLength_59 63 rfl ?_
      exact z_retZ (M := M_X12_isLength) 63 dX12_isLength_63 rfl (by omega) ⟨G0, (FR.rf (cs := []) (ss := []) (h := h0)), by omega, by omega, fun _ => ⟨by omega, by omega⟩, ⟨fun _ => ⟨by omega, by omega, Or.inl c2⟩, fun _ => rfl⟩⟩
    · refine z_iload_n (M := M_X12_isLength) 18 dX12_isLength_18 rfl ?_
      refine z_bipush (M := M_X12_isLength) 19 dX12_isLength_19 ?_
      refine z_icmp_gt (M := M_X12_isLength) 21 dX12_isLength_21 58 rfl (fun c3 => ?_) (fun c3 => ?_)
      · refine z_iconst (M := M_X12_isLength) 58 dX12_isLength_58 ?_
        refine z_goto (M := M_X12_isLength) 59 dX12_isLength_59 63 rfl ?_
        exact z_retZ (M := M_X12_isLength) 63 dX12_isLength_63 rfl (by omega) ⟨G0, (FR.rf (cs := []) (ss := []) (h := h0)), by omega, by omega, fun _ => ⟨by omega, by omega⟩, ⟨fun _ => ⟨by omega, by omega, Or.inr (Or.inl (by omega))⟩, fun _ => rfl⟩⟩
      · refine z_aload_n (M := M_X12_isLength) 24 dX12_isLength_24 rfl ?_
        refine z_getR (M := M_X12_isLength) 25 dX12_isLength_25 f_X12_13 o_108 rfl (g_108_3 G0) ?_
        refine z_bipush (M := M_X12_isLength) 28 dX12_isLength_28 ?_
        refine z_iload_n (M := M_X12_isLength) 30 dX12_isLength_30 rfl ?_
        refine z_i2l (M := M_X12_isLength) 31 dX12_isLength_31 ?_
        refine z_ldc2 (M := M_X12_isLength) 32 dX12_isLength_32 k_X12_383 ?_
        refine z_ldc2 (M := M_X12_isLength) 35 dX12_isLength_35 k_X12_385 ?_
        refine z_sI (M := M_X12_isLength) 38 dX12_isLength_38 t_X12_in l_X12_143 (m_rr_of rfl) (rest := [mI 42, mR 110]) (c_X12_in h0 a1 6 11 G0) rfl rfl (Nat.le_of_ble_eq_true rfl) ⟨rfl, rfl⟩ (fun x4 h2 qx4 => ?_)
        obtain ⟨rfl, ⟨rfl, cx4⟩ | ⟨rfl, cx4⟩⟩ := qx4
        · refine z_if_eq_F (M := M_X12_isLength) 41 dX12_isLength_41 51 rfl (by omega) ?_
          refine z_iload_n (M := M_X12_isLength) 44 dX12_isLength_44 rfl ?_
          refine z_bipush (M := M_X12_isLength) 45 dX12_isLength_45 ?_
          refine z_isubN (M := M_X12_isLength) 47 dX12_isLength_47 (by omega) (by omega) ?_
          refine z_goto (M := M_X12_isLength) 48 dX12_isLength_48 52 rfl ?_
          refine z_iaddN (M := M_X12_isLength) 52 dX12_isLength_52 (by omega) (by omega) ?_
          refine z_ialdG (M := M_X12_isLength) 53 dX12_isLength_53 o_110 (by omega) (by omega) (gw_c G0 (by omega) (by omega)) (fun x5 ex5 ax5 bx5 => ?_)
          refine z_iconst (M := M_X12_isLength) 54 dX12_isLength_54 ?_
          refine z_icmp_eq (M := M_X12_isLength) 55 dX12_isLength_55 62 rfl (fun c6 => ?_) (fun c6 => ?_)
          · refine z_iconst (M := M_X12_isLength) 62 dX12_isLength_62 ?_
            exact z_retZ (M := M_X12_isLength) 63 dX12_isLength_63 rfl (by omega) ⟨G0, (FR.rf (cs := []) (ss := []) (h := h0)), by omega, by omega, lnQ_0, ⟨fun z => absurd z (by decide), fun z => by have q := z.2.2; rw [show (42 + (a1 - 6)).toNat = 42 + (a1 - 6).toNat by omega] at ex5; rw [ex5] at q; omega⟩⟩
          · refine z_iconst (M := M_X12_isLength) 58 dX12_isLength_58 ?_
            refine z_goto (M := M_X12_isLength) 59 dX12_isLength_59 63 rfl ?_
            exact z_retZ (M := M_X12_isLength) 63 dX12_isLength_63 rfl (by omega) ⟨G0, (FR.rf (cs := []) (ss := []) (h := h0)), by omega, by omega, fun _ => ⟨by omega, by omega⟩, ⟨fun _ => ⟨by omega, by omega, Or.inr (Or.inr (by rw [show (42 + (a1 - 6)).toNat = 42 + (a1 - 6).toNat by omega] at ex5; rw [ex5]; exact c6))⟩, fun _ => rfl⟩⟩
        · refine z_if_eq_T (M := M_X12_isLength) 41 dX12_isLength_41 51 rfl (by omega) ?_
          refine z_iconst (M := M_X12_isLength) 51 dX12_isLength_51 ?_
          refine z_iaddN (M := M_X12_isLength) 52 dX12_isLength_52 (by omega) (by omega) ?_
          refine z_ialdG (M := M_X12_isLength) 53 dX12_isLength_53 o_110 (by omega) (by omega) (gw_c G0 (by omega) (by omega)) (fun x7 ex7 ax7 bx7 => ?_)
          refine z_iconst (M := M_X12_isLength) 54 dX12_isLength_54 ?_
          refine z_icmp_eq (M := M_X12_isLength) 55 dX12_isLength_55 62 rfl (fun c8 => ?_) (fun c8 => ?_)
          · refine z_iconst (M := M_X12_isLength) 62 dX12_isLength_62 ?_
            exact z_retZ (M := M_X12_isLength) 63 dX12_isLength_63 rfl (by omega) ⟨G0, (FR.rf (cs := []) (ss := []) (h := h0)), by omega, by omega, lnQ_0, ⟨fun z => absurd z (by decide), fun z => by omega⟩⟩
          · refine z_iconst (M := M_X12_isLength) 58 dX12_isLength_58 ?_
            refine z_goto (M := M_X12_isLength) 59 dX12_isLength_59 63 rfl ?_
            exact z_retZ (M := M_X12_isLength) 63 dX12_isLength_63 rfl (by omega) ⟨G0, (FR.rf (cs := []) (ss := []) (h := h0)), by omega, by omega, fun _ => ⟨by omega, by omega⟩, ⟨fun _ => by omega, fun _ => rfl⟩⟩
  · refine z_if_eq_T (M := M_X12_isLength) 9 dX12_isLength_9 62 rfl (by omega) ?_
    refine z_iconst (M := M_X12_isLength) 62 dX12_isLength_62 ?_
    exact z_retZ (M := M_X12_isLength) 63 dX12_isLength_63 rfl (by omega) ⟨G0, (FR.rf (cs := []) (ss := []) (h := h0)), by omega, by omega, lnQ_0, ⟨fun z => absurd z (by decide), fun z => (cx1 ⟨z.1, z.2.1⟩).elim⟩⟩
abbrev P_X12_isAnswered2 (h0 : m_H) (a1 a2 : Int) : Int → m_H → Prop := fun x h' => GI h' ∧ FR [115, 116, 117, 118, 119, 120, 121, 122, 123, 124, 125, 126, 127, 128, 129, 130, 131, 132, 133, 134] [(108, 21)] h0 h' ∧ 0 ≤ x ∧ x ≤ 1 ∧ anQ x a1 a2 (bR (h0 110)) ∧ (x = 1 ↔ (thr (h0 110) a1 ∧ thr (h0 110) a2 ∧ ¬ gain (bR (h0 110))))
set_option maxHeartbeats 4000000 in
set_option maxRecDepth 100000 in
theorem c_X12_isAnswered2 (h0 : m_H) (a1 a2 : Int) (G0 : GI h0) (hN : NP h0) : m_CI M_X12_isAnswered [mR 108, mI a1, mI a2] h0 (P_X12_isAnswered2 h0 a1 a2) := by
  refine m_CI_of ⟨by decide, rfl, by simp [m_arg, m_isL, M_X12_isAnswered], ⟨rfl, rfl⟩, rfl, rfl⟩ (ls := [some (mR 108), some (mI a1), some (mI a2)]) rfl ?_
  refine z_ok (fun _ _ ok => ?_)
  have oa1 : m_32 a1 := ok 1 _ rfl
  unfold m_32 at oa1
  have oa2 : m_32 a2 := ok 2 _ rfl
  unfold m_32 at oa2
  refine z_aload_n (M := M_X12_isAnswered) 0 dX12_isAnswered_0 rfl ?_
  refine z_iload_n (M := M_X12_isAnswered) 1 dX12_isAnswered_1 rfl ?_
  refine z_vI (M := M_X12_isAnswered) 2 dX12_isAnswered_2 t_X12_isLength l_X12_391 (m_rr_of rfl) (rest := []) (c_X12_isLength2 h0 a1 G0) o_108 rfl rfl rfl (Nat.le_of_ble_eq_true rfl) ⟨rfl, rfl⟩ (fun x1 h1 qx1 => ?_)
  obtain ⟨G1, S1, ax1, bx1, fx1_0, fx1_1⟩ := qx1
  have R1 := (FR.rf (cs := [115, 116, 117, 118, 119, 120, 121, 122, 123, 124, 125, 126, 127, 128, 129, 130, 131, 132, 133, 134]) (ss := [(108, 21)]) (h := h0)).call S1 (by decide +kernel)
  refine z_if_eq (M := M_X12_isAnswered) 5 dX12_isAnswered_5 27 rfl (fun c2 => ?_) (fun c2 => ?_)
  · refine z_iconst (M := M_X12_isAnswered) 27 dX12_isAnswered_27 ?_
    exact z_retZ (M := M_X12_isAnswered) 28 dX12_isAnswered_28 rfl (by omega) ⟨G1, R1, by omega, by omega, anQ_0, ⟨fun z => absurd z (by decide), fun z => absurd (fx1_1.mpr z.1) (by omega)⟩⟩
  · refine z_aload_n (M := M_X12_isAnswered) 8 dX12_isAnswered_8 rfl ?_
    refine z_iload_n (M := M_X12_isAnswered) 9 dX12_isAnswered_9 rfl ?_
    refine z_vI (M := M_X12_isAnswered) 10 dX12_isAnswered_10 t_X12_isLength l_X12_391 (m_rr_of rfl) (rest := []) (c_X12_isLength2 h1 a2 G1) o_108 rfl rfl rfl (Nat.le_of_ble_eq_true rfl) ⟨rfl, rfl⟩ (fun x3 h2 qx3 => ?_)
    obtain ⟨G2, S2, ax3, bx3, fx3_0, fx3_1⟩ := qx3
    rw [frE S1] at fx3_1
    have R2 := R1.call S2 (by decide +kernel)
    refine z_if_eq (M := M_X12_isAnswered) 13 dX12_isAnswered_13 27 rfl (fun c4 => ?_) (fun c4 => ?_)
    · refine z_iconst (M := M_X12_isAnswered) 27 dX12_isAnswered_27 ?_
      exact z_retZ (M := M_X12_isAnswered) 28 dX12_isAnswered_28 rfl (by omega) ⟨G2, R2, by omega, by omega, anQ_0, ⟨fun z => absurd z (by decide), fun z => absurd (fx3_1.mpr z.2.1) (by omega)⟩⟩
    · refine z_aload_n (M := M_X12_isAnswered) 16 dX12_isAnswered_16 rfl ?_
      refine z_vI (M := M_X12_isAnswered) 17 dX12_isAnswered_17 t_X12_canBeNow l_X12_377 (m_rr_of rfl) (rest := []) (c_X12_canBeNow2 h2 G2 (NP.call hN R2 (fun _ => rfl) (fun _ => rfl) (fun _ => rfl))) o_108 rfl rfl rfl (Nat.le_of_ble_eq_true rfl) ⟨rfl, rfl⟩ (fun x5 h3 qx5 => ?_)
      obtain ⟨G3, S3, ax5, bx5, fx5_0, fx5_1⟩ := qx5
      have e_ : h2 110 = h0 110 := FR.row R2 (fun _ => rfl)
      rw [e_] at fx5_1
      have R3 := R2.call S3 (by decide +kernel)
      refine z_if_eq (M := M_X12_isAnswered) 20 dX12_isAnswered_20 27 rfl (fun c6 => ?_) (fun c6 => ?_)
      · refine z_iconst (M := M_X12_isAnswered) 27 dX12_isAnswered_27 ?_
        exact z_retZ (M := M_X12_isAnswered) 28 dX12_isAnswered_28 rfl (by omega) ⟨G3, R3, by omega, by omega, anQ_0, ⟨fun z => absurd z (by decide), fun z => absurd (fx5_1 (by omega)) z.2.2⟩⟩
      · refine z_iconst (M := M_X12_isAnswered) 23 dX12_isAnswered_23 ?_
        refine z_goto (M := M_X12_isAnswered) 24 dX12_isAnswered_24 28 rfl ?_
        exact z_retZ (M := M_X12_isAnswered) 28 dX12_isAnswered_28 rfl (by omega) ⟨G3, R3, by omega, by omega, fun _ => ⟨fx1_0 (by omega), fx3_0 (by omega), gG_b (fx5_0 (by omega)) R2 (fun _ => rfl)⟩, ⟨fun _ => ⟨fx1_1.mp (by omega), fx3_1.mp (by omega), gG_no (bR_ok G0 hN) (gG_b (fx5_0 (by omega)) R2 (fun _ => rfl))⟩, fun _ => rfl⟩⟩
