/-! which entries count: the class's bits are the reference's -/
theorem bt_00 : ∀ j : Fin 32, (Int32.ofInt 0).toBitVec.getLsbD j.1 = false := by decide
theorem bt_or0 {c : Int} {j : Nat} (hj : j < 32) : bt (m_or c 0) j = bt c j := by
  unfold bt m_or
  rw [Int32.ofInt_toInt, Int32.toBitVec_or, BitVec.getLsbD_or, bt_00 ⟨j, hj⟩, Bool.or_false]
theorem cS_bt {r : Nat → Int} : ∀ (n j : Nat), n ≤ 32 → j < 32 → (bt (cS r n) j = true ↔ (j < n ∧ r (5 * j + 84) = 1))
  | 0, j, _, hj => by
    have y : bt (cS r 0) j = false := bt_00 ⟨j, hj⟩
    rw [y]
    exact ⟨fun z => absurd z (by decide), fun z => absurd z.1 (by omega)⟩
  | n + 1, j, hn, hj => by
    have i := cS_bt (r := r) n j (by omega) hj
    show bt (m_or (cS r n) (if r (5 * n + 84) = 1 then m_shl 1 n else 0)) j = true ↔ _
    by_cases g : r (5 * n + 84) = 1
    · rw [if_pos g, bt_or (by omega) hj, Bool.or_eq_true, i, decide_eq_true_eq]
      constructor
      · rintro (z | z)
        · exact ⟨by omega, z.2⟩
        · subst z; exact ⟨by omega, g⟩
      · rintro ⟨z, y⟩
        by_cases q : j = n
        · exact Or.inr q
        · exact Or.inl ⟨by omega, y⟩
    · rw [if_neg g, bt_or0 hj, i]
      constructor
      · rintro ⟨z, y⟩; exact ⟨by omega, y⟩
      · rintro ⟨z, y⟩
        refine ⟨?_, y⟩
        by_cases q : j = n
        · subst q; exact absurd y g
        · omega
theorem eA_en {r K C : Nat → Int} {a b : Int} : ∀ (n : Nat), (∀ e : Nat, e < n → (m_and (m_shr a e) 1 = 1 ↔ m_and (m_shr b e) 1 = 1)) → eA r K C a n = eA r K C b n
  | 0, _ => rfl
  | n + 1, h => by
    show eA r K C a n ++ eR r K C a n = eA r K C b n ++ eR r K C b n
    rw [eA_en n (fun e he => h e (by omega))]
    congr 1
    unfold eR eOf
    by_cases g : m_and (m_shr a n) 1 = 1 ∧ K (r (5 * n + 81)).toNat ≠ -1
    · exact (if_pos g).trans (if_pos ⟨(h n (by omega)).mp g.1, g.2⟩).symm
    · exact (if_neg g).trans (if_neg (fun z => g ⟨(h n (by omega)).mpr z.1, z.2⟩)).symm
theorem bL_en {r K C : Nat → Int} {a b : Int} (h : ∀ e : Nat, e < (r 0).toNat → (m_and (m_shr a e) 1 = 1 ↔ m_and (m_shr b e) 1 = 1)) : bL r K C a = bL r K C b := by
  unfold bL
  rw [eA_en _ h]
theorem bL_cF {L : Nat} {h : m_H} {r K C : Nat → Int} (b : RB r) (cb : CB (h L 8) r) : bL r K C (h L 8) = bL r K C (cF r) := by
  obtain ⟨b1, b2, b3, b4⟩ := b
  refine bL_en (fun e he => ?_)
  rw [hasBit_iff (by omega), hasBit_iff (by omega), cb e (by omega)]
  unfold cF
  rw [cS_bt _ _ (by omega) (by omega)]
  constructor
  · rintro ⟨x, y⟩; exact ⟨by omega, y⟩
  · rintro ⟨x, y⟩; exact ⟨by omega, y⟩
theorem kp_of {h : m_H} (G : GI h) : ∀ j, j < 32 → -1 ≤ h 110 (10 + j) ∧ h 110 (10 + j) ≤ 3 := fun j hj => by
  have z := gw_w G (i := 10 + (j : Int)) (by omega) (by omega)
  rw [show (10 + (j : Int)).toNat = 10 + j by omega] at z
  exact z
theorem EN_k {h : m_H} {K : Nat → Int} (G : GI h) (N : NP h) (hk : ∀ j, j < 32 → -1 ≤ K j ∧ K j ≤ 3) : EN (h 110) K := fun e he => by
  have r0 := gw_0 G
  have r0' : 0 ≤ h 110 0 ∧ h 110 0 ≤ 24 := r0
  obtain ⟨a, b, c, d⟩ := gw_n G (e := e) (by omega)
  exact ⟨hk _ (by omega), a, ⟨N.1 e he, c⟩, d, b⟩
theorem EN_of {h : m_H} (G : GI h) (N : NP h) : EN (h 110) (fun j => h 110 (10 + j)) := EN_k G N (kp_of G)
theorem SH_of {h : m_H} (G : GI h) : SH (h 110) := fun k hk => by
  have r1 : 0 ≤ h 110 1 ∧ h 110 1 ≤ 6 := gw_1 G
  have b0 := gw_s G (i := 2 * (k : Int) + 48) (by omega) (by omega)
  have b1 := gw_s G (i := 2 * (k : Int) + 49) (by omega) (by omega)
  rw [show (2 * (k : Int) + 48).toNat = 2 * k + 48 by omega] at b0
  rw [show (2 * (k : Int) + 49).toNat = 2 * k + 49 by omega] at b1
  exact ⟨b0, b1⟩
/-- what stands of the class's limits -/
def TY (r : Nat → Int) (s : Int) (h : m_H) : Prop := ∃ D, eCl D (bR r) (fun j => r (42 + j)) s ∧ TX (bR r) D (fun j => r (42 + j)) s h
theorem cb_now {h h' : m_H} {x x1 : Int} (R : LR 1 h (h 110)) (G : GI h) (N : NP h) (ex : h 1 8 = x1) (f : (x = 1 ↔ ¬ gain (bL (h 110) (fun j => h 110 (10 + j)) (fun j => h 110 (42 + j)) x1)) ∧ (x = 1 → TX (bL (h 110) (fun j => h 110 (10 + j)) (fun j => h 110 (42 + j)) x1) (eA (h 110) (fun j => h 110 (10 + j)) (fun j => h 110 (42 + j)) x1 (h 110 0).toNat) (fun j => h 110 (42 + j)) (h 1 9) h')) : (x = 1 ↔ ¬ gain (bR (h 110))) ∧ (x = 1 → TY (h 110) (h 1 9) h') := by
  have e : bL (h 110) (fun j => h 110 (10 + j)) (fun j => h 110 (42 + j)) x1 = bR (h 110) := by
    rw [← ex]; exact bL_cF R.1 R.2.2.2.2.2.2.1
  have c := bL_cl (en := x1) (LK_of R) (EN_of G N) (SH_of G)
  rw [e] at f c
  exact ⟨f.1, fun z => ⟨_, c, f.2 z⟩⟩
abbrev P_X11_canBe2 (h0 : m_H) : Int → m_H → Prop := fun x h' => GI h' ∧ FR (csB ++ [39, 40, 41]) [] h0 h' ∧ 0 ≤ x ∧ x ≤ 1 ∧ (x = 1 ↔ ¬ gain (bR (h0 110))) ∧ (x = 1 → TY (h0 110) (h0 1 9) h')
set_option maxHeartbeats 4000000 in
set_option maxRecDepth 100000 in
theorem c_X11_canBe2 (h0 : m_H) (G0 : GI h0) (hR : LR 1 h0 (h0 110)) (hN : NP h0) : m_CI M_X11_canBe [mR 0] h0 (P_X11_canBe2 h0) := by
  refine m_CI_of ⟨by decide, rfl, by simp [m_arg, m_isL, M_X11_canBe], ⟨rfl, rfl⟩, rfl, rfl⟩ (ls := [some (mR 0)]) rfl ?_
  refine z_aload_n (M := M_X11_canBe) 0 dX11_canBe_0 rfl ?_
  refine z_getR (M := M_X11_canBe) 1 dX11_canBe_1 f_X11_46 o_0 rfl (g_0_6 G0) ?_
  refine z_aload_n (M := M_X11_canBe) 4 dX11_canBe_4 rfl ?_
  refine z_getR (M := M_X11_canBe) 5 dX11_canBe_5 f_X11_12 o_0 rfl (g_0_0 G0) ?_
  refine z_aload_n (M := M_X11_canBe) 8 dX11_canBe_8 rfl ?_
  refine z_getR (M := M_X11_canBe) 9 dX11_canBe_9 f_X11_12 o_0 rfl (g_0_0 G0) ?_
  refine z_getIV (M := M_X11_canBe) 12 dX11_canBe_12 f_X11_346 o_1 (by decide) (fun x1 ex1 => ?_)
  refine z_ok (fun ox1 _ _ => ?_)
  have ox1 := ox1.1; unfold m_ok m_32 at ox1
  refine z_vI (M := M_X11_canBe) 15 dX11_canBe_15 t_X9_canBe l_X11_343 (m_rr_of rfl) (rest := []) (c_X9_canBe2 h0 1 x1 (h0 110) (fun j => h0 110 (10 + j)) (fun j => h0 110 (42 + j)) (Or.inl rfl) G0 (LK_of hR) (EN_of G0 hN) (SH_of G0) (bL_ok G0 hN (kp_of G0))) o_38 rfl rfl rfl (Nat.le_of_ble_eq_true rfl) ⟨rfl, rfl⟩ (fun x2 h1 qx2 => ?_)
  obtain ⟨G1, S1, ax2, bx2, fx2⟩ := qx2
  have R1 := (FR.rf (cs := (csB ++ [39, 40, 41])) (ss := []) (h := h0)).call S1 (by decide +kernel)
  exact z_retZ (M := M_X11_canBe) 18 dX11_canBe_18 rfl (by omega) ⟨G1, R1, by omega, by omega, cb_now hR G0 hN ex1 fx2⟩
abbrev P_X11_fits3 (h0 : m_H) : Int → m_H → Prop := fun x h' => GI h' ∧ FR (csB ++ [39, 40, 41]) [] h0 h' ∧ 0 ≤ x ∧ x ≤ 1 ∧ (x = 1 ↔ ¬ gain (bR (h0 110)))
set_option maxHeartbeats 4000000 in
set_option maxRecDepth 100000 in
theorem c_X11_fits3 (h0 : m_H) (G0 : GI h0) (hR : LR 1 h0 (h0 110)) (hN : NP h0) : m_CI M_X11_fits [mR 0] h0 (P_X11_fits3 h0) := by
  refine m_CI_of ⟨by decide, rfl, by simp [m_arg, m_isL, M_X11_fits], ⟨rfl, rfl⟩, rfl, rfl⟩ (ls := [some (mR 0)]) rfl ?_
  refine z_aload_n (M := M_X11_fits) 0 dX11_fits_0 rfl ?_
  refine z_vI (M := M_X11_fits) 1 dX11_fits_1 t_X11_canBe l_X11_208 (m_rr_of rfl) (rest := []) (c_X11_canBe2 h0 G0 hR hN) o_0 rfl rfl rfl (Nat.le_of_ble_eq_true rfl) ⟨rfl, rfl⟩ (fun x1 h1 qx1 => ?_)
  obtain ⟨G1, S1, ax1, bx1, fx1⟩ := qx1
  have R1 := (FR.rf (cs := (csB ++ [39, 40, 41])) (ss := []) (h := h0)).call S1 (by decide +kernel)
  refine z_if_eq (M := M_X11_fits) 4 dX11_fits_4 11 rfl (fun c2 => ?_) (fun c2 => ?_)
  · refine z_iconst (M := M_X11_fits) 11 dX11_fits_11 ?_
    exact z_retI (M := M_X11_fits) 12 dX11_fits_12 rfl ⟨G1, R1, by omega, by omega, ⟨fun z => absurd z (by decide), fun z => absurd (fx1.1.mpr z) (by omega)⟩⟩
  · refine z_iconst (M := M_X11_fits) 7 dX11_fits_7 ?_
    refine z_goto (M := M_X11_fits) 8 dX11_fits_8 12 rfl ?_
    exact z_retI (M := M_X11_fits) 12 dX11_fits_12 rfl ⟨G1, R1, by omega, by omega, ⟨fun _ => fx1.1.mp (by omega), fun _ => rfl⟩⟩
abbrev P_X12_canBeNow2 (h0 : m_H) : Int → m_H → Prop := fun x h' => GI h' ∧ FR [115, 116, 117, 118, 119, 120, 121, 122, 123, 124, 125, 126, 127, 128, 129, 130, 131, 132, 133, 134] [(108, 21)] h0 h' ∧ 0 ≤ x ∧ x ≤ 1 ∧ cbQ x (bR (h0 110)) ∧ (x = 0 → gain (bR (h0 110)))
set_option maxHeartbeats 4000000 in
set_option maxRecDepth 100000 in
theorem c_X12_canBeNow2 (h0 : m_H) (G0 : GI h0) (hN : NP h0) : m_CI M_X12_canBeNow [mR 108] h0 (P_X12_canBeNow2 h0) := by
  refine m_CI_of ⟨by decide, rfl, by simp [m_arg, m_isL, M_X12_canBeNow], ⟨rfl, rfl⟩, rfl, rfl⟩ (ls := [some (mR 108)]) rfl ?_
  refine z_aload_n (M := M_X12_canBeNow) 0 dX12_canBeNow_0 rfl ?_
  refine z_vV (M := M_X12_canBeNow) 1 dX12_canBeNow_1 t_X12_asIs l_X12_367 (m_rr_of rfl) (rest := []) (c_X12_asIsX h0 G0) o_108 rfl rfl rfl (Nat.le_of_ble_eq_true rfl) ⟨rfl, rfl⟩ (fun h1 qx1 => ?_)
  obtain ⟨G1, S1, fx1_0⟩ := qx1
  have R1 := (FR.rf (cs := [115, 116, 117, 118, 119, 120, 121, 122, 123, 124, 125, 126, 127, 128, 129, 130, 131, 132, 133, 134]) (ss := [(108, 21)]) (h := h0)).call S1 (by decide +kernel)
  refine z_aload_n (M := M_X12_canBeNow) 4 dX12_canBeNow_4 rfl ?_
  refine z_aload_n (M := M_X12_canBeNow) 5 dX12_canBeNow_5 rfl ?_
  refine z_vI (M := M_X12_canBeNow) 6 dX12_canBeNow_6 t_X12_counting l_X12_370 (m_rr_of rfl) (rest := [mR 108]) (c_X12_countingX h1 G1) o_108 rfl rfl rfl (Nat.le_of_ble_eq_true rfl) ⟨rfl, rfl⟩ (fun x2 h2 qx2 => ?_)
  obtain ⟨G2, S2, fx2_0⟩ := qx2
  have R2 := R1.call S2 (by decide +kernel)
  refine z_ok (fun ox2 _ _ => ?_)
  have ox2 := ox2.1; unfold m_ok m_32 at ox2
  refine z_vI (M := M_X12_canBeNow) 9 dX12_canBeNow_9 t_X12_canBe l_X12_374 (m_rr_of rfl) (rest := []) (c_X12_canBe2 h2 x2 G2 (NP.call hN R2 (fun _ => rfl) (fun _ => rfl) (fun _ => rfl))) o_108 rfl rfl rfl (Nat.le_of_ble_eq_true rfl) ⟨rfl, rfl⟩ (fun x3 h3 qx3 => ?_)
  obtain ⟨G3, S3, ax3, bx3, fx3_0, fx3_1⟩ := qx3
  have R3 := R2.call S3 (by decide +kernel)
  exact z_retZ (M := M_X12_canBeNow) 12 dX12_canBeNow_12 rfl (by omega) ⟨G3, R3, by omega, by omega, by have q := fx3_0; rw [bR_eq G0 (fun j => (S2 110 j rfl).trans (S1 110 j rfl)) ⟨fun j hj => (S2 122 j rfl).trans (fx1_0.1 j hj), fun j hj => (S2 123 j rfl).trans (fx1_0.2 j hj)⟩ (fx2_0.trans (congrArg cF (FR.row S1 (fun _ => rfl))))] at q; exact q, by have q := fx3_1; rw [bR_eq G0 (fun j => (S2 110 j rfl).trans (S1 110 j rfl)) ⟨fun j hj => (S2 122 j rfl).trans (fx1_0.1 j hj), fun j hj => (S2 123 j rfl).trans (fx1_0.2 j hj)⟩ (fx2_0.trans (congrArg cF (FR.row S1 (fun _ => rfl))))] at q; exact q⟩
abbrev P_X12_fits3 (h0 : m_H) : Int → m_H → Prop := fun x h' => GI h' ∧ FR [115, 116, 117, 118, 119, 120, 121, 122, 123, 124, 125, 126, 127, 128, 129, 130, 131, 132, 133, 134] [(108, 0), (108, 21)] h0 h' ∧ 0 ≤ x ∧ x ≤ 1 ∧ (x = 1 ↔ ¬ gain (bR (h0 110)))
set_option maxHeartbeats 4000000 in
set_option maxRecDepth 100000 in
theorem c_X12_fits3 (h0 : m_H) (G0 : GI h0) (hN : NP h0) : m_CI M_X12_fits [mR 108] h0 (P_X12_fits3 h0) := by
  refine m_CI_of ⟨by decide, rfl, by simp [m_arg, m_isL, M_X12_fits], ⟨rfl, rfl⟩, rfl, rfl⟩ (ls := [some (mR 108)]) rfl ?_
  refine z_aload_n (M := M_X12_fits) 0 dX12_fits_0 rfl ?_
  refine z_iconst (M := M_X12_fits) 1 dX12_fits_1 ?_
  refine z_putIH (M := M_X12_fits) 2 dX12_fits_2 p_X12_133 o_108 rfl (u_108_0 G0) ((FR.rf (cs := [115, 116, 117, 118, 119, 120, 121, 122, 123, 124, 125, 126, 127, 128, 129, 130, 131, 132, 133, 134]) (ss := [(108, 0), (108, 21)]) (h := h0)).up rfl) (fun h1 E1 G1 R1 => ?_)
  refine z_aload_n (M := M_X12_fits) 5 dX12_fits_5 rfl ?_
  refine z_vI (M := M_X12_fits) 6 dX12_fits_6 t_X12_canBeNow l_X12_377 (m_rr_of rfl) (rest := []) (c_X12_canBeNow2 h1 G1 (NP.call hN R1 (fun _ => rfl) (fun _ => rfl) (fun _ => rfl))) o_108 rfl rfl rfl (Nat.le_of_ble_eq_true rfl) ⟨rfl, rfl⟩ (fun x1 h2 qx1 => ?_)
  obtain ⟨G2, S2, ax1, bx1, fx1_0, fx1_1⟩ := qx1
  have R2 := R1.call S2 (by decide +kernel)
  refine z_if_eq (M := M_X12_fits) 9 dX12_fits_9 16 rfl (fun c2 => ?_) (fun c2 => ?_)
  · refine z_iconst (M := M_X12_fits) 16 dX12_fits_16 ?_
    exact z_retI (M := M_X12_fits) 17 dX12_fits_17 rfl ⟨G2, R2, by omega, by omega, ⟨fun z => absurd z (by decide), fun z => absurd (by have e_ : h1 110 = h0 110 := funext fun j => R1 110 j rfl; have q := fx1_1 (by omega); rw [e_] at q; exact q) z⟩⟩
  · refine z_iconst (M := M_X12_fits) 12 dX12_fits_12 ?_
    refine z_goto (M := M_X12_fits) 13 dX12_fits_13 17 rfl ?_
    exact z_retI (M := M_X12_fits) 17 dX12_fits_17 rfl ⟨G2, R2, by omega, by omega, ⟨fun _ => by have e_ : h1 110 = h0 110 := funext fun j => R1 110 j rfl; have q := fx1_0 (by omega); rw [e_] at q; exact gG_no (bR_ok G0 hN) q, fun _ => rfl⟩⟩
theorem LX.fits {h h1 : m_H} {x y : Int} {cs : List Nat} {ss : List (Nat × Nat)} (S1 : FR cs ss h h1) (a1 : 0 ≤ x) (a2 : x ≤ 1) (A : x = 1 ↔ ¬ gain (bR (h 110))) (b1 : 0 ≤ y) (b2 : y ≤ 1) (B : y = 1 ↔ ¬ gain (bR (h1 110))) (o : out 110 110 cs ss = true) : x = y := by
  rw [rowz S1 (fr_out o (by decide) (by decide))] at B
  by_cases g : gain (bR (h 110))
  · have n1 : ¬ x = 1 := fun z => A.mp z g
    have n2 : ¬ y = 1 := fun z => B.mp z g
    omega
  · rw [A.mpr g, B.mpr g]
