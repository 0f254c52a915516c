/-! both, wholly alike -/
abbrev P_X11_image3 (h0 : m_H) (a1 : Int) : Int → m_H → Prop := fun x h' => GI h' ∧ FR [18, 19, 20, 21, 22, 23, 24, 25, 26, 27, 28, 29, 30, 31, 32, 33, 34, 107] [(0, 14)] h0 h' ∧ imQ 34 a1 x h0 h' ∧ imC a1 h0 h'
set_option maxHeartbeats 4000000 in
set_option maxRecDepth 100000 in
theorem c_X11_image3 (h0 : m_H) (a1 : Int) (G0 : GI h0) : m_CI M_X11_image [mR 0, mI a1] h0 (P_X11_image3 h0 a1) := by
  refine m_CI_of ⟨by decide, rfl, by simp [m_arg, m_isL, M_X11_image], ⟨rfl, rfl⟩, rfl, rfl⟩ (ls := [some (mR 0), some (mI a1)]) rfl ?_
  refine z_ok (fun _ _ ok => ?_)
  have oa1 : m_32 a1 := ok 1 _ rfl
  unfold m_32 at oa1
  refine z_iload_n (M := M_X11_image) 0 dX11_image_0 rfl ?_
  refine z_iconst (M := M_X11_image) 1 dX11_image_1 ?_
  refine z_iconst (M := M_X11_image) 2 dX11_image_2 ?_
  refine z_sI (M := M_X11_image) 3 dX11_image_3 t_X11_within l_X11_112 (m_rr_of rfl) (rest := []) (c_X11_within h0 a1 0 1 G0) rfl rfl (Nat.le_of_ble_eq_true rfl) ⟨rfl, rfl⟩ (fun x1 h1 qx1 => ?_)
  obtain ⟨rfl, ⟨rfl, cx1⟩ | ⟨rfl, cx1⟩⟩ := qx1
  · refine z_if_ne_T (M := M_X11_image) 6 dX11_image_6 15 rfl (by omega) ?_
    refine z_aload_n (M := M_X11_image) 15 dX11_image_15 rfl ?_
    refine z_getR (M := M_X11_image) 16 dX11_image_16 f_X11_19 o_0 rfl (g_0_2 G0) ?_
    refine z_iload_n (M := M_X11_image) 19 dX11_image_19 rfl ?_
    have hi2 := isL_17 (i := a1) (by omega) (by omega)
    refine z_aaldL (M := M_X11_image) 20 dX11_image_20 o_17 (by omega) (by omega) (g_17 G0 (by omega)) ?_
    refine z_aload_n (M := M_X11_image) 21 dX11_image_21 rfl ?_
    refine z_getR (M := M_X11_image) 22 dX11_image_22 f_X11_12 o_0 rfl (g_0_0 G0) ?_
    refine z_vV (M := M_X11_image) 25 dX11_image_25 t_X4_copyFrom l_X11_197 (m_rr_of rfl) (rest := []) (c_X4_copyFrom2 h0 (18 + 8 * (a1).toNat) 1 hi2 (Or.inl rfl) G0) (oL hi2) rfl rfl rfl (Nat.le_of_ble_eq_true rfl) ⟨rfl, rfl⟩ (fun h2 qx3 => ?_)
    obtain ⟨G2, S2, C2⟩ := qx3
    have R2 := (FR.rf (cs := [18, 19, 20, 21, 22, 23, 24, 25, 26, 27, 28, 29, 30, 31, 32, 33, 34, 107]) (ss := [(0, 14)]) (h := h0)).call S2 (by rcases (show a1 = 0 ∨ a1 = 1 by omega) with rfl | rfl <;> decide +kernel)
    refine z_aload_n (M := M_X11_image) 28 dX11_image_28 rfl ?_
    refine z_getR (M := M_X11_image) 29 dX11_image_29 f_X11_23 o_0 rfl (g_0_3 G2) ?_
    refine z_iload_n (M := M_X11_image) 32 dX11_image_32 rfl ?_
    refine z_iconst (M := M_X11_image) 33 dX11_image_33 ?_
    refine z_zastH (M := M_X11_image) 34 dX11_image_34 o_34 (by omega) (by omega) (by omega) (u_34 G2 (by omega) (by omega)) (R2.up rfl) (fun h3 E3 G3 R3 => ?_)
    refine z_aload_n (M := M_X11_image) 35 dX11_image_35 rfl ?_
    refine z_iconst (M := M_X11_image) 36 dX11_image_36 ?_
    refine z_vI (M := M_X11_image) 37 dX11_image_37 t_X11_accept l_X11_123 (m_rr_of rfl) (rest := []) (c_X11_accept h3 0 G3) o_0 rfl rfl rfl (Nat.le_of_ble_eq_true rfl) ⟨rfl, rfl⟩ (fun x4 h4 qx4 => ?_)
    obtain ⟨G4, S4, rfl⟩ := qx4
    have R4 := R3.call S4 (by decide +kernel)
    exact z_retI (M := M_X11_image) 40 dX11_image_40 rfl ⟨G4, R4, Or.inr ⟨by omega, by omega, rfl, (S4 34 _ rfl).trans (upE E3), fun j hj => ((S4 34 j rfl).trans (upN E3 (fun q => hj q.2))).trans (S2 34 j (by rcases (show a1 = 0 ∨ a1 = 1 by omega) with rfl | rfl <;> rfl))⟩, imC_ok (by omega) (by omega) rfl S2 C2 E3 S4 (by decide)⟩
  · refine z_if_ne_F (M := M_X11_image) 6 dX11_image_6 15 rfl (by omega) ?_
    refine z_aload_n (M := M_X11_image) 9 dX11_image_9 rfl ?_
    refine z_iconst (M := M_X11_image) 10 dX11_image_10 ?_
    refine z_vI (M := M_X11_image) 11 dX11_image_11 t_X11_refuse l_X11_116 (m_rr_of rfl) (rest := []) (c_X11_refuse h0 (-1) G0 ⟨by omega, by omega⟩) o_0 rfl rfl rfl (Nat.le_of_ble_eq_true rfl) ⟨rfl, rfl⟩ (fun x5 h5 qx5 => ?_)
    obtain ⟨G5, S5, rfl⟩ := qx5
    have R5 := (FR.rf (cs := [18, 19, 20, 21, 22, 23, 24, 25, 26, 27, 28, 29, 30, 31, 32, 33, 34, 107]) (ss := [(0, 14)]) (h := h0)).call S5 (by decide +kernel)
    exact z_retI (M := M_X11_image) 14 dX11_image_14 rfl ⟨G5, R5, Or.inl ⟨by omega, rfl, fun j => S5 34 j rfl⟩, imC_no (by omega) S5 (by decide)⟩
abbrev P_X11_blurred3 (h0 : m_H) : Int → m_H → Prop := fun x h' => GI h' ∧ FR [] [] h0 h' ∧ h0 0 15 = x
set_option maxHeartbeats 4000000 in
set_option maxRecDepth 100000 in
theorem c_X11_blurred3 (h0 : m_H) (G0 : GI h0) : m_CI M_X11_blurred [mR 0] h0 (P_X11_blurred3 h0) := by
  refine m_CI_of ⟨by decide, rfl, by simp [m_arg, m_isL, M_X11_blurred], ⟨rfl, rfl⟩, rfl, rfl⟩ (ls := [some (mR 0)]) rfl ?_
  refine z_aload_n (M := M_X11_blurred) 0 dX11_blurred_0 rfl ?_
  refine z_getIV (M := M_X11_blurred) 1 dX11_blurred_1 f_X11_102 o_0 (by decide) (fun x1 ex1 => ?_)
  refine z_ok (fun ox1 _ _ => ?_)
  have ox1 := ox1.1; unfold m_ok m_32 at ox1
  exact z_retI (M := M_X11_blurred) 4 dX11_blurred_4 rfl ⟨G0, (FR.rf (cs := []) (ss := []) (h := h0)), ex1⟩
abbrev P_X12_blurred3 (h0 : m_H) : Int → m_H → Prop := fun x h' => GI h' ∧ FR [] [(108, 0)] h0 h' ∧ h0 108 6 = x
set_option maxHeartbeats 4000000 in
set_option maxRecDepth 100000 in
theorem c_X12_blurred3 (h0 : m_H) (G0 : GI h0) : m_CI M_X12_blurred [mR 108] h0 (P_X12_blurred3 h0) := by
  refine m_CI_of ⟨by decide, rfl, by simp [m_arg, m_isL, M_X12_blurred], ⟨rfl, rfl⟩, rfl, rfl⟩ (ls := [some (mR 108)]) rfl ?_
  refine z_aload_n (M := M_X12_blurred) 0 dX12_blurred_0 rfl ?_
  refine z_iconst (M := M_X12_blurred) 1 dX12_blurred_1 ?_
  refine z_putIH (M := M_X12_blurred) 2 dX12_blurred_2 p_X12_133 o_108 rfl (u_108_0 G0) ((FR.rf (cs := []) (ss := [(108, 0)]) (h := h0)).up rfl) (fun h1 E1 G1 R1 => ?_)
  refine z_aload_n (M := M_X12_blurred) 5 dX12_blurred_5 rfl ?_
  refine z_getIV (M := M_X12_blurred) 6 dX12_blurred_6 f_X12_204 o_108 (by decide) (fun x1 ex1 => ?_)
  refine z_ok (fun ox1 _ _ => ?_)
  have ox1 := ox1.1; unfold m_ok m_32 at ox1
  exact z_retI (M := M_X12_blurred) 9 dX12_blurred_9 rfl ⟨G1, R1, (upN E1 (fun q => absurd q.2 (by decide))).symm.trans ex1⟩
abbrev P_X11_fault3 (h0 : m_H) : Int → m_H → Prop := fun x h' => GI h' ∧ FR [] [] h0 h' ∧ h0 0 16 = x
set_option maxHeartbeats 4000000 in
set_option maxRecDepth 100000 in
theorem c_X11_fault3 (h0 : m_H) (G0 : GI h0) : m_CI M_X11_fault [mR 0] h0 (P_X11_fault3 h0) := by
  refine m_CI_of ⟨by decide, rfl, by simp [m_arg, m_isL, M_X11_fault], ⟨rfl, rfl⟩, rfl, rfl⟩ (ls := [some (mR 0)]) rfl ?_
  refine z_aload_n (M := M_X11_fault) 0 dX11_fault_0 rfl ?_
  refine z_getIV (M := M_X11_fault) 1 dX11_fault_1 f_X11_105 o_0 (by decide) (fun x1 ex1 => ?_)
  refine z_ok (fun ox1 _ _ => ?_)
  have ox1 := ox1.1; unfold m_ok m_32 at ox1
  exact z_retI (M := M_X11_fault) 4 dX11_fault_4 rfl ⟨G0, (FR.rf (cs := []) (ss := []) (h := h0)), ex1⟩
abbrev P_X12_fault3 (h0 : m_H) : Int → m_H → Prop := fun x h' => GI h' ∧ FR [] [(108, 0)] h0 h' ∧ h0 108 13 = x
set_option maxHeartbeats 4000000 in
set_option maxRecDepth 100000 in
theorem c_X12_fault3 (h0 : m_H) (G0 : GI h0) : m_CI M_X12_fault [mR 108] h0 (P_X12_fault3 h0) := by
  refine m_CI_of ⟨by decide, rfl, by simp [m_arg, m_isL, M_X12_fault], ⟨rfl, rfl⟩, rfl, rfl⟩ (ls := [some (mR 108)]) rfl ?_
  refine z_aload_n (M := M_X12_fault) 0 dX12_fault_0 rfl ?_
  refine z_iconst (M := M_X12_fault) 1 dX12_fault_1 ?_
  refine z_putIH (M := M_X12_fault) 2 dX12_fault_2 p_X12_133 o_108 rfl (u_108_0 G0) ((FR.rf (cs := []) (ss := [(108, 0)]) (h := h0)).up rfl) (fun h1 E1 G1 R1 => ?_)
  refine z_aload_n (M := M_X12_fault) 5 dX12_fault_5 rfl ?_
  refine z_getIV (M := M_X12_fault) 6 dX12_fault_6 f_X12_26 o_108 (by decide) (fun x1 ex1 => ?_)
  refine z_ok (fun ox1 _ _ => ?_)
  have ox1 := ox1.1; unfold m_ok m_32 at ox1
  exact z_retI (M := M_X12_fault) 9 dX12_fault_9 rfl ⟨G1, R1, (upN E1 (fun q => absurd q.2 (by decide))).symm.trans ex1⟩
def LX (h : m_H) : Prop := KP h ∧ LR 1 h (h 110) ∧ (∀ k, k < 2 → h 34 k ≠ 0 → LR (18 + 8 * k) h (fun j => h 111 (200 * k + j))) ∧ h 36 = h 113 ∧ h 0 15 = h 108 6 ∧ h 0 16 = h 108 13
theorem LX.gen {h h' : m_H} (R : LX h) (L : LR 1 h' (h' 110)) (eI : ∀ c, 18 ≤ c → c ≤ 34 → ∀ j, h' c j = h c j) (e1 : ∀ j, h' 111 j = h 111 j) (e2 : ∀ j, h' 112 j = h 112 j) (t : h' 36 = h' 113) (b : h' 0 15 = h' 108 6) (f : h' 0 16 = h' 108 13) : LX h' := by
  obtain ⟨r1, r2, r3, -⟩ := R
  refine ⟨r1.call (eI 34 (by decide) (by decide)) e2, L, fun k hk hn => ?_, t, b, f⟩
  rw [eI 34 (by decide) (by decide)] at hn
  exact LR.same (r3 k hk hn) (fun i hi j => eI _ (by omega) (by omega) j) (fun j _ => e1 _)
/-- a frame leaves the images; the tape's bytes; what is kept of row and book -/
def fzI (cs : List Nat) (ss : List (Nat × Nat)) : Bool := out 18 34 cs ss && out 111 112 cs ss
def fzT (cs : List Nat) (ss : List (Nat × Nat)) : Bool := out 36 36 cs ss && out 113 113 cs ss
def fzB (cs : List Nat) (ss : List (Nat × Nat)) : Bool := !fr cs ss 0 15 && !fr cs ss 0 16 && !fr cs ss 108 6 && !fr cs ss 108 13
theorem fzI_1 {cs : List Nat} {ss : List (Nat × Nat)} {h h' : m_H} (o : fzI cs ss = true) (S : FR cs ss h h') : (∀ c, 18 ≤ c → c ≤ 34 → ∀ j, h' c j = h c j) ∧ (∀ j, h' 111 j = h 111 j) ∧ (∀ j, h' 112 j = h 112 j) := by
  unfold fzI at o; rw [Bool.and_eq_true] at o
  exact ⟨fun c u v j => S _ _ (fr_out o.1 u v j), fun j => S _ _ (fr_out o.2 (by decide) (by decide) j), fun j => S _ _ (fr_out o.2 (by decide) (by decide) j)⟩
theorem fzT_1 {cs : List Nat} {ss : List (Nat × Nat)} {h h' : m_H} (o : fzT cs ss = true) (S : FR cs ss h h') : h' 36 = h 36 ∧ h' 113 = h 113 := by
  unfold fzT at o; rw [Bool.and_eq_true] at o
  exact ⟨rowz S (fr_out o.1 (by decide) (by decide)), rowz S (fr_out o.2 (by decide) (by decide))⟩
theorem fzB_1 {cs : List Nat} {ss : List (Nat × Nat)} {h h' : m_H} (o : fzB cs ss = true) (S : FR cs ss h h') : h' 0 15 = h 0 15 ∧ h' 0 16 = h 0 16 ∧ h' 108 6 = h 108 6 ∧ h' 108 13 = h 108 13 := by
  unfold fzB at o
  simp only [Bool.and_eq_true, Bool.not_eq_true'] at o
  exact ⟨S _ _ o.1.1.1, S _ _ o.1.1.2, S _ _ o.1.2, S _ _ o.2⟩
theorem LX.cls {h h' : m_H} {cs : List Nat} {ss : List (Nat × Nat)} (R : LX h) (S : FR cs ss h h') (o1 : fzI cs ss = true) (o2 : fzT cs ss = true) (o3 : fzB cs ss = true) (o4 : out 1 8 cs ss = true) (o5 : out 110 110 cs ss = true) : LX h' := by
  obtain ⟨a1, a2, a3⟩ := fzI_1 o1 S
  obtain ⟨t1, t2⟩ := fzT_1 o2 S
  obtain ⟨b1, b2, b3, b4⟩ := fzB_1 o3 S
  have e : h' 110 = h 110 := rowz S (fr_out o5 (by decide) (by decide))
  obtain ⟨_, r2, _, r4, r5, r6⟩ := R
  refine LX.gen (h := h) ⟨‹_›, r2, ‹_›, r4, r5, r6⟩ (by rw [e]; exact r2.S S o4) a1 a2 a3 (by rw [t1, t2, r4]) (by rw [b1, b3, r5]) (by rw [b2, b4, r6])
/-- both calls leave images, tape and what is kept, and the ledger stays the row -/
theorem LX.mut {h h1 h2 : m_H} {cs cs' : List Nat} {ss ss' : List (Nat × Nat)} (R : LX h) (S1 : FR cs ss h h1) (S2 : FR cs' ss' h1 h2) (L : LR 1 h2 (h2 110)) (o1 : fzI cs ss = true) (o2 : fzT cs ss = true) (o3 : fzB cs ss = true) (q1 : fzI cs' ss' = true) (q2 : fzT cs' ss' = true) (q3 : fzB cs' ss' = true) : LX h2 := by
  obtain ⟨a1, a2, a3⟩ := fzI_1 o1 S1
  obtain ⟨t1, t2⟩ := fzT_1 o2 S1
  obtain ⟨b1, b2, b3, b4⟩ := fzB_1 o3 S1
  obtain ⟨c1, c2, c3⟩ := fzI_1 q1 S2
  obtain ⟨u1, u2⟩ := fzT_1 q2 S2
  obtain ⟨v1, v2, v3, v4⟩ := fzB_1 q3 S2
  obtain ⟨r1, r2, r3, r4, r5, r6⟩ := R
  exact LX.gen (h := h) ⟨r1, r2, r3, r4, r5, r6⟩ L (fun c x y j => (c1 c x y j).trans (a1 c x y j)) (fun j => (c2 j).trans (a2 j)) (fun j => (c3 j).trans (a3 j)) (by rw [u1, u2, t1, t2, r4]) (by rw [v1, v3, b1, b3, r5]) (by rw [v2, v4, b2, b4, r6])
theorem both2 {a1 a2 : Int} {cs cs' : List Nat} {ss ss' : List (Nat × Nat)} {h h1 h2 : m_H} (A : LR 1 h1 (spCount a1 a2 (h 110))) (B : h2 110 = spCount a1 a2 (h1 110)) (S1 : FR cs ss h h1) (S2 : FR cs' ss' h1 h2) (o1 : ∀ j, fr cs ss 110 j = false) (o2 : out 1 8 cs' ss' = true) : LR 1 h2 (h2 110) := by
  have e : h1 110 = h 110 := rowz S1 o1
  rw [e] at B
  rw [B]; exact A.S S2 o2
theorem LX.row {h h1 h2 : m_H} {cs cs' : List Nat} {ss ss' : List (Nat × Nat)} {x y : Int} (R : LX h) (T : h 35 1 = h 108 8) (S1 : FR cs ss h h1) (S2 : FR cs' ss' h1 h2) (A : rwQ (h 36) (h 35 1) (h 110) x (h 0 15) (h1 0 15) h1) (B : rwM (h1 113) (h1 108 8) (h1 110) y (h1 108 6) (h2 108 6) h2) (o1 : fzI cs ss = true) (o2 : fzT cs ss = true) (o3 : out 108 110 cs ss = true) (o4 : fr cs ss 0 16 = false) (q1 : fzI cs' ss' = true) (q2 : fzT cs' ss' = true) (q3 : out 0 8 cs' ss' = true) (q4 : fr cs' ss' 108 13 = false) : LX h2 ∧ x = y := by
  obtain ⟨a1, a2, a3⟩ := fzI_1 o1 S1
  obtain ⟨t1, t2⟩ := fzT_1 o2 S1
  obtain ⟨c1, c2, c3⟩ := fzI_1 q1 S2
  obtain ⟨u1, u2⟩ := fzT_1 q2 S2
  obtain ⟨r1, r2, r3, r4, r5, r6⟩ := R
  have e110 : h1 110 = h 110 := rowz S1 (fr_out o3 (by decide) (by decide))
  have e108 : ∀ j, h1 108 j = h 108 j := fun j => S1 _ _ (fr_out o3 (by decide) (by decide) j)
  have f0 : ∀ j, h2 0 j = h1 0 j := fun j => S2 _ _ (fr_out q3 (by decide) (by decide) j)
  have o8 : out 1 8 cs' ss' = true := by
    unfold out at q3 ⊢
    rw [Bool.and_eq_true, List.all_eq_true, List.all_eq_true] at q3 ⊢
    refine ⟨fun c hc => ?_, fun p hp => ?_⟩
    · have z := q3.1 c hc
      simp only [Bool.or_eq_true, decide_eq_true_eq] at z ⊢
      omega
    · have z := q3.2 p hp
      simp only [Bool.or_eq_true, decide_eq_true_eq] at z ⊢
      omega
  rw [t2, e108, e108, e110, ← r4, ← T, ← r5] at B
  have key : LR 1 h2 (h2 110) ∧ x = y ∧ h1 0 15 = h2 108 6 := by
    rcases A with ⟨n0, x0, b0, L0⟩ | ⟨n0, x0, b0, L0⟩
    · rcases B with ⟨_, y0, d0, g0⟩ | ⟨m0, _⟩
      · exact ⟨by rw [g0]; exact L0.S S2 o8, by rw [x0, y0], by rw [b0, d0]⟩
      · exact absurd n0 m0
    · rcases B with ⟨m0, _⟩ | ⟨_, y0, d0, g0⟩
      · exact absurd m0 n0
      · exact ⟨by rw [g0]; exact L0.S S2 o8, by rw [x0, y0], by rw [b0, d0]⟩
  refine ⟨LX.gen (h := h) ⟨r1, r2, r3, r4, r5, r6⟩ key.1 (fun c x y j => (c1 c x y j).trans (a1 c x y j)) (fun j => (c2 j).trans (a2 j)) (fun j => (c3 j).trans (a3 j)) (by rw [u1, u2, t1, t2, r4]) (by rw [f0, key.2.2]) ?_, key.2.1⟩
  rw [f0, S1 0 16 o4, S2 108 13 q4, e108, r6]
theorem LX.book {h h1 h2 : m_H} {cs cs' : List Nat} {ss ss' : List (Nat × Nat)} {x y : Int} (R : LX h) (T : h 35 1 = h 108 8) (S1 : FR cs ss h h1) (S2 : FR cs' ss' h1 h2) (A : boQ (rdBook (h 36) (h 35 1) 400 (nx (h 36) (h 35 1) 0) (h 110) 1) (h 110) x h1) (B : bmQ (rdBook (h1 113) (h1 108 8) 400 (nx (h1 113) (h1 108 8) 0) (h1 110) 1) y h1 h2) (o1 : fzI cs ss = true) (o2 : fzT cs ss = true) (o3 : out 108 110 cs ss = true) (o4 : fr cs ss 0 15 = false) (q1 : fzI cs' ss' = true) (q2 : fzT cs' ss' = true) (q3 : out 0 8 cs' ss' = true) (q4 : fr cs' ss' 108 6 = false) (q5 : out 1 8 cs' ss' = true) : LX h2 ∧ x = y := by
  obtain ⟨a1, a2, a3⟩ := fzI_1 o1 S1
  obtain ⟨t1, t2⟩ := fzT_1 o2 S1
  obtain ⟨c1, c2, c3⟩ := fzI_1 q1 S2
  obtain ⟨u1, u2⟩ := fzT_1 q2 S2
  obtain ⟨r1, r2, r3, r4, r5, r6⟩ := R
  have e110 : h1 110 = h 110 := rowz S1 (fr_out o3 (by decide) (by decide))
  have e108 : ∀ j, h1 108 j = h 108 j := fun j => S1 _ _ (fr_out o3 (by decide) (by decide) j)
  have f0 : ∀ j, h2 0 j = h1 0 j := fun j => S2 _ _ (fr_out q3 (by decide) (by decide) j)
  rw [t2, e108, e110, ← r4, ← T] at B
  have key : LR 1 h2 (h2 110) ∧ x = y ∧ h1 0 16 = h2 108 13 := by
    generalize rdBook (h 36) (h 35 1) 400 (nx (h 36) (h 35 1) 0) (h 110) 1 = z at A B
    unfold boQ at A; unfold bmQ at B
    cases z with
    | ok p =>
      obtain ⟨x0, L0, d0⟩ := A
      obtain ⟨y0, g0, e0⟩ := B
      exact ⟨by rw [g0]; exact L0.S S2 q5, by rw [x0, y0], by rw [d0, e0]⟩
    | error e =>
      obtain ⟨x0, L0, d0⟩ := A
      obtain ⟨y0, g0, e0⟩ := B
      exact ⟨by rw [g0, e110]; exact L0.S S2 q5, by rw [x0, y0], by rw [d0, e0]⟩
  refine ⟨LX.gen (h := h) ⟨r1, r2, r3, r4, r5, r6⟩ key.1 (fun c x y j => (c1 c x y j).trans (a1 c x y j)) (fun j => (c2 j).trans (a2 j)) (fun j => (c3 j).trans (a3 j)) (by rw [u1, u2, t1, t2, r4]) ?_ (by rw [f0, key.2.2]), key.2.1⟩
  rw [f0, S1 0 15 o4, S2 108 6 q4, e108, r5]
theorem LX.feed {h h1 h2 : m_H} {cs cs' : List Nat} {ss ss' : List (Nat × Nat)} {v1 v2 v3 v4 v5 : Int} (R : LX h) (T : h 35 1 = h 108 8) (S1 : FR cs ss h h1) (S2 : FR cs' ss' h1 h2) (A : h1 36 = (if h 35 1 ≤ 380 then tp20 (h 36) (h 35 1) v1 v2 v3 v4 v5 else h 36)) (B : h2 113 = (if h1 108 8 ≤ 380 then tp20 (h1 113) (h1 108 8) v1 v2 v3 v4 v5 else h1 113)) (o1 : fzI cs ss = true) (o2 : out 108 113 cs ss = true) (o3 : fzB cs ss = true) (o4 : out 1 8 cs ss = true) (q1 : fzI cs' ss' = true) (q2 : out 36 36 cs' ss' = true) (q3 : fzB cs' ss' = true) (q4 : out 1 8 cs' ss' = true) (q5 : out 110 110 cs' ss' = true) : LX h2 := by
  obtain ⟨a1, a2, a3⟩ := fzI_1 o1 S1
  obtain ⟨b1, b2, b3, b4⟩ := fzB_1 o3 S1
  obtain ⟨c1, c2, c3⟩ := fzI_1 q1 S2
  obtain ⟨v1', v2', v3', v4'⟩ := fzB_1 q3 S2
  obtain ⟨r1, r2, r3, r4, r5, r6⟩ := R
  have e113 : h1 113 = h 113 := rowz S1 (fr_out o2 (by decide) (by decide))
  have e108 : h1 108 8 = h 108 8 := S1 _ _ (fr_out o2 (by decide) (by decide) 8)
  have e110 : h2 110 = h 110 := (rowz S2 (fr_out q5 (by decide) (by decide))).trans (rowz S1 (fr_out o2 (by decide) (by decide)))
  have e36 : h2 36 = h1 36 := rowz S2 (fr_out q2 (by decide) (by decide))
  exact LX.gen (h := h) ⟨r1, r2, r3, r4, r5, r6⟩ (by rw [e110]; exact (r2.S S1 o4).S S2 q4) (fun c x y j => (c1 c x y j).trans (a1 c x y j)) (fun j => (c2 j).trans (a2 j)) (fun j => (c3 j).trans (a3 j)) (by rw [e36, A, B, e113, e108, ← T, r4]) (by rw [v1', v3', b1, b3, r5]) (by rw [v2', v4', b2, b4, r6])
theorem LX.image {h h1 h2 : m_H} {cs cs' : List Nat} {ss ss' : List (Nat × Nat)} {a1 x y : Int} (R : LX h) (S1 : FR cs ss h h1) (S2 : FR cs' ss' h1 h2) (A : imQ 34 a1 x h h1) (A2 : imC a1 h h1) (B : imQ 112 a1 y h1 h2) (B2 : imM a1 h1 h2) (o1 : out 1 8 cs ss = true) (o2 : fzT cs ss = true) (o3 : fzB cs ss = true) (o4 : out 110 112 cs ss = true) (q1 : out 1 8 cs' ss' = true) (q2 : fzT cs' ss' = true) (q3 : fzB cs' ss' = true) (q4 : out 18 34 cs' ss' = true) (q5 : out 110 110 cs' ss' = true) : LX h2 ∧ x = y := by
  obtain ⟨t1, t2⟩ := fzT_1 o2 S1
  obtain ⟨b1, b2, b3, b4⟩ := fzB_1 o3 S1
  obtain ⟨u1, u2⟩ := fzT_1 q2 S2
  obtain ⟨v1, v2, v3, v4⟩ := fzB_1 q3 S2
  obtain ⟨r1, r2, r3, r4, r5, r6⟩ := R
  have k2 := imKP r1 A B (fun j => S1 _ _ (fr_out o4 (by decide) (by decide) j)) (fun j => S2 _ _ (fr_out q4 (by decide) (by decide) j))
  have f34 : ∀ c, 18 ≤ c → c ≤ 34 → ∀ j, h2 c j = h1 c j := fun c u v j => S2 _ _ (fr_out q4 u v j)
  have g110 : h1 110 = h 110 := rowz S1 (fr_out o4 (by decide) (by decide))
  have g111 : ∀ j, h1 111 j = h 111 j := fun j => S1 _ _ (fr_out o4 (by decide) (by decide) j)
  have f110 : h2 110 = h 110 := (rowz S2 (fr_out q5 (by decide) (by decide))).trans g110
  refine ⟨⟨k2.1, by rw [f110]; exact (r2.S S1 o1).S S2 q1, fun k hk hn => ?_, by rw [u1, u2, t1, t2, r4], by rw [v1, v3, b1, b3, r5], by rw [v2, v4, b2, b4, r6]⟩, k2.2⟩
  by_cases w : (k : Int) = a1
  · have hk2 : a1.toNat = k := by omega
    have l := A2.1 (by omega) (by omega)
    have m := B2.1 (by omega) (by omega)
    rw [hk2] at l m
    refine LR.same (r := h 110) (LR.copy r2 l) (fun i hi j => f34 _ (by omega) (by omega) j) (fun j hj => ?_)
    rw [m j hj, g110]
  · have l := A2.2 k hk w
    have m := B2.2 k hk w
    have hn1 : h 34 k ≠ 0 := by
      rw [f34 34 (by decide) (by decide)] at hn
      rcases A with ⟨_, _, e⟩ | ⟨_, _, _, _, e⟩
      · rw [e] at hn; exact hn
      · rw [e k (by omega)] at hn; exact hn
    refine LR.same (r3 k hk hn1) (fun i hi j => (f34 _ (by omega) (by omega) j).trans (l i hi j)) (fun j hj => ?_)
    show h2 111 _ = _
    rw [m j hj, g111]
theorem LX.back {h h1 h2 : m_H} {cs cs' : List Nat} {ss ss' : List (Nat × Nat)} {a1 x y : Int} (R : LX h) (S1 : FR cs ss h h1) (S2 : FR cs' ss' h1 h2) (A : bkQ 34 a1 x h) (A2 : bkC a1 x h h1) (B : bkQ 112 a1 y h1) (B2 : bkM a1 y h1 h2) (o1 : fzI cs ss = true) (o2 : fzT cs ss = true) (o3 : fzB cs ss = true) (o4 : out 110 112 cs ss = true) (q1 : fzI cs' ss' = true) (q2 : fzT cs' ss' = true) (q3 : fzB cs' ss' = true) (q4 : out 1 8 cs' ss' = true) : LX h2 ∧ x = y := by
  have e := bkE R.1 A B (fun j => S1 _ _ (fr_out o4 (by decide) (by decide) j))
  have g110 : ∀ c, 110 ≤ c → c ≤ 112 → ∀ j, h1 c j = h c j := fun c u v j => S1 _ _ (fr_out o4 u v j)
  obtain ⟨r1, r2, r3, r4, r5, r6⟩ := R
  refine ⟨LX.mut (h := h) ⟨r1, r2, r3, r4, r5, r6⟩ S1 S2 ?_ o1 o2 o3 q1 q2 q3, e⟩
  by_cases w : x = 0
  · obtain ⟨a, b, c⟩ := A2.1 w
    obtain ⟨_, _, d⟩ := B2.1 (by omega)
    have hn : h 34 a1.toNat ≠ 0 := by
      rcases A with ⟨_, q⟩ | ⟨_, _, _, q⟩ | ⟨_, _, q, _⟩
      · omega
      · omega
      · exact q
    refine LR.S ?_ S2 q4
    refine LR.same (LR.copy (r3 a1.toNat (by omega) hn) c) (fun _ _ _ => rfl) (fun j hj => ?_)
    rw [d j hj, g110 111 (by decide) (by decide)]
  · have l := A2.2 w
    refine LR.S ?_ S2 q4
    refine LR.same r2 (fun i hi j => l i hi j) (fun j _ => ?_)
    rw [B2.2 (by omega), g110 110 (by decide) (by decide)]
