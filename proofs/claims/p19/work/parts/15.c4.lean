abbrev P_X6_seek (h0 : m_H) (L : Nat) : Int → m_H → Prop := fun x h' => GI h' ∧ FR (csB ++ [39, 40, 41, 103, 104, (L + 1)]) [(102, 3), (102, 4)] h0 h' ∧ 0 ≤ x ∧ x ≤ 1
def q_X6_seek (h0 : m_H) (L : Nat) (n : Nat) : Prop := (∀ (l2 l3 : Int) (h : m_H), GI h → FR (csB ++ [39, 40, 41, 103, 104, (L + 1)]) [(102, 3), (102, 4)] h0 h → 0 ≤ l3 → l3 ≤ 2147483647 → 11 * (2147483647 - l3) + (10) ≤ (n : Int) → m_Z oF M_X6_seek 34 [some (mR 102), some (mR L), some (mI l2), some (mI l3), none] [] h (m_QI (P_X6_seek h0 L))) ∧ (∀ (l2 l3 l4 : Int) (h : m_H), GI h → FR (csB ++ [39, 40, 41, 103, 104, (L + 1)]) [(102, 3), (102, 4)] h0 h → 1 ≤ l2 → l2 ≤ 2147483647 → 0 ≤ l3 → l3 ≤ 2147483646 → 0 ≤ l4 → l4 ≤ 3 → 11 * (2147483647 - l3) + 2 * (3 - l4) + (1) ≤ (n : Int) → m_Z oF M_X6_seek 42 [some (mR 102), some (mR L), some (mI l2), some (mI l3), some (mI l4)] [] h (m_QI (P_X6_seek h0 L)))
set_option maxHeartbeats 4000000 in
set_option maxRecDepth 100000 in
theorem s_X6_seek_34 (h0 : m_H) (L : Nat) (hL : isL L) (G0 : GI h0) (n : Nat) (ih : q_X6_seek h0 L n) : ∀ (l2 l3 : Int) (h : m_H), GI h → FR (csB ++ [39, 40, 41, 103, 104, (L + 1)]) [(102, 3), (102, 4)] h0 h → 0 ≤ l3 → l3 ≤ 2147483647 → 11 * (2147483647 - l3) + (10) ≤ ((n + 1 : Nat) : Int) → m_Z oF M_X6_seek 34 [some (mR 102), some (mR L), some (mI l2), some (mI l3), none] [] h (m_QI (P_X6_seek h0 L)) := by
  intro l2 l3 h G R v0 v1 hr
  refine z_ok (fun ostk _ olocs => ?_)
  have ol2 : m_32 l2 := olocs 2 _ rfl
  unfold m_32 at ol2
  refine z_iload_n (M := M_X6_seek) 34 dX6_seek_34 rfl ?_
  refine z_iload_n (M := M_X6_seek) 35 dX6_seek_35 rfl ?_
  refine z_icmp_ge (M := M_X6_seek) 36 dX6_seek_36 101 rfl (fun c1 => ?_) (fun c1 => ?_)
  · refine z_iconst (M := M_X6_seek) 101 dX6_seek_101 ?_
    exact z_retZ (M := M_X6_seek) 102 dX6_seek_102 rfl (by omega) ⟨G, R, by omega, by omega⟩
  · refine z_iconst (M := M_X6_seek) 39 dX6_seek_39 ?_
    refine z_istore (M := M_X6_seek) 40 dX6_seek_40 (ls' := [some (mR 102), some (mR L), some (mI l2), some (mI l3), some (mI 0)]) (by decide) rfl ?_
    exact z_mask [true, true, true, true, true] rfl (ih.2 l2 l3 0 h G R (by omega) (by omega) (by omega) (by omega) (by omega) (by omega) (by omega))
set_option maxHeartbeats 4000000 in
set_option maxRecDepth 100000 in
theorem s_X6_seek_42 (h0 : m_H) (L : Nat) (hL : isL L) (G0 : GI h0) (n : Nat) (ih : q_X6_seek h0 L n) : ∀ (l2 l3 l4 : Int) (h : m_H), GI h → FR (csB ++ [39, 40, 41, 103, 104, (L + 1)]) [(102, 3), (102, 4)] h0 h → 1 ≤ l2 → l2 ≤ 2147483647 → 0 ≤ l3 → l3 ≤ 2147483646 → 0 ≤ l4 → l4 ≤ 3 → 11 * (2147483647 - l3) + 2 * (3 - l4) + (1) ≤ ((n + 1 : Nat) : Int) → m_Z oF M_X6_seek 42 [some (mR 102), some (mR L), some (mI l2), some (mI l3), some (mI l4)] [] h (m_QI (P_X6_seek h0 L)) := by
  intro l2 l3 l4 h G R v0 v1 v2 v3 v4 v5 hr
  refine z_iload (M := M_X6_seek) 42 dX6_seek_42 rfl ?_
  refine z_aload_n (M := M_X6_seek) 44 dX6_seek_44 rfl ?_
  refine z_getIG (M := M_X6_seek) 45 dX6_seek_45 f_X6_36 o_102 (by decide) (g_102_3 G) (fun x1 ex1 ax1 bx1 => ?_)
  refine z_icmp_ge (M := M_X6_seek) 48 dX6_seek_48 75 rfl (fun c2 => ?_) (fun c2 => ?_)
  · refine z_aload_n (M := M_X6_seek) 75 dX6_seek_75 rfl ?_
    refine z_getR (M := M_X6_seek) 76 dX6_seek_76 f_X6_18 o_102 rfl (g_102_0 G) ?_
    refine z_aload_n (M := M_X6_seek) 79 dX6_seek_79 rfl ?_
    refine z_aload_n (M := M_X6_seek) 80 dX6_seek_80 rfl ?_
    refine z_getIV (M := M_X6_seek) 81 dX6_seek_81 f_X6_48 (oL hL) (by decide) (fun x3 ex3 => ?_)
    refine z_ok (fun ox3 _ _ => ?_)
    have ox3 := ox3.1; unfold m_ok m_32 at ox3
    refine z_vI (M := M_X6_seek) 84 dX6_seek_84 t_X9_canBe l_X6_51 (m_rr_of rfl) (rest := []) (c_X9_canBe h L x3 hL G) o_38 rfl rfl rfl (Nat.le_of_ble_eq_true rfl) ⟨rfl, rfl⟩ (fun x4 h1 qx4 => ?_)
    obtain ⟨G1, S1, ax4, bx4⟩ := qx4
    have R1 := R.call S1 (by simp [fsub, fr, csB])
    refine z_if_eq (M := M_X6_seek) 87 dX6_seek_87 95 rfl (fun c5 => ?_) (fun c5 => ?_)
    · refine z_iincN (M := M_X6_seek) 95 dX6_seek_95 (ls' := [some (mR 102), some (mR L), some (mI l2), some (mI (l3 + 1)), some (mI l4)]) (by decide) rfl (by (unfold m_32; decide)) (by omega) (by omega) rfl ?_
      refine z_goto (M := M_X6_seek) 98 dX6_seek_98 34 rfl ?_
      exact z_mask [true, true, true, true, false] rfl (ih.1 l2 (l3 + 1) h1 G1 R1 (by omega) (by omega) (by omega))
    · refine z_aload_n (M := M_X6_seek) 90 dX6_seek_90 rfl ?_
      refine z_iload_n (M := M_X6_seek) 91 dX6_seek_91 rfl ?_
      refine z_vV (M := M_X6_seek) 92 dX6_seek_92 t_X6_note l_X6_57 (m_rr_of rfl) (rest := []) (c_X6_note h1 l3 G1) o_102 rfl rfl rfl (Nat.le_of_ble_eq_true rfl) ⟨rfl, rfl⟩ (fun h2 qx6 => ?_)
      obtain ⟨G2, S2⟩ := qx6
      have R2 := R1.call S2 (by simp [fsub, fr, csB])
      refine z_iincN (M := M_X6_seek) 95 dX6_seek_95 (ls' := [some (mR 102), some (mR L), some (mI l2), some (mI (l3 + 1)), some (mI l4)]) (by decide) rfl (by (unfold m_32; decide)) (by omega) (by omega) rfl ?_
      refine z_goto (M := M_X6_seek) 98 dX6_seek_98 34 rfl ?_
      exact z_mask [true, true, true, true, false] rfl (ih.1 l2 (l3 + 1) h2 G2 R2 (by omega) (by omega) (by omega))
  · refine z_aload_n (M := M_X6_seek) 51 dX6_seek_51 rfl ?_
    refine z_getR (M := M_X6_seek) 52 dX6_seek_52 f_X6_39 (oL hL) rfl (rL_0 hL G) ?_
    refine z_aload_n (M := M_X6_seek) 55 dX6_seek_55 rfl ?_
    refine z_getR (M := M_X6_seek) 56 dX6_seek_56 f_X6_9 o_102 rfl (g_102_1 G) ?_
    refine z_iload (M := M_X6_seek) 59 dX6_seek_59 rfl ?_
    refine z_ialdG (M := M_X6_seek) 61 dX6_seek_61 o_103 (by omega) (by omega) (g_103 G (by omega)) (fun x7 ex7 ax7 bx7 => ?_)
    refine z_iload_n (M := M_X6_seek) 62 dX6_seek_62 rfl ?_
    refine z_iload (M := M_X6_seek) 63 dX6_seek_63 rfl ?_
    refine z_sI (M := M_X6_seek) 65 dX6_seek_65 t_X6_keeperBy l_X6_44 (m_rr_of rfl) (rest := [mI x7, mR (L + 1)]) (c_X6_keeperBy h l3 l4 G) rfl rfl (Nat.le_of_ble_eq_true rfl) ⟨rfl, rfl⟩ (fun x8 h3 qx8 => ?_)
    obtain ⟨G3, S3, ax8, bx8⟩ := qx8
    have R3 := R.call S3 (by simp [fsub, fr, csB])
    refine z_iastH (M := M_X6_seek) 68 dX6_seek_68 (oL_1 hL) (by omega) (by omega) (uL_1 hL G3 (by omega) (by omega)) (R3.up (by simp [fr])) (fun h4 E4 G4 R4 => ?_)
    refine z_iincN (M := M_X6_seek) 69 dX6_seek_69 (ls' := [some (mR 102), some (mR L), some (mI l2), some (mI l3), some (mI (l4 + 1))]) (by decide) rfl (by (unfold m_32; decide)) (by omega) (by omega) rfl ?_
    refine z_goto (M := M_X6_seek) 72 dX6_seek_72 42 rfl ?_
    exact z_mask [true, true, true, true, true] rfl (ih.2 l2 l3 (l4 + 1) h4 G4 R4 (by omega) (by omega) (by omega) (by omega) (by omega) (by omega) (by omega))
theorem a_X6_seek (h0 : m_H) (L : Nat) (hL : isL L) (G0 : GI h0) : ∀ n, q_X6_seek h0 L n := by
  intro n
  induction n with
  | zero => unfold q_X6_seek; refine ⟨?_, ?_⟩ <;> (intros; omega)
  | succ n ih => exact ⟨s_X6_seek_34 h0 L hL G0 n ih, s_X6_seek_42 h0 L hL G0 n ih⟩
set_option maxHeartbeats 4000000 in
set_option maxRecDepth 100000 in
theorem c_X6_seek (h0 : m_H) (L : Nat) (hL : isL L) (G0 : GI h0) : m_CI M_X6_seek [mR 102, mR L] h0 (P_X6_seek h0 L) := by
  refine m_CI_of ⟨by decide, rfl, by simp [m_arg, m_isL, M_X6_seek], ⟨rfl, rfl⟩, rfl, rfl⟩ (ls := [some (mR 102), some (mR L), none, none, none]) rfl ?_
  have ih := a_X6_seek h0 L hL G0 23622320134
  refine z_aload_n (M := M_X6_seek) 0 dX6_seek_0 rfl ?_
  refine z_iconst (M := M_X6_seek) 1 dX6_seek_1 ?_
  refine z_putIH (M := M_X6_seek) 2 dX6_seek_2 p_X6_22 o_102 rfl (u_102_4 G0) ((FR.rf (cs := (csB ++ [39, 40, 41, 103, 104, (L + 1)])) (ss := [(102, 3), (102, 4)]) (h := h0)).up (by simp [fr, csB])) (fun h1 E1 G1 R1 => ?_)
  refine z_aload_n (M := M_X6_seek) 5 dX6_seek_5 rfl ?_
  refine z_getR (M := M_X6_seek) 6 dX6_seek_6 f_X6_15 o_102 rfl (g_102_2 G1) ?_
  refine z_iconst (M := M_X6_seek) 9 dX6_seek_9 ?_
  refine z_sV (M := M_X6_seek) 10 dX6_seek_10 t_J7_fill_53178 l_X6_26 (m_rr_of rfl) (rest := []) (c_J7_fill_104 h1 0 G1) rfl rfl (Nat.le_of_ble_eq_true rfl) ⟨rfl, rfl⟩ (fun h2 qx1 => ?_)
  obtain ⟨G2, S2⟩ := qx1
  have R2 := R1.call S2 (by simp [fsub, fr, csB])
  refine z_aload_n (M := M_X6_seek) 13 dX6_seek_13 rfl ?_
  refine z_aload_n (M := M_X6_seek) 14 dX6_seek_14 rfl ?_
  refine z_vI (M := M_X6_seek) 15 dX6_seek_15 t_X6_gather l_X6_32 (m_rr_of rfl) (rest := []) (c_X6_gather h2 L hL G2) o_102 rfl rfl rfl (Nat.le_of_ble_eq_true rfl) ⟨rfl, rfl⟩ (fun x2 h3 qx2 => ?_)
  obtain ⟨G3, S3, ax2, bx2⟩ := qx2
  have R3 := R2.call S3 (by simp [fsub, fr, csB])
  refine z_if_ne (M := M_X6_seek) 18 dX6_seek_18 23 rfl (fun c3 => ?_) (fun c3 => ?_)
  · refine z_iconst (M := M_X6_seek) 23 dX6_seek_23 ?_
    refine z_iconst (M := M_X6_seek) 24 dX6_seek_24 ?_
    refine z_aload_n (M := M_X6_seek) 25 dX6_seek_25 rfl ?_
    refine z_getIG (M := M_X6_seek) 26 dX6_seek_26 f_X6_36 o_102 (by decide) (g_102_3 G3) (fun x4 ex4 ax4 bx4 => ?_)
    refine z_imulN (M := M_X6_seek) 29 dX6_seek_29 (by omega) (by omega) ?_
    refine z_ishl (M := M_X6_seek) 30 dX6_seek_30 ?_
    refine z_topm (fun x5 ex5 ox5 => ?_)
    unfold m_32 at ox5
    refine z_istore_n (M := M_X6_seek) 31 dX6_seek_31 (ls' := [some (mR 102), some (mR L), some (mI x5), none, none]) (by decide) rfl ?_
    refine z_iconst (M := M_X6_seek) 32 dX6_seek_32 ?_
    refine z_istore_n (M := M_X6_seek) 33 dX6_seek_33 (ls' := [some (mR 102), some (mR L), some (mI x5), some (mI 0), none]) (by decide) rfl ?_
    exact z_mask [true, true, true, true, false] rfl (ih.1 x5 0 h3 G3 R3 (by omega) (by omega) (by omega))
  · refine z_iconst (M := M_X6_seek) 21 dX6_seek_21 ?_
    exact z_retZ (M := M_X6_seek) 22 dX6_seek_22 rfl (by omega) ⟨G3, R3, by omega, by omega⟩
abbrev P_X11_canBe (h0 : m_H) : Int → m_H → Prop := fun x h' => GI h' ∧ FR (csB ++ [39, 40, 41]) [] h0 h' ∧ 0 ≤ x ∧ x ≤ 1
set_option maxHeartbeats 4000000 in
set_option maxRecDepth 100000 in
theorem c_X11_canBe (h0 : m_H) (G0 : GI h0) : m_CI M_X11_canBe [mR 0] h0 (P_X11_canBe h0) := by
  refine m_CI_of ⟨by decide, rfl, by simp [m_arg, m_isL, M_X11_canBe], ⟨rfl, rfl⟩, rfl, rfl⟩ (ls := [some (mR 0)]) rfl ?_
  refine z_aload_n (M := M_X11_canBe) 0 dX11_canBe_0 rfl ?_
  refine z_getR (M := M_X11_canBe) 1 dX11_canBe_1 f_X11_46 o_0 rfl (g_0_6 G0) ?_
  refine z_aload_n (M := M_X11_canBe) 4 dX11_canBe_4 rfl ?_
  refine z_getR (M := M_X11_canBe) 5 dX11_canBe_5 f_X11_12 o_0 rfl (g_0_0 G0) ?_
  refine z_aload_n (M := M_X11_canBe) 8 dX11_canBe_8 rfl ?_
  refine z_getR (M := M_X11_canBe) 9 dX11_canBe_9 f_X11_12 o_0 rfl (g_0_0 G0) ?_
  refine z_getIV (M := M_X11_canBe) 12 dX11_canBe_12 f_X11_346 o_1 (by decide) (fun x1 ex1 => ?_)
  refine z_ok (fun ox1 _ _ => ?_)
  have ox1 := ox1.1; unfold m_ok m_32 at ox1
  refine z_vI (M := M_X11_canBe) 15 dX11_canBe_15 t_X9_canBe l_X11_343 (m_rr_of rfl) (rest := []) (c_X9_canBe h0 1 x1 (Or.inl rfl) G0) o_38 rfl rfl rfl (Nat.le_of_ble_eq_true rfl) ⟨rfl, rfl⟩ (fun x2 h1 qx2 => ?_)
  obtain ⟨G1, S1, ax2, bx2⟩ := qx2
  have R1 := (FR.rf (cs := (csB ++ [39, 40, 41])) (ss := []) (h := h0)).call S1 (by decide +kernel)
  exact z_retZ (M := M_X11_canBe) 18 dX11_canBe_18 rfl (by omega) ⟨G1, R1, by omega, by omega⟩
abbrev P_X11_isMeasured (h0 : m_H) (a1 : Int) : Int → m_H → Prop := fun x h' => h0 = h' ∧ ((x = 1 ∧ (0 ≤ a1 ∧ a1 ≤ 11 ∧ (a1 < 6 ∨ h0 (1 + 2) (a1 - 6).toNat ≠ -1))) ∨ (x = 0 ∧ ¬ (0 ≤ a1 ∧ a1 ≤ 11 ∧ (a1 < 6 ∨ h0 (1 + 2) (a1 - 6).toNat ≠ -1))))
set_option maxHeartbeats 4000000 in
set_option maxRecDepth 100000 in
theorem c_X11_isMeasured (h0 : m_H) (a1 : Int) (G0 : GI h0) : m_CI M_X11_isMeasured [mR 0, mI a1] h0 (P_X11_isMeasured h0 a1) := by
  refine m_CI_of ⟨by decide, rfl, by simp [m_arg, m_isL, M_X11_isMeasured], ⟨rfl, rfl⟩, rfl, rfl⟩ (ls := [some (mR 0), some (mI a1)]) rfl ?_
  refine z_ok (fun _ _ ok => ?_)
  have oa1 : m_32 a1 := ok 1 _ rfl
  unfold m_32 at oa1
  refine z_iload_n (M := M_X11_isMeasured) 0 dX11_isMeasured_0 rfl ?_
  refine z_bipush (M := M_X11_isMeasured) 1 dX11_isMeasured_1 ?_
  refine z_icmp_ge (M := M_X11_isMeasured) 3 dX11_isMeasured_3 21 rfl (fun c1 => ?_) (fun c1 => ?_)
  · refine z_iconst (M := M_X11_isMeasured) 21 dX11_isMeasured_21 ?_
    exact z_retZ (M := M_X11_isMeasured) 22 dX11_isMeasured_22 rfl (by omega) ⟨rfl, by omega⟩
  · refine z_aload_n (M := M_X11_isMeasured) 6 dX11_isMeasured_6 rfl ?_
    refine z_getR (M := M_X11_isMeasured) 7 dX11_isMeasured_7 f_X11_12 o_0 rfl (g_0_0 G0) ?_
    refine z_iload_n (M := M_X11_isMeasured) 10 dX11_isMeasured_10 rfl ?_
    refine z_vI (M := M_X11_isMeasured) 11 dX11_isMeasured_11 t_X4_isThere l_X11_329 (m_rr_of rfl) (rest := []) (c_X4_isThere h0 1 a1 (Or.inl rfl) G0) o_1 rfl rfl rfl (Nat.le_of_ble_eq_true rfl) ⟨rfl, rfl⟩ (fun x2 h1 qx2 => ?_)
    obtain ⟨rfl, ⟨rfl, cx2⟩ | ⟨rfl, cx2⟩⟩ := qx2
    · refine z_if_eq_F (M := M_X11_isMeasured) 14 dX11_isMeasured_14 21 rfl (by omega) ?_
      refine z_iconst (M := M_X11_isMeasured) 17 dX11_isMeasured_17 ?_
      refine z_goto (M := M_X11_isMeasured) 18 dX11_isMeasured_18 22 rfl ?_
      exact z_retZ (M := M_X11_isMeasured) 22 dX11_isMeasured_22 rfl (by omega) ⟨rfl, by omega⟩
    · refine z_if_eq_T (M := M_X11_isMeasured) 14 dX11_isMeasured_14 21 rfl (by omega) ?_
      refine z_iconst (M := M_X11_isMeasured) 21 dX11_isMeasured_21 ?_
      exact z_retZ (M := M_X11_isMeasured) 22 dX11_isMeasured_22 rfl (by omega) ⟨rfl, by omega⟩
abbrev P_X11_compare (h0 : m_H) (a1 a2 : Int) : Int → m_H → Prop := fun x h' => GI h' ∧ FR (csB ++ [39, 40, 41]) [] h0 h' ∧ 0 ≤ x ∧ x ≤ 1
set_option maxHeartbeats 4000000 in
set_option maxRecDepth 100000 in
theorem c_X11_compare (h0 : m_H) (a1 a2 : Int) (G0 : GI h0) : m_CI M_X11_compare [mR 0, mI a1, mI a2] h0 (P_X11_compare h0 a1 a2) := by
  refine m_CI_of ⟨by decide, rfl, by simp [m_arg, m_isL, M_X11_compare], ⟨rfl, rfl⟩, rfl, rfl⟩ (ls := [some (mR 0), some (mI a1), some (mI a2)]) rfl ?_
  refine z_ok (fun _ _ ok => ?_)
  have oa1 : m_32 a1 := ok 1 _ rfl
  unfold m_32 at oa1
  have oa2 : m_32 a2 := ok 2 _ rfl
  unfold m_32 at oa2
  refine z_aload_n (M := M_X11_compare) 0 dX11_compare_0 rfl ?_
  refine z_getR (M := M_X11_compare) 1 dX11_compare_1 f_X11_12 o_0 rfl (g_0_0 G0) ?_
  refine z_iload_n (M := M_X11_compare) 4 dX11_compare_4 rfl ?_
  refine z_vI (M := M_X11_compare) 5 dX11_compare_5 t_X4_isThere l_X11_329 (m_rr_of rfl) (rest := []) (c_X4_isThere h0 1 a1 (Or.inl rfl) G0) o_1 rfl rfl rfl (Nat.le_of_ble_eq_true rfl) ⟨rfl, rfl⟩ (fun x1 h1 qx1 => ?_)
  obtain ⟨rfl, ⟨rfl, cx1⟩ | ⟨rfl, cx1⟩⟩ := qx1
  · refine z_if_eq_F (M := M_X11_compare) 8 dX11_compare_8 29 rfl (by omega) ?_
    refine z_aload_n (M := M_X11_compare) 11 dX11_compare_11 rfl ?_
    refine z_getR (M := M_X11_compare) 12 dX11_compare_12 f_X11_12 o_0 rfl (g_0_0 G0) ?_
    refine z_iload_n (M := M_X11_compare) 15 dX11_compare_15 rfl ?_
    refine z_vI (M := M_X11_compare) 16 dX11_compare_16 t_X4_isThere l_X11_329 (m_rr_of rfl) (rest := []) (c_X4_isThere h0 1 a2 (Or.inl rfl) G0) o_1 rfl rfl rfl (Nat.le_of_ble_eq_true rfl) ⟨rfl, rfl⟩ (fun x2 h2 qx2 => ?_)
    obtain ⟨rfl, ⟨rfl, cx2⟩ | ⟨rfl, cx2⟩⟩ := qx2
    · refine z_if_eq_F (M := M_X11_compare) 19 dX11_compare_19 29 rfl (by omega) ?_
      refine z_aload_n (M := M_X11_compare) 22 dX11_compare_22 rfl ?_
      refine z_vI (M := M_X11_compare) 23 dX11_compare_23 t_X11_canBe l_X11_208 (m_rr_of rfl) (rest := []) (c_X11_canBe h0 G0) o_0 rfl rfl rfl (Nat.le_of_ble_eq_true rfl) ⟨rfl, rfl⟩ (fun x3 h3 qx3 => ?_)
      obtain ⟨G3, S3, ax3, bx3⟩ := qx3
      have R3 := (FR.rf (cs := (csB ++ [39, 40, 41])) (ss := []) (h := h0)).call S3 (by decide +kernel)
      refine z_if_ne (M := M_X11_compare) 26 dX11_compare_26 31 rfl (fun c4 => ?_) (fun c4 => ?_)
      · refine z_aload_n (M := M_X11_compare) 31 dX11_compare_31 rfl ?_
        refine z_getR (M := M_X11_compare) 32 dX11_compare_32 f_X11_53 o_0 rfl (g_0_7 G3) ?_
        refine z_aload_n (M := M_X11_compare) 35 dX11_compare_35 rfl ?_
        refine z_getR (M := M_X11_compare) 36 dX11_compare_36 f_X11_46 o_0 rfl (g_0_6 G3) ?_
        refine z_iload_n (M := M_X11_compare) 39 dX11_compare_39 rfl ?_
        refine z_iload_n (M := M_X11_compare) 40 dX11_compare_40 rfl ?_
        refine z_vV (M := M_X11_compare) 41 dX11_compare_41 t_X7_measure l_X11_427 (m_rr_of rfl) (rest := []) (c_X7_measure h3 a1 a2 G3 ⟨by omega, by omega⟩ ⟨by omega, by omega⟩) o_93 rfl rfl rfl (Nat.le_of_ble_eq_true rfl) ⟨rfl, rfl⟩ (fun h4 qx5 => ?_)
        obtain ⟨G4, S4⟩ := qx5
        have R4 := R3.call S4 (by decide +kernel)
        refine z_iconst (M := M_X11_compare) 44 dX11_compare_44 ?_
        exact z_retZ (M := M_X11_compare) 45 dX11_compare_45 rfl (by omega) ⟨G4, R4, by omega, by omega⟩
      · refine z_iconst (M := M_X11_compare) 29 dX11_compare_29 ?_
        exact z_retZ (M := M_X11_compare) 30 dX11_compare_30 rfl (by omega) ⟨G3, R3, by omega, by omega⟩
    · refine z_if_eq_T (M := M_X11_compare) 19 dX11_compare_19 29 rfl (by omega) ?_
      refine z_iconst (M := M_X11_compare) 29 dX11_compare_29 ?_
      exact z_retZ (M := M_X11_compare) 30 dX11_compare_30 rfl (by omega) ⟨G0, (FR.rf (cs := (csB ++ [39, 40, 41])) (ss := []) (h := h0)), by omega, by omega⟩
  · refine z_if_eq_T (M := M_X11_compare) 8 dX11_compare_8 29 rfl (by omega) ?_
    refine z_iconst (M := M_X11_compare) 29 dX11_compare_29 ?_
    exact z_retZ (M := M_X11_compare) 30 dX11_compare_30 rfl (by omega) ⟨G0, (FR.rf (cs := (csB ++ [39, 40, 41])) (ss := []) (h := h0)), by omega, by omega⟩
abbrev P_X11_compareToFoot (h0 : m_H) (a1 a2 : Int) : Int → m_H → Prop := fun x h' => GI h' ∧ FR (csB ++ [39, 40, 41]) [] h0 h' ∧ 0 ≤ x ∧ x ≤ 1
set_option maxHeartbeats 4000000 in
set_option maxRecDepth 100000 in
theorem c_X11_compareToFoot (h0 : m_H) (a1 a2 : Int) (G0 : GI h0) : m_CI M_X11_compareToFoot [mR 0, mI a1, mI a2] h0 (P_X11_compareToFoot h0 a1 a2) := by
  refine m_CI_of ⟨by decide, rfl, by simp [m_arg, m_isL, M_X11_compareToFoot], ⟨rfl, rfl⟩, rfl, rfl⟩ (ls := [some (mR 0), some (mI a1), some (mI a2)]) rfl ?_
  refine z_ok (fun _ _ ok => ?_)
  have oa1 : m_32 a1 := ok 1 _ rfl
  unfold m_32 at oa1
  have oa2 : m_32 a2 := ok 2 _ rfl
  unfold m_32 at oa2
  refine z_aload_n (M := M_X11_compareToFoot) 0 dX11_compareToFoot_0 rfl ?_
  refine z_iload_n (M := M_X11_compareToFoot) 1 dX11_compareToFoot_1 rfl ?_
  refine z_vI (M := M_X11_compareToFoot) 2 dX11_compareToFoot_2 t_X11_isMeasured l_X11_278 (m_rr_of rfl) (rest := []) (c_X11_isMeasured h0 a1 G0) o_0 rfl rfl rfl (Nat.le_of_ble_eq_true rfl) ⟨rfl, rfl⟩ (fun x1 h1 qx1 => ?_)
  obtain ⟨rfl, ⟨rfl, cx1⟩ | ⟨rfl, cx1⟩⟩ := qx1
  · refine z_if_eq_F (M := M_X11_compareToFoot) 5 dX11_compareToFoot_5 22 rfl (by omega) ?_
    refine z_iload_n (M := M_X11_compareToFoot) 8 dX11_compareToFoot_8 rfl ?_
    refine z_sI (M := M_X11_compareToFoot) 9 dX11_compareToFoot_9 t_X11_isKeeper l_X11_132 (m_rr_of rfl) (rest := []) (c_X11_isKeeper h0 a2 G0) rfl rfl (Nat.le_of_ble_eq_true rfl) ⟨rfl, rfl⟩ (fun x2 h2 qx2 => ?_)
    obtain ⟨rfl, ⟨rfl, cx2⟩ | ⟨rfl, cx2⟩⟩ := qx2
    · refine z_if_eq_F (M := M_X11_compareToFoot) 12 dX11_compareToFoot_12 22 rfl (by omega) ?_
      refine z_aload_n (M := M_X11_compareToFoot) 15 dX11_compareToFoot_15 rfl ?_
      refine z_vI (M := M_X11_compareToFoot) 16 dX11_compareToFoot_16 t_X11_canBe l_X11_208 (m_rr_of rfl) (rest := []) (c_X11_canBe h0 G0) o_0 rfl rfl rfl (Nat.le_of_ble_eq_true rfl) ⟨rfl, rfl⟩ (fun x3 h3 qx3 => ?_)
      obtain ⟨G3, S3, ax3, bx3⟩ := qx3
      have R3 := (FR.rf (cs := (csB ++ [39, 40, 41])) (ss := []) (h := h0)).call S3 (by decide +kernel)
      refine z_if_ne (M := M_X11_compareToFoot) 19 dX11_compareToFoot_19 24 rfl (fun c4 => ?_) (fun c4 => ?_)
      · refine z_aload_n (M := M_X11_compareToFoot) 24 dX11_compareToFoot_24 rfl ?_
        refine z_getR (M := M_X11_compareToFoot) 25 dX11_compareToFoot_25 f_X11_53 o_0 rfl (g_0_7 G3) ?_
        refine z_aload_n (M := M_X11_compareToFoot) 28 dX11_compareToFoot_28 rfl ?_
        refine z_getR (M := M_X11_compareToFoot) 29 dX11_compareToFoot_29 f_X11_46 o_0 rfl (g_0_6 G3) ?_
        refine z_iload_n (M := M_X11_compareToFoot) 32 dX11_compareToFoot_32 rfl ?_
        refine z_bipush (M := M_X11_compareToFoot) 33 dX11_compareToFoot_33 ?_
        refine z_iload_n (M := M_X11_compareToFoot) 35 dX11_compareToFoot_35 rfl ?_
        refine z_iaddN (M := M_X11_compareToFoot) 36 dX11_compareToFoot_36 (by omega) (by omega) ?_
        refine z_vV (M := M_X11_compareToFoot) 37 dX11_compareToFoot_37 t_X7_measure l_X11_427 (m_rr_of rfl) (rest := []) (c_X7_measure h3 a1 (12 + a2) G3 ⟨by omega, by omega⟩ ⟨by omega, by omega⟩) o_93 rfl rfl rfl (Nat.le_of_ble_eq_true rfl) ⟨rfl, rfl⟩ (fun h4 qx5 => ?_)
        obtain ⟨G4, S4⟩ := qx5
        have R4 := R3.call S4 (by decide +kernel)
        refine z_iconst (M := M_X11_compareToFoot) 40 dX11_compareToFoot_40 ?_
        exact z_retZ (M := M_X11_compareToFoot) 41 dX11_compareToFoot_41 rfl (by omega) ⟨G4, R4, by omega, by omega⟩
      · refine z_iconst (M := M_X11_compareToFoot) 22 dX11_compareToFoot_22 ?_
        exact z_retZ (M := M_X11_compareToFoot) 23 dX11_compareToFoot_23 rfl (by omega) ⟨G3, R3, by omega, by omega⟩
    · refine z_if_eq_T (M := M_X11_compareToFoot) 12 dX11_compareToFoot_12 22 rfl (by omega) ?_
      refine z_iconst (M := M_X11_compareToFoot) 22 dX11_compareToFoot_22 ?_
      exact z_retZ (M := M_X11_compareToFoot) 23 dX11_compareToFoot_23 rfl (by omega) ⟨G0, (FR.rf (cs := (csB ++ [39, 40, 41])) (ss := []) (h := h0)), by omega, by omega⟩
  · refine z_if_eq_T (M := M_X11_compareToFoot) 5 dX11_compareToFoot_5 22 rfl (by omega) ?_
    refine z_iconst (M := M_X11_compareToFoot) 22 dX11_compareToFoot_22 ?_
    exact z_retZ (M := M_X11_compareToFoot) 23 dX11_compareToFoot_23 rfl (by omega) ⟨G0, (FR.rf (cs := (csB ++ [39, 40, 41])) (ss := []) (h := h0)), by omega, by omega⟩
abbrev P_X11_addFeet (h0 : m_H) (a1 a2 a3 : Int) : m_H → Prop := fun h' => GI h' ∧ FR (csB ++ [97, 98]) [(96, 2), (96, 3), (96, 4)] h0 h'
set_option maxHeartbeats 4000000 in
set_option maxRecDepth 100000 in
theorem c_X11_addFeet (h0 : m_H) (a1 a2 a3 : Int) (G0 : GI h0) (pa1 : 0 ≤ a1 ∧ a1 ≤ 11) (pa2 : 0 ≤ a2 ∧ a2 ≤ 3) : m_CV M_X11_addFeet [mR 0, mI a1, mI a2, mI a3] h0 (P_X11_addFeet h0 a1 a2 a3) := by
  refine m_CV_of ⟨by decide, rfl, by simp [m_arg, m_isL, M_X11_addFeet], ⟨rfl, rfl⟩, rfl, rfl⟩ (ls := [some (mR 0), some (mI a1), some (mI a2), some (mI a3)]) rfl ?_
  refine z_ok (fun _ _ ok => ?_)
  have oa3 : m_32 a3 := ok 3 _ rfl
  unfold m_32 at oa3
  refine z_aload_n (M := M_X11_addFeet) 0 dX11_addFeet_0 rfl ?_
  refine z_getR (M := M_X11_addFeet) 1 dX11_addFeet_1 f_X11_53 o_0 rfl (g_0_7 G0) ?_
  refine z_aload_n (M := M_X11_addFeet) 4 dX11_addFeet_4 rfl ?_
  refine z_getR (M := M_X11_addFeet) 5 dX11_addFeet_5 f_X11_46 o_0 rfl (g_0_6 G0) ?_
  refine z_iload_n (M := M_X11_addFeet) 8 dX11_addFeet_8 rfl ?_
  refine z_bipush (M := M_X11_addFeet) 9 dX11_addFeet_9 ?_
  refine z_iload_n (M := M_X11_addFeet) 11 dX11_addFeet_11 rfl ?_
  refine z_iaddN (M := M_X11_addFeet) 12 dX11_addFeet_12 (by omega) (by omega) ?_
  refine z_vV (M := M_X11_addFeet) 13 dX11_addFeet_13 t_X7_measure l_X11_427 (m_rr_of rfl) (rest := []) (c_X7_measure h0 a1 (12 + a2) G0 ⟨by omega, by omega⟩ ⟨by omega, by omega⟩) o_93 rfl rfl rfl (Nat.le_of_ble_eq_true rfl) ⟨rfl, rfl⟩ (fun h1 qx1 => ?_)
  obtain ⟨G1, S1⟩ := qx1
  have R1 := (FR.rf (cs := (csB ++ [97, 98])) (ss := [(96, 2), (96, 3), (96, 4)]) (h := h0)).call S1 (by decide +kernel)
  refine z_iload_n (M := M_X11_addFeet) 16 dX11_addFeet_16 rfl ?_
  refine z_if_ne (M := M_X11_addFeet) 17 dX11_addFeet_17 51 rfl (fun c2 => ?_) (fun c2 => ?_)
  · refine z_aload_n (M := M_X11_addFeet) 51 dX11_addFeet_51 rfl ?_
    refine z_getR (M := M_X11_addFeet) 52 dX11_addFeet_52 f_X11_60 o_0 rfl (g_0_8 G1) ?_
    refine z_aload_n (M := M_X11_addFeet) 55 dX11_addFeet_55 rfl ?_
    refine z_getR (M := M_X11_addFeet) 56 dX11_addFeet_56 f_X11_53 o_0 rfl (g_0_7 G1) ?_
    refine z_getR (M := M_X11_addFeet) 59 dX11_addFeet_59 f_X11_237 o_93 rfl (g_93_1 G1) ?_
    refine z_getJV (M := M_X11_addFeet) 62 dX11_addFeet_62 f_X11_264 o_95 rfl (fun x3 ex3 => ?_)
    refine z_aload_n (M := M_X11_addFeet) 65 dX11_addFeet_65 rfl ?_
    refine z_getR (M := M_X11_addFeet) 66 dX11_addFeet_66 f_X11_53 o_0 rfl (g_0_7 G1) ?_
    refine z_getR (M := M_X11_addFeet) 69 dX11_addFeet_69 f_X11_237 o_93 rfl (g_93_1 G1) ?_
    refine z_getJV (M := M_X11_addFeet) 72 dX11_addFeet_72 f_X11_268 o_95 rfl (fun x4 ex4 => ?_)
    refine z_aload_n (M := M_X11_addFeet) 75 dX11_addFeet_75 rfl ?_
    refine z_getR (M := M_X11_addFeet) 76 dX11_addFeet_76 f_X11_53 o_0 rfl (g_0_7 G1) ?_
    refine z_getR (M := M_X11_addFeet) 79 dX11_addFeet_79 f_X11_237 o_93 rfl (g_93_1 G1) ?_
    refine z_getIG (M := M_X11_addFeet) 82 dX11_addFeet_82 f_X11_231 o_95 (by decide) (g_95_2 G1) (fun x5 ex5 ax5 bx5 => ?_)
    refine z_vV (M := M_X11_addFeet) 85 dX11_addFeet_85 t_X10_add l_X11_431 (m_rr_of rfl) (rest := []) (c_X10_add h1 x3 x4 x5 G1 ⟨by omega, by omega⟩) o_96 rfl rfl rfl (Nat.le_of_ble_eq_true rfl) ⟨rfl, rfl⟩ (fun h2 qx6 => ?_)
    obtain ⟨G2, S2⟩ := qx6
    have R2 := R1.call S2 (by decide +kernel)
    exact z_retV (M := M_X11_addFeet) 88 dX11_addFeet_88 rfl ⟨G2, R2⟩
  · refine z_aload_n (M := M_X11_addFeet) 20 dX11_addFeet_20 rfl ?_
    refine z_getR (M := M_X11_addFeet) 21 dX11_addFeet_21 f_X11_60 o_0 rfl (g_0_8 G1) ?_
    refine z_aload_n (M := M_X11_addFeet) 24 dX11_addFeet_24 rfl ?_
    refine z_getR (M := M_X11_addFeet) 25 dX11_addFeet_25 f_X11_53 o_0 rfl (g_0_7 G1) ?_
    refine z_getR (M := M_X11_addFeet) 28 dX11_addFeet_28 f_X11_227 o_93 rfl (g_93_0 G1) ?_
    refine z_getJV (M := M_X11_addFeet) 31 dX11_addFeet_31 f_X11_268 o_94 rfl (fun x7 ex7 => ?_)
    refine z_aload_n (M := M_X11_addFeet) 34 dX11_addFeet_34 rfl ?_
    refine z_getR (M := M_X11_addFeet) 35 dX11_addFeet_35 f_X11_53 o_0 rfl (g_0_7 G1) ?_
    refine z_getR (M := M_X11_addFeet) 38 dX11_addFeet_38 f_X11_227 o_93 rfl (g_93_0 G1) ?_
    refine z_getJV (M := M_X11_addFeet) 41 dX11_addFeet_41 f_X11_264 o_94 rfl (fun x8 ex8 => ?_)
    refine z_iconst (M := M_X11_addFeet) 44 dX11_addFeet_44 ?_
    refine z_vV (M := M_X11_addFeet) 45 dX11_addFeet_45 t_X10_add l_X11_431 (m_rr_of rfl) (rest := []) (c_X10_add h1 x7 x8 0 G1 ⟨by omega, by omega⟩) o_96 rfl rfl rfl (Nat.le_of_ble_eq_true rfl) ⟨rfl, rfl⟩ (fun h3 qx9 => ?_)
    obtain ⟨G3, S3⟩ := qx9
    have R3 := R1.call S3 (by decide +kernel)
    refine z_goto (M := M_X11_addFeet) 48 dX11_addFeet_48 88 rfl ?_
    exact z_retV (M := M_X11_addFeet) 88 dX11_addFeet_88 rfl ⟨G3, R3⟩
abbrev P_X11_manyWholes (h0 : m_H) (a1 a2 : Int) : Int → m_H → Prop := fun x h' => GI h' ∧ FR (csB ++ []) [] h0 h' ∧ (-1) ≤ x ∧ x ≤ 2147483647
set_option maxHeartbeats 4000000 in
set_option maxRecDepth 100000 in
theorem c_X11_manyWholes (h0 : m_H) (a1 a2 : Int) (G0 : GI h0) (pa1 : 0 ≤ a1 ∧ a1 ≤ 11) (pa2 : 0 ≤ a2 ∧ a2 ≤ 3) : m_CI M_X11_manyWholes [mR 0, mI a1, mI a2] h0 (P_X11_manyWholes h0 a1 a2) := by
  refine m_CI_of ⟨by decide, rfl, by simp [m_arg, m_isL, M_X11_manyWholes], ⟨rfl, rfl⟩, rfl, rfl⟩ (ls := [some (mR 0), some (mI a1), some (mI a2)]) rfl ?_
  refine z_aload_n (M := M_X11_manyWholes) 0 dX11_manyWholes_0 rfl ?_
  refine z_getR (M := M_X11_manyWholes) 1 dX11_manyWholes_1 f_X11_12 o_0 rfl (g_0_0 G0) ?_
  refine z_iload_n (M := M_X11_manyWholes) 4 dX11_manyWholes_4 rfl ?_
  refine z_vI (M := M_X11_manyWholes) 5 dX11_manyWholes_5 t_X4_isThere l_X11_329 (m_rr_of rfl) (rest := []) (c_X4_isThere h0 1 a1 (Or.inl rfl) G0) o_1 rfl rfl rfl (Nat.le_of_ble_eq_true rfl) ⟨rfl, rfl⟩ (fun x1 h1 qx1 => ?_)
  obtain ⟨rfl, ⟨rfl, cx1⟩ | ⟨rfl, cx1⟩⟩ := qx1
  · refine z_if_ne_T (M := M_X11_manyWholes) 8 dX11_manyWholes_8 13 rfl (by omega) ?_
    refine z_aload_n (M := M_X11_manyWholes) 13 dX11_manyWholes_13 rfl ?_
    refine z_getR (M := M_X11_manyWholes) 14 dX11_manyWholes_14 f_X11_53 o_0 rfl (g_0_7 G0) ?_
    refine z_aload_n (M := M_X11_manyWholes) 17 dX11_manyWholes_17 rfl ?_
    refine z_getR (M := M_X11_manyWholes) 18 dX11_manyWholes_18 f_X11_46 o_0 rfl (g_0_6 G0) ?_
    refine z_iload_n (M := M_X11_manyWholes) 21 dX11_manyWholes_21 rfl ?_
    refine z_bipush (M := M_X11_manyWholes) 22 dX11_manyWholes_22 ?_
    refine z_iload_n (M := M_X11_manyWholes) 24 dX11_manyWholes_24 rfl ?_
    refine z_iaddN (M := M_X11_manyWholes) 25 dX11_manyWholes_25 (by omega) (by omega) ?_
    refine z_vV (M := M_X11_manyWholes) 26 dX11_manyWholes_26 t_X7_measure l_X11_427 (m_rr_of rfl) (rest := []) (c_X7_measure h0 a1 (12 + a2) G0 ⟨by omega, by omega⟩ ⟨by omega, by omega⟩) o_93 rfl rfl rfl (Nat.le_of_ble_eq_true rfl) ⟨rfl, rfl⟩ (fun h2 qx2 => ?_)
    obtain ⟨G2, S2⟩ := qx2
    have R2 := (FR.rf (cs := (csB ++ [])) (ss := []) (h := h0)).call S2 (by decide +kernel)
    refine z_aload_n (M := M_X11_manyWholes) 29 dX11_manyWholes_29 rfl ?_
    refine z_getR (M := M_X11_manyWholes) 30 dX11_manyWholes_30 f_X11_53 o_0 rfl (g_0_7 G2) ?_
    refine z_iconst (M := M_X11_manyWholes) 33 dX11_manyWholes_33 ?_
    refine z_vI (M := M_X11_manyWholes) 34 dX11_manyWholes_34 t_X7_manyNumbers l_X11_310 (m_rr_of rfl) (rest := []) (c_X7_manyNumbers h2 1 G2) o_93 rfl rfl rfl (Nat.le_of_ble_eq_true rfl) ⟨rfl, rfl⟩ (fun x3 h3 qx3 => ?_)
    obtain ⟨G3, S3, ax3, bx3⟩ := qx3
    have R3 := R2.call S3 (by decide +kernel)
    exact z_retI (M := M_X11_manyWholes) 37 dX11_manyWholes_37 rfl ⟨G3, R3, by omega, by omega⟩
  · refine z_if_ne_F (M := M_X11_manyWholes) 8 dX11_manyWholes_8 13 rfl (by omega) ?_
    refine z_iconst (M := M_X11_manyWholes) 11 dX11_manyWholes_11 ?_
    exact z_retI (M := M_X11_manyWholes) 12 dX11_manyWholes_12 rfl ⟨G0, (FR.rf (cs := (csB ++ [])) (ss := []) (h := h0)), by omega, by omega⟩
abbrev P_X11_couldBeTold (h0 : m_H) (a1 a2 a3 a4 : Int) : Int → m_H → Prop := fun x h' => GI h' ∧ FR (csB ++ []) [] h0 h' ∧ 0 ≤ x ∧ x ≤ 1
set_option maxHeartbeats 4000000 in
set_option maxRecDepth 100000 in
theorem c_X11_couldBeTold (h0 : m_H) (a1 a2 a3 a4 : Int) (G0 : GI h0) (pa1 : 0 ≤ a1 ∧ a1 ≤ 5) (pa2 : 0 ≤ a2 ∧ a2 ≤ 31) : m_CI M_X11_couldBeTold [mR 0, mI a1, mI a2, mI a3, mI a4] h0 (P_X11_couldBeTold h0 a1 a2 a3 a4) := by
  refine m_CI_of ⟨by decide, rfl, by simp [m_arg, m_isL, M_X11_couldBeTold], ⟨rfl, rfl⟩, rfl, rfl⟩ (ls := [some (mR 0), some (mI a1), some (mI a2), some (mI a3), some (mI a4), none]) rfl ?_
  refine z_ok (fun _ _ ok => ?_)
  have oa3 : m_32 a3 := ok 3 _ rfl
  unfold m_32 at oa3
  have oa4 : m_32 a4 := ok 4 _ rfl
  unfold m_32 at oa4
  refine z_aload_n (M := M_X11_couldBeTold) 0 dX11_couldBeTold_0 rfl ?_
  refine z_getR (M := M_X11_couldBeTold) 1 dX11_couldBeTold_1 f_X11_12 o_0 rfl (g_0_0 G0) ?_
  refine z_getR (M := M_X11_couldBeTold) 4 dX11_couldBeTold_4 f_X11_120 o_1 rfl (g_1_0 G0) ?_
  refine z_iload_n (M := M_X11_couldBeTold) 7 dX11_couldBeTold_7 rfl ?_
  refine z_ialdG (M := M_X11_couldBeTold) 8 dX11_couldBeTold_8 o_2 (by omega) (by omega) (g_2 G0 (by omega)) (fun x1 ex1 ax1 bx1 => ?_)
  refine z_istore (M := M_X11_couldBeTold) 9 dX11_couldBeTold_9 (ls' := [some (mR 0), some (mI a1), some (mI a2), some (mI a3), some (mI a4), some (mI x1)]) (by decide) rfl ?_
  refine z_iload (M := M_X11_couldBeTold) 11 dX11_couldBeTold_11 rfl ?_
  refine z_iconst (M := M_X11_couldBeTold) 13 dX11_couldBeTold_13 ?_
  refine z_icmp_ne (M := M_X11_couldBeTold) 14 dX11_couldBeTold_14 19 rfl (fun c2 => ?_) (fun c2 => ?_)
  · refine z_aload_n (M := M_X11_couldBeTold) 19 dX11_couldBeTold_19 rfl ?_
    refine z_getR (M := M_X11_couldBeTold) 20 dX11_couldBeTold_20 f_X11_53 o_0 rfl (g_0_7 G0) ?_
    refine z_aload_n (M := M_X11_couldBeTold) 23 dX11_couldBeTold_23 rfl ?_
    refine z_getR (M := M_X11_couldBeTold) 24 dX11_couldBeTold_24 f_X11_46 o_0 rfl (g_0_6 G0) ?_
    refine z_aload_n (M := M_X11_couldBeTold) 27 dX11_couldBeTold_27 rfl ?_
    refine z_getR (M := M_X11_couldBeTold) 28 dX11_couldBeTold_28 f_X11_12 o_0 rfl (g_0_0 G0) ?_
    refine z_iload_n (M := M_X11_couldBeTold) 31 dX11_couldBeTold_31 rfl ?_
    refine z_iload_n (M := M_X11_couldBeTold) 32 dX11_couldBeTold_32 rfl ?_
    refine z_vI (M := M_X11_couldBeTold) 33 dX11_couldBeTold_33 t_X4_lengthIn l_X11_409 (m_rr_of rfl) (rest := [mR 38, mR 93]) (c_X4_lengthIn h0 1 a1 a2 (Or.inl rfl) G0 ⟨by omega, by omega⟩) o_1 rfl rfl rfl (Nat.le_of_ble_eq_true rfl) ⟨rfl, rfl⟩ (fun x3 h1 qx3 => ?_)
    obtain ⟨G1, S1, ax3, bx3⟩ := qx3
    have R1 := (FR.rf (cs := (csB ++ [])) (ss := []) (h := h0)).call S1 (by decide +kernel)
    refine z_bipush (M := M_X11_couldBeTold) 36 dX11_couldBeTold_36 ?_
    refine z_iload (M := M_X11_couldBeTold) 38 dX11_couldBeTold_38 rfl ?_
    refine z_iaddN (M := M_X11_couldBeTold) 40 dX11_couldBeTold_40 (by omega) (by omega) ?_
    refine z_vV (M := M_X11_couldBeTold) 41 dX11_couldBeTold_41 t_X7_measure l_X11_427 (m_rr_of rfl) (rest := []) (c_X7_measure h1 x3 (12 + x1) G1 ⟨by omega, by omega⟩ ⟨by omega, by omega⟩) o_93 rfl rfl rfl (Nat.le_of_ble_eq_true rfl) ⟨rfl, rfl⟩ (fun h2 qx4 => ?_)
    obtain ⟨G2, S2⟩ := qx4
    have R2 := R1.call S2 (by decide +kernel)
    refine z_aload_n (M := M_X11_couldBeTold) 44 dX11_couldBeTold_44 rfl ?_
    refine z_getR (M := M_X11_couldBeTold) 45 dX11_couldBeTold_45 f_X11_53 o_0 rfl (g_0_7 G2) ?_
    refine z_iload_n (M := M_X11_couldBeTold) 48 dX11_couldBeTold_48 rfl ?_
    refine z_iload (M := M_X11_couldBeTold) 49 dX11_couldBeTold_49 rfl ?_
    refine z_vI (M := M_X11_couldBeTold) 51 dX11_couldBeTold_51 t_X7_allows l_X11_304 (m_rr_of rfl) (rest := []) (c_X7_allows h2 a3 a4 G2) o_93 rfl rfl rfl (Nat.le_of_ble_eq_true rfl) ⟨rfl, rfl⟩ (fun x5 h3 qx5 => ?_)
    obtain ⟨G3, S3, ax5, bx5⟩ := qx5
    have R3 := R2.call S3 (by decide +kernel)
    exact z_retZ (M := M_X11_couldBeTold) 54 dX11_couldBeTold_54 rfl (by omega) ⟨G3, R3, by omega, by omega⟩
  · refine z_iconst (M := M_X11_couldBeTold) 17 dX11_couldBeTold_17 ?_
    exact z_retZ (M := M_X11_couldBeTold) 18 dX11_couldBeTold_18 rfl (by omega) ⟨G0, (FR.rf (cs := (csB ++ [])) (ss := []) (h := h0)), by omega, by omega⟩
abbrev P_X11_fits (h0 : m_H) : Int → m_H → Prop := fun x h' => GI h' ∧ FR (csB ++ [39, 40, 41]) [] h0 h' ∧ 0 ≤ x ∧ x ≤ 1
set_option maxHeartbeats 4000000 in
set_option maxRecDepth 100000 in
theorem c_X11_fits (h0 : m_H) (G0 : GI h0) : m_CI M_X11_fits [mR 0] h0 (P_X11_fits h0) := by
  refine m_CI_of ⟨by decide, rfl, by simp [m_arg, m_isL, M_X11_fits], ⟨rfl, rfl⟩, rfl, rfl⟩ (ls := [some (mR 0)]) rfl ?_
  refine z_aload_n (M := M_X11_fits) 0 dX11_fits_0 rfl ?_
  refine z_vI (M := M_X11_fits) 1 dX11_fits_1 t_X11_canBe l_X11_208 (m_rr_of rfl) (rest := []) (c_X11_canBe h0 G0) o_0 rfl rfl rfl (Nat.le_of_ble_eq_true rfl) ⟨rfl, rfl⟩ (fun x1 h1 qx1 => ?_)
  obtain ⟨G1, S1, ax1, bx1⟩ := qx1
  have R1 := (FR.rf (cs := (csB ++ [39, 40, 41])) (ss := []) (h := h0)).call S1 (by decide +kernel)
  refine z_if_eq (M := M_X11_fits) 4 dX11_fits_4 11 rfl (fun c2 => ?_) (fun c2 => ?_)
  · refine z_iconst (M := M_X11_fits) 11 dX11_fits_11 ?_
    exact z_retI (M := M_X11_fits) 12 dX11_fits_12 rfl ⟨G1, R1, by omega, by omega⟩
  · refine z_iconst (M := M_X11_fits) 7 dX11_fits_7 ?_
    refine z_goto (M := M_X11_fits) 8 dX11_fits_8 12 rfl ?_
    exact z_retI (M := M_X11_fits) 12 dX11_fits_12 rfl ⟨G1, R1, by omega, by omega⟩
abbrev P_X11_between (h0 : m_H) (a1 a2 a3 : Int) : Int → m_H → Prop := fun x h' => GI h' ∧ FR (csB ++ [39, 40, 41]) [] h0 h'
set_option maxHeartbeats 4000000 in
set_option maxRecDepth 100000 in
theorem c_X11_between (h0 : m_H) (a1 a2 a3 : Int) (G0 : GI h0) : m_CI M_X11_between [mR 0, mI a1, mI a2, mI a3] h0 (P_X11_between h0 a1 a2 a3) := by
  refine m_CI_of ⟨by decide, rfl, by simp [m_arg, m_isL, M_X11_between], ⟨rfl, rfl⟩, rfl, rfl⟩ (ls := [some (mR 0), some (mI a1), some (mI a2), some (mI a3)]) rfl ?_
  refine z_ok (fun _ _ ok => ?_)
  have oa1 : m_32 a1 := ok 1 _ rfl
  unfold m_32 at oa1
  have oa2 : m_32 a2 := ok 2 _ rfl
  unfold m_32 at oa2
  have oa3 : m_32 a3 := ok 3 _ rfl
  unfold m_32 at oa3
  refine z_iload_n (M := M_X11_between) 0 dX11_between_0 rfl ?_
  refine z_iconst (M := M_X11_between) 1 dX11_between_1 ?_
  refine z_iconst (M := M_X11_between) 2 dX11_between_2 ?_
  refine z_sI (M := M_X11_between) 3 dX11_between_3 t_X11_within l_X11_112 (m_rr_of rfl) (rest := []) (c_X11_within h0 a3 0 3 G0) rfl rfl (Nat.le_of_ble_eq_true rfl) ⟨rfl, rfl⟩ (fun x1 h1 qx1 => ?_)
  obtain ⟨rfl, ⟨rfl, cx1⟩ | ⟨rfl, cx1⟩⟩ := qx1
  · refine z_if_eq_F (M := M_X11_between) 6 dX11_between_6 18 rfl (by omega) ?_
    refine z_aload_n (M := M_X11_between) 9 dX11_between_9 rfl ?_
    refine z_iload_n (M := M_X11_between) 10 dX11_between_10 rfl ?_
    refine z_iload_n (M := M_X11_between) 11 dX11_between_11 rfl ?_
    refine z_vI (M := M_X11_between) 12 dX11_between_12 t_X11_compare l_X11_211 (m_rr_of rfl) (rest := []) (c_X11_compare h0 a1 a2 G0) o_0 rfl rfl rfl (Nat.le_of_ble_eq_true rfl) ⟨rfl, rfl⟩ (fun x2 h2 qx2 => ?_)
    obtain ⟨G2, S2, ax2, bx2⟩ := qx2
    have R2 := (FR.rf (cs := (csB ++ [39, 40, 41])) (ss := []) (h := h0)).call S2 (by decide +kernel)
    refine z_if_ne (M := M_X11_between) 15 dX11_between_15 21 rfl (fun c3 => ?_) (fun c3 => ?_)
    · refine z_iload_n (M := M_X11_between) 21 dX11_between_21 rfl ?_
      by_cases c4 : a3 = 0 ∨ a3 = 1 ∨ a3 = 2
      · rcases c4 with c4_0 | c4_1 | c4_2
        · refine z_tabIn (M := M_X11_between) 22 dX11_between_22 (off := 26) 48 (by omega) (by omega) (by rw [c4_0]; rfl) rfl ?_
          refine z_aload_n (M := M_X11_between) 48 dX11_between_48 rfl ?_
          refine z_getR (M := M_X11_between) 49 dX11_between_49 f_X11_53 o_0 rfl (g_0_7 G2) ?_
          refine z_vJ (M := M_X11_between) 52 dX11_between_52 t_X7_leastMillionths l_X11_214 (m_rr_of rfl) (rest := []) (c_X7_leastMillionths h2 G2) o_93 rfl rfl rfl (Nat.le_of_ble_eq_true rfl) ⟨rfl, rfl⟩ (fun x5 h3 qx5 => ?_)
          obtain ⟨G3, S3⟩ := qx5
          have R3 := R2.call S3 (by decide +kernel)
          refine z_ldc2 (M := M_X11_between) 55 dX11_between_55 k_X11_218 ?_
          refine z_sI (M := M_X11_between) 58 dX11_between_58 t_X11_atMost l_X11_220 (m_rr_of rfl) (rest := []) (c_X11_atMost h3 x5 2000000000 G3) rfl rfl (Nat.le_of_ble_eq_true rfl) ⟨rfl, rfl⟩ (fun x6 h4 qx6 => ?_)
          obtain ⟨G4, S4⟩ := qx6
          have R4 := R3.call S4 (by decide +kernel)
          refine z_ok (fun ox6 _ _ => ?_)
          have ox6 := ox6.1; unfold m_ok m_32 at ox6
          exact z_retI (M := M_X11_between) 61 dX11_between_61 rfl ⟨G4, R4⟩
        · refine z_tabIn (M := M_X11_between) 22 dX11_between_22 (off := 40) 62 (by omega) (by omega) (by rw [c4_1]; rfl) rfl ?_
          refine z_aload_n (M := M_X11_between) 62 dX11_between_62 rfl ?_
          refine z_getR (M := M_X11_between) 63 dX11_between_63 f_X11_53 o_0 rfl (g_0_7 G2) ?_
          refine z_vJ (M := M_X11_between) 66 dX11_between_66 t_X7_greatestMillionths l_X11_224 (m_rr_of rfl) (rest := []) (c_X7_greatestMillionths h2 G2) o_93 rfl rfl rfl (Nat.le_of_ble_eq_true rfl) ⟨rfl, rfl⟩ (fun x7 h5 qx7 => ?_)
          obtain ⟨G5, S5⟩ := qx7
          have R5 := R2.call S5 (by decide +kernel)
          refine z_ldc2 (M := M_X11_between) 69 dX11_between_69 k_X11_218 ?_
          refine z_sI (M := M_X11_between) 72 dX11_between_72 t_X11_atMost l_X11_220 (m_rr_of rfl) (rest := []) (c_X11_atMost h5 x7 2000000000 G5) rfl rfl (Nat.le_of_ble_eq_true rfl) ⟨rfl, rfl⟩ (fun x8 h6 qx8 => ?_)
          obtain ⟨G6, S6⟩ := qx8
          have R6 := R5.call S6 (by decide +kernel)
          refine z_ok (fun ox8 _ _ => ?_)
          have ox8 := ox8.1; unfold m_ok m_32 at ox8
          exact z_retI (M := M_X11_between) 75 dX11_between_75 rfl ⟨G6, R6⟩
        · refine z_tabIn (M := M_X11_between) 22 dX11_between_22 (off := 54) 76 (by omega) (by omega) (by rw [c4_2]; rfl) rfl ?_
          refine z_aload_n (M := M_X11_between) 76 dX11_between_76 rfl ?_
          refine z_getR (M := M_X11_between) 77 dX11_between_77 f_X11_53 o_0 rfl (g_0_7 G2) ?_
          refine z_getR (M := M_X11_between) 80 dX11_between_80 f_X11_227 o_93 rfl (g_93_0 G2) ?_
          refine z_getIG (M := M_X11_between) 83 dX11_between_83 f_X11_231 o_94 (by decide) (g_94_2 G2) (fun x9 ex9 ax9 bx9 => ?_)
          refine z_if_eq (M := M_X11_between) 86 dX11_between_86 93 rfl (fun c10 => ?_) (fun c10 => ?_)
          · refine z_iconst (M := M_X11_between) 93 dX11_between_93 ?_
            exact z_retI (M := M_X11_between) 94 dX11_between_94 rfl ⟨G2, R2⟩
          · refine z_iconst (M := M_X11_between) 89 dX11_between_89 ?_
            refine z_goto (M := M_X11_between) 90 dX11_between_90 94 rfl ?_
            exact z_retI (M := M_X11_between) 94 dX11_between_94 rfl ⟨G2, R2⟩
      · refine z_tabOut (M := M_X11_between) 22 dX11_between_22 95 (by omega) rfl ?_
        refine z_aload_n (M := M_X11_between) 95 dX11_between_95 rfl ?_
        refine z_getR (M := M_X11_between) 96 dX11_between_96 f_X11_53 o_0 rfl (g_0_7 G2) ?_
        refine z_getR (M := M_X11_between) 99 dX11_between_99 f_X11_237 o_93 rfl (g_93_1 G2) ?_
        refine z_getIG (M := M_X11_between) 102 dX11_between_102 f_X11_231 o_95 (by decide) (g_95_2 G2) (fun x11 ex11 ax11 bx11 => ?_)
        refine z_if_eq (M := M_X11_between) 105 dX11_between_105 112 rfl (fun c12 => ?_) (fun c12 => ?_)
        · refine z_iconst (M := M_X11_between) 112 dX11_between_112 ?_
          exact z_retI (M := M_X11_between) 113 dX11_between_113 rfl ⟨G2, R2⟩
        · refine z_iconst (M := M_X11_between) 108 dX11_between_108 ?_
          refine z_goto (M := M_X11_between) 109 dX11_between_109 113 rfl ?_
          exact z_retI (M := M_X11_between) 113 dX11_between_113 rfl ⟨G2, R2⟩
    · refine z_bipush (M := M_X11_between) 18 dX11_between_18 ?_
      exact z_retI (M := M_X11_between) 20 dX11_between_20 rfl ⟨G2, R2⟩
  · refine z_if_eq_T (M := M_X11_between) 6 dX11_between_6 18 rfl (by omega) ?_
    refine z_bipush (M := M_X11_between) 18 dX11_between_18 ?_
    exact z_retI (M := M_X11_between) 20 dX11_between_20 rfl ⟨G0, (FR.rf (cs := (csB ++ [39, 40, 41])) (ss := []) (h := h0))⟩
abbrev P_X11_sure (h0 : m_H) (a1 a2 : Int) : Int → m_H → Prop := fun x h' => GI h' ∧ FR (csB ++ [39, 40, 41]) [] h0 h' ∧ (-2) ≤ x ∧ x ≤ 3
set_option maxHeartbeats 4000000 in
set_option maxRecDepth 100000 in
theorem c_X11_sure (h0 : m_H) (a1 a2 : Int) (G0 : GI h0) : m_CI M_X11_sure [mR 0, mI a1, mI a2] h0 (P_X11_sure h0 a1 a2) := by
  refine m_CI_of ⟨by decide, rfl, by simp [m_arg, m_isL, M_X11_sure], ⟨rfl, rfl⟩, rfl, rfl⟩ (ls := [some (mR 0), some (mI a1), some (mI a2)]) rfl ?_
  refine z_ok (fun _ _ ok => ?_)
  have oa1 : m_32 a1 := ok 1 _ rfl
  unfold m_32 at oa1
  have oa2 : m_32 a2 := ok 2 _ rfl
  unfold m_32 at oa2
  refine z_aload_n (M := M_X11_sure) 0 dX11_sure_0 rfl ?_
  refine z_iload_n (M := M_X11_sure) 1 dX11_sure_1 rfl ?_
  refine z_iload_n (M := M_X11_sure) 2 dX11_sure_2 rfl ?_
  refine z_vI (M := M_X11_sure) 3 dX11_sure_3 t_X11_compare l_X11_211 (m_rr_of rfl) (rest := []) (c_X11_compare h0 a1 a2 G0) o_0 rfl rfl rfl (Nat.le_of_ble_eq_true rfl) ⟨rfl, rfl⟩ (fun x1 h1 qx1 => ?_)
  obtain ⟨G1, S1, ax1, bx1⟩ := qx1
  have R1 := (FR.rf (cs := (csB ++ [39, 40, 41])) (ss := []) (h := h0)).call S1 (by decide +kernel)
  refine z_if_ne (M := M_X11_sure) 6 dX11_sure_6 12 rfl (fun c2 => ?_) (fun c2 => ?_)
  · refine z_aload_n (M := M_X11_sure) 12 dX11_sure_12 rfl ?_
    refine z_getR (M := M_X11_sure) 13 dX11_sure_13 f_X11_53 o_0 rfl (g_0_7 G1) ?_
    refine z_lconst (M := M_X11_sure) 16 dX11_sure_16 (v := 1) ?_
    refine z_vI (M := M_X11_sure) 17 dX11_sure_17 t_X7_isAlways l_X11_240 (m_rr_of rfl) (rest := []) (c_X7_isAlways h1 1 G1) o_93 rfl rfl rfl (Nat.le_of_ble_eq_true rfl) ⟨rfl, rfl⟩ (fun x3 h2 qx3 => ?_)
    obtain ⟨G2, S2, ax3, bx3⟩ := qx3
    have R2 := R1.call S2 (by decide +kernel)
    refine z_if_eq (M := M_X11_sure) 20 dX11_sure_20 25 rfl (fun c4 => ?_) (fun c4 => ?_)
    · refine z_aload_n (M := M_X11_sure) 25 dX11_sure_25 rfl ?_
      refine z_getR (M := M_X11_sure) 26 dX11_sure_26 f_X11_53 o_0 rfl (g_0_7 G2) ?_
      refine z_getR (M := M_X11_sure) 29 dX11_sure_29 f_X11_227 o_93 rfl (g_93_0 G2) ?_
      refine z_vI (M := M_X11_sure) 32 dX11_sure_32 t_X2_isBelowOne l_X11_244 (m_rr_of rfl) (rest := []) (c_X2_isBelowOne h2 94 (rfl : isBb 94 = true) G2) o_94 rfl rfl rfl (Nat.le_of_ble_eq_true rfl) ⟨rfl, rfl⟩ (fun x5 h3 qx5 => ?_)
      obtain ⟨G3, S3, ax5, bx5⟩ := qx5
      have R3 := R2.call S3 (by decide +kernel)
      refine z_if_eq (M := M_X11_sure) 35 dX11_sure_35 40 rfl (fun c6 => ?_) (fun c6 => ?_)
      · refine z_aload_n (M := M_X11_sure) 40 dX11_sure_40 rfl ?_
        refine z_getR (M := M_X11_sure) 41 dX11_sure_41 f_X11_53 o_0 rfl (g_0_7 G3) ?_
        refine z_getR (M := M_X11_sure) 44 dX11_sure_44 f_X11_237 o_93 rfl (g_93_1 G3) ?_
        refine z_vI (M := M_X11_sure) 47 dX11_sure_47 t_X2_isBelowOne l_X11_244 (m_rr_of rfl) (rest := []) (c_X2_isBelowOne h3 95 (rfl : isBb 95 = true) G3) o_95 rfl rfl rfl (Nat.le_of_ble_eq_true rfl) ⟨rfl, rfl⟩ (fun x7 h4 qx7 => ?_)
        obtain ⟨G4, S4, ax7, bx7⟩ := qx7
        have R4 := R3.call S4 (by decide +kernel)
        refine z_if_eq (M := M_X11_sure) 50 dX11_sure_50 57 rfl (fun c8 => ?_) (fun c8 => ?_)
        · refine z_iconst (M := M_X11_sure) 57 dX11_sure_57 ?_
          exact z_retI (M := M_X11_sure) 58 dX11_sure_58 rfl ⟨G4, R4, by omega, by omega⟩
        · refine z_iconst (M := M_X11_sure) 53 dX11_sure_53 ?_
          refine z_goto (M := M_X11_sure) 54 dX11_sure_54 58 rfl ?_
          exact z_retI (M := M_X11_sure) 58 dX11_sure_58 rfl ⟨G4, R4, by omega, by omega⟩
      · refine z_iconst (M := M_X11_sure) 38 dX11_sure_38 ?_
        exact z_retI (M := M_X11_sure) 39 dX11_sure_39 rfl ⟨G3, R3, by omega, by omega⟩
    · refine z_iconst (M := M_X11_sure) 23 dX11_sure_23 ?_
      exact z_retI (M := M_X11_sure) 24 dX11_sure_24 rfl ⟨G2, R2, by omega, by omega⟩
  · refine z_bipush (M := M_X11_sure) 9 dX11_sure_9 ?_
    exact z_retI (M := M_X11_sure) 11 dX11_sure_11 rfl ⟨G1, R1, by omega, by omega⟩
abbrev P_X11_feet (h0 : m_H) (a1 a2 a3 : Int) : Int → m_H → Prop := fun x h' => GI h' ∧ FR (csB ++ [39, 40, 41]) [] h0 h'
set_option maxHeartbeats 4000000 in
set_option maxRecDepth 100000 in
theorem c_X11_feet (h0 : m_H) (a1 a2 a3 : Int) (G0 : GI h0) : m_CI M_X11_feet [mR 0, mI a1, mI a2, mI a3] h0 (P_X11_feet h0 a1 a2 a3) := by
  refine m_CI_of ⟨by decide, rfl, by simp [m_arg, m_isL, M_X11_feet], ⟨rfl, rfl⟩, rfl, rfl⟩ (ls := [some (mR 0), some (mI a1), some (mI a2), some (mI a3)]) rfl ?_
  refine z_ok (fun _ _ ok => ?_)
  have oa1 : m_32 a1 := ok 1 _ rfl
  unfold m_32 at oa1
  have oa2 : m_32 a2 := ok 2 _ rfl
  unfold m_32 at oa2
  have oa3 : m_32 a3 := ok 3 _ rfl
  unfold m_32 at oa3
  refine z_iload_n (M := M_X11_feet) 0 dX11_feet_0 rfl ?_
  refine z_iconst (M := M_X11_feet) 1 dX11_feet_1 ?_
  refine z_iconst (M := M_X11_feet) 2 dX11_feet_2 ?_
  refine z_sI (M := M_X11_feet) 3 dX11_feet_3 t_X11_within l_X11_112 (m_rr_of rfl) (rest := []) (c_X11_within h0 a3 0 1 G0) rfl rfl (Nat.le_of_ble_eq_true rfl) ⟨rfl, rfl⟩ (fun x1 h1 qx1 => ?_)
  obtain ⟨rfl, ⟨rfl, cx1⟩ | ⟨rfl, cx1⟩⟩ := qx1
  · refine z_if_eq_F (M := M_X11_feet) 6 dX11_feet_6 18 rfl (by omega) ?_
    refine z_aload_n (M := M_X11_feet) 9 dX11_feet_9 rfl ?_
    refine z_iload_n (M := M_X11_feet) 10 dX11_feet_10 rfl ?_
    refine z_iload_n (M := M_X11_feet) 11 dX11_feet_11 rfl ?_
    refine z_vI (M := M_X11_feet) 12 dX11_feet_12 t_X11_compareToFoot l_X11_247 (m_rr_of rfl) (rest := []) (c_X11_compareToFoot h0 a1 a2 G0) o_0 rfl rfl rfl (Nat.le_of_ble_eq_true rfl) ⟨rfl, rfl⟩ (fun x2 h2 qx2 => ?_)
    obtain ⟨G2, S2, ax2, bx2⟩ := qx2
    have R2 := (FR.rf (cs := (csB ++ [39, 40, 41])) (ss := []) (h := h0)).call S2 (by decide +kernel)
    refine z_if_ne (M := M_X11_feet) 15 dX11_feet_15 21 rfl (fun c3 => ?_) (fun c3 => ?_)
    · refine z_iload_n (M := M_X11_feet) 21 dX11_feet_21 rfl ?_
      refine z_if_ne (M := M_X11_feet) 22 dX11_feet_22 36 rfl (fun c4 => ?_) (fun c4 => ?_)
      · refine z_aload_n (M := M_X11_feet) 36 dX11_feet_36 rfl ?_
        refine z_getR (M := M_X11_feet) 37 dX11_feet_37 f_X11_53 o_0 rfl (g_0_7 G2) ?_
        refine z_iconst (M := M_X11_feet) 40 dX11_feet_40 ?_
        refine z_vJ (M := M_X11_feet) 41 dX11_feet_41 t_X7_greatestNumber l_X11_254 (m_rr_of rfl) (rest := []) (c_X7_greatestNumber h2 1 G2) o_93 rfl rfl rfl (Nat.le_of_ble_eq_true rfl) ⟨rfl, rfl⟩ (fun x5 h3 qx5 => ?_)
        obtain ⟨G3, S3⟩ := qx5
        have R3 := R2.call S3 (by decide +kernel)
        refine z_ldc2 (M := M_X11_feet) 44 dX11_feet_44 k_X11_257 ?_
        refine z_sI (M := M_X11_feet) 47 dX11_feet_47 t_X11_atMost l_X11_220 (m_rr_of rfl) (rest := []) (c_X11_atMost h3 x5 2000 G3) rfl rfl (Nat.le_of_ble_eq_true rfl) ⟨rfl, rfl⟩ (fun x6 h4 qx6 => ?_)
        obtain ⟨G4, S4⟩ := qx6
        have R4 := R3.call S4 (by decide +kernel)
        refine z_ok (fun ox6 _ _ => ?_)
        have ox6 := ox6.1; unfold m_ok m_32 at ox6
        exact z_retI (M := M_X11_feet) 50 dX11_feet_50 rfl ⟨G4, R4⟩
      · refine z_aload_n (M := M_X11_feet) 25 dX11_feet_25 rfl ?_
        refine z_getR (M := M_X11_feet) 26 dX11_feet_26 f_X11_53 o_0 rfl (g_0_7 G2) ?_
        refine z_iconst (M := M_X11_feet) 29 dX11_feet_29 ?_
        refine z_vJ (M := M_X11_feet) 30 dX11_feet_30 t_X7_leastNumber l_X11_250 (m_rr_of rfl) (rest := []) (c_X7_leastNumber h2 1 G2) o_93 rfl rfl rfl (Nat.le_of_ble_eq_true rfl) ⟨rfl, rfl⟩ (fun x7 h5 qx7 => ?_)
        obtain ⟨G5, S5⟩ := qx7
        have R5 := R2.call S5 (by decide +kernel)
        refine z_goto (M := M_X11_feet) 33 dX11_feet_33 44 rfl ?_
        refine z_ldc2 (M := M_X11_feet) 44 dX11_feet_44 k_X11_257 ?_
        refine z_sI (M := M_X11_feet) 47 dX11_feet_47 t_X11_atMost l_X11_220 (m_rr_of rfl) (rest := []) (c_X11_atMost h5 x7 2000 G5) rfl rfl (Nat.le_of_ble_eq_true rfl) ⟨rfl, rfl⟩ (fun x8 h6 qx8 => ?_)
        obtain ⟨G6, S6⟩ := qx8
        have R6 := R5.call S6 (by decide +kernel)
        refine z_ok (fun ox8 _ _ => ?_)
        have ox8 := ox8.1; unfold m_ok m_32 at ox8
        exact z_retI (M := M_X11_feet) 50 dX11_feet_50 rfl ⟨G6, R6⟩
    · refine z_bipush (M := M_X11_feet) 18 dX11_feet_18 ?_
      exact z_retI (M := M_X11_feet) 20 dX11_feet_20 rfl ⟨G2, R2⟩
  · refine z_if_eq_T (M := M_X11_feet) 6 dX11_feet_6 18 rfl (by omega) ?_
    refine z_bipush (M := M_X11_feet) 18 dX11_feet_18 ?_
    exact z_retI (M := M_X11_feet) 20 dX11_feet_20 rfl ⟨G0, (FR.rf (cs := (csB ++ [39, 40, 41])) (ss := []) (h := h0))⟩
abbrev P_X11_part (h0 : m_H) (a1 a2 a3 : Int) : Int → m_H → Prop := fun x h' => GI h' ∧ FR (csB ++ [39, 40, 41]) [] h0 h'
set_option maxHeartbeats 4000000 in
set_option maxRecDepth 100000 in
theorem c_X11_part (h0 : m_H) (a1 a2 a3 : Int) (G0 : GI h0) : m_CJ M_X11_part [mR 0, mI a1, mI a2, mI a3] h0 (P_X11_part h0 a1 a2 a3) := by
  refine m_CJ_of ⟨by decide, rfl, by simp [m_arg, m_isL, M_X11_part], ⟨rfl, rfl⟩, rfl, rfl⟩ (ls := [some (mR 0), some (mI a1), some (mI a2), some (mI a3), none]) rfl ?_
  refine z_ok (fun _ _ ok => ?_)
  have oa1 : m_32 a1 := ok 1 _ rfl
  unfold m_32 at oa1
  have oa2 : m_32 a2 := ok 2 _ rfl
  unfold m_32 at oa2
  have oa3 : m_32 a3 := ok 3 _ rfl
  unfold m_32 at oa3
  refine z_iload_n (M := M_X11_part) 0 dX11_part_0 rfl ?_
  refine z_iconst (M := M_X11_part) 1 dX11_part_1 ?_
  refine z_iconst (M := M_X11_part) 2 dX11_part_2 ?_
  refine z_sI (M := M_X11_part) 3 dX11_part_3 t_X11_within l_X11_112 (m_rr_of rfl) (rest := []) (c_X11_within h0 a3 0 1 G0) rfl rfl (Nat.le_of_ble_eq_true rfl) ⟨rfl, rfl⟩ (fun x1 h1 qx1 => ?_)
  obtain ⟨rfl, ⟨rfl, cx1⟩ | ⟨rfl, cx1⟩⟩ := qx1
  · refine z_if_eq_F (M := M_X11_part) 6 dX11_part_6 18 rfl (by omega) ?_
    refine z_aload_n (M := M_X11_part) 9 dX11_part_9 rfl ?_
    refine z_iload_n (M := M_X11_part) 10 dX11_part_10 rfl ?_
    refine z_iload_n (M := M_X11_part) 11 dX11_part_11 rfl ?_
    refine z_vI (M := M_X11_part) 12 dX11_part_12 t_X11_compare l_X11_211 (m_rr_of rfl) (rest := []) (c_X11_compare h0 a1 a2 G0) o_0 rfl rfl rfl (Nat.le_of_ble_eq_true rfl) ⟨rfl, rfl⟩ (fun x2 h2 qx2 => ?_)
    obtain ⟨G2, S2, ax2, bx2⟩ := qx2
    have R2 := (FR.rf (cs := (csB ++ [39, 40, 41])) (ss := []) (h := h0)).call S2 (by decide +kernel)
    refine z_if_ne (M := M_X11_part) 15 dX11_part_15 22 rfl (fun c3 => ?_) (fun c3 => ?_)
    · refine z_aload_n (M := M_X11_part) 22 dX11_part_22 rfl ?_
      refine z_getR (M := M_X11_part) 23 dX11_part_23 f_X11_53 o_0 rfl (g_0_7 G2) ?_
      refine z_vI (M := M_X11_part) 26 dX11_part_26 t_X7_isTheSame l_X11_261 (m_rr_of rfl) (rest := []) (c_X7_isTheSame h2 G2) o_93 rfl rfl rfl (Nat.le_of_ble_eq_true rfl) ⟨rfl, rfl⟩ (fun x4 h3 qx4 => ?_)
      obtain ⟨G3, S3, ax4, bx4⟩ := qx4
      have R3 := R2.call S3 (by decide +kernel)
      refine z_if_ne (M := M_X11_part) 29 dX11_part_29 34 rfl (fun c5 => ?_) (fun c5 => ?_)
      · refine z_aload_n (M := M_X11_part) 34 dX11_part_34 rfl ?_
        refine z_getR (M := M_X11_part) 35 dX11_part_35 f_X11_53 o_0 rfl (g_0_7 G3) ?_
        refine z_getR (M := M_X11_part) 38 dX11_part_38 f_X11_237 o_93 rfl (g_93_1 G3) ?_
        refine z_astore (M := M_X11_part) 41 dX11_part_41 (ls' := [some (mR 0), some (mI a1), some (mI a2), some (mI a3), some (mR 95)]) (by decide) rfl ?_
        refine z_iload_n (M := M_X11_part) 43 dX11_part_43 rfl ?_
        refine z_if_ne (M := M_X11_part) 44 dX11_part_44 55 rfl (fun c6 => ?_) (fun c6 => ?_)
        · refine z_aload (M := M_X11_part) 55 dX11_part_55 rfl ?_
          refine z_getJV (M := M_X11_part) 57 dX11_part_57 f_X11_268 o_95 rfl (fun x7 ex7 => ?_)
          refine z_aload (M := M_X11_part) 60 dX11_part_60 rfl ?_
          refine z_getJV (M := M_X11_part) 62 dX11_part_62 f_X11_264 o_95 rfl (fun x8 ex8 => ?_)
          refine z_aload (M := M_X11_part) 65 dX11_part_65 rfl ?_
          refine z_getJE (M := M_X11_part) 67 dX11_part_67 f_X11_268 o_95 rfl ex7 ?_
          refine z_sJ (M := M_X11_part) 70 dX11_part_70 t_X11_commonDivisor l_X11_271 (m_rr_of rfl) (rest := [mJ x7]) (c_X11_commonDivisor h3 x8 x7 G3) rfl rfl (Nat.le_of_ble_eq_true rfl) ⟨rfl, rfl⟩ (fun x9 h4 qx9 => ?_)
          obtain ⟨G4, S4⟩ := qx9
          have R4 := R3.call S4 (by decide +kernel)
          refine z_sJ (M := M_X11_part) 73 dX11_part_73 t_X11_quotient l_X11_275 (m_rr_of rfl) (rest := []) (c_X11_quotient h4 x7 x9 G4) rfl rfl (Nat.le_of_ble_eq_true rfl) ⟨rfl, rfl⟩ (fun x10 h5 qx10 => ?_)
          obtain ⟨G5, S5⟩ := qx10
          have R5 := R4.call S5 (by decide +kernel)
          exact z_retJ (M := M_X11_part) 76 dX11_part_76 rfl ⟨G5, R5⟩
        · refine z_aload (M := M_X11_part) 47 dX11_part_47 rfl ?_
          refine z_getJV (M := M_X11_part) 49 dX11_part_49 f_X11_264 o_95 rfl (fun x11 ex11 => ?_)
          refine z_goto (M := M_X11_part) 52 dX11_part_52 60 rfl ?_
          refine z_aload (M := M_X11_part) 60 dX11_part_60 rfl ?_
          refine z_getJE (M := M_X11_part) 62 dX11_part_62 f_X11_264 o_95 rfl ex11 ?_
          refine z_aload (M := M_X11_part) 65 dX11_part_65 rfl ?_
          refine z_getJV (M := M_X11_part) 67 dX11_part_67 f_X11_268 o_95 rfl (fun x12 ex12 => ?_)
          refine z_sJ (M := M_X11_part) 70 dX11_part_70 t_X11_commonDivisor l_X11_271 (m_rr_of rfl) (rest := [mJ x11]) (c_X11_commonDivisor h3 x11 x12 G3) rfl rfl (Nat.le_of_ble_eq_true rfl) ⟨rfl, rfl⟩ (fun x13 h6 qx13 => ?_)
          obtain ⟨G6, S6⟩ := qx13
          have R6 := R3.call S6 (by decide +kernel)
          refine z_sJ (M := M_X11_part) 73 dX11_part_73 t_X11_quotient l_X11_275 (m_rr_of rfl) (rest := []) (c_X11_quotient h6 x11 x13 G6) rfl rfl (Nat.le_of_ble_eq_true rfl) ⟨rfl, rfl⟩ (fun x14 h7 qx14 => ?_)
          obtain ⟨G7, S7⟩ := qx14
          have R7 := R6.call S7 (by decide +kernel)
          exact z_retJ (M := M_X11_part) 76 dX11_part_76 rfl ⟨G7, R7⟩
      · refine z_lconst (M := M_X11_part) 32 dX11_part_32 (v := 0) ?_
        exact z_retJ (M := M_X11_part) 33 dX11_part_33 rfl ⟨G3, R3⟩
    · refine z_ldc2 (M := M_X11_part) 18 dX11_part_18 k_X11_259 ?_
      exact z_retJ (M := M_X11_part) 21 dX11_part_21 rfl ⟨G2, R2⟩
  · refine z_if_eq_T (M := M_X11_part) 6 dX11_part_6 18 rfl (by omega) ?_
    refine z_ldc2 (M := M_X11_part) 18 dX11_part_18 k_X11_259 ?_
    exact z_retJ (M := M_X11_part) 21 dX11_part_21 rfl ⟨G0, (FR.rf (cs := (csB ++ [39, 40, 41])) (ss := []) (h := h0))⟩
abbrev P_X11_lay (h0 : m_H) (a1 a2 a3 a4 a5 : Int) : Int → m_H → Prop := fun x h' => GI h' ∧ FR (csB ++ [39, 40, 41, 97, 98]) [(96, 2), (96, 3), (96, 4)] h0 h'
set_option maxHeartbeats 4000000 in
set_option maxRecDepth 100000 in
theorem c_X11_lay (h0 : m_H) (a1 a2 a3 a4 a5 : Int) (G0 : GI h0) : m_CI M_X11_lay [mR 0, mI a1, mI a2, mI a3, mI a4, mI a5] h0 (P_X11_lay h0 a1 a2 a3 a4 a5) := by
  refine m_CI_of ⟨by decide, rfl, by simp [m_arg, m_isL, M_X11_lay], ⟨rfl, rfl⟩, rfl, rfl⟩ (ls := [some (mR 0), some (mI a1), some (mI a2), some (mI a3), some (mI a4), some (mI a5), none]) rfl ?_
  refine z_ok (fun _ _ ok => ?_)
  have oa1 : m_32 a1 := ok 1 _ rfl
  unfold m_32 at oa1
  have oa2 : m_32 a2 := ok 2 _ rfl
  unfold m_32 at oa2
  have oa3 : m_32 a3 := ok 3 _ rfl
  unfold m_32 at oa3
  have oa4 : m_32 a4 := ok 4 _ rfl
  unfold m_32 at oa4
  have oa5 : m_32 a5 := ok 5 _ rfl
  unfold m_32 at oa5
  refine z_aload_n (M := M_X11_lay) 0 dX11_lay_0 rfl ?_
  refine z_iload_n (M := M_X11_lay) 1 dX11_lay_1 rfl ?_
  refine z_vI (M := M_X11_lay) 2 dX11_lay_2 t_X11_isMeasured l_X11_278 (m_rr_of rfl) (rest := []) (c_X11_isMeasured h0 a1 G0) o_0 rfl rfl rfl (Nat.le_of_ble_eq_true rfl) ⟨rfl, rfl⟩ (fun x1 h1 qx1 => ?_)
  obtain ⟨rfl, ⟨rfl, cx1⟩ | ⟨rfl, cx1⟩⟩ := qx1
  · refine z_if_eq_F (M := M_X11_lay) 5 dX11_lay_5 33 rfl (by omega) ?_
    refine z_aload_n (M := M_X11_lay) 8 dX11_lay_8 rfl ?_
    refine z_iload_n (M := M_X11_lay) 9 dX11_lay_9 rfl ?_
    refine z_vI (M := M_X11_lay) 10 dX11_lay_10 t_X11_isMeasured l_X11_278 (m_rr_of rfl) (rest := []) (c_X11_isMeasured h0 a2 G0) o_0 rfl rfl rfl (Nat.le_of_ble_eq_true rfl) ⟨rfl, rfl⟩ (fun x2 h2 qx2 => ?_)
    obtain ⟨rfl, ⟨rfl, cx2⟩ | ⟨rfl, cx2⟩⟩ := qx2
    · refine z_if_eq_F (M := M_X11_lay) 13 dX11_lay_13 33 rfl (by omega) ?_
      refine z_iload_n (M := M_X11_lay) 16 dX11_lay_16 rfl ?_
      refine z_iconst (M := M_X11_lay) 17 dX11_lay_17 ?_
      refine z_icmp_eq (M := M_X11_lay) 18 dX11_lay_18 29 rfl (fun c3 => ?_) (fun c3 => ?_)
      · refine z_iconst (M := M_X11_lay) 29 dX11_lay_29 ?_
        refine z_goto (M := M_X11_lay) 30 dX11_lay_30 34 rfl ?_
        refine z_istore (M := M_X11_lay) 34 dX11_lay_34 (ls' := [some (mR 0), some (mI a1), some (mI a2), some (mI a3), some (mI a4), some (mI a5), some (mI 1)]) (by decide) rfl ?_
        refine z_iload (M := M_X11_lay) 36 dX11_lay_36 rfl ?_
        refine z_if_eq_F (M := M_X11_lay) 38 dX11_lay_38 66 rfl (by omega) ?_
        refine z_iload (M := M_X11_lay) 41 dX11_lay_41 rfl ?_
        refine z_sI (M := M_X11_lay) 43 dX11_lay_43 t_X11_isKeeper l_X11_132 (m_rr_of rfl) (rest := []) (c_X11_isKeeper h0 a4 G0) rfl rfl (Nat.le_of_ble_eq_true rfl) ⟨rfl, rfl⟩ (fun x4 h3 qx4 => ?_)
        obtain ⟨rfl, ⟨rfl, cx4⟩ | ⟨rfl, cx4⟩⟩ := qx4
        · refine z_if_eq_F (M := M_X11_lay) 46 dX11_lay_46 66 rfl (by omega) ?_
          refine z_iload (M := M_X11_lay) 49 dX11_lay_49 rfl ?_
          refine z_iconst (M := M_X11_lay) 51 dX11_lay_51 ?_
          refine z_iconst (M := M_X11_lay) 52 dX11_lay_52 ?_
          refine z_sI (M := M_X11_lay) 53 dX11_lay_53 t_X11_within l_X11_112 (m_rr_of rfl) (rest := []) (c_X11_within h0 a5 0 1 G0) rfl rfl (Nat.le_of_ble_eq_true rfl) ⟨rfl, rfl⟩ (fun x5 h4 qx5 => ?_)
          obtain ⟨rfl, ⟨rfl, cx5⟩ | ⟨rfl, cx5⟩⟩ := qx5
          · refine z_if_eq_F (M := M_X11_lay) 56 dX11_lay_56 66 rfl (by omega) ?_
            refine z_aload_n (M := M_X11_lay) 59 dX11_lay_59 rfl ?_
            refine z_vI (M := M_X11_lay) 60 dX11_lay_60 t_X11_canBe l_X11_208 (m_rr_of rfl) (rest := []) (c_X11_canBe h0 G0) o_0 rfl rfl rfl (Nat.le_of_ble_eq_true rfl) ⟨rfl, rfl⟩ (fun x6 h5 qx6 => ?_)
            obtain ⟨G5, S5, ax6, bx6⟩ := qx6
            have R5 := (FR.rf (cs := (csB ++ [39, 40, 41, 97, 98])) (ss := [(96, 2), (96, 3), (96, 4)]) (h := h0)).call S5 (by decide +kernel)
            refine z_if_ne (M := M_X11_lay) 63 dX11_lay_63 69 rfl (fun c7 => ?_) (fun c7 => ?_)
            · refine z_aload_n (M := M_X11_lay) 69 dX11_lay_69 rfl ?_
              refine z_getR (M := M_X11_lay) 70 dX11_lay_70 f_X11_60 o_0 rfl (g_0_8 G5) ?_
              refine z_vV (M := M_X11_lay) 73 dX11_lay_73 t_X10_clear l_X11_281 (m_rr_of rfl) (rest := []) (c_X10_clear h5 G5) o_96 rfl rfl rfl (Nat.le_of_ble_eq_true rfl) ⟨rfl, rfl⟩ (fun h6 qx8 => ?_)
              obtain ⟨G6, S6⟩ := qx8
              have R6 := R5.call S6 (by decide +kernel)
              refine z_aload_n (M := M_X11_lay) 76 dX11_lay_76 rfl ?_
              refine z_iload_n (M := M_X11_lay) 77 dX11_lay_77 rfl ?_
              refine z_iload (M := M_X11_lay) 78 dX11_lay_78 rfl ?_
              refine z_iload (M := M_X11_lay) 80 dX11_lay_80 rfl ?_
              refine z_vV (M := M_X11_lay) 82 dX11_lay_82 t_X11_addFeet l_X11_284 (m_rr_of rfl) (rest := []) (c_X11_addFeet h6 a1 a4 a5 G6 ⟨by omega, by omega⟩ ⟨by omega, by omega⟩) o_0 rfl rfl rfl (Nat.le_of_ble_eq_true rfl) ⟨rfl, rfl⟩ (fun h7 qx9 => ?_)
              obtain ⟨G7, S7⟩ := qx9
              have R7 := R6.call S7 (by decide +kernel)
              refine z_aload_n (M := M_X11_lay) 85 dX11_lay_85 rfl ?_
              refine z_iload_n (M := M_X11_lay) 86 dX11_lay_86 rfl ?_
              refine z_iload (M := M_X11_lay) 87 dX11_lay_87 rfl ?_
              refine z_iload (M := M_X11_lay) 89 dX11_lay_89 rfl ?_
              refine z_vV (M := M_X11_lay) 91 dX11_lay_91 t_X11_addFeet l_X11_284 (m_rr_of rfl) (rest := []) (c_X11_addFeet h7 a2 a4 a5 G7 ⟨by omega, by omega⟩ ⟨by omega, by omega⟩) o_0 rfl rfl rfl (Nat.le_of_ble_eq_true rfl) ⟨rfl, rfl⟩ (fun h8 qx10 => ?_)
              obtain ⟨G8, S8⟩ := qx10
              have R8 := R7.call S8 (by decide +kernel)
              refine z_iload_n (M := M_X11_lay) 94 dX11_lay_94 rfl ?_
              refine z_iconst (M := M_X11_lay) 95 dX11_lay_95 ?_
              refine z_icmp_eq_T (M := M_X11_lay) 96 dX11_lay_96 108 rfl (by omega) ?_
              refine z_aload_n (M := M_X11_lay) 108 dX11_lay_108 rfl ?_
              refine z_getR (M := M_X11_lay) 109 dX11_lay_109 f_X11_60 o_0 rfl (g_0_8 G8) ?_
              refine z_vJ (M := M_X11_lay) 112 dX11_lay_112 t_X10_sum l_X11_288 (m_rr_of rfl) (rest := []) (c_X10_sum h8 G8) o_96 rfl rfl rfl (Nat.le_of_ble_eq_true rfl) ⟨rfl, rfl⟩ (fun x11 h9 qx11 => ?_)
              obtain ⟨G9, S9⟩ := qx11
              have R9 := R8.call S9 (by decide +kernel)
              refine z_ldc2 (M := M_X11_lay) 115 dX11_lay_115 k_X11_291 ?_
              refine z_sI (M := M_X11_lay) 118 dX11_lay_118 t_X11_atMost l_X11_220 (m_rr_of rfl) (rest := []) (c_X11_atMost h9 x11 6000 G9) rfl rfl (Nat.le_of_ble_eq_true rfl) ⟨rfl, rfl⟩ (fun x12 h10 qx12 => ?_)
              obtain ⟨G10, S10⟩ := qx12
              have R10 := R9.call S10 (by decide +kernel)
              refine z_ok (fun ox12 _ _ => ?_)
              have ox12 := ox12.1; unfold m_ok m_32 at ox12
              exact z_retI (M := M_X11_lay) 121 dX11_lay_121 rfl ⟨G10, R10⟩
            · refine z_bipush (M := M_X11_lay) 66 dX11_lay_66 ?_
              exact z_retI (M := M_X11_lay) 68 dX11_lay_68 rfl ⟨G5, R5⟩
          · refine z_if_eq_T (M := M_X11_lay) 56 dX11_lay_56 66 rfl (by omega) ?_
            refine z_bipush (M := M_X11_lay) 66 dX11_lay_66 ?_
            exact z_retI (M := M_X11_lay) 68 dX11_lay_68 rfl ⟨G0, (FR.rf (cs := (csB ++ [39, 40, 41, 97, 98])) (ss := [(96, 2), (96, 3), (96, 4)]) (h := h0))⟩
        · refine z_if_eq_T (M := M_X11_lay) 46 dX11_lay_46 66 rfl (by omega) ?_
          refine z_bipush (M := M_X11_lay) 66 dX11_lay_66 ?_
          exact z_retI (M := M_X11_lay) 68 dX11_lay_68 rfl ⟨G0, (FR.rf (cs := (csB ++ [39, 40, 41, 97, 98])) (ss := [(96, 2), (96, 3), (96, 4)]) (h := h0))⟩
      · refine z_aload_n (M := M_X11_lay) 21 dX11_lay_21 rfl ?_
        refine z_iload_n (M := M_X11_lay) 22 dX11_lay_22 rfl ?_
        refine z_vI (M := M_X11_lay) 23 dX11_lay_23 t_X11_isMeasured l_X11_278 (m_rr_of rfl) (rest := []) (c_X11_isMeasured h0 a3 G0) o_0 rfl rfl rfl (Nat.le_of_ble_eq_true rfl) ⟨rfl, rfl⟩ (fun x13 h11 qx13 => ?_)
        obtain ⟨rfl, ⟨rfl, cx13⟩ | ⟨rfl, cx13⟩⟩ := qx13
        · refine z_if_eq_F (M := M_X11_lay) 26 dX11_lay_26 33 rfl (by omega) ?_
          refine z_iconst (M := M_X11_lay) 29 dX11_lay_29 ?_
          refine z_goto (M := M_X11_lay) 30 dX11_lay_30 34 rfl ?_
          refine z_istore (M := M_X11_lay) 34 dX11_lay_34 (ls' := [some (mR 0), some (mI a1), some (mI a2), some (mI a3), some (mI a4), some (mI a5), some (mI 1)]) (by decide) rfl ?_
          refine z_iload (M := M_X11_lay) 36 dX11_lay_36 rfl ?_
          refine z_if_eq_F (M := M_X11_lay) 38 dX11_lay_38 66 rfl (by omega) ?_
          refine z_iload (M := M_X11_lay) 41 dX11_lay_41 rfl ?_
          refine z_sI (M := M_X11_lay) 43 dX11_lay_43 t_X11_isKeeper l_X11_132 (m_rr_of rfl) (rest := []) (c_X11_isKeeper h0 a4 G0) rfl rfl (Nat.le_of_ble_eq_true rfl) ⟨rfl, rfl⟩ (fun x14 h12 qx14 => ?_)
          obtain ⟨rfl, ⟨rfl, cx14⟩ | ⟨rfl, cx14⟩⟩ := qx14
          · refine z_if_eq_F (M := M_X11_lay) 46 dX11_lay_46 66 rfl (by omega) ?_
            refine z_iload (M := M_X11_lay) 49 dX11_lay_49 rfl ?_
            refine z_iconst (M := M_X11_lay) 51 dX11_lay_51 ?_
            refine z_iconst (M := M_X11_lay) 52 dX11_lay_52 ?_
            refine z_sI (M := M_X11_lay) 53 dX11_lay_53 t_X11_within l_X11_112 (m_rr_of rfl) (rest := []) (c_X11_within h0 a5 0 1 G0) rfl rfl (Nat.le_of_ble_eq_true rfl) ⟨rfl, rfl⟩ (fun x15 h13 qx15 => ?_)
            obtain ⟨rfl, ⟨rfl, cx15⟩ | ⟨rfl, cx15⟩⟩ := qx15
            · refine z_if_eq_F (M := M_X11_lay) 56 dX11_lay_56 66 rfl (by omega) ?_
              refine z_aload_n (M := M_X11_lay) 59 dX11_lay_59 rfl ?_
              refine z_vI (M := M_X11_lay) 60 dX11_lay_60 t_X11_canBe l_X11_208 (m_rr_of rfl) (rest := []) (c_X11_canBe h0 G0) o_0 rfl rfl rfl (Nat.le_of_ble_eq_true rfl) ⟨rfl, rfl⟩ (fun x16 h14 qx16 => ?_)
              obtain ⟨G14, S14, ax16, bx16⟩ := qx16
              have R14 := (FR.rf (cs := (csB ++ [39, 40, 41, 97, 98])) (ss := [(96, 2), (96, 3), (96, 4)]) (h := h0)).call S14 (by decide +kernel)
              refine z_if_ne (M := M_X11_lay) 63 dX11_lay_63 69 rfl (fun c17 => ?_) (fun c17 => ?_)
              · refine z_aload_n (M := M_X11_lay) 69 dX11_lay_69 rfl ?_
                refine z_getR (M := M_X11_lay) 70 dX11_lay_70 f_X11_60 o_0 rfl (g_0_8 G14) ?_
                refine z_vV (M := M_X11_lay) 73 dX11_lay_73 t_X10_clear l_X11_281 (m_rr_of rfl) (rest := []) (c_X10_clear h14 G14) o_96 rfl rfl rfl (Nat.le_of_ble_eq_true rfl) ⟨rfl, rfl⟩ (fun h15 qx18 => ?_)
                obtain ⟨G15, S15⟩ := qx18
                have R15 := R14.call S15 (by decide +kernel)
                refine z_aload_n (M := M_X11_lay) 76 dX11_lay_76 rfl ?_
                refine z_iload_n (M := M_X11_lay) 77 dX11_lay_77 rfl ?_
                refine z_iload (M := M_X11_lay) 78 dX11_lay_78 rfl ?_
                refine z_iload (M := M_X11_lay) 80 dX11_lay_80 rfl ?_
                refine z_vV (M := M_X11_lay) 82 dX11_lay_82 t_X11_addFeet l_X11_284 (m_rr_of rfl) (rest := []) (c_X11_addFeet h15 a1 a4 a5 G15 ⟨by omega, by omega⟩ ⟨by omega, by omega⟩) o_0 rfl rfl rfl (Nat.le_of_ble_eq_true rfl) ⟨rfl, rfl⟩ (fun h16 qx19 => ?_)
                obtain ⟨G16, S16⟩ := qx19
                have R16 := R15.call S16 (by decide +kernel)
                refine z_aload_n (M := M_X11_lay) 85 dX11_lay_85 rfl ?_
                refine z_iload_n (M := M_X11_lay) 86 dX11_lay_86 rfl ?_
                refine z_iload (M := M_X11_lay) 87 dX11_lay_87 rfl ?_
                refine z_iload (M := M_X11_lay) 89 dX11_lay_89 rfl ?_
                refine z_vV (M := M_X11_lay) 91 dX11_lay_91 t_X11_addFeet l_X11_284 (m_rr_of rfl) (rest := []) (c_X11_addFeet h16 a2 a4 a5 G16 ⟨by omega, by omega⟩ ⟨by omega, by omega⟩) o_0 rfl rfl rfl (Nat.le_of_ble_eq_true rfl) ⟨rfl, rfl⟩ (fun h17 qx20 => ?_)
                obtain ⟨G17, S17⟩ := qx20
                have R17 := R16.call S17 (by decide +kernel)
                refine z_iload_n (M := M_X11_lay) 94 dX11_lay_94 rfl ?_
                refine z_iconst (M := M_X11_lay) 95 dX11_lay_95 ?_
                refine z_icmp_eq_F (M := M_X11_lay) 96 dX11_lay_96 108 rfl (by omega) ?_
                refine z_aload_n (M := M_X11_lay) 99 dX11_lay_99 rfl ?_
                refine z_iload_n (M := M_X11_lay) 100 dX11_lay_100 rfl ?_
                refine z_iload (M := M_X11_lay) 101 dX11_lay_101 rfl ?_
                refine z_iload (M := M_X11_lay) 103 dX11_lay_103 rfl ?_
                refine z_vV (M := M_X11_lay) 105 dX11_lay_105 t_X11_addFeet l_X11_284 (m_rr_of rfl) (rest := []) (c_X11_addFeet h17 a3 a4 a5 G17 ⟨by omega, by omega⟩ ⟨by omega, by omega⟩) o_0 rfl rfl rfl (Nat.le_of_ble_eq_true rfl) ⟨rfl, rfl⟩ (fun h18 qx21 => ?_)
                obtain ⟨G18, S18⟩ := qx21
                have R18 := R17.call S18 (by decide +kernel)
                refine z_aload_n (M := M_X11_lay) 108 dX11_lay_108 rfl ?_
                refine z_getR (M := M_X11_lay) 109 dX11_lay_109 f_X11_60 o_0 rfl (g_0_8 G18) ?_
                refine z_vJ (M := M_X11_lay) 112 dX11_lay_112 t_X10_sum l_X11_288 (m_rr_of rfl) (rest := []) (c_X10_sum h18 G18) o_96 rfl rfl rfl (Nat.le_of_ble_eq_true rfl) ⟨rfl, rfl⟩ (fun x22 h19 qx22 => ?_)
                obtain ⟨G19, S19⟩ := qx22
                have R19 := R18.call S19 (by decide +kernel)
                refine z_ldc2 (M := M_X11_lay) 115 dX11_lay_115 k_X11_291 ?_
                refine z_sI (M := M_X11_lay) 118 dX11_lay_118 t_X11_atMost l_X11_220 (m_rr_of rfl) (rest := []) (c_X11_atMost h19 x22 6000 G19) rfl rfl (Nat.le_of_ble_eq_true rfl) ⟨rfl, rfl⟩ (fun x23 h20 qx23 => ?_)
                obtain ⟨G20, S20⟩ := qx23
                have R20 := R19.call S20 (by decide +kernel)
                refine z_ok (fun ox23 _ _ => ?_)
                have ox23 := ox23.1; unfold m_ok m_32 at ox23
                exact z_retI (M := M_X11_lay) 121 dX11_lay_121 rfl ⟨G20, R20⟩
              · refine z_bipush (M := M_X11_lay) 66 dX11_lay_66 ?_
                exact z_retI (M := M_X11_lay) 68 dX11_lay_68 rfl ⟨G14, R14⟩
            · refine z_if_eq_T (M := M_X11_lay) 56 dX11_lay_56 66 rfl (by omega) ?_
              refine z_bipush (M := M_X11_lay) 66 dX11_lay_66 ?_
              exact z_retI (M := M_X11_lay) 68 dX11_lay_68 rfl ⟨G0, (FR.rf (cs := (csB ++ [39, 40, 41, 97, 98])) (ss := [(96, 2), (96, 3), (96, 4)]) (h := h0))⟩
          · refine z_if_eq_T (M := M_X11_lay) 46 dX11_lay_46 66 rfl (by omega) ?_
            refine z_bipush (M := M_X11_lay) 66 dX11_lay_66 ?_
            exact z_retI (M := M_X11_lay) 68 dX11_lay_68 rfl ⟨G0, (FR.rf (cs := (csB ++ [39, 40, 41, 97, 98])) (ss := [(96, 2), (96, 3), (96, 4)]) (h := h0))⟩
        · refine z_if_eq_T (M := M_X11_lay) 26 dX11_lay_26 33 rfl (by omega) ?_
          refine z_iconst (M := M_X11_lay) 33 dX11_lay_33 ?_
          refine z_istore (M := M_X11_lay) 34 dX11_lay_34 (ls' := [some (mR 0), some (mI a1), some (mI a2), some (mI a3), some (mI a4), some (mI a5), some (mI 0)]) (by decide) rfl ?_
          refine z_iload (M := M_X11_lay) 36 dX11_lay_36 rfl ?_
          refine z_if_eq_T (M := M_X11_lay) 38 dX11_lay_38 66 rfl (by omega) ?_
          refine z_bipush (M := M_X11_lay) 66 dX11_lay_66 ?_
          exact z_retI (M := M_X11_lay) 68 dX11_lay_68 rfl ⟨G0, (FR.rf (cs := (csB ++ [39, 40, 41, 97, 98])) (ss := [(96, 2), (96, 3), (96, 4)]) (h := h0))⟩
    · refine z_if_eq_T (M := M_X11_lay) 13 dX11_lay_13 33 rfl (by omega) ?_
      refine z_iconst (M := M_X11_lay) 33 dX11_lay_33 ?_
      refine z_istore (M := M_X11_lay) 34 dX11_lay_34 (ls' := [some (mR 0), some (mI a1), some (mI a2), some (mI a3), some (mI a4), some (mI a5), some (mI 0)]) (by decide) rfl ?_
      refine z_iload (M := M_X11_lay) 36 dX11_lay_36 rfl ?_
      refine z_if_eq_T (M := M_X11_lay) 38 dX11_lay_38 66 rfl (by omega) ?_
      refine z_bipush (M := M_X11_lay) 66 dX11_lay_66 ?_
      exact z_retI (M := M_X11_lay) 68 dX11_lay_68 rfl ⟨G0, (FR.rf (cs := (csB ++ [39, 40, 41, 97, 98])) (ss := [(96, 2), (96, 3), (96, 4)]) (h := h0))⟩
  · refine z_if_eq_T (M := M_X11_lay) 5 dX11_lay_5 33 rfl (by omega) ?_
    refine z_iconst (M := M_X11_lay) 33 dX11_lay_33 ?_
    refine z_istore (M := M_X11_lay) 34 dX11_lay_34 (ls' := [some (mR 0), some (mI a1), some (mI a2), some (mI a3), some (mI a4), some (mI a5), some (mI 0)]) (by decide) rfl ?_
    refine z_iload (M := M_X11_lay) 36 dX11_lay_36 rfl ?_
    refine z_if_eq_T (M := M_X11_lay) 38 dX11_lay_38 66 rfl (by omega) ?_
    refine z_bipush (M := M_X11_lay) 66 dX11_lay_66 ?_
    exact z_retI (M := M_X11_lay) 68 dX11_lay_68 rfl ⟨G0, (FR.rf (cs := (csB ++ [39, 40, 41, 97, 98])) (ss := [(96, 2), (96, 3), (96, 4)]) (h := h0))⟩
abbrev P_X11_area (h0 : m_H) (a1 a2 a3 a4 : Int) : Int → m_H → Prop := fun x h' => GI h' ∧ FR (csB ++ [39, 40, 41, 97, 98]) [(96, 2), (96, 3), (96, 4)] h0 h'
set_option maxHeartbeats 4000000 in
set_option maxRecDepth 100000 in
theorem c_X11_area (h0 : m_H) (a1 a2 a3 a4 : Int) (G0 : GI h0) : m_CI M_X11_area [mR 0, mI a1, mI a2, mI a3, mI a4] h0 (P_X11_area h0 a1 a2 a3 a4) := by
  refine m_CI_of ⟨by decide, rfl, by simp [m_arg, m_isL, M_X11_area], ⟨rfl, rfl⟩, rfl, rfl⟩ (ls := [some (mR 0), some (mI a1), some (mI a2), some (mI a3), some (mI a4), none]) rfl ?_
  refine z_ok (fun _ _ ok => ?_)
  have oa1 : m_32 a1 := ok 1 _ rfl
  unfold m_32 at oa1
  have oa2 : m_32 a2 := ok 2 _ rfl
  unfold m_32 at oa2
  have oa3 : m_32 a3 := ok 3 _ rfl
  unfold m_32 at oa3
  have oa4 : m_32 a4 := ok 4 _ rfl
  unfold m_32 at oa4
  refine z_aload_n (M := M_X11_area) 0 dX11_area_0 rfl ?_
  refine z_iload_n (M := M_X11_area) 1 dX11_area_1 rfl ?_
  refine z_vI (M := M_X11_area) 2 dX11_area_2 t_X11_isMeasured l_X11_278 (m_rr_of rfl) (rest := []) (c_X11_isMeasured h0 a1 G0) o_0 rfl rfl rfl (Nat.le_of_ble_eq_true rfl) ⟨rfl, rfl⟩ (fun x1 h1 qx1 => ?_)
  obtain ⟨rfl, ⟨rfl, cx1⟩ | ⟨rfl, cx1⟩⟩ := qx1
  · refine z_if_eq_F (M := M_X11_area) 5 dX11_area_5 20 rfl (by omega) ?_
    refine z_aload_n (M := M_X11_area) 8 dX11_area_8 rfl ?_
    refine z_iload_n (M := M_X11_area) 9 dX11_area_9 rfl ?_
    refine z_vI (M := M_X11_area) 10 dX11_area_10 t_X11_isMeasured l_X11_278 (m_rr_of rfl) (rest := []) (c_X11_isMeasured h0 a2 G0) o_0 rfl rfl rfl (Nat.le_of_ble_eq_true rfl) ⟨rfl, rfl⟩ (fun x2 h2 qx2 => ?_)
    obtain ⟨rfl, ⟨rfl, cx2⟩ | ⟨rfl, cx2⟩⟩ := qx2
    · refine z_if_eq_F (M := M_X11_area) 13 dX11_area_13 20 rfl (by omega) ?_
      refine z_iconst (M := M_X11_area) 16 dX11_area_16 ?_
      refine z_goto (M := M_X11_area) 17 dX11_area_17 21 rfl ?_
      refine z_istore (M := M_X11_area) 21 dX11_area_21 (ls' := [some (mR 0), some (mI a1), some (mI a2), some (mI a3), some (mI a4), some (mI 1)]) (by decide) rfl ?_
      refine z_iload (M := M_X11_area) 23 dX11_area_23 rfl ?_
      refine z_if_eq_F (M := M_X11_area) 25 dX11_area_25 52 rfl (by omega) ?_
      refine z_iload_n (M := M_X11_area) 28 dX11_area_28 rfl ?_
      refine z_sI (M := M_X11_area) 29 dX11_area_29 t_X11_isKeeper l_X11_132 (m_rr_of rfl) (rest := []) (c_X11_isKeeper h0 a3 G0) rfl rfl (Nat.le_of_ble_eq_true rfl) ⟨rfl, rfl⟩ (fun x3 h3 qx3 => ?_)
      obtain ⟨rfl, ⟨rfl, cx3⟩ | ⟨rfl, cx3⟩⟩ := qx3
      · refine z_if_eq_F (M := M_X11_area) 32 dX11_area_32 52 rfl (by omega) ?_
        refine z_iload (M := M_X11_area) 35 dX11_area_35 rfl ?_
        refine z_iconst (M := M_X11_area) 37 dX11_area_37 ?_
        refine z_iconst (M := M_X11_area) 38 dX11_area_38 ?_
        refine z_sI (M := M_X11_area) 39 dX11_area_39 t_X11_within l_X11_112 (m_rr_of rfl) (rest := []) (c_X11_within h0 a4 0 1 G0) rfl rfl (Nat.le_of_ble_eq_true rfl) ⟨rfl, rfl⟩ (fun x4 h4 qx4 => ?_)
        obtain ⟨rfl, ⟨rfl, cx4⟩ | ⟨rfl, cx4⟩⟩ := qx4
        · refine z_if_eq_F (M := M_X11_area) 42 dX11_area_42 52 rfl (by omega) ?_
          refine z_aload_n (M := M_X11_area) 45 dX11_area_45 rfl ?_
          refine z_vI (M := M_X11_area) 46 dX11_area_46 t_X11_canBe l_X11_208 (m_rr_of rfl) (rest := []) (c_X11_canBe h0 G0) o_0 rfl rfl rfl (Nat.le_of_ble_eq_true rfl) ⟨rfl, rfl⟩ (fun x5 h5 qx5 => ?_)
          obtain ⟨G5, S5, ax5, bx5⟩ := qx5
          have R5 := (FR.rf (cs := (csB ++ [39, 40, 41, 97, 98])) (ss := [(96, 2), (96, 3), (96, 4)]) (h := h0)).call S5 (by decide +kernel)
          refine z_if_ne (M := M_X11_area) 49 dX11_area_49 55 rfl (fun c6 => ?_) (fun c6 => ?_)
          · refine z_aload_n (M := M_X11_area) 55 dX11_area_55 rfl ?_
            refine z_getR (M := M_X11_area) 56 dX11_area_56 f_X11_60 o_0 rfl (g_0_8 G5) ?_
            refine z_vV (M := M_X11_area) 59 dX11_area_59 t_X10_clear l_X11_281 (m_rr_of rfl) (rest := []) (c_X10_clear h5 G5) o_96 rfl rfl rfl (Nat.le_of_ble_eq_true rfl) ⟨rfl, rfl⟩ (fun h6 qx7 => ?_)
            obtain ⟨G6, S6⟩ := qx7
            have R6 := R5.call S6 (by decide +kernel)
            refine z_aload_n (M := M_X11_area) 62 dX11_area_62 rfl ?_
            refine z_iload_n (M := M_X11_area) 63 dX11_area_63 rfl ?_
            refine z_iload_n (M := M_X11_area) 64 dX11_area_64 rfl ?_
            refine z_iload (M := M_X11_area) 65 dX11_area_65 rfl ?_
            refine z_vV (M := M_X11_area) 67 dX11_area_67 t_X11_addFeet l_X11_284 (m_rr_of rfl) (rest := []) (c_X11_addFeet h6 a1 a3 a4 G6 ⟨by omega, by omega⟩ ⟨by omega, by omega⟩) o_0 rfl rfl rfl (Nat.le_of_ble_eq_true rfl) ⟨rfl, rfl⟩ (fun h7 qx8 => ?_)
            obtain ⟨G7, S7⟩ := qx8
            have R7 := R6.call S7 (by decide +kernel)
            refine z_aload_n (M := M_X11_area) 70 dX11_area_70 rfl ?_
            refine z_iload_n (M := M_X11_area) 71 dX11_area_71 rfl ?_
            refine z_iload_n (M := M_X11_area) 72 dX11_area_72 rfl ?_
            refine z_iload (M := M_X11_area) 73 dX11_area_73 rfl ?_
            refine z_vV (M := M_X11_area) 75 dX11_area_75 t_X11_addFeet l_X11_284 (m_rr_of rfl) (rest := []) (c_X11_addFeet h7 a2 a3 a4 G7 ⟨by omega, by omega⟩ ⟨by omega, by omega⟩) o_0 rfl rfl rfl (Nat.le_of_ble_eq_true rfl) ⟨rfl, rfl⟩ (fun h8 qx9 => ?_)
            obtain ⟨G8, S8⟩ := qx9
            have R8 := R7.call S8 (by decide +kernel)
            refine z_aload_n (M := M_X11_area) 78 dX11_area_78 rfl ?_
            refine z_getR (M := M_X11_area) 79 dX11_area_79 f_X11_60 o_0 rfl (g_0_8 G8) ?_
            refine z_vJ (M := M_X11_area) 82 dX11_area_82 t_X10_product l_X11_293 (m_rr_of rfl) (rest := []) (c_X10_product h8 G8) o_96 rfl rfl rfl (Nat.le_of_ble_eq_true rfl) ⟨rfl, rfl⟩ (fun x10 h9 qx10 => ?_)
            obtain ⟨G9, S9⟩ := qx10
            have R9 := R8.call S9 (by decide +kernel)
            refine z_ldc2 (M := M_X11_area) 85 dX11_area_85 k_X11_296 ?_
            refine z_sI (M := M_X11_area) 88 dX11_area_88 t_X11_atMost l_X11_220 (m_rr_of rfl) (rest := []) (c_X11_atMost h9 x10 4000000 G9) rfl rfl (Nat.le_of_ble_eq_true rfl) ⟨rfl, rfl⟩ (fun x11 h10 qx11 => ?_)
            obtain ⟨G10, S10⟩ := qx11
            have R10 := R9.call S10 (by decide +kernel)
            refine z_ok (fun ox11 _ _ => ?_)
            have ox11 := ox11.1; unfold m_ok m_32 at ox11
            exact z_retI (M := M_X11_area) 91 dX11_area_91 rfl ⟨G10, R10⟩
          · refine z_bipush (M := M_X11_area) 52 dX11_area_52 ?_
            exact z_retI (M := M_X11_area) 54 dX11_area_54 rfl ⟨G5, R5⟩
        · refine z_if_eq_T (M := M_X11_area) 42 dX11_area_42 52 rfl (by omega) ?_
          refine z_bipush (M := M_X11_area) 52 dX11_area_52 ?_
          exact z_retI (M := M_X11_area) 54 dX11_area_54 rfl ⟨G0, (FR.rf (cs := (csB ++ [39, 40, 41, 97, 98])) (ss := [(96, 2), (96, 3), (96, 4)]) (h := h0))⟩
      · refine z_if_eq_T (M := M_X11_area) 32 dX11_area_32 52 rfl (by omega) ?_
        refine z_bipush (M := M_X11_area) 52 dX11_area_52 ?_
        exact z_retI (M := M_X11_area) 54 dX11_area_54 rfl ⟨G0, (FR.rf (cs := (csB ++ [39, 40, 41, 97, 98])) (ss := [(96, 2), (96, 3), (96, 4)]) (h := h0))⟩
    · refine z_if_eq_T (M := M_X11_area) 13 dX11_area_13 20 rfl (by omega) ?_
      refine z_iconst (M := M_X11_area) 20 dX11_area_20 ?_
      refine z_istore (M := M_X11_area) 21 dX11_area_21 (ls' := [some (mR 0), some (mI a1), some (mI a2), some (mI a3), some (mI a4), some (mI 0)]) (by decide) rfl ?_
      refine z_iload (M := M_X11_area) 23 dX11_area_23 rfl ?_
      refine z_if_eq_T (M := M_X11_area) 25 dX11_area_25 52 rfl (by omega) ?_
      refine z_bipush (M := M_X11_area) 52 dX11_area_52 ?_
      exact z_retI (M := M_X11_area) 54 dX11_area_54 rfl ⟨G0, (FR.rf (cs := (csB ++ [39, 40, 41, 97, 98])) (ss := [(96, 2), (96, 3), (96, 4)]) (h := h0))⟩
  · refine z_if_eq_T (M := M_X11_area) 5 dX11_area_5 20 rfl (by omega) ?_
    refine z_iconst (M := M_X11_area) 20 dX11_area_20 ?_
    refine z_istore (M := M_X11_area) 21 dX11_area_21 (ls' := [some (mR 0), some (mI a1), some (mI a2), some (mI a3), some (mI a4), some (mI 0)]) (by decide) rfl ?_
    refine z_iload (M := M_X11_area) 23 dX11_area_23 rfl ?_
    refine z_if_eq_T (M := M_X11_area) 25 dX11_area_25 52 rfl (by omega) ?_
    refine z_bipush (M := M_X11_area) 52 dX11_area_52 ?_
    exact z_retI (M := M_X11_area) 54 dX11_area_54 rfl ⟨G0, (FR.rf (cs := (csB ++ [39, 40, 41, 97, 98])) (ss := [(96, 2), (96, 3), (96, 4)]) (h := h0))⟩
abbrev P_X11_would (h0 : m_H) (a1 a2 a3 a4 : Int) : Int → m_H → Prop := fun x h' => GI h' ∧ FR (csB ++ [39, 40, 41]) [] h0 h' ∧ (-2) ≤ x ∧ x ≤ 2
set_option maxHeartbeats 4000000 in
set_option maxRecDepth 100000 in
theorem c_X11_would (h0 : m_H) (a1 a2 a3 a4 : Int) (G0 : GI h0) : m_CI M_X11_would [mR 0, mI a1, mI a2, mI a3, mI a4] h0 (P_X11_would h0 a1 a2 a3 a4) := by
  refine m_CI_of ⟨by decide, rfl, by simp [m_arg, m_isL, M_X11_would], ⟨rfl, rfl⟩, rfl, rfl⟩ (ls := [some (mR 0), some (mI a1), some (mI a2), some (mI a3), some (mI a4)]) rfl ?_
  refine z_ok (fun _ _ ok => ?_)
  have oa1 : m_32 a1 := ok 1 _ rfl
  unfold m_32 at oa1
  have oa2 : m_32 a2 := ok 2 _ rfl
  unfold m_32 at oa2
  have oa3 : m_32 a3 := ok 3 _ rfl
  unfold m_32 at oa3
  have oa4 : m_32 a4 := ok 4 _ rfl
  unfold m_32 at oa4
  refine z_iload_n (M := M_X11_would) 0 dX11_would_0 rfl ?_
  refine z_sI (M := M_X11_would) 1 dX11_would_1 t_X11_isNumber l_X11_298 (m_rr_of rfl) (rest := []) (c_X11_isNumber h0 a3 G0) rfl rfl (Nat.le_of_ble_eq_true rfl) ⟨rfl, rfl⟩ (fun x1 h1 qx1 => ?_)
  obtain ⟨rfl, ⟨rfl, cx1⟩ | ⟨rfl, cx1⟩⟩ := qx1
  · refine z_if_eq_F (M := M_X11_would) 4 dX11_would_4 24 rfl (by omega) ?_
    refine z_iload (M := M_X11_would) 7 dX11_would_7 rfl ?_
    refine z_sI (M := M_X11_would) 9 dX11_would_9 t_X11_isKind l_X11_301 (m_rr_of rfl) (rest := []) (c_X11_isKind h0 a4 G0) rfl rfl (Nat.le_of_ble_eq_true rfl) ⟨rfl, rfl⟩ (fun x2 h2 qx2 => ?_)
    obtain ⟨rfl, ⟨rfl, cx2⟩ | ⟨rfl, cx2⟩⟩ := qx2
    · refine z_if_eq_F (M := M_X11_would) 12 dX11_would_12 24 rfl (by omega) ?_
      refine z_aload_n (M := M_X11_would) 15 dX11_would_15 rfl ?_
      refine z_iload_n (M := M_X11_would) 16 dX11_would_16 rfl ?_
      refine z_iload_n (M := M_X11_would) 17 dX11_would_17 rfl ?_
      refine z_vI (M := M_X11_would) 18 dX11_would_18 t_X11_compareToFoot l_X11_247 (m_rr_of rfl) (rest := []) (c_X11_compareToFoot h0 a1 a2 G0) o_0 rfl rfl rfl (Nat.le_of_ble_eq_true rfl) ⟨rfl, rfl⟩ (fun x3 h3 qx3 => ?_)
      obtain ⟨G3, S3, ax3, bx3⟩ := qx3
      have R3 := (FR.rf (cs := (csB ++ [39, 40, 41])) (ss := []) (h := h0)).call S3 (by decide +kernel)
      refine z_if_ne (M := M_X11_would) 21 dX11_would_21 27 rfl (fun c4 => ?_) (fun c4 => ?_)
      · refine z_aload_n (M := M_X11_would) 27 dX11_would_27 rfl ?_
        refine z_getR (M := M_X11_would) 28 dX11_would_28 f_X11_53 o_0 rfl (g_0_7 G3) ?_
        refine z_iload_n (M := M_X11_would) 31 dX11_would_31 rfl ?_
        refine z_iload (M := M_X11_would) 32 dX11_would_32 rfl ?_
        refine z_vI (M := M_X11_would) 34 dX11_would_34 t_X7_allows l_X11_304 (m_rr_of rfl) (rest := []) (c_X7_allows h3 a3 a4 G3) o_93 rfl rfl rfl (Nat.le_of_ble_eq_true rfl) ⟨rfl, rfl⟩ (fun x5 h4 qx5 => ?_)
        obtain ⟨G4, S4, ax5, bx5⟩ := qx5
        have R4 := R3.call S4 (by decide +kernel)
        refine z_if_ne (M := M_X11_would) 37 dX11_would_37 42 rfl (fun c6 => ?_) (fun c6 => ?_)
        · refine z_aload_n (M := M_X11_would) 42 dX11_would_42 rfl ?_
          refine z_getR (M := M_X11_would) 43 dX11_would_43 f_X11_53 o_0 rfl (g_0_7 G4) ?_
          refine z_iload_n (M := M_X11_would) 46 dX11_would_46 rfl ?_
          refine z_iload (M := M_X11_would) 47 dX11_would_47 rfl ?_
          refine z_vI (M := M_X11_would) 49 dX11_would_49 t_X7_forces l_X11_307 (m_rr_of rfl) (rest := []) (c_X7_forces h4 a3 a4 G4) o_93 rfl rfl rfl (Nat.le_of_ble_eq_true rfl) ⟨rfl, rfl⟩ (fun x7 h5 qx7 => ?_)
          obtain ⟨G5, S5, ax7, bx7⟩ := qx7
          have R5 := R4.call S5 (by decide +kernel)
          refine z_if_eq (M := M_X11_would) 52 dX11_would_52 59 rfl (fun c8 => ?_) (fun c8 => ?_)
          · refine z_iconst (M := M_X11_would) 59 dX11_would_59 ?_
            exact z_retI (M := M_X11_would) 60 dX11_would_60 rfl ⟨G5, R5, by omega, by omega⟩
          · refine z_iconst (M := M_X11_would) 55 dX11_would_55 ?_
            refine z_goto (M := M_X11_would) 56 dX11_would_56 60 rfl ?_
            exact z_retI (M := M_X11_would) 60 dX11_would_60 rfl ⟨G5, R5, by omega, by omega⟩
        · refine z_iconst (M := M_X11_would) 40 dX11_would_40 ?_
          exact z_retI (M := M_X11_would) 41 dX11_would_41 rfl ⟨G4, R4, by omega, by omega⟩
      · refine z_bipush (M := M_X11_would) 24 dX11_would_24 ?_
        exact z_retI (M := M_X11_would) 26 dX11_would_26 rfl ⟨G3, R3, by omega, by omega⟩
    · refine z_if_eq_T (M := M_X11_would) 12 dX11_would_12 24 rfl (by omega) ?_
      refine z_bipush (M := M_X11_would) 24 dX11_would_24 ?_
      exact z_retI (M := M_X11_would) 26 dX11_would_26 rfl ⟨G0, (FR.rf (cs := (csB ++ [39, 40, 41])) (ss := []) (h := h0)), by omega, by omega⟩
  · refine z_if_eq_T (M := M_X11_would) 4 dX11_would_4 24 rfl (by omega) ?_
    refine z_bipush (M := M_X11_would) 24 dX11_would_24 ?_
    exact z_retI (M := M_X11_would) 26 dX11_would_26 rfl ⟨G0, (FR.rf (cs := (csB ++ [39, 40, 41])) (ss := []) (h := h0)), by omega, by omega⟩
abbrev P_X11_numbers (h0 : m_H) (a1 a2 a3 a4 : Int) : Int → m_H → Prop := fun x h' => GI h' ∧ FR (csB ++ [39, 40, 41]) [] h0 h'
set_option maxHeartbeats 4000000 in
set_option maxRecDepth 100000 in
theorem c_X11_numbers (h0 : m_H) (a1 a2 a3 a4 : Int) (G0 : GI h0) : m_CI M_X11_numbers [mR 0, mI a1, mI a2, mI a3, mI a4] h0 (P_X11_numbers h0 a1 a2 a3 a4) := by
  refine m_CI_of ⟨by decide, rfl, by simp [m_arg, m_isL, M_X11_numbers], ⟨rfl, rfl⟩, rfl, rfl⟩ (ls := [some (mR 0), some (mI a1), some (mI a2), some (mI a3), some (mI a4), none]) rfl ?_
  refine z_ok (fun _ _ ok => ?_)
  have oa1 : m_32 a1 := ok 1 _ rfl
  unfold m_32 at oa1
  have oa2 : m_32 a2 := ok 2 _ rfl
  unfold m_32 at oa2
  have oa3 : m_32 a3 := ok 3 _ rfl
  unfold m_32 at oa3
  have oa4 : m_32 a4 := ok 4 _ rfl
  unfold m_32 at oa4
  refine z_iload_n (M := M_X11_numbers) 0 dX11_numbers_0 rfl ?_
  refine z_sI (M := M_X11_numbers) 1 dX11_numbers_1 t_X11_isKind l_X11_301 (m_rr_of rfl) (rest := []) (c_X11_isKind h0 a3 G0) rfl rfl (Nat.le_of_ble_eq_true rfl) ⟨rfl, rfl⟩ (fun x1 h1 qx1 => ?_)
  obtain ⟨rfl, ⟨rfl, cx1⟩ | ⟨rfl, cx1⟩⟩ := qx1
  · refine z_if_eq_F (M := M_X11_numbers) 4 dX11_numbers_4 26 rfl (by omega) ?_
    refine z_iload (M := M_X11_numbers) 7 dX11_numbers_7 rfl ?_
    refine z_iconst (M := M_X11_numbers) 9 dX11_numbers_9 ?_
    refine z_iconst (M := M_X11_numbers) 10 dX11_numbers_10 ?_
    refine z_sI (M := M_X11_numbers) 11 dX11_numbers_11 t_X11_within l_X11_112 (m_rr_of rfl) (rest := []) (c_X11_within h0 a4 0 2 G0) rfl rfl (Nat.le_of_ble_eq_true rfl) ⟨rfl, rfl⟩ (fun x2 h2 qx2 => ?_)
    obtain ⟨rfl, ⟨rfl, cx2⟩ | ⟨rfl, cx2⟩⟩ := qx2
    · refine z_if_eq_F (M := M_X11_numbers) 14 dX11_numbers_14 26 rfl (by omega) ?_
      refine z_aload_n (M := M_X11_numbers) 17 dX11_numbers_17 rfl ?_
      refine z_iload_n (M := M_X11_numbers) 18 dX11_numbers_18 rfl ?_
      refine z_iload_n (M := M_X11_numbers) 19 dX11_numbers_19 rfl ?_
      refine z_vI (M := M_X11_numbers) 20 dX11_numbers_20 t_X11_compareToFoot l_X11_247 (m_rr_of rfl) (rest := []) (c_X11_compareToFoot h0 a1 a2 G0) o_0 rfl rfl rfl (Nat.le_of_ble_eq_true rfl) ⟨rfl, rfl⟩ (fun x3 h3 qx3 => ?_)
      obtain ⟨G3, S3, ax3, bx3⟩ := qx3
      have R3 := (FR.rf (cs := (csB ++ [39, 40, 41])) (ss := []) (h := h0)).call S3 (by decide +kernel)
      refine z_if_ne (M := M_X11_numbers) 23 dX11_numbers_23 29 rfl (fun c4 => ?_) (fun c4 => ?_)
      · refine z_aload_n (M := M_X11_numbers) 29 dX11_numbers_29 rfl ?_
        refine z_getR (M := M_X11_numbers) 30 dX11_numbers_30 f_X11_53 o_0 rfl (g_0_7 G3) ?_
        refine z_iload_n (M := M_X11_numbers) 33 dX11_numbers_33 rfl ?_
        refine z_vI (M := M_X11_numbers) 34 dX11_numbers_34 t_X7_manyNumbers l_X11_310 (m_rr_of rfl) (rest := []) (c_X7_manyNumbers h3 a3 G3) o_93 rfl rfl rfl (Nat.le_of_ble_eq_true rfl) ⟨rfl, rfl⟩ (fun x5 h4 qx5 => ?_)
        obtain ⟨G4, S4, ax5, bx5⟩ := qx5
        have R4 := R3.call S4 (by decide +kernel)
        refine z_istore (M := M_X11_numbers) 37 dX11_numbers_37 (ls' := [some (mR 0), some (mI a1), some (mI a2), some (mI a3), some (mI a4), some (mI x5)]) (by decide) rfl ?_
        refine z_iload (M := M_X11_numbers) 39 dX11_numbers_39 rfl ?_
        refine z_if_ne (M := M_X11_numbers) 41 dX11_numbers_41 47 rfl (fun c6 => ?_) (fun c6 => ?_)
        · refine z_iload (M := M_X11_numbers) 47 dX11_numbers_47 rfl ?_
          refine z_if_ne (M := M_X11_numbers) 49 dX11_numbers_49 54 rfl (fun c7 => ?_) (fun c7 => ?_)
          · refine z_iload (M := M_X11_numbers) 54 dX11_numbers_54 rfl ?_
            refine z_iconst (M := M_X11_numbers) 56 dX11_numbers_56 ?_
            refine z_icmp_ne (M := M_X11_numbers) 57 dX11_numbers_57 71 rfl (fun c8 => ?_) (fun c8 => ?_)
            · refine z_aload_n (M := M_X11_numbers) 71 dX11_numbers_71 rfl ?_
              refine z_getR (M := M_X11_numbers) 72 dX11_numbers_72 f_X11_53 o_0 rfl (g_0_7 G4) ?_
              refine z_iload_n (M := M_X11_numbers) 75 dX11_numbers_75 rfl ?_
              refine z_vI (M := M_X11_numbers) 76 dX11_numbers_76 t_X7_lastNumber l_X11_316 (m_rr_of rfl) (rest := []) (c_X7_lastNumber h4 a3 G4) o_93 rfl rfl rfl (Nat.le_of_ble_eq_true rfl) ⟨rfl, rfl⟩ (fun x9 h5 qx9 => ?_)
              obtain ⟨G5, S5⟩ := qx9
              have R5 := R4.call S5 (by decide +kernel)
              refine z_ok (fun ox9 _ _ => ?_)
              have ox9 := ox9.1; unfold m_ok m_32 at ox9
              exact z_retI (M := M_X11_numbers) 79 dX11_numbers_79 rfl ⟨G5, R5⟩
            · refine z_aload_n (M := M_X11_numbers) 60 dX11_numbers_60 rfl ?_
              refine z_getR (M := M_X11_numbers) 61 dX11_numbers_61 f_X11_53 o_0 rfl (g_0_7 G4) ?_
              refine z_iload_n (M := M_X11_numbers) 64 dX11_numbers_64 rfl ?_
              refine z_vI (M := M_X11_numbers) 65 dX11_numbers_65 t_X7_firstNumber l_X11_313 (m_rr_of rfl) (rest := []) (c_X7_firstNumber h4 a3 G4) o_93 rfl rfl rfl (Nat.le_of_ble_eq_true rfl) ⟨rfl, rfl⟩ (fun x10 h6 qx10 => ?_)
              obtain ⟨G6, S6⟩ := qx10
              have R6 := R4.call S6 (by decide +kernel)
              refine z_ok (fun ox10 _ _ => ?_)
              have ox10 := ox10.1; unfold m_ok m_32 at ox10
              refine z_goto (M := M_X11_numbers) 68 dX11_numbers_68 79 rfl ?_
              exact z_retI (M := M_X11_numbers) 79 dX11_numbers_79 rfl ⟨G6, R6⟩
          · refine z_iconst (M := M_X11_numbers) 52 dX11_numbers_52 ?_
            exact z_retI (M := M_X11_numbers) 53 dX11_numbers_53 rfl ⟨G4, R4⟩
        · refine z_iload (M := M_X11_numbers) 44 dX11_numbers_44 rfl ?_
          exact z_retI (M := M_X11_numbers) 46 dX11_numbers_46 rfl ⟨G4, R4⟩
      · refine z_bipush (M := M_X11_numbers) 26 dX11_numbers_26 ?_
        exact z_retI (M := M_X11_numbers) 28 dX11_numbers_28 rfl ⟨G3, R3⟩
    · refine z_if_eq_T (M := M_X11_numbers) 14 dX11_numbers_14 26 rfl (by omega) ?_
      refine z_bipush (M := M_X11_numbers) 26 dX11_numbers_26 ?_
      exact z_retI (M := M_X11_numbers) 28 dX11_numbers_28 rfl ⟨G0, (FR.rf (cs := (csB ++ [39, 40, 41])) (ss := []) (h := h0))⟩
  · refine z_if_eq_T (M := M_X11_numbers) 4 dX11_numbers_4 26 rfl (by omega) ?_
    refine z_bipush (M := M_X11_numbers) 26 dX11_numbers_26 ?_
    exact z_retI (M := M_X11_numbers) 28 dX11_numbers_28 rfl ⟨G0, (FR.rf (cs := (csB ++ [39, 40, 41])) (ss := []) (h := h0))⟩
abbrev P_X11_ask (h0 : m_H) (a1 : Int) : Int → m_H → Prop := fun x h' => GI h' ∧ FR (csB ++ [39, 40, 41]) [] h0 h' ∧ (-1) ≤ x ∧ x ≤ 2147483647
def q_X11_ask (h0 : m_H) (a1 : Int) (n : Nat) : Prop := (∀ (l2 l3 l4 : Int) (h : m_H), GI h → FR (csB ++ [39, 40, 41]) [] h0 h → (-1) ≤ l2 → l2 ≤ 2147483647 → 0 ≤ l3 → l3 ≤ 47 → 0 ≤ l4 → l4 ≤ 48 → 0 ≤ a1 → a1 ≤ 2 → 2 * (48 - l4) + (1) ≤ (n : Int) → m_Z oF M_X11_ask 25 [some (mR 0), some (mI a1), some (mI l2), some (mI l3), some (mI l4), none] [] h (m_QI (P_X11_ask h0 a1)))
set_option maxHeartbeats 4000000 in
set_option maxRecDepth 100000 in
theorem s_X11_ask_25 (h0 : m_H) (a1 : Int) (G0 : GI h0) (n : Nat) (ih : q_X11_ask h0 a1 n) : ∀ (l2 l3 l4 : Int) (h : m_H), GI h → FR (csB ++ [39, 40, 41]) [] h0 h → (-1) ≤ l2 → l2 ≤ 2147483647 → 0 ≤ l3 → l3 ≤ 47 → 0 ≤ l4 → l4 ≤ 48 → 0 ≤ a1 → a1 ≤ 2 → 2 * (48 - l4) + (1) ≤ ((n + 1 : Nat) : Int) → m_Z oF M_X11_ask 25 [some (mR 0), some (mI a1), some (mI l2), some (mI l3), some (mI l4), none] [] h (m_QI (P_X11_ask h0 a1)) := by
  intro l2 l3 l4 h G R v0 v1 v2 v3 v4 v5 v6 v7 hr
  refine z_iload (M := M_X11_ask) 25 dX11_ask_25 rfl ?_
  refine z_bipush (M := M_X11_ask) 27 dX11_ask_27 ?_
  refine z_icmp_ge (M := M_X11_ask) 29 dX11_ask_29 64 rfl (fun c1 => ?_) (fun c1 => ?_)
  · refine z_iload_n (M := M_X11_ask) 64 dX11_ask_64 rfl ?_
    refine z_iconst (M := M_X11_ask) 65 dX11_ask_65 ?_
    refine z_icmp_ne (M := M_X11_ask) 66 dX11_ask_66 71 rfl (fun c2 => ?_) (fun c2 => ?_)
    · refine z_iload_n (M := M_X11_ask) 71 dX11_ask_71 rfl ?_
      refine z_if_ne (M := M_X11_ask) 72 dX11_ask_72 81 rfl (fun c3 => ?_) (fun c3 => ?_)
      · refine z_iload_n (M := M_X11_ask) 81 dX11_ask_81 rfl ?_
        refine z_iconst (M := M_X11_ask) 82 dX11_ask_82 ?_
        refine z_iremN (M := M_X11_ask) 83 dX11_ask_83 (by omega) (by omega) ?_
        refine z_topBI (lo := 0) (hi := 3) ⟨by omega, by omega⟩ (fun x4 ex4 ax4 bx4 => ?_)
        exact z_retI (M := M_X11_ask) 84 dX11_ask_84 rfl ⟨G, R, by omega, by omega⟩
      · refine z_iload_n (M := M_X11_ask) 75 dX11_ask_75 rfl ?_
        refine z_iconst (M := M_X11_ask) 76 dX11_ask_76 ?_
        refine z_idivN (M := M_X11_ask) 77 dX11_ask_77 (by omega) (by omega) ?_
        refine z_topBI (lo := 0) (hi := 11) ⟨by omega, by omega⟩ (fun x5 ex5 ax5 bx5 => ?_)
        refine z_goto (M := M_X11_ask) 78 dX11_ask_78 84 rfl ?_
        exact z_retI (M := M_X11_ask) 84 dX11_ask_84 rfl ⟨G, R, by omega, by omega⟩
    · refine z_iload_n (M := M_X11_ask) 69 dX11_ask_69 rfl ?_
      exact z_retI (M := M_X11_ask) 70 dX11_ask_70 rfl ⟨G, R, by omega, by omega⟩
  · refine z_aload_n (M := M_X11_ask) 32 dX11_ask_32 rfl ?_
    refine z_iload (M := M_X11_ask) 33 dX11_ask_33 rfl ?_
    refine z_iconst (M := M_X11_ask) 35 dX11_ask_35 ?_
    refine z_idivN (M := M_X11_ask) 36 dX11_ask_36 (by omega) (by omega) ?_
    refine z_topBI (lo := 0) (hi := 11) ⟨by omega, by omega⟩ (fun x6 ex6 ax6 bx6 => ?_)
    refine z_iload (M := M_X11_ask) 37 dX11_ask_37 rfl ?_
    refine z_iconst (M := M_X11_ask) 39 dX11_ask_39 ?_
    refine z_iremN (M := M_X11_ask) 40 dX11_ask_40 (by omega) (by omega) ?_
    refine z_topBI (lo := 0) (hi := 3) ⟨by omega, by omega⟩ (fun x7 ex7 ax7 bx7 => ?_)
    refine z_vI (M := M_X11_ask) 41 dX11_ask_41 t_X11_manyWholes l_X11_319 (m_rr_of rfl) (rest := []) (c_X11_manyWholes h x6 x7 G ⟨by omega, by omega⟩ ⟨by omega, by omega⟩) o_0 rfl rfl rfl (Nat.le_of_ble_eq_true rfl) ⟨rfl, rfl⟩ (fun x8 h1 qx8 => ?_)
    obtain ⟨G1, S1, ax8, bx8⟩ := qx8
    have R1 := R.call S1 (by decide +kernel)
    refine z_istore (M := M_X11_ask) 44 dX11_ask_44 (ls' := [some (mR 0), some (mI a1), some (mI l2), some (mI l3), some (mI l4), some (mI x8)]) (by decide) rfl ?_
    refine z_iload (M := M_X11_ask) 46 dX11_ask_46 rfl ?_
    refine z_iload_n (M := M_X11_ask) 48 dX11_ask_48 rfl ?_
    refine z_icmp_le (M := M_X11_ask) 49 dX11_ask_49 58 rfl (fun c9 => ?_) (fun c9 => ?_)
    · refine z_iincN (M := M_X11_ask) 58 dX11_ask_58 (ls' := [some (mR 0), some (mI a1), some (mI l2), some (mI l3), some (mI (l4 + 1)), some (mI x8)]) (by decide) rfl (by (unfold m_32; decide)) (by omega) (by omega) rfl ?_
      refine z_goto (M := M_X11_ask) 61 dX11_ask_61 25 rfl ?_
      exact z_mask [true, true, true, true, true, false] rfl (ih l2 l3 (l4 + 1) h1 G1 R1 (by omega) (by omega) (by omega) (by omega) (by omega) (by omega) (by omega) (by omega) (by omega))
    · refine z_iload (M := M_X11_ask) 52 dX11_ask_52 rfl ?_
      refine z_istore_n (M := M_X11_ask) 54 dX11_ask_54 (ls' := [some (mR 0), some (mI a1), some (mI x8), some (mI l3), some (mI l4), some (mI x8)]) (by decide) rfl ?_
      refine z_iload (M := M_X11_ask) 55 dX11_ask_55 rfl ?_
      refine z_istore_n (M := M_X11_ask) 57 dX11_ask_57 (ls' := [some (mR 0), some (mI a1), some (mI x8), some (mI l4), some (mI l4), some (mI x8)]) (by decide) rfl ?_
      refine z_iincN (M := M_X11_ask) 58 dX11_ask_58 (ls' := [some (mR 0), some (mI a1), some (mI x8), some (mI l4), some (mI (l4 + 1)), some (mI x8)]) (by decide) rfl (by (unfold m_32; decide)) (by omega) (by omega) rfl ?_
      refine z_goto (M := M_X11_ask) 61 dX11_ask_61 25 rfl ?_
      exact z_mask [true, true, true, true, true, false] rfl (ih x8 l4 (l4 + 1) h1 G1 R1 (by omega) (by omega) (by omega) (by omega) (by omega) (by omega) (by omega) (by omega) (by omega))
theorem a_X11_ask (h0 : m_H) (a1 : Int) (G0 : GI h0) : ∀ n, q_X11_ask h0 a1 n := by
  intro n
  induction n with
  | zero => unfold q_X11_ask; intros; omega
  | succ n ih => exact s_X11_ask_25 h0 a1 G0 n ih
set_option maxHeartbeats 4000000 in
set_option maxRecDepth 100000 in
theorem c_X11_ask (h0 : m_H) (a1 : Int) (G0 : GI h0) : m_CI M_X11_ask [mR 0, mI a1] h0 (P_X11_ask h0 a1) := by
  refine m_CI_of ⟨by decide, rfl, by simp [m_arg, m_isL, M_X11_ask], ⟨rfl, rfl⟩, rfl, rfl⟩ (ls := [some (mR 0), some (mI a1), none, none, none, none]) rfl ?_
  have ih := a_X11_ask h0 a1 G0 104
  refine z_ok (fun _ _ ok => ?_)
  have oa1 : m_32 a1 := ok 1 _ rfl
  unfold m_32 at oa1
  refine z_iload_n (M := M_X11_ask) 0 dX11_ask_0 rfl ?_
  refine z_iconst (M := M_X11_ask) 1 dX11_ask_1 ?_
  refine z_iconst (M := M_X11_ask) 2 dX11_ask_2 ?_
  refine z_sI (M := M_X11_ask) 3 dX11_ask_3 t_X11_within l_X11_112 (m_rr_of rfl) (rest := []) (c_X11_within h0 a1 0 2 G0) rfl rfl (Nat.le_of_ble_eq_true rfl) ⟨rfl, rfl⟩ (fun x1 h1 qx1 => ?_)
  obtain ⟨rfl, ⟨rfl, cx1⟩ | ⟨rfl, cx1⟩⟩ := qx1
  · refine z_if_eq_F (M := M_X11_ask) 6 dX11_ask_6 16 rfl (by omega) ?_
    refine z_aload_n (M := M_X11_ask) 9 dX11_ask_9 rfl ?_
    refine z_vI (M := M_X11_ask) 10 dX11_ask_10 t_X11_canBe l_X11_208 (m_rr_of rfl) (rest := []) (c_X11_canBe h0 G0) o_0 rfl rfl rfl (Nat.le_of_ble_eq_true rfl) ⟨rfl, rfl⟩ (fun x2 h2 qx2 => ?_)
    obtain ⟨G2, S2, ax2, bx2⟩ := qx2
    have R2 := (FR.rf (cs := (csB ++ [39, 40, 41])) (ss := []) (h := h0)).call S2 (by decide +kernel)
    refine z_if_ne (M := M_X11_ask) 13 dX11_ask_13 18 rfl (fun c3 => ?_) (fun c3 => ?_)
    · refine z_iconst (M := M_X11_ask) 18 dX11_ask_18 ?_
      refine z_istore_n (M := M_X11_ask) 19 dX11_ask_19 (ls' := [some (mR 0), some (mI a1), some (mI (-1)), none, none, none]) (by decide) rfl ?_
      refine z_iconst (M := M_X11_ask) 20 dX11_ask_20 ?_
      refine z_istore_n (M := M_X11_ask) 21 dX11_ask_21 (ls' := [some (mR 0), some (mI a1), some (mI (-1)), some (mI 0), none, none]) (by decide) rfl ?_
      refine z_iconst (M := M_X11_ask) 22 dX11_ask_22 ?_
      refine z_istore (M := M_X11_ask) 23 dX11_ask_23 (ls' := [some (mR 0), some (mI a1), some (mI (-1)), some (mI 0), some (mI 0), none]) (by decide) rfl ?_
      exact z_mask [true, true, true, true, true, false] rfl (ih (-1) 0 0 h2 G2 R2 (by omega) (by omega) (by omega) (by omega) (by omega) (by omega) (by omega) (by omega) (by omega))
    · refine z_iconst (M := M_X11_ask) 16 dX11_ask_16 ?_
      exact z_retI (M := M_X11_ask) 17 dX11_ask_17 rfl ⟨G2, R2, by omega, by omega⟩
  · refine z_if_eq_T (M := M_X11_ask) 6 dX11_ask_6 16 rfl (by omega) ?_
    refine z_iconst (M := M_X11_ask) 16 dX11_ask_16 ?_
    exact z_retI (M := M_X11_ask) 17 dX11_ask_17 rfl ⟨G0, (FR.rf (cs := (csB ++ [39, 40, 41])) (ss := []) (h := h0)), by omega, by omega⟩
abbrev P_X11_dates (h0 : m_H) (a1 a2 a3 a4 : Int) : Int → m_H → Prop := fun x h' => GI h' ∧ FR (csB ++ [39, 40, 41]) [] h0 h' ∧ (-2) ≤ x ∧ x ≤ 63
def q_X11_dates (h0 : m_H) (a1 a2 a3 a4 : Int) (n : Nat) : Prop := (∀ (l6 l7 : Int) (h : m_H), GI h → FR (csB ++ [39, 40, 41]) [] h0 h → 0 ≤ l7 → l7 ≤ 32 → 0 ≤ a1 → a1 ≤ 5 → 1 ≤ a2 → a2 ≤ 99 → 0 ≤ a3 → a3 ≤ 2 → 0 ≤ a4 → a4 ≤ 2 → 2 * (32 - l7) + (1) ≤ (n : Int) → m_Z oF M_X11_dates 59 [some (mR 0), some (mI a1), some (mI a2), some (mI a3), some (mI a4), none, some (mI l6), some (mI l7)] [] h (m_QI (P_X11_dates h0 a1 a2 a3 a4)))
set_option maxHeartbeats 4000000 in
set_option maxRecDepth 100000 in
theorem s_X11_dates_59 (h0 : m_H) (a1 a2 a3 a4 : Int) (G0 : GI h0) (n : Nat) (ih : q_X11_dates h0 a1 a2 a3 a4 n) : ∀ (l6 l7 : Int) (h : m_H), GI h → FR (csB ++ [39, 40, 41]) [] h0 h → 0 ≤ l7 → l7 ≤ 32 → 0 ≤ a1 → a1 ≤ 5 → 1 ≤ a2 → a2 ≤ 99 → 0 ≤ a3 → a3 ≤ 2 → 0 ≤ a4 → a4 ≤ 2 → 2 * (32 - l7) + (1) ≤ ((n + 1 : Nat) : Int) → m_Z oF M_X11_dates 59 [some (mR 0), some (mI a1), some (mI a2), some (mI a3), some (mI a4), none, some (mI l6), some (mI l7)] [] h (m_QI (P_X11_dates h0 a1 a2 a3 a4)) := by
  intro l6 l7 h G R v0 v1 v2 v3 v4 v5 v6 v7 v8 v9 hr
  refine z_ok (fun ostk _ olocs => ?_)
  have ol6 : m_32 l6 := olocs 6 _ rfl
  unfold m_32 at ol6
  refine z_iload (M := M_X11_dates) 59 dX11_dates_59 rfl ?_
  refine z_bipush (M := M_X11_dates) 61 dX11_dates_61 ?_
  refine z_icmp_ge (M := M_X11_dates) 63 dX11_dates_63 93 rfl (fun c1 => ?_) (fun c1 => ?_)
  · refine z_iload (M := M_X11_dates) 93 dX11_dates_93 rfl ?_
    refine z_iload (M := M_X11_dates) 95 dX11_dates_95 rfl ?_
    refine z_sI (M := M_X11_dates) 97 dX11_dates_97 t_X11_ofWeeks l_X11_326 (m_rr_of rfl) (rest := []) (c_X11_ofWeeks h l6 a4 G) rfl rfl (Nat.le_of_ble_eq_true rfl) ⟨rfl, rfl⟩ (fun x2 h1 qx2 => ?_)
    obtain ⟨G1, S1, ax2, bx2⟩ := qx2
    have R1 := R.call S1 (by decide +kernel)
    exact z_retI (M := M_X11_dates) 100 dX11_dates_100 rfl ⟨G1, R1, by omega, by omega⟩
  · refine z_aload_n (M := M_X11_dates) 66 dX11_dates_66 rfl ?_
    refine z_iload_n (M := M_X11_dates) 67 dX11_dates_67 rfl ?_
    refine z_iload (M := M_X11_dates) 68 dX11_dates_68 rfl ?_
    refine z_iload_n (M := M_X11_dates) 70 dX11_dates_70 rfl ?_
    refine z_iload_n (M := M_X11_dates) 71 dX11_dates_71 rfl ?_
    refine z_vI (M := M_X11_dates) 72 dX11_dates_72 t_X11_couldBeTold l_X11_323 (m_rr_of rfl) (rest := []) (c_X11_couldBeTold h a1 l7 a2 a3 G ⟨by omega, by omega⟩ ⟨by omega, by omega⟩) o_0 rfl rfl rfl (Nat.le_of_ble_eq_true rfl) ⟨rfl, rfl⟩ (fun x3 h2 qx3 => ?_)
    obtain ⟨G2, S2, ax3, bx3⟩ := qx3
    have R2 := R.call S2 (by decide +kernel)
    refine z_if_eq (M := M_X11_dates) 75 dX11_dates_75 87 rfl (fun c4 => ?_) (fun c4 => ?_)
    · refine z_iincN (M := M_X11_dates) 87 dX11_dates_87 (ls' := [some (mR 0), some (mI a1), some (mI a2), some (mI a3), some (mI a4), none, some (mI l6), some (mI (l7 + 1))]) (by decide) rfl (by (unfold m_32; decide)) (by omega) (by omega) rfl ?_
      refine z_goto (M := M_X11_dates) 90 dX11_dates_90 59 rfl ?_
      exact z_mask [true, true, true, true, true, false, true, true] rfl (ih l6 (l7 + 1) h2 G2 R2 (by omega) (by omega) (by omega) (by omega) (by omega) (by omega) (by omega) (by omega) (by omega) (by omega) (by omega))
    · refine z_iload (M := M_X11_dates) 78 dX11_dates_78 rfl ?_
      refine z_iconst (M := M_X11_dates) 80 dX11_dates_80 ?_
      refine z_iload (M := M_X11_dates) 81 dX11_dates_81 rfl ?_
      refine z_ishl (M := M_X11_dates) 83 dX11_dates_83 ?_
      refine z_topm (fun x5 ex5 ox5 => ?_)
      unfold m_32 at ox5
      refine z_ior (M := M_X11_dates) 84 dX11_dates_84 ?_
      refine z_topm (fun x6 ex6 ox6 => ?_)
      unfold m_32 at ox6
      refine z_istore (M := M_X11_dates) 85 dX11_dates_85 (ls' := [some (mR 0), some (mI a1), some (mI a2), some (mI a3), some (mI a4), none, some (mI x6), some (mI l7)]) (by decide) rfl ?_
      refine z_iincN (M := M_X11_dates) 87 dX11_dates_87 (ls' := [some (mR 0), some (mI a1), some (mI a2), some (mI a3), some (mI a4), none, some (mI x6), some (mI (l7 + 1))]) (by decide) rfl (by (unfold m_32; decide)) (by omega) (by omega) rfl ?_
      refine z_goto (M := M_X11_dates) 90 dX11_dates_90 59 rfl ?_
      exact z_mask [true, true, true, true, true, false, true, true] rfl (ih x6 (l7 + 1) h2 G2 R2 (by omega) (by omega) (by omega) (by omega) (by omega) (by omega) (by omega) (by omega) (by omega) (by omega) (by omega))
theorem a_X11_dates (h0 : m_H) (a1 a2 a3 a4 : Int) (G0 : GI h0) : ∀ n, q_X11_dates h0 a1 a2 a3 a4 n := by
  intro n
  induction n with
  | zero => unfold q_X11_dates; intros; omega
  | succ n ih => exact s_X11_dates_59 h0 a1 a2 a3 a4 G0 n ih
set_option maxHeartbeats 4000000 in
set_option maxRecDepth 100000 in
theorem c_X11_dates (h0 : m_H) (a1 a2 a3 a4 : Int) (G0 : GI h0) : m_CI M_X11_dates [mR 0, mI a1, mI a2, mI a3, mI a4] h0 (P_X11_dates h0 a1 a2 a3 a4) := by
  refine m_CI_of ⟨by decide, rfl, by simp [m_arg, m_isL, M_X11_dates], ⟨rfl, rfl⟩, rfl, rfl⟩ (ls := [some (mR 0), some (mI a1), some (mI a2), some (mI a3), some (mI a4), none, none, none]) rfl ?_
  have ih := a_X11_dates h0 a1 a2 a3 a4 G0 72
  refine z_ok (fun _ _ ok => ?_)
  have oa1 : m_32 a1 := ok 1 _ rfl
  unfold m_32 at oa1
  have oa2 : m_32 a2 := ok 2 _ rfl
  unfold m_32 at oa2
  have oa3 : m_32 a3 := ok 3 _ rfl
  unfold m_32 at oa3
  have oa4 : m_32 a4 := ok 4 _ rfl
  unfold m_32 at oa4
  refine z_iload_n (M := M_X11_dates) 0 dX11_dates_0 rfl ?_
  refine z_sI (M := M_X11_dates) 1 dX11_dates_1 t_X11_isThing l_X11_126 (m_rr_of rfl) (rest := []) (c_X11_isThing h0 a1 G0) rfl rfl (Nat.le_of_ble_eq_true rfl) ⟨rfl, rfl⟩ (fun x1 h1 qx1 => ?_)
  obtain ⟨rfl, ⟨rfl, cx1⟩ | ⟨rfl, cx1⟩⟩ := qx1
  · refine z_if_eq_F (M := M_X11_dates) 4 dX11_dates_4 35 rfl (by omega) ?_
    refine z_iload_n (M := M_X11_dates) 7 dX11_dates_7 rfl ?_
    refine z_sI (M := M_X11_dates) 8 dX11_dates_8 t_X11_isNumber l_X11_298 (m_rr_of rfl) (rest := []) (c_X11_isNumber h0 a2 G0) rfl rfl (Nat.le_of_ble_eq_true rfl) ⟨rfl, rfl⟩ (fun x2 h2 qx2 => ?_)
    obtain ⟨rfl, ⟨rfl, cx2⟩ | ⟨rfl, cx2⟩⟩ := qx2
    · refine z_if_eq_F (M := M_X11_dates) 11 dX11_dates_11 35 rfl (by omega) ?_
      refine z_iload_n (M := M_X11_dates) 14 dX11_dates_14 rfl ?_
      refine z_sI (M := M_X11_dates) 15 dX11_dates_15 t_X11_isKind l_X11_301 (m_rr_of rfl) (rest := []) (c_X11_isKind h0 a3 G0) rfl rfl (Nat.le_of_ble_eq_true rfl) ⟨rfl, rfl⟩ (fun x3 h3 qx3 => ?_)
      obtain ⟨rfl, ⟨rfl, cx3⟩ | ⟨rfl, cx3⟩⟩ := qx3
      · refine z_if_eq_F (M := M_X11_dates) 18 dX11_dates_18 35 rfl (by omega) ?_
        refine z_iload (M := M_X11_dates) 21 dX11_dates_21 rfl ?_
        refine z_iconst (M := M_X11_dates) 23 dX11_dates_23 ?_
        refine z_iconst (M := M_X11_dates) 24 dX11_dates_24 ?_
        refine z_sI (M := M_X11_dates) 25 dX11_dates_25 t_X11_within l_X11_112 (m_rr_of rfl) (rest := []) (c_X11_within h0 a4 0 2 G0) rfl rfl (Nat.le_of_ble_eq_true rfl) ⟨rfl, rfl⟩ (fun x4 h4 qx4 => ?_)
        obtain ⟨rfl, ⟨rfl, cx4⟩ | ⟨rfl, cx4⟩⟩ := qx4
        · refine z_if_eq_F (M := M_X11_dates) 28 dX11_dates_28 35 rfl (by omega) ?_
          refine z_iconst (M := M_X11_dates) 31 dX11_dates_31 ?_
          refine z_goto (M := M_X11_dates) 32 dX11_dates_32 36 rfl ?_
          refine z_istore (M := M_X11_dates) 36 dX11_dates_36 (ls' := [some (mR 0), some (mI a1), some (mI a2), some (mI a3), some (mI a4), some (mI 1), none, none]) (by decide) rfl ?_
          refine z_iload (M := M_X11_dates) 38 dX11_dates_38 rfl ?_
          refine z_if_eq_F (M := M_X11_dates) 40 dX11_dates_40 50 rfl (by omega) ?_
          refine z_aload_n (M := M_X11_dates) 43 dX11_dates_43 rfl ?_
          refine z_vI (M := M_X11_dates) 44 dX11_dates_44 t_X11_canBe l_X11_208 (m_rr_of rfl) (rest := []) (c_X11_canBe h0 G0) o_0 rfl rfl rfl (Nat.le_of_ble_eq_true rfl) ⟨rfl, rfl⟩ (fun x5 h5 qx5 => ?_)
          obtain ⟨G5, S5, ax5, bx5⟩ := qx5
          have R5 := (FR.rf (cs := (csB ++ [39, 40, 41])) (ss := []) (h := h0)).call S5 (by decide +kernel)
          refine z_if_ne (M := M_X11_dates) 47 dX11_dates_47 53 rfl (fun c6 => ?_) (fun c6 => ?_)
          · refine z_iconst (M := M_X11_dates) 53 dX11_dates_53 ?_
            refine z_istore (M := M_X11_dates) 54 dX11_dates_54 (ls' := [some (mR 0), some (mI a1), some (mI a2), some (mI a3), some (mI a4), some (mI 1), some (mI 0), none]) (by decide) rfl ?_
            refine z_iconst (M := M_X11_dates) 56 dX11_dates_56 ?_
            refine z_istore (M := M_X11_dates) 57 dX11_dates_57 (ls' := [some (mR 0), some (mI a1), some (mI a2), some (mI a3), some (mI a4), some (mI 1), some (mI 0), some (mI 0)]) (by decide) rfl ?_
            exact z_mask [true, true, true, true, true, false, true, true] rfl (ih 0 0 h5 G5 R5 (by omega) (by omega) (by omega) (by omega) (by omega) (by omega) (by omega) (by omega) (by omega) (by omega) (by omega))
          · refine z_bipush (M := M_X11_dates) 50 dX11_dates_50 ?_
            exact z_retI (M := M_X11_dates) 52 dX11_dates_52 rfl ⟨G5, R5, by omega, by omega⟩
        · refine z_if_eq_T (M := M_X11_dates) 28 dX11_dates_28 35 rfl (by omega) ?_
          refine z_iconst (M := M_X11_dates) 35 dX11_dates_35 ?_
          refine z_istore (M := M_X11_dates) 36 dX11_dates_36 (ls' := [some (mR 0), some (mI a1), some (mI a2), some (mI a3), some (mI a4), some (mI 0), none, none]) (by decide) rfl ?_
          refine z_iload (M := M_X11_dates) 38 dX11_dates_38 rfl ?_
          refine z_if_eq_T (M := M_X11_dates) 40 dX11_dates_40 50 rfl (by omega) ?_
          refine z_bipush (M := M_X11_dates) 50 dX11_dates_50 ?_
          exact z_retI (M := M_X11_dates) 52 dX11_dates_52 rfl ⟨G0, (FR.rf (cs := (csB ++ [39, 40, 41])) (ss := []) (h := h0)), by omega, by omega⟩
      · refine z_if_eq_T (M := M_X11_dates) 18 dX11_dates_18 35 rfl (by omega) ?_
        refine z_iconst (M := M_X11_dates) 35 dX11_dates_35 ?_
        refine z_istore (M := M_X11_dates) 36 dX11_dates_36 (ls' := [some (mR 0), some (mI a1), some (mI a2), some (mI a3), some (mI a4), some (mI 0), none, none]) (by decide) rfl ?_
        refine z_iload (M := M_X11_dates) 38 dX11_dates_38 rfl ?_
        refine z_if_eq_T (M := M_X11_dates) 40 dX11_dates_40 50 rfl (by omega) ?_
        refine z_bipush (M := M_X11_dates) 50 dX11_dates_50 ?_
        exact z_retI (M := M_X11_dates) 52 dX11_dates_52 rfl ⟨G0, (FR.rf (cs := (csB ++ [39, 40, 41])) (ss := []) (h := h0)), by omega, by omega⟩
    · refine z_if_eq_T (M := M_X11_dates) 11 dX11_dates_11 35 rfl (by omega) ?_
      refine z_iconst (M := M_X11_dates) 35 dX11_dates_35 ?_
      refine z_istore (M := M_X11_dates) 36 dX11_dates_36 (ls' := [some (mR 0), some (mI a1), some (mI a2), some (mI a3), some (mI a4), some (mI 0), none, none]) (by decide) rfl ?_
      refine z_iload (M := M_X11_dates) 38 dX11_dates_38 rfl ?_
      refine z_if_eq_T (M := M_X11_dates) 40 dX11_dates_40 50 rfl (by omega) ?_
      refine z_bipush (M := M_X11_dates) 50 dX11_dates_50 ?_
      exact z_retI (M := M_X11_dates) 52 dX11_dates_52 rfl ⟨G0, (FR.rf (cs := (csB ++ [39, 40, 41])) (ss := []) (h := h0)), by omega, by omega⟩
  · refine z_if_eq_T (M := M_X11_dates) 4 dX11_dates_4 35 rfl (by omega) ?_
    refine z_iconst (M := M_X11_dates) 35 dX11_dates_35 ?_
    refine z_istore (M := M_X11_dates) 36 dX11_dates_36 (ls' := [some (mR 0), some (mI a1), some (mI a2), some (mI a3), some (mI a4), some (mI 0), none, none]) (by decide) rfl ?_
    refine z_iload (M := M_X11_dates) 38 dX11_dates_38 rfl ?_
    refine z_if_eq_T (M := M_X11_dates) 40 dX11_dates_40 50 rfl (by omega) ?_
    refine z_bipush (M := M_X11_dates) 50 dX11_dates_50 ?_
    exact z_retI (M := M_X11_dates) 52 dX11_dates_52 rfl ⟨G0, (FR.rf (cs := (csB ++ [39, 40, 41])) (ss := []) (h := h0)), by omega, by omega⟩
abbrev P_X11_core (h0 : m_H) : Int → m_H → Prop := fun x h' => GI h' ∧ FR (csB ++ [39, 40, 41]) [] h0 h'
set_option maxHeartbeats 4000000 in
set_option maxRecDepth 100000 in
theorem c_X11_core (h0 : m_H) (G0 : GI h0) : m_CI M_X11_core [mR 0] h0 (P_X11_core h0) := by
  refine m_CI_of ⟨by decide, rfl, by simp [m_arg, m_isL, M_X11_core], ⟨rfl, rfl⟩, rfl, rfl⟩ (ls := [some (mR 0)]) rfl ?_
  refine z_aload_n (M := M_X11_core) 0 dX11_core_0 rfl ?_
  refine z_vI (M := M_X11_core) 1 dX11_core_1 t_X11_canBe l_X11_208 (m_rr_of rfl) (rest := []) (c_X11_canBe h0 G0) o_0 rfl rfl rfl (Nat.le_of_ble_eq_true rfl) ⟨rfl, rfl⟩ (fun x1 h1 qx1 => ?_)
  obtain ⟨G1, S1, ax1, bx1⟩ := qx1
  have R1 := (FR.rf (cs := (csB ++ [39, 40, 41])) (ss := []) (h := h0)).call S1 (by decide +kernel)
  refine z_if_eq (M := M_X11_core) 4 dX11_core_4 9 rfl (fun c2 => ?_) (fun c2 => ?_)
  · refine z_aload_n (M := M_X11_core) 9 dX11_core_9 rfl ?_
    refine z_getR (M := M_X11_core) 10 dX11_core_10 f_X11_46 o_0 rfl (g_0_6 G1) ?_
    refine z_aload_n (M := M_X11_core) 13 dX11_core_13 rfl ?_
    refine z_getR (M := M_X11_core) 14 dX11_core_14 f_X11_12 o_0 rfl (g_0_0 G1) ?_
    refine z_iconst (M := M_X11_core) 17 dX11_core_17 ?_
    refine z_vI (M := M_X11_core) 18 dX11_core_18 t_X9_canBe l_X11_343 (m_rr_of rfl) (rest := []) (c_X9_canBe h1 1 0 (Or.inl rfl) G1) o_38 rfl rfl rfl (Nat.le_of_ble_eq_true rfl) ⟨rfl, rfl⟩ (fun x3 h2 qx3 => ?_)
    obtain ⟨G2, S2, ax3, bx3⟩ := qx3
    have R2 := R1.call S2 (by decide +kernel)
    refine z_if_ne (M := M_X11_core) 21 dX11_core_21 26 rfl (fun c4 => ?_) (fun c4 => ?_)
    · refine z_aload_n (M := M_X11_core) 26 dX11_core_26 rfl ?_
      refine z_getR (M := M_X11_core) 27 dX11_core_27 f_X11_76 o_0 rfl (g_0_10 G2) ?_
      refine z_aload_n (M := M_X11_core) 30 dX11_core_30 rfl ?_
      refine z_getR (M := M_X11_core) 31 dX11_core_31 f_X11_12 o_0 rfl (g_0_0 G2) ?_
      refine z_aload_n (M := M_X11_core) 34 dX11_core_34 rfl ?_
      refine z_getR (M := M_X11_core) 35 dX11_core_35 f_X11_12 o_0 rfl (g_0_0 G2) ?_
      refine z_getIV (M := M_X11_core) 38 dX11_core_38 f_X11_346 o_1 (by decide) (fun x5 ex5 => ?_)
      refine z_ok (fun ox5 _ _ => ?_)
      have ox5 := ox5.1; unfold m_ok m_32 at ox5
      refine z_vI (M := M_X11_core) 41 dX11_core_41 t_X3_leaveOut l_X11_349 (m_rr_of rfl) (rest := []) (c_X3_leaveOut h2 1 x5 (Or.inl rfl) G2) o_101 rfl rfl rfl (Nat.le_of_ble_eq_true rfl) ⟨rfl, rfl⟩ (fun x6 h3 qx6 => ?_)
      obtain ⟨G3, S3⟩ := qx6
      have R3 := R2.call S3 (by decide +kernel)
      refine z_ok (fun ox6 _ _ => ?_)
      have ox6 := ox6.1; unfold m_ok m_32 at ox6
      exact z_retI (M := M_X11_core) 44 dX11_core_44 rfl ⟨G3, R3⟩
    · refine z_iconst (M := M_X11_core) 24 dX11_core_24 ?_
      exact z_retI (M := M_X11_core) 25 dX11_core_25 rfl ⟨G2, R2⟩
  · refine z_iconst (M := M_X11_core) 7 dX11_core_7 ?_
    exact z_retI (M := M_X11_core) 8 dX11_core_8 rfl ⟨G1, R1⟩
abbrev P_X11_wrong (h0 : m_H) (a1 : Int) : Int → m_H → Prop := fun x h' => GI h' ∧ FR (csB ++ [39, 40, 41]) [(101, 1), (101, 2), (101, 3)] h0 h'
set_option maxHeartbeats 4000000 in
set_option maxRecDepth 100000 in
theorem c_X11_wrong (h0 : m_H) (a1 : Int) (G0 : GI h0) : m_CI M_X11_wrong [mR 0, mI a1] h0 (P_X11_wrong h0 a1) := by
  refine m_CI_of ⟨by decide, rfl, by simp [m_arg, m_isL, M_X11_wrong], ⟨rfl, rfl⟩, rfl, rfl⟩ (ls := [some (mR 0), some (mI a1)]) rfl ?_
  refine z_ok (fun _ _ ok => ?_)
  have oa1 : m_32 a1 := ok 1 _ rfl
  unfold m_32 at oa1
  refine z_iload_n (M := M_X11_wrong) 0 dX11_wrong_0 rfl ?_
  refine z_iconst (M := M_X11_wrong) 1 dX11_wrong_1 ?_
  refine z_iconst (M := M_X11_wrong) 2 dX11_wrong_2 ?_
  refine z_sI (M := M_X11_wrong) 3 dX11_wrong_3 t_X11_within l_X11_112 (m_rr_of rfl) (rest := []) (c_X11_within h0 a1 0 2 G0) rfl rfl (Nat.le_of_ble_eq_true rfl) ⟨rfl, rfl⟩ (fun x1 h1 qx1 => ?_)
  obtain ⟨rfl, ⟨rfl, cx1⟩ | ⟨rfl, cx1⟩⟩ := qx1
  · refine z_if_eq_F (M := M_X11_wrong) 6 dX11_wrong_6 23 rfl (by omega) ?_
    refine z_aload_n (M := M_X11_wrong) 9 dX11_wrong_9 rfl ?_
    refine z_getR (M := M_X11_wrong) 10 dX11_wrong_10 f_X11_76 o_0 rfl (g_0_10 G0) ?_
    refine z_aload_n (M := M_X11_wrong) 13 dX11_wrong_13 rfl ?_
    refine z_getR (M := M_X11_wrong) 14 dX11_wrong_14 f_X11_12 o_0 rfl (g_0_0 G0) ?_
    refine z_vI (M := M_X11_wrong) 17 dX11_wrong_17 t_X3_search l_X11_353 (m_rr_of rfl) (rest := []) (c_X3_search h0 1 (Or.inl rfl) G0) o_101 rfl rfl rfl (Nat.le_of_ble_eq_true rfl) ⟨rfl, rfl⟩ (fun x2 h2 qx2 => ?_)
    obtain ⟨G2, S2, ax2, bx2⟩ := qx2
    have R2 := (FR.rf (cs := (csB ++ [39, 40, 41])) (ss := [(101, 1), (101, 2), (101, 3)]) (h := h0)).call S2 (by decide +kernel)
    refine z_if_ne (M := M_X11_wrong) 20 dX11_wrong_20 25 rfl (fun c3 => ?_) (fun c3 => ?_)
    · refine z_iload_n (M := M_X11_wrong) 25 dX11_wrong_25 rfl ?_
      refine z_if_ne (M := M_X11_wrong) 26 dX11_wrong_26 37 rfl (fun c4 => ?_) (fun c4 => ?_)
      · refine z_iload_n (M := M_X11_wrong) 37 dX11_wrong_37 rfl ?_
        refine z_iconst (M := M_X11_wrong) 38 dX11_wrong_38 ?_
        refine z_icmp_ne (M := M_X11_wrong) 39 dX11_wrong_39 52 rfl (fun c5 => ?_) (fun c5 => ?_)
        · refine z_aload_n (M := M_X11_wrong) 52 dX11_wrong_52 rfl ?_
          refine z_getR (M := M_X11_wrong) 53 dX11_wrong_53 f_X11_76 o_0 rfl (g_0_10 G2) ?_
          refine z_getIV (M := M_X11_wrong) 56 dX11_wrong_56 f_X11_363 o_101 (by decide) (fun x6 ex6 => ?_)
          refine z_ok (fun ox6 _ _ => ?_)
          have ox6 := ox6.1; unfold m_ok m_32 at ox6
          exact z_retI (M := M_X11_wrong) 59 dX11_wrong_59 rfl ⟨G2, R2⟩
        · refine z_aload_n (M := M_X11_wrong) 42 dX11_wrong_42 rfl ?_
          refine z_getR (M := M_X11_wrong) 43 dX11_wrong_43 f_X11_76 o_0 rfl (g_0_10 G2) ?_
          refine z_getIV (M := M_X11_wrong) 46 dX11_wrong_46 f_X11_360 o_101 (by decide) (fun x7 ex7 => ?_)
          refine z_ok (fun ox7 _ _ => ?_)
          have ox7 := ox7.1; unfold m_ok m_32 at ox7
          refine z_goto (M := M_X11_wrong) 49 dX11_wrong_49 59 rfl ?_
          exact z_retI (M := M_X11_wrong) 59 dX11_wrong_59 rfl ⟨G2, R2⟩
      · refine z_aload_n (M := M_X11_wrong) 29 dX11_wrong_29 rfl ?_
        refine z_getR (M := M_X11_wrong) 30 dX11_wrong_30 f_X11_76 o_0 rfl (g_0_10 G2) ?_
        refine z_getIV (M := M_X11_wrong) 33 dX11_wrong_33 f_X11_357 o_101 (by decide) (fun x8 ex8 => ?_)
        refine z_ok (fun ox8 _ _ => ?_)
        have ox8 := ox8.1; unfold m_ok m_32 at ox8
        exact z_retI (M := M_X11_wrong) 36 dX11_wrong_36 rfl ⟨G2, R2⟩
    · refine z_iconst (M := M_X11_wrong) 23 dX11_wrong_23 ?_
      exact z_retI (M := M_X11_wrong) 24 dX11_wrong_24 rfl ⟨G2, R2⟩
  · refine z_if_eq_T (M := M_X11_wrong) 6 dX11_wrong_6 23 rfl (by omega) ?_
    refine z_iconst (M := M_X11_wrong) 23 dX11_wrong_23 ?_
    exact z_retI (M := M_X11_wrong) 24 dX11_wrong_24 rfl ⟨G0, (FR.rf (cs := (csB ++ [39, 40, 41])) (ss := [(101, 1), (101, 2), (101, 3)]) (h := h0))⟩
abbrev P_X11_whose (h0 : m_H) (a1 : Int) : Int → m_H → Prop := fun x h' => GI h' ∧ FR (csB ++ [10, 11, 12, 13, 14, 15, 16, 39, 40, 41, 103, 104]) [(9, 7), (9, 8), (9, 9), (102, 3), (102, 4)] h0 h'
set_option maxHeartbeats 4000000 in
set_option maxRecDepth 100000 in
theorem c_X11_whose (h0 : m_H) (a1 : Int) (G0 : GI h0) : m_CI M_X11_whose [mR 0, mI a1] h0 (P_X11_whose h0 a1) := by
  refine m_CI_of ⟨by decide, rfl, by simp [m_arg, m_isL, M_X11_whose], ⟨rfl, rfl⟩, rfl, rfl⟩ (ls := [some (mR 0), some (mI a1)]) rfl ?_
  refine z_ok (fun _ _ ok => ?_)
  have oa1 : m_32 a1 := ok 1 _ rfl
  unfold m_32 at oa1
  refine z_iload_n (M := M_X11_whose) 0 dX11_whose_0 rfl ?_
  refine z_iconst (M := M_X11_whose) 1 dX11_whose_1 ?_
  refine z_icmp_eq (M := M_X11_whose) 2 dX11_whose_2 14 rfl (fun c1 => ?_) (fun c1 => ?_)
  · refine z_aload_n (M := M_X11_whose) 14 dX11_whose_14 rfl ?_
    refine z_getR (M := M_X11_whose) 15 dX11_whose_15 f_X11_16 o_0 rfl (g_0_1 G0) ?_
    refine z_aload_n (M := M_X11_whose) 18 dX11_whose_18 rfl ?_
    refine z_getR (M := M_X11_whose) 19 dX11_whose_19 f_X11_12 o_0 rfl (g_0_0 G0) ?_
    refine z_vV (M := M_X11_whose) 22 dX11_whose_22 t_X4_copyFrom l_X11_197 (m_rr_of rfl) (rest := []) (c_X4_copyFrom h0 9 1 (Or.inr (Or.inl rfl)) (Or.inl rfl) G0) o_9 rfl rfl rfl (Nat.le_of_ble_eq_true rfl) ⟨rfl, rfl⟩ (fun h1 qx2 => ?_)
    obtain ⟨G1, S1⟩ := qx2
    have R1 := (FR.rf (cs := (csB ++ [10, 11, 12, 13, 14, 15, 16, 39, 40, 41, 103, 104])) (ss := [(9, 7), (9, 8), (9, 9), (102, 3), (102, 4)]) (h := h0)).call S1 (by decide +kernel)
    refine z_aload_n (M := M_X11_whose) 25 dX11_whose_25 rfl ?_
    refine z_getR (M := M_X11_whose) 26 dX11_whose_26 f_X11_83 o_0 rfl (g_0_11 G1) ?_
    refine z_aload_n (M := M_X11_whose) 29 dX11_whose_29 rfl ?_
    refine z_getR (M := M_X11_whose) 30 dX11_whose_30 f_X11_16 o_0 rfl (g_0_1 G1) ?_
    refine z_vI (M := M_X11_whose) 33 dX11_whose_33 t_X6_seek l_X11_366 (m_rr_of rfl) (rest := []) (c_X6_seek h1 9 (Or.inr (Or.inl rfl)) G1) o_102 rfl rfl rfl (Nat.le_of_ble_eq_true rfl) ⟨rfl, rfl⟩ (fun x3 h2 qx3 => ?_)
    obtain ⟨G2, S2, ax3, bx3⟩ := qx3
    have R2 := R1.call S2 (by decide +kernel)
    refine z_if_ne (M := M_X11_whose) 36 dX11_whose_36 41 rfl (fun c4 => ?_) (fun c4 => ?_)
    · refine z_iload_n (M := M_X11_whose) 41 dX11_whose_41 rfl ?_
      refine z_iconst (M := M_X11_whose) 42 dX11_whose_42 ?_
      refine z_icmp_ne_F (M := M_X11_whose) 43 dX11_whose_43 56 rfl (by omega) ?_
      refine z_aload_n (M := M_X11_whose) 46 dX11_whose_46 rfl ?_
      refine z_getR (M := M_X11_whose) 47 dX11_whose_47 f_X11_83 o_0 rfl (g_0_11 G2) ?_
      refine z_getIV (M := M_X11_whose) 50 dX11_whose_50 f_X11_369 o_102 (by decide) (fun x5 ex5 => ?_)
      refine z_ok (fun ox5 _ _ => ?_)
      have ox5 := ox5.1; unfold m_ok m_32 at ox5
      refine z_goto (M := M_X11_whose) 53 dX11_whose_53 64 rfl ?_
      exact z_retI (M := M_X11_whose) 64 dX11_whose_64 rfl ⟨G2, R2⟩
    · refine z_iconst (M := M_X11_whose) 39 dX11_whose_39 ?_
      exact z_retI (M := M_X11_whose) 40 dX11_whose_40 rfl ⟨G2, R2⟩
  · refine z_iload_n (M := M_X11_whose) 5 dX11_whose_5 rfl ?_
    refine z_sI (M := M_X11_whose) 6 dX11_whose_6 t_X11_isWeek l_X11_108 (m_rr_of rfl) (rest := []) (c_X11_isWeek h0 a1 G0) rfl rfl (Nat.le_of_ble_eq_true rfl) ⟨rfl, rfl⟩ (fun x6 h3 qx6 => ?_)
    obtain ⟨rfl, ⟨rfl, cx6⟩ | ⟨rfl, cx6⟩⟩ := qx6
    · refine z_if_ne_T (M := M_X11_whose) 9 dX11_whose_9 14 rfl (by omega) ?_
      refine z_aload_n (M := M_X11_whose) 14 dX11_whose_14 rfl ?_
      refine z_getR (M := M_X11_whose) 15 dX11_whose_15 f_X11_16 o_0 rfl (g_0_1 G0) ?_
      refine z_aload_n (M := M_X11_whose) 18 dX11_whose_18 rfl ?_
      refine z_getR (M := M_X11_whose) 19 dX11_whose_19 f_X11_12 o_0 rfl (g_0_0 G0) ?_
      refine z_vV (M := M_X11_whose) 22 dX11_whose_22 t_X4_copyFrom l_X11_197 (m_rr_of rfl) (rest := []) (c_X4_copyFrom h0 9 1 (Or.inr (Or.inl rfl)) (Or.inl rfl) G0) o_9 rfl rfl rfl (Nat.le_of_ble_eq_true rfl) ⟨rfl, rfl⟩ (fun h4 qx7 => ?_)
      obtain ⟨G4, S4⟩ := qx7
      have R4 := (FR.rf (cs := (csB ++ [10, 11, 12, 13, 14, 15, 16, 39, 40, 41, 103, 104])) (ss := [(9, 7), (9, 8), (9, 9), (102, 3), (102, 4)]) (h := h0)).call S4 (by decide +kernel)
      refine z_aload_n (M := M_X11_whose) 25 dX11_whose_25 rfl ?_
      refine z_getR (M := M_X11_whose) 26 dX11_whose_26 f_X11_83 o_0 rfl (g_0_11 G4) ?_
      refine z_aload_n (M := M_X11_whose) 29 dX11_whose_29 rfl ?_
      refine z_getR (M := M_X11_whose) 30 dX11_whose_30 f_X11_16 o_0 rfl (g_0_1 G4) ?_
      refine z_vI (M := M_X11_whose) 33 dX11_whose_33 t_X6_seek l_X11_366 (m_rr_of rfl) (rest := []) (c_X6_seek h4 9 (Or.inr (Or.inl rfl)) G4) o_102 rfl rfl rfl (Nat.le_of_ble_eq_true rfl) ⟨rfl, rfl⟩ (fun x8 h5 qx8 => ?_)
      obtain ⟨G5, S5, ax8, bx8⟩ := qx8
      have R5 := R4.call S5 (by decide +kernel)
      refine z_if_ne (M := M_X11_whose) 36 dX11_whose_36 41 rfl (fun c9 => ?_) (fun c9 => ?_)
      · refine z_iload_n (M := M_X11_whose) 41 dX11_whose_41 rfl ?_
        refine z_iconst (M := M_X11_whose) 42 dX11_whose_42 ?_
        refine z_icmp_ne_T (M := M_X11_whose) 43 dX11_whose_43 56 rfl (by omega) ?_
        refine z_aload_n (M := M_X11_whose) 56 dX11_whose_56 rfl ?_
        refine z_getR (M := M_X11_whose) 57 dX11_whose_57 f_X11_83 o_0 rfl (g_0_11 G5) ?_
        refine z_iload_n (M := M_X11_whose) 60 dX11_whose_60 rfl ?_
        refine z_vI (M := M_X11_whose) 61 dX11_whose_61 t_X6_onlyKeeper l_X11_370 (m_rr_of rfl) (rest := []) (c_X6_onlyKeeper h5 a1 G5) o_102 rfl rfl rfl (Nat.le_of_ble_eq_true rfl) ⟨rfl, rfl⟩ (fun x10 h6 qx10 => ?_)
        obtain ⟨G6, S6, ax10, bx10⟩ := qx10
        have R6 := R5.call S6 (by decide +kernel)
        exact z_retI (M := M_X11_whose) 64 dX11_whose_64 rfl ⟨G6, R6⟩
      · refine z_iconst (M := M_X11_whose) 39 dX11_whose_39 ?_
        exact z_retI (M := M_X11_whose) 40 dX11_whose_40 rfl ⟨G5, R5⟩
    · refine z_if_ne_F (M := M_X11_whose) 9 dX11_whose_9 14 rfl (by omega) ?_
      refine z_iconst (M := M_X11_whose) 12 dX11_whose_12 ?_
      exact z_retI (M := M_X11_whose) 13 dX11_whose_13 rfl ⟨G0, (FR.rf (cs := (csB ++ [10, 11, 12, 13, 14, 15, 16, 39, 40, 41, 103, 104])) (ss := [(9, 7), (9, 8), (9, 9), (102, 3), (102, 4)]) (h := h0))⟩
abbrev P_X11_could (h0 : m_H) (a1 a2 : Int) : Int → m_H → Prop := fun x h' => GI h' ∧ FR (csB ++ [10, 11, 12, 13, 14, 15, 16, 39, 40, 41, 103, 104]) [(9, 7), (9, 8), (9, 9), (102, 3), (102, 4)] h0 h'
set_option maxHeartbeats 4000000 in
set_option maxRecDepth 100000 in
theorem c_X11_could (h0 : m_H) (a1 a2 : Int) (G0 : GI h0) : m_CI M_X11_could [mR 0, mI a1, mI a2] h0 (P_X11_could h0 a1 a2) := by
  refine m_CI_of ⟨by decide, rfl, by simp [m_arg, m_isL, M_X11_could], ⟨rfl, rfl⟩, rfl, rfl⟩ (ls := [some (mR 0), some (mI a1), some (mI a2)]) rfl ?_
  refine z_ok (fun _ _ ok => ?_)
  have oa1 : m_32 a1 := ok 1 _ rfl
  unfold m_32 at oa1
  have oa2 : m_32 a2 := ok 2 _ rfl
  unfold m_32 at oa2
  refine z_iload_n (M := M_X11_could) 0 dX11_could_0 rfl ?_
  refine z_sI (M := M_X11_could) 1 dX11_could_1 t_X11_isWeek l_X11_108 (m_rr_of rfl) (rest := []) (c_X11_isWeek h0 a1 G0) rfl rfl (Nat.le_of_ble_eq_true rfl) ⟨rfl, rfl⟩ (fun x1 h1 qx1 => ?_)
  obtain ⟨rfl, ⟨rfl, cx1⟩ | ⟨rfl, cx1⟩⟩ := qx1
  · refine z_if_eq_F (M := M_X11_could) 4 dX11_could_4 14 rfl (by omega) ?_
    refine z_iload_n (M := M_X11_could) 7 dX11_could_7 rfl ?_
    refine z_sI (M := M_X11_could) 8 dX11_could_8 t_X11_isKeeper l_X11_132 (m_rr_of rfl) (rest := []) (c_X11_isKeeper h0 a2 G0) rfl rfl (Nat.le_of_ble_eq_true rfl) ⟨rfl, rfl⟩ (fun x2 h2 qx2 => ?_)
    obtain ⟨rfl, ⟨rfl, cx2⟩ | ⟨rfl, cx2⟩⟩ := qx2
    · refine z_if_ne_T (M := M_X11_could) 11 dX11_could_11 16 rfl (by omega) ?_
      refine z_aload_n (M := M_X11_could) 16 dX11_could_16 rfl ?_
      refine z_getR (M := M_X11_could) 17 dX11_could_17 f_X11_16 o_0 rfl (g_0_1 G0) ?_
      refine z_aload_n (M := M_X11_could) 20 dX11_could_20 rfl ?_
      refine z_getR (M := M_X11_could) 21 dX11_could_21 f_X11_12 o_0 rfl (g_0_0 G0) ?_
      refine z_vV (M := M_X11_could) 24 dX11_could_24 t_X4_copyFrom l_X11_197 (m_rr_of rfl) (rest := []) (c_X4_copyFrom h0 9 1 (Or.inr (Or.inl rfl)) (Or.inl rfl) G0) o_9 rfl rfl rfl (Nat.le_of_ble_eq_true rfl) ⟨rfl, rfl⟩ (fun h3 qx3 => ?_)
      obtain ⟨G3, S3⟩ := qx3
      have R3 := (FR.rf (cs := (csB ++ [10, 11, 12, 13, 14, 15, 16, 39, 40, 41, 103, 104])) (ss := [(9, 7), (9, 8), (9, 9), (102, 3), (102, 4)]) (h := h0)).call S3 (by decide +kernel)
      refine z_aload_n (M := M_X11_could) 27 dX11_could_27 rfl ?_
      refine z_getR (M := M_X11_could) 28 dX11_could_28 f_X11_83 o_0 rfl (g_0_11 G3) ?_
      refine z_aload_n (M := M_X11_could) 31 dX11_could_31 rfl ?_
      refine z_getR (M := M_X11_could) 32 dX11_could_32 f_X11_16 o_0 rfl (g_0_1 G3) ?_
      refine z_vI (M := M_X11_could) 35 dX11_could_35 t_X6_seek l_X11_366 (m_rr_of rfl) (rest := []) (c_X6_seek h3 9 (Or.inr (Or.inl rfl)) G3) o_102 rfl rfl rfl (Nat.le_of_ble_eq_true rfl) ⟨rfl, rfl⟩ (fun x4 h4 qx4 => ?_)
      obtain ⟨G4, S4, ax4, bx4⟩ := qx4
      have R4 := R3.call S4 (by decide +kernel)
      refine z_if_ne (M := M_X11_could) 38 dX11_could_38 43 rfl (fun c5 => ?_) (fun c5 => ?_)
      · refine z_aload_n (M := M_X11_could) 43 dX11_could_43 rfl ?_
        refine z_getR (M := M_X11_could) 44 dX11_could_44 f_X11_83 o_0 rfl (g_0_11 G4) ?_
        refine z_iload_n (M := M_X11_could) 47 dX11_could_47 rfl ?_
        refine z_iload_n (M := M_X11_could) 48 dX11_could_48 rfl ?_
        refine z_vI (M := M_X11_could) 49 dX11_could_49 t_X6_waysWith l_X11_373 (m_rr_of rfl) (rest := []) (c_X6_waysWith h4 a1 a2 G4 ⟨by omega, by omega⟩) o_102 rfl rfl rfl (Nat.le_of_ble_eq_true rfl) ⟨rfl, rfl⟩ (fun x6 h5 qx6 => ?_)
        obtain ⟨G5, S5⟩ := qx6
        have R5 := R4.call S5 (by decide +kernel)
        refine z_ok (fun ox6 _ _ => ?_)
        have ox6 := ox6.1; unfold m_ok m_32 at ox6
        exact z_retI (M := M_X11_could) 52 dX11_could_52 rfl ⟨G5, R5⟩
      · refine z_iconst (M := M_X11_could) 41 dX11_could_41 ?_
        exact z_retI (M := M_X11_could) 42 dX11_could_42 rfl ⟨G4, R4⟩
    · refine z_if_ne_F (M := M_X11_could) 11 dX11_could_11 16 rfl (by omega) ?_
      refine z_iconst (M := M_X11_could) 14 dX11_could_14 ?_
      exact z_retI (M := M_X11_could) 15 dX11_could_15 rfl ⟨G0, (FR.rf (cs := (csB ++ [10, 11, 12, 13, 14, 15, 16, 39, 40, 41, 103, 104])) (ss := [(9, 7), (9, 8), (9, 9), (102, 3), (102, 4)]) (h := h0))⟩
  · refine z_if_eq_T (M := M_X11_could) 4 dX11_could_4 14 rfl (by omega) ?_
    refine z_iconst (M := M_X11_could) 14 dX11_could_14 ?_
    exact z_retI (M := M_X11_could) 15 dX11_could_15 rfl ⟨G0, (FR.rf (cs := (csB ++ [10, 11, 12, 13, 14, 15, 16, 39, 40, 41, 103, 104])) (ss := [(9, 7), (9, 8), (9, 9), (102, 3), (102, 4)]) (h := h0))⟩
abbrev P_X11_when (h0 : m_H) (a1 a2 : Int) : Int → m_H → Prop := fun x h' => GI h' ∧ FR (csB ++ [10, 11, 12, 13, 14, 15, 16, 39, 40, 41]) [(9, 7), (9, 8), (9, 9)] h0 h' ∧ (-1) ≤ x ∧ x ≤ 63
def q_X11_when (h0 : m_H) (a1 a2 : Int) (n : Nat) : Prop := (∀ (l3 l4 : Int) (h : m_H), GI h → FR (csB ++ [10, 11, 12, 13, 14, 15, 16, 39, 40, 41]) [(9, 7), (9, 8), (9, 9)] h0 h → 1 ≤ l4 → l4 ≤ 32 → 0 ≤ a1 → a1 ≤ 5 → 0 ≤ a2 → a2 ≤ 2 → 2 * (32 - l4) + (1) ≤ (n : Int) → m_Z oF M_X11_when 47 [some (mR 0), some (mI a1), some (mI a2), some (mI l3), some (mI l4)] [] h (m_QI (P_X11_when h0 a1 a2)))
set_option maxHeartbeats 4000000 in
set_option maxRecDepth 100000 in
theorem s_X11_when_47 (h0 : m_H) (a1 a2 : Int) (G0 : GI h0) (n : Nat) (ih : q_X11_when h0 a1 a2 n) : ∀ (l3 l4 : Int) (h : m_H), GI h → FR (csB ++ [10, 11, 12, 13, 14, 15, 16, 39, 40, 41]) [(9, 7), (9, 8), (9, 9)] h0 h → 1 ≤ l4 → l4 ≤ 32 → 0 ≤ a1 → a1 ≤ 5 → 0 ≤ a2 → a2 ≤ 2 → 2 * (32 - l4) + (1) ≤ ((n + 1 : Nat) : Int) → m_Z oF M_X11_when 47 [some (mR 0), some (mI a1), some (mI a2), some (mI l3), some (mI l4)] [] h (m_QI (P_X11_when h0 a1 a2)) := by
  intro l3 l4 h G R v0 v1 v2 v3 v4 v5 hr
  refine z_ok (fun ostk _ olocs => ?_)
  have ol3 : m_32 l3 := olocs 3 _ rfl
  unfold m_32 at ol3
  refine z_iload (M := M_X11_when) 47 dX11_when_47 rfl ?_
  refine z_bipush (M := M_X11_when) 49 dX11_when_49 ?_
  refine z_icmp_ge (M := M_X11_when) 51 dX11_when_51 99 rfl (fun c1 => ?_) (fun c1 => ?_)
  · refine z_iload_n (M := M_X11_when) 99 dX11_when_99 rfl ?_
    refine z_iload_n (M := M_X11_when) 100 dX11_when_100 rfl ?_
    refine z_sI (M := M_X11_when) 101 dX11_when_101 t_X11_ofWeeks l_X11_326 (m_rr_of rfl) (rest := []) (c_X11_ofWeeks h l3 a2 G) rfl rfl (Nat.le_of_ble_eq_true rfl) ⟨rfl, rfl⟩ (fun x2 h1 qx2 => ?_)
    obtain ⟨G1, S1, ax2, bx2⟩ := qx2
    have R1 := R.call S1 (by decide +kernel)
    exact z_retI (M := M_X11_when) 104 dX11_when_104 rfl ⟨G1, R1, by omega, by omega⟩
  · refine z_aload_n (M := M_X11_when) 54 dX11_when_54 rfl ?_
    refine z_getR (M := M_X11_when) 55 dX11_when_55 f_X11_16 o_0 rfl (g_0_1 G) ?_
    refine z_getR (M := M_X11_when) 58 dX11_when_58 f_X11_129 o_9 rfl (g_9_1 G) ?_
    refine z_iload_n (M := M_X11_when) 61 dX11_when_61 rfl ?_
    refine z_iload (M := M_X11_when) 62 dX11_when_62 rfl ?_
    refine z_iastH (M := M_X11_when) 64 dX11_when_64 o_11 (by omega) (by omega) (u_11 G (by omega) (by omega)) (R.up rfl) (fun h2 E2 G2 R2 => ?_)
    refine z_aload_n (M := M_X11_when) 65 dX11_when_65 rfl ?_
    refine z_getR (M := M_X11_when) 66 dX11_when_66 f_X11_46 o_0 rfl (g_0_6 G2) ?_
    refine z_aload_n (M := M_X11_when) 69 dX11_when_69 rfl ?_
    refine z_getR (M := M_X11_when) 70 dX11_when_70 f_X11_16 o_0 rfl (g_0_1 G2) ?_
    refine z_aload_n (M := M_X11_when) 73 dX11_when_73 rfl ?_
    refine z_getR (M := M_X11_when) 74 dX11_when_74 f_X11_16 o_0 rfl (g_0_1 G2) ?_
    refine z_getIV (M := M_X11_when) 77 dX11_when_77 f_X11_346 o_9 (by decide) (fun x3 ex3 => ?_)
    refine z_ok (fun ox3 _ _ => ?_)
    have ox3 := ox3.1; unfold m_ok m_32 at ox3
    refine z_vI (M := M_X11_when) 80 dX11_when_80 t_X9_canBe l_X11_343 (m_rr_of rfl) (rest := []) (c_X9_canBe h2 9 x3 (Or.inr (Or.inl rfl)) G2) o_38 rfl rfl rfl (Nat.le_of_ble_eq_true rfl) ⟨rfl, rfl⟩ (fun x4 h3 qx4 => ?_)
    obtain ⟨G3, S3, ax4, bx4⟩ := qx4
    have R3 := R2.call S3 (by decide +kernel)
    refine z_if_eq (M := M_X11_when) 83 dX11_when_83 93 rfl (fun c5 => ?_) (fun c5 => ?_)
    · refine z_iincN (M := M_X11_when) 93 dX11_when_93 (ls' := [some (mR 0), some (mI a1), some (mI a2), some (mI l3), some (mI (l4 + 1))]) (by decide) rfl (by (unfold m_32; decide)) (by omega) (by omega) rfl ?_
      refine z_goto (M := M_X11_when) 96 dX11_when_96 47 rfl ?_
      exact z_mask [true, true, true, true, true] rfl (ih l3 (l4 + 1) h3 G3 R3 (by omega) (by omega) (by omega) (by omega) (by omega) (by omega) (by omega))
    · refine z_iload_n (M := M_X11_when) 86 dX11_when_86 rfl ?_
      refine z_iconst (M := M_X11_when) 87 dX11_when_87 ?_
      refine z_iload (M := M_X11_when) 88 dX11_when_88 rfl ?_
      refine z_ishl (M := M_X11_when) 90 dX11_when_90 ?_
      refine z_topm (fun x6 ex6 ox6 => ?_)
      unfold m_32 at ox6
      refine z_ior (M := M_X11_when) 91 dX11_when_91 ?_
      refine z_topm (fun x7 ex7 ox7 => ?_)
      unfold m_32 at ox7
      refine z_istore_n (M := M_X11_when) 92 dX11_when_92 (ls' := [some (mR 0), some (mI a1), some (mI a2), some (mI x7), some (mI l4)]) (by decide) rfl ?_
      refine z_iincN (M := M_X11_when) 93 dX11_when_93 (ls' := [some (mR 0), some (mI a1), some (mI a2), some (mI x7), some (mI (l4 + 1))]) (by decide) rfl (by (unfold m_32; decide)) (by omega) (by omega) rfl ?_
      refine z_goto (M := M_X11_when) 96 dX11_when_96 47 rfl ?_
      exact z_mask [true, true, true, true, true] rfl (ih x7 (l4 + 1) h3 G3 R3 (by omega) (by omega) (by omega) (by omega) (by omega) (by omega) (by omega))
theorem a_X11_when (h0 : m_H) (a1 a2 : Int) (G0 : GI h0) : ∀ n, q_X11_when h0 a1 a2 n := by
  intro n
  induction n with
  | zero => unfold q_X11_when; intros; omega
  | succ n ih => exact s_X11_when_47 h0 a1 a2 G0 n ih
set_option maxHeartbeats 4000000 in
set_option maxRecDepth 100000 in
theorem c_X11_when (h0 : m_H) (a1 a2 : Int) (G0 : GI h0) : m_CI M_X11_when [mR 0, mI a1, mI a2] h0 (P_X11_when h0 a1 a2) := by
  refine m_CI_of ⟨by decide, rfl, by simp [m_arg, m_isL, M_X11_when], ⟨rfl, rfl⟩, rfl, rfl⟩ (ls := [some (mR 0), some (mI a1), some (mI a2), none, none]) rfl ?_
  have ih := a_X11_when h0 a1 a2 G0 70
  refine z_ok (fun _ _ ok => ?_)
  have oa1 : m_32 a1 := ok 1 _ rfl
  unfold m_32 at oa1
  have oa2 : m_32 a2 := ok 2 _ rfl
  unfold m_32 at oa2
  refine z_iload_n (M := M_X11_when) 0 dX11_when_0 rfl ?_
  refine z_sI (M := M_X11_when) 1 dX11_when_1 t_X11_isThing l_X11_126 (m_rr_of rfl) (rest := []) (c_X11_isThing h0 a1 G0) rfl rfl (Nat.le_of_ble_eq_true rfl) ⟨rfl, rfl⟩ (fun x1 h1 qx1 => ?_)
  obtain ⟨rfl, ⟨rfl, cx1⟩ | ⟨rfl, cx1⟩⟩ := qx1
  · refine z_if_eq_F (M := M_X11_when) 4 dX11_when_4 29 rfl (by omega) ?_
    refine z_iload_n (M := M_X11_when) 7 dX11_when_7 rfl ?_
    refine z_iconst (M := M_X11_when) 8 dX11_when_8 ?_
    refine z_iconst (M := M_X11_when) 9 dX11_when_9 ?_
    refine z_sI (M := M_X11_when) 10 dX11_when_10 t_X11_within l_X11_112 (m_rr_of rfl) (rest := []) (c_X11_within h0 a2 0 2 G0) rfl rfl (Nat.le_of_ble_eq_true rfl) ⟨rfl, rfl⟩ (fun x2 h2 qx2 => ?_)
    obtain ⟨rfl, ⟨rfl, cx2⟩ | ⟨rfl, cx2⟩⟩ := qx2
    · refine z_if_eq_F (M := M_X11_when) 13 dX11_when_13 29 rfl (by omega) ?_
      refine z_aload_n (M := M_X11_when) 16 dX11_when_16 rfl ?_
      refine z_getR (M := M_X11_when) 17 dX11_when_17 f_X11_12 o_0 rfl (g_0_0 G0) ?_
      refine z_getR (M := M_X11_when) 20 dX11_when_20 f_X11_129 o_1 rfl (g_1_1 G0) ?_
      refine z_iload_n (M := M_X11_when) 23 dX11_when_23 rfl ?_
      refine z_ialdG (M := M_X11_when) 24 dX11_when_24 o_3 (by omega) (by omega) (g_3 G0 (by omega)) (fun x3 ex3 ax3 bx3 => ?_)
      refine z_iconst (M := M_X11_when) 25 dX11_when_25 ?_
      refine z_icmp_eq (M := M_X11_when) 26 dX11_when_26 31 rfl (fun c4 => ?_) (fun c4 => ?_)
      · refine z_aload_n (M := M_X11_when) 31 dX11_when_31 rfl ?_
        refine z_getR (M := M_X11_when) 32 dX11_when_32 f_X11_16 o_0 rfl (g_0_1 G0) ?_
        refine z_aload_n (M := M_X11_when) 35 dX11_when_35 rfl ?_
        refine z_getR (M := M_X11_when) 36 dX11_when_36 f_X11_12 o_0 rfl (g_0_0 G0) ?_
        refine z_vV (M := M_X11_when) 39 dX11_when_39 t_X4_copyFrom l_X11_197 (m_rr_of rfl) (rest := []) (c_X4_copyFrom h0 9 1 (Or.inr (Or.inl rfl)) (Or.inl rfl) G0) o_9 rfl rfl rfl (Nat.le_of_ble_eq_true rfl) ⟨rfl, rfl⟩ (fun h3 qx5 => ?_)
        obtain ⟨G3, S3⟩ := qx5
        have R3 := (FR.rf (cs := (csB ++ [10, 11, 12, 13, 14, 15, 16, 39, 40, 41])) (ss := [(9, 7), (9, 8), (9, 9)]) (h := h0)).call S3 (by decide +kernel)
        refine z_iconst (M := M_X11_when) 42 dX11_when_42 ?_
        refine z_istore_n (M := M_X11_when) 43 dX11_when_43 (ls' := [some (mR 0), some (mI a1), some (mI a2), some (mI 0), none]) (by decide) rfl ?_
        refine z_iconst (M := M_X11_when) 44 dX11_when_44 ?_
        refine z_istore (M := M_X11_when) 45 dX11_when_45 (ls' := [some (mR 0), some (mI a1), some (mI a2), some (mI 0), some (mI 1)]) (by decide) rfl ?_
        exact z_mask [true, true, true, true, true] rfl (ih 0 1 h3 G3 R3 (by omega) (by omega) (by omega) (by omega) (by omega) (by omega) (by omega))
      · refine z_iconst (M := M_X11_when) 29 dX11_when_29 ?_
        exact z_retI (M := M_X11_when) 30 dX11_when_30 rfl ⟨G0, (FR.rf (cs := (csB ++ [10, 11, 12, 13, 14, 15, 16, 39, 40, 41])) (ss := [(9, 7), (9, 8), (9, 9)]) (h := h0)), by omega, by omega⟩
    · refine z_if_eq_T (M := M_X11_when) 13 dX11_when_13 29 rfl (by omega) ?_
      refine z_iconst (M := M_X11_when) 29 dX11_when_29 ?_
      exact z_retI (M := M_X11_when) 30 dX11_when_30 rfl ⟨G0, (FR.rf (cs := (csB ++ [10, 11, 12, 13, 14, 15, 16, 39, 40, 41])) (ss := [(9, 7), (9, 8), (9, 9)]) (h := h0)), by omega, by omega⟩
  · refine z_if_eq_T (M := M_X11_when) 4 dX11_when_4 29 rfl (by omega) ?_
    refine z_iconst (M := M_X11_when) 29 dX11_when_29 ?_
    exact z_retI (M := M_X11_when) 30 dX11_when_30 rfl ⟨G0, (FR.rf (cs := (csB ++ [10, 11, 12, 13, 14, 15, 16, 39, 40, 41])) (ss := [(9, 7), (9, 8), (9, 9)]) (h := h0)), by omega, by omega⟩
