abbrev P_X6_seek (h0 : m_H) (L : Nat) : Int → m_H → Prop := fun x h' => GI h' ∧ FR (csB ++ [39, 40, 41, 103, 104, (L + 1)]) [(102, 3), (102, 4)] h0 h' ∧ 0 ≤ x ∧ x ≤ 1
def q_X6_seek (h0 : m_H) (L : Nat) (n : Nat) : Prop := (∀ (l2 l3 : Int) (h : m_H), GI h → FR (csB ++ [39, 40, 41, 103, 104, (L + 1)]) [(102, 3), (102, 4)] h0 h → 0 ≤ l3 → l3 ≤ 2147483647 → 11 * (2147483647 - l3) + (10) ≤ (n : Int) → m_Z oF M_X6_seek 34 [some (mR 102), some (mR L), some (mI l2), some (mI l3), none] [] h (m_QI (P_X6_seek h0 L))) ∧ (∀ (l2 l3 l4 : Int) (h : m_H), GI h → FR (csB ++ [39, 40, 41, 103, 104, (L + 1)]) [(102, 3), (102, 4)] h0 h → 1 ≤ l2 → l2 ≤ 2147483647 → 0 ≤ l3 → l3 ≤ 2147483646 → 0 ≤ l4 → l4 ≤ 3 → 11 * (2147483647 - l3) + 2 * (3 - l4) + (1) ≤ (n : Int) → m_Z oF M_X6_seek 42 [some (mR 102), some (mR L), some (mI l2), some (mI l3), some (mI l4)] [] h (m_QI (P_X6_seek h0 L)))
set_option maxHeartbeats 4000000 in
set_option maxRecDepth 100000 in
theorem s_X6_seek_34 (h0 : m_H) (L : Nat) (hL : isL L) (G0 : GI h0) (n : Nat) (ih : q_X6_seek h0 L n) : ∀ (l2 l3 : Int) (h : m_H), GI h → FR (csB ++ [39, 40, 41, 103, 104, (L + 1)]) [(102, 3), (102, 4)] h0 h → 0 ≤ l3 → l3 ≤ 2147483647 → 11 * (2147483647 - l3) + (10) ≤ ((n + 1 : Nat) : Int) → m_Z oF M_X6_seek 34 [some (mR 102), some (mR L), some (mI l2), some (mI l3), none] [] h (m_QI (P_X6_seek h0 L)) := by
  intro l2 l3 h G R v0 v1 hr
  refine z_ok (fun ostk _ olocs => ?_)
  have ol2 : m_32 l2 := olocs 2 _ rfl
  unfold m_32 at ol2
  refine z_iload_n (M := M_X6_seek) 34 dX6_seek_34 rfl ?_
  refine z_iload_n (M := M_X6_seek) 35 dX6_seek_35 rfl ?_
  refine z_icmp_ge (M := M_X6_seek) 36 dX6_seek_36 101 rfl (fun c1 => ?_) (fun c1 => ?_)
  · refine z_iconst (M := M_X6_seek) 101 dX6_seek_101 ?_
    exact z_retZ (M := M_X6_seek) 102 dX6_seek_102 rfl (by omega) ⟨G, R, by omega, by omega⟩
  · refine z_iconst (M := M_X6_seek) 39 dX6_seek_39 ?_
    refine z_istore (M := M_X6_seek) 40 dX6_seek_40 (ls' := [some (mR 102), some (mR L), some (mI l2), some (mI l3), some (mI 0)]) (by decide) rfl ?_
    exact z_mask [true, true, true, true, true] rfl (ih.2 l2 l3 0 h G R (by omega) (by omega) (by omega) (by omega) (by omega) (by omega) (by omega))
set_option maxHeartbeats 4000000 in
set_option maxRecDepth 100000 in
theorem s_X6_seek_42 (h0 : m_H) (L : Nat) (hL : isL L) (G0 : GI h0) (n : Nat) (ih : q_X6_seek h0 L n) : ∀ (l2 l3 l4 : Int) (h : m_H), GI h → FR (csB ++ [39, 40, 41, 103, 104, (L + 1)]) [(102, 3), (102, 4)] h0 h → 1 ≤ l2 → l2 ≤ 2147483647 → 0 ≤ l3 → l3 ≤ 2147483646 → 0 ≤ l4 → l4 ≤ 3 → 11 * (2147483647 - l3) + 2 * (3 - l4) + (1) ≤ ((n + 1 : Nat) : Int) → m_Z oF M_X6_seek 42 [some (mR 102), some (mR L), some (mI l2), some (mI l3), some (mI l4)] [] h (m_QI (P_X6_seek h0 L)) := by
  intro l2 l3 l4 h G R v0 v1 v2 v3 v4 v5 hr
  refine z_iload (M := M_X6_seek) 42 dX6_seek_42 rfl ?_
  refine z_aload_n (M := M_X6_seek) 44 dX6_seek_44 rfl ?_
  refine z_getIG (M := M_X6_seek) 45 dX6_seek_45 f_X6_36 o_102 (by decide) (g_102_3 G) (fun x1 ex1 ax1 bx1 => ?_)
  refine z_icmp_ge (M := M_X6_seek) 48 dX6_seek_48 75 rfl (fun c2 => ?_) (fun c2 => ?_)
  · refine z_aload_n (M := M_X6_seek) 75 dX6_seek_75 rfl ?_
    refine z_getR (M := M_X6_seek) 76 dX6_seek_76 f_X6_18 o_102 rfl (g_102_0 G) ?_
    refine z_aload_n (M := M_X6_seek) 79 dX6_seek_79 rfl ?_
    refine z_aload_n (M := M_X6_seek) 80 dX6_seek_80 rfl ?_
    refine z_getIV (M := M_X6_seek) 81 dX6_seek_81 f_X6_48 (oL hL) (by decide) (fun x3 ex3 => ?_)
    refine z_ok (fun ox3 _ _ => ?_)
    have ox3 := ox3.1; unfold m_ok m_32 at ox3
    refine z_vI (M := M_X6_seek) 84 dX6_seek_84 t_X9_canBe l_X6_51 (m_rr_of rfl) (rest := []) (c_X9_canBe h L x3 hL G) o_38 rfl rfl rfl (Nat.le_of_ble_eq_true rfl) ⟨rfl, rfl⟩ (fun x4 h1 qx4 => ?_)
    obtain ⟨G1, S1, ax4, bx4⟩ := qx4
    have R1 := R.call S1 (by simp [fsub, fr, csB])
    refine z_if_eq (M := M_X6_seek) 87 dX6_seek_87 95 rfl (fun c5 => ?_) (fun c5 => ?_)
    · refine z_iincN (M := M_X6_seek) 95 dX6_seek_95 (ls' := [some (mR 102), some (mR L), some (mI l2), some (mI (l3 + 1)), some (mI l4)]) (by decide) rfl (by (unfold m_32; decide)) (by omega) (by omega) rfl ?_
      refine z_goto (M := M_X6_seek) 98 dX6_seek_98 34 rfl ?_
      exact z_mask [true, true, true, true, false] rfl (ih.1 l2 (l3 + 1) h1 G1 R1 (by omega) (by omega) (by omega))
    · refine z_aload_n (M := M_X6_seek) 90 dX6_seek_90 rfl ?_
      refine z_iload_n (M := M_X6_seek) 91 dX6_seek_91 rfl ?_
      refine z_vV (M := M_X6_seek) 92 dX6_seek_92 t_X6_note l_X6_57 (m_rr_of rfl) (rest := []) (c_X6_note h1 l3 G1) o_102 rfl rfl rfl (Nat.le_of_ble_eq_true rfl) ⟨rfl, rfl⟩ (fun h2 qx6 => ?_)
      obtain ⟨G2, S2⟩ := qx6
      have R2 := R1.call S2 (by simp [fsub, fr, csB])
      refine z_iincN (M := M_X6_seek) 95 dX6_seek_95 (ls' := [some (mR 102), some (mR L), some (mI l2), some (mI (l3 + 1)), some (mI l4)]) (by decide) rfl (by (unfold m_32; decide)) (by omega) (by omega) rfl ?_
      refine z_goto (M := M_X6_seek) 98 dX6_seek_98 34 rfl ?_
      exact z_mask [true, true, true, true, false] rfl (ih.1 l2 (l3 + 1) h2 G2 R2 (by omega) (by omega) (by omega))
  · refine z_aload_n (M := M_X6_seek) 51 dX6_seek_51 rfl ?_
    refine z_getR (M := M_X6_seek) 52 dX6_seek_52 f_X6_39 (oL hL) rfl (rL_0 hL G) ?_
    refine z_aload_n (M := M_X6_seek) 55 dX6_seek_55 rfl ?_
    refine z_getR (M := M_X6_seek) 56 dX6_seek_56 f_X6_9 o_102 rfl (g_102_1 G) ?_
    refine z_iload (M := M_X6_seek) 59 dX6_seek_59 rfl ?_
    refine z_ialdG (M := M_X6_seek) 61 dX6_seek_61 o_103 (by omega) (by omega) (g_103 G (by omega)) (fun x7 ex7 ax7 bx7 => ?_)
    refine z_iload_n (M := M_X6_seek) 62 dX6_seek_62 rfl ?_
    refine z_iload (M := M_X6_seek) 63 dX6_seek_63 rfl ?_
    refine z_sI (M := M_X6_seek) 65 dX6_seek_65 t_X6_keeperBy l_X6_44 (m_rr_of rfl) (rest := [mI x7, mR (L + 1)]) (c_X6_keeperBy h l3 l4 G) rfl rfl (Nat.le_of_ble_eq_true rfl) ⟨rfl, rfl⟩ (fun x8 h3 qx8 => ?_)
    obtain ⟨G3, S3, ax8, bx8⟩ := qx8
    have R3 := R.call S3 (by simp [fsub, fr, csB])
    refine z_iastH (M := M_X6_seek) 68 dX6_seek_68 (oL_1 hL) (by omega) (by omega) (uL_1 hL G3 (by omega) (by omega)) (R3.up (by simp [fr])) (fun h4 E4 G4 R4 => ?_)
    refine z_iincN (M := M_X6_seek) 69 dX6_seek_69 (ls' := [some (mR 102), some (mR L), some (mI l2), some (mI l3), some (mI (l4 + 1))]) (by decide) rfl (by (unfold m_32; decide)) (by omega) (by omega) rfl ?_
    refine z_goto (M := M_X6_seek) 72 dX6_seek_72 42 rfl ?_
    exact z_mask [true, true, true, true, true] rfl (ih.2 l2 l3 (l4 + 1) h4 G4 R4 (by omega) (by omega) (by omega) (by omega) (by omega) (by omega) (by omega))
theorem a_X6_seek (h0 : m_H) (L : Nat) (hL : isL L) (G0 : GI h0) : ∀ n, q_X6_seek h0 L n := by
  intro n
  induction n with
  | zero => unfold q_X6_seek; refine ⟨?_, ?_⟩ <;> (intros; omega)
  | succ n ih => exact ⟨s_X6_seek_34 h0 L hL G0 n ih, s_X6_seek_42 h0 L hL G0 n ih⟩
set_option maxHeartbeats 4000000 in
set_option maxRecDepth 100000 in
theorem c_X6_seek (h0 : m_H) (L : Nat) (hL : isL L) (G0 : GI h0) : m_CI M_X6_seek [mR 102, mR L] h0 (P_X6_seek h0 L) := by
  refine m_CI_of ⟨by decide, rfl, by simp [m_arg, m_isL, M_X6_seek], ⟨rfl, rfl⟩, rfl, rfl⟩ (ls := [some (mR 102), some (mR L), none, none, none]) rfl ?_
  have ih := a_X6_seek h0 L hL G0 23622320134
  refine z_aload_n (M := M_X6_seek) 0 dX6_seek_0 rfl ?_
  refine z_iconst (M := M_X6_seek) 1 dX6_seek_1 ?_
  refine z_putIH (M := M_X6_seek) 2 dX6_seek_2 p_X6_22 o_102 rfl (u_102_4 G0) ((FR.rf (cs := (csB ++ [39, 40, 41, 103, 104, (L + 1)])) (ss := [(102, 3), (102, 4)]) (h := h0)).up (by simp [fr, csB])) (fun h1 E1 G1 R1 => ?_)
  refine z_aload_n (M := M_X6_seek) 5 dX6_seek_5 rfl ?_
  refine z_getR (M := M_X6_seek) 6 dX6_seek_6 f_X6_15 o_102 rfl (g_102_2 G1) ?_
  refine z_iconst (M := M_X6_seek) 9 dX6_seek_9 ?_
  refine z_sV (M := M_X6_seek) 10 dX6_seek_10 t_J7_fill_53178 l_X6_26 (m_rr_of rfl) (rest := []) (c_J7_fill_104 h1 0 G1) rfl rfl (Nat.le_of_ble_eq_true rfl) ⟨rfl, rfl⟩ (fun h2 qx1 => ?_)
  obtain ⟨G2, S2⟩ := qx1
  have R2 := R1.call S2 (by simp [fsub, fr, csB])
  refine z_aload_n (M := M_X6_seek) 13 dX6_seek_13 rfl ?_
  refine z_aload_n (M := M_X6_seek) 14 dX6_seek_14 rfl ?_
  refine z_vI (M := M_X6_seek) 15 dX6_seek_15 t_X6_gather l_X6_32 (m_rr_of rfl) (rest := []) (c_X6_gather h2 L hL G2) o_102 rfl rfl rfl (Nat.le_of_ble_eq_true rfl) ⟨rfl, rfl⟩ (fun x2 h3 qx2 => ?_)
  obtain ⟨G3, S3, ax2, bx2⟩ := qx2
  have R3 := R2.call S3 (by simp [fsub, fr, csB])
  refine z_if_ne (M := M_X6_seek) 18 dX6_seek_18 23 rfl (fun c3 => ?_) (fun c3 => ?_)
  · refine z_iconst (M := M_X6_seek) 23 dX6_seek_23 ?_
    refine z_iconst (M := M_X6_seek) 24 dX6_seek_24 ?_
    refine z_aload_n (M := M_X6_seek) 25 dX6_seek_25 rfl ?_
    refine z_getIG (M := M_X6_seek) 26 dX6_seek_26 f_X6_36 o_102 (by decide) (g_102_3 G3) (fun x4 ex4 ax4 bx4 => ?_)
    refine z_imulN (M := M_X6_seek) 29 dX6_seek_29 (by omega) (by omega) ?_
    refine z_ishl (M := M_X6_seek) 30 dX6_seek_30 ?_
    refine z_topm (fun x5 ex5 ox5 => ?_)
    unfold m_32 at ox5
    refine z_istore_n (M := M_X6_seek) 31 dX6_seek_31 (ls' := [some (mR 102), some (mR L), some (mI x5), none, none]) (by decide) rfl ?_
    refine z_iconst (M := M_X6_seek) 32 dX6_seek_32 ?_
    refine z_istore_n (M := M_X6_seek) 33 dX6_seek_33 (ls' := [some (mR 102), some (mR L), some (mI x5), some (mI 0), none]) (by decide) rfl ?_
    exact z_mask [true, true, true, true, false] rfl (ih.1 x5 0 h3 G3 R3 (by omega) (by omega) (by omega))
  · refine z_iconst (M := M_X6_seek) 21 dX6_seek_21 ?_
    exact z_retZ (M := M_X6_seek) 22 dX6_seek_22 rfl (by omega) ⟨G3, R3, by omega, by omega⟩
abbrev P_X11_canBe (h0 : m_H) : Int → m_H → Prop := fun x h' => GI h' ∧ FR (csB ++ [39, 40, 41]) [] h0 h' ∧ 0 ≤ x ∧ x ≤ 1
set_option maxHeartbeats 4000000 in
set_option maxRecDepth 100000 in
theorem c_X11_canBe (h0 : m_H) (G0 : GI h0) : m_CI M_X11_canBe [mR 0] h0 (P_X11_canBe h0) := by
  refine m_CI_of ⟨by decide, rfl, by simp [m_arg, m_isL, M_X11_canBe], ⟨rfl, rfl⟩, rfl, rfl⟩ (ls := [some (mR 0)]) rfl ?_
  refine z_aload_n (M := M_X11_canBe) 0 dX11_canBe_0 rfl ?_
  refine z_getR (M := M_X11_canBe) 1 dX11_canBe_1 f_X11_46 o_0 rfl (g_0_6 G0) ?_
  refine z_aload_n (M := M_X11_canBe) 4 dX11_canBe_4 rfl ?_
  refine z_getR (M := M_X11_canBe) 5 dX11_canBe_5 f_X11_12 o_0 rfl (g_0_0 G0) ?_
  refine z_aload_n (M := M_X11_canBe) 8 dX11_canBe_8 rfl ?_
  refine z_getR (M := M_X11_canBe) 9 dX11_canBe_9 f_X11_12 o_0 rfl (g_0_0 G0) ?_
  refine z_getIV (M := M_X11_canBe) 12 dX11_canBe_12 f_X11_346 o_1 (by decide) (fun x1 ex1 => ?_)
  refine z_ok (fun ox1 _ _ => ?_)
  have ox1 := ox1.1; unfold m_ok m_32 at ox1
  refine z_vI (M := M_X11_canBe) 15 dX11_canBe_15 t_X9_canBe l_X11_343 (m_rr_of rfl) (rest := []) (c_X9_canBe h0 1 x1 (Or.inl rfl) G0) o_38 rfl rfl rfl (Nat.le_of_ble_eq_true rfl) ⟨rfl, rfl⟩ (fun x2 h1 qx2 => ?_)
  obtain ⟨G1, S1, ax2, bx2⟩ := qx2
  have R1 := (FR.rf (cs := (csB ++ [39, 40, 41])) (ss := []) (h := h0)).call S1 (by decide +kernel)
  exact z_retZ (M := M_X11_canBe) 18 dX11_canBe_18 rfl (by omega) ⟨G1, R1, by omega, by omega⟩
abbrev P_X11_isMeasured (h0 : m_H) (a1 : Int) : Int → m_H → Prop := fun x h' => h0 = h' ∧ ((x = 1 ∧ (0 ≤ a1 ∧ a1 ≤ 11 ∧ (a1 < 6 ∨ h0 (1 + 2) (a1 - 6).toNat ≠ -1))) ∨ (x = 0 ∧ ¬ (0 ≤ a1 ∧ a1 ≤ 11 ∧ (a1 < 6 ∨ h0 (1 + 2) (a1 - 6).toNat ≠ -1))))
set_option maxHeartbeats 4000000 in
set_option maxRecDepth 100000 in
theorem c_X11_isMeasured (h0 : m_H) (a1 : Int) (G0 : GI h0) : m_CI M_X11_isMeasured [mR 0, mI a1] h0 (P_X11_isMeasured h0 a1) := by
  refine m_CI_of ⟨by decide, rfl, by simp [m_arg, m_isL, M_X11_isMeasured], ⟨rfl, rfl⟩, rfl, rfl⟩ (ls := [some (mR 0), some (mI a1)]) rfl ?_
  refine z_ok (fun _ _ ok => ?_)
  have oa1 : m_32 a1 := ok 1 _ rfl
  unfold m_32 at oa1
  refine z_iload_n (M := M_X11_isMeasured) 0 dX11_isMeasured_0 rfl ?_
  refine z_bipush (M := M_X11_isMeasured) 1 dX11_isMeasured_1 ?_
  refine z_icmp_ge (M := M_X11_isMeasured) 3 dX11_isMeasured_3 21 rfl (fun c1 => ?_) (fun c1 => ?_)
  · refine z_iconst (M := M_X11_isMeasured) 21 dX11_isMeasured_21 ?_
    exact z_retZ (M := M_X11_isMeasured) 22 dX11_isMeasured_22 rfl (by omega) ⟨rfl, by omega⟩
  · refine z_aload_n (M := M_X11_isMeasured) 6 dX11_isMeasured_6 rfl ?_
    refine z_getR (M := M_X11_isMeasured) 7 dX11_isMeasured_7 f_X11_12 o_0 rfl (g_0_0 G0) ?_
    refine z_iload_n (M := M_X11_isMeasured) 10 dX11_isMeasured_10 rfl ?_
    refine z_vI (M := M_X11_isMeasured) 11 dX11_isMeasured_11 t_X4_isThere l_X11_329 (m_rr_of rfl) (rest := []) (c_X4_isThere h0 1 a1 (Or.inl rfl) G0) o_1 rfl rfl rfl (Nat.le_of_ble_eq_true rfl) ⟨rfl, rfl⟩ (fun x2 h1 qx2 => ?_)
    obtain ⟨rfl, ⟨rfl, cx2⟩ | ⟨rfl, cx2⟩⟩ := qx2
    · refine z_if_eq_F (M := M_X11_isMeasured) 14 dX11_isMeasured_14 21 rfl (by omega) ?_
      refine z_iconst (M := M_X11_isMeasured) 17 dX11_isMeasured_17 ?_
      refine z_goto (M := M_X11_isMeasured) 18 dX11_isMeasured_18 22 rfl ?_
      exact z_retZ (M := M_X11_isMeasured) 22 dX11_isMeasured_22 rfl (by omega) ⟨rfl, by omega⟩
    · refine z_if_eq_T (M := M_X11_isMeasured) 14 dX11_isMeasured_14 21 rfl (by omega) ?_
      refine z_iconst (M := M_X11_isMeasured) 21 dX11_isMeasured_21 ?_
      exact z_retZ (M := M_X11_isMeasured) 22 dX11_isMeasured_22 rfl (by omega) ⟨rfl, by omega⟩
abbrev P_X11_compare (h0 : m_H) (a1 a2 : Int) : Int → m_H → Prop := fun x h' => GI h' ∧ FR (csB ++ [39, 40, 41]) [] h0 h' ∧ 0 ≤ x ∧ x ≤ 1
set_option maxHeartbeats 4000000 in
set_option maxRecDepth 100000 in
theorem c_X11_compare (h0 : m_H) (a1 a2 : Int) (G0 : GI h0) : m_CI M_X11_compare [mR 0, mI a1, mI a2] h0 (P_X11_compare h0 a1 a2) := by
  refine m_CI_of ⟨by decide, rfl, by simp [m_arg, m_isL, M_X11_compare], ⟨rfl, rfl⟩, rfl, rfl⟩ (ls := [some (mR 0), some (mI a1), some (mI a2)]) rfl ?_
  refine z_ok (fun _ _ ok => ?_)
  have oa1 : m_32 a1 := ok 1 _ rfl
  unfold m_32 at oa1
  have oa2 : m_32 a2 := ok 2 _ rfl
  unfold m_32 at oa2
  refine z_aload_n (M := M_X11_compare) 0 dX11_compare_0 rfl ?_
  refine z_getR (M := M_X11_compare) 1 dX11_compare_1 f_X11_12 o_0 rfl (g_0_0 G0) ?_
  refine z_iload_n (M := M_X11_compare) 4 dX11_compare_4 rfl ?_
  refine z_vI (M := M_X11_compare) 5 dX11_compare_5 t_X4_isThere l_X11_329 (m_rr_of rfl) (rest := []) (c_X4_isThere h0 1 a1 (Or.inl rfl) G0) o_1 rfl rfl rfl (Nat.le_of_ble_eq_true rfl) ⟨rfl, rfl⟩ (fun x1 h1 qx1 => ?_)
  obtain ⟨rfl, ⟨rfl, cx1⟩ | ⟨rfl, cx1⟩⟩ := qx1
  · refine z_if_eq_F (M := M_X11_compare) 8 dX11_compare_8 29 rfl (by omega) ?_
    refine z_aload_n (M := M_X11_compare) 11 dX11_compare_11 rfl ?_
    refine z_getR (M := M_X11_compare) 12 dX11_compare_12 f_X11_12 o_0 rfl (g_0_0 G0) ?_
    refine z_iload_n (M := M_X11_compare) 15 dX11_compare_15 rfl ?_
    refine z_vI (M := M_X11_compare) 16 dX11_compare_16 t_X4_isThere l_X11_329 (m_rr_of rfl) (rest := []) (c_X4_isThere h0 1 a2 (Or.inl rfl) G0) o_1 rfl rfl rfl (Nat.le_of_ble_eq_true rfl) ⟨rfl, rfl⟩ (fun x2 h2 qx2 => ?_)
    obtain ⟨rfl, ⟨rfl, cx2⟩ | ⟨rfl, cx2⟩⟩ := qx2
    · refine z_if_eq_F (M := M_X11_compare) 19 dX11_compare_19 29 rfl (by omega) ?_
      refine z_aload_n (M := M_X11_compare) 22 dX11_compare_22 rfl ?_
      refine z_vI (M := M_X11_compare) 23 dX11_compare_23 t_X11_canBe l_X11_208 (m_rr_of rfl) (rest := []) (c_X11_canBe h0 G0) o_0 rfl rfl rfl (Nat.le_of_ble_eq_true rfl) ⟨rfl, rfl⟩ (fun x3 h3 qx3 => ?_)
      obtain ⟨G3, S3, ax3, bx3⟩ := qx3
      have R3 := (FR.rf (cs := (csB ++ [39, 40, 41])) (ss := []) (h := h0)).call S3 (by decide +kernel)
      refine z_if_ne (M := M_X11_compare) 26 dX11_compare_26 31 rfl (fun c4 => ?_) (fun c4 => ?_)
      · refine z_aload_n (M := M_X11_compare) 31 dX11_compare_31 rfl ?_
        refine z_getR (M := M_X11_compare) 32 dX11_compare_32 f_X11_53 o_0 rfl (g_0_7 G3) ?_
        refine z_aload_n (M := M_X11_compare) 35 dX11_compare_35 rfl ?_
        refine z_getR (M := M_X11_compare) 36 dX11_compare_36 f_X11_46 o_0 rfl (g_0_6 G3) ?_
        refine z_iload_n (M := M_X11_compare) 39 dX11_compare_39 rfl ?_
        refine z_iload_n (M := M_X11_compare) 40 dX11_compare_40 rfl ?_
        refine z_vV (M := M_X11_compare) 41 dX11_compare_41 t_X7_measure l_X11_427 (m_rr_of rfl) (rest := []) (c_X7_measure h3 a1 a2 G3 ⟨by omega, by omega⟩ ⟨by omega, by omega⟩) o_93 rfl rfl rfl (Nat.le_of_ble_eq_true rfl) ⟨rfl, rfl⟩ (fun h4 qx5 => ?_)
        obtain ⟨G4, S4⟩ := qx5
        have R4 := R3.call S4 (by decide +kernel)
        refine z_iconst (M := M_X11_compare) 44 dX11_compare_44 ?_
        exact z_retZ (M := M_X11_compare) 45 dX11_compare_45 rfl (by omega) ⟨G4, R4, by omega, by omega⟩
      · refine z_iconst (M := M_X11_compare) 29 dX11_compare_29 ?_
        exact z_retZ (M := M_X11_compare) 30 dX11_compare_30 rfl (by omega) ⟨G3, R3, by omega, by omega⟩
    · refine z_if_eq_T (M := M_X11_compare) 19 dX11_compare_19 29 rfl (by omega) ?_
      refine z_iconst (M := M_X11_compare) 29 dX11_compare_29 ?_
      exact z_retZ (M := M_X11_compare) 30 dX11_compare_30 rfl (by omega) ⟨G0, (FR.rf (cs := (csB ++ [39, 40, 41])) (ss := []) (h := h0)), by omega, by omega⟩
  · refine z_if_eq_T (M := M_X11_compare) 8 dX11_compare_8 29 rfl (by omega) ?_
    refine z_iconst (M := M_X11_compare) 29 dX11_compare_29 ?_
    exact z_retZ (M := M_X11_compare) 30 dX11_compare_30 rfl (by omega) ⟨G0, (FR.rf (cs := (csB ++ [39, 40, 41])) (ss := []) (h := h0)), by omega, by omega⟩
abbrev P_X11_compareToFoot (h0 : m_H) (a1 a2 : Int) : Int → m_H → Prop := fun x h' => GI h' ∧ FR (csB ++ [39, 40, 41]) [] h0 h' ∧ 0 ≤ x ∧ x ≤ 1
set_option maxHeartbeats 4000000 in
set_option maxRecDepth 100000 in
theorem c_X11_compareToFoot (h0 : m_H) (a1 a2 : Int) (G0 : GI h0) : m_CI M_X11_compareToFoot [mR 0, mI a1, mI a2] h0 (P_X11_compareToFoot h0 a1 a2) := by
  refine m_CI_of ⟨by decide, rfl, by simp [m_arg, m_isL, M_X11_compareToFoot], ⟨rfl, rfl⟩, rfl, rfl⟩ (ls := [some (mR 0), some (mI a1), some (mI a2)]) rfl ?_
  refine z_ok (fun _ _ ok => ?_)
  have oa1 : m_32 a1 := ok 1 _ rfl
  unfold m_32 at oa1
  have oa2 : m_32 a2 := ok 2 _ rfl
  unfold m_32 at oa2
  refine z_aload_n (M := M_X11_compareToFoot) 0 dX11_compareToFoot_0 rfl ?_
  refine z_iload_n (M := M_X11_compareToFoot) 1 dX11_compareToFoot_1 rfl ?_
  refine z_vI (M := M_X11_compareToFoot) 2 dX11_compareToFoot_2 t_X11_isMeasured l_X11_278 (m_rr_of rfl) (rest := []) (c_X11_isMeasured h0 a1 G0) o_0 rfl rfl rfl (Nat.le_of_ble_eq_true rfl) ⟨rfl, rfl⟩ (fun x1 h1 qx1 => ?_)
  obtain ⟨rfl, ⟨rfl, cx1⟩ | ⟨rfl, cx1⟩⟩ := qx1
  · refine z_if_eq_F (M := M_X11_compareToFoot) 5 dX11_compareToFoot_5 22 rfl (by omega) ?_
    refine z_iload_n (M := M_X11_compareToFoot) 8 dX11_compareToFoot_8 rfl ?_
    refine z_sI (M := M_X11_compareToFoot) 9 dX11_compareToFoot_9 t_X11_isKeeper l_X11_132 (m_rr_of rfl) (rest := []) (c_X11_isKeeper h0 a2 G0) rfl rfl (Nat.le_of_ble_eq_true rfl) ⟨rfl, rfl⟩ (fun x2 h2 qx2 => ?_)
    obtain ⟨rfl, ⟨rfl, cx2⟩ | ⟨rfl, cx2⟩⟩ := qx2
    · refine z_if_eq_F (M := M_X11_compareToFoot) 12 dX11_compareToFoot_12 22 rfl (by omega) ?_
      refine z_aload_n (M := M_X11_compareToFoot) 15 dX11_compareToFoot_15 rfl ?_
      refine z_vI (M := M_X11_compareToFoot) 16 dX11_compareToFoot_16 t_X11_canBe l_X11_208 (m_rr_of rfl) (rest := []) (c_X11_canBe h0 G0) o_0 rfl rfl rfl (Nat.le_of_ble_eq_true rfl) ⟨rfl, rfl⟩ (fun x3 h3 qx3 => ?_)
      obtain ⟨G3, S3, ax3, bx3⟩ := qx3
      have R3 := (FR.rf (cs := (csB ++ [39, 40, 41])) (ss := []) (h := h0)).call S3 (by decide +kernel)
      refine z_if_ne (M := M_X11_compareToFoot) 19 dX11_compareToFoot_19 24 rfl (fun c4 => ?_) (fun c4 => ?_)
      · refine z_aload_n (M := M_X11_compareToFoot) 24 dX11_compareToFoot_24 rfl ?_
        refine z_getR (M := M_X11_compareToFoot) 25 dX11_compareToFoot_25 f_X11_53 o_0 rfl (g_0_7 G3) ?_
        refine z_aload_n (M := M_X11_compareToFoot) 28 dX11_compareToFoot_28 rfl ?_
        refine z_getR (M := M_X11_compareToFoot) 29 dX11_compareToFoot_29 f_X11_46 o_0 rfl (g_0_6 G3) ?_
        refine z_iload_n (M := M_X11_compareToFoot) 32 dX11_compareToFoot_32 rfl ?_
        refine z_bipush (M := M_X11_compareToFoot) 33 dX11_compareToFoot_33 ?_
        refine z_iload_n (M := M_X11_compareToFoot) 35 dX11_compareToFoot_35 rfl ?_
        refine z_iaddN (M := M_X11_compareToFoot) 36 dX11_compareToFoot_36 (by omega) (by omega) ?_
        refine z_vV (M := M_X11_compareToFoot) 37 dX11_compareToFoot_37 t_X7_measure l_X11_427 (m_rr_of rfl) (rest := []) (c_X7_measure h3 a1 (12 + a2) G3 ⟨by omega, by omega⟩ ⟨by omega, by omega⟩) o_93 rfl rfl rfl (Nat.le_of_ble_eq_true rfl) ⟨rfl, rfl⟩ (fun h4 qx5 => ?_)
        obtain ⟨G4, S4⟩ := qx5
        have R4 := R3.call S4 (by decide +kernel)
        refine z_iconst (M := M_X11_compareToFoot) 40 dX11_compareToFoot_40 ?_
        exact z_retZ (M := M_X11_compareToFoot) 41 dX11_compareToFoot_41 rfl (by omega) ⟨G4, R4, by omega, by omega⟩
      · refine z_iconst (M := M_X11_compareToFoot) 22 dX11_compareToFoot_22 ?_
        exact z_retZ (M := M_X11_compareToFoot) 23 dX11_compareToFoot_23 rfl (by omega) ⟨G3, R3, by omega, by omega⟩
    · refine z_if_eq_T (M := M_X11_compareToFoot) 12 dX11_compareToFoot_12 22 rfl (by omega) ?_
      refine z_iconst (M := M_X11_compareToFoot) 22 dX11_compareToFoot_22 ?_
      exact z_retZ (M := M_X11_compareToFoot) 23 dX11_compareToFoot_23 rfl (by omega) ⟨G0, (FR.rf (cs := (csB ++ [39, 40, 41])) (ss := []) (h := h0)), by omega, by omega⟩
  · refine z_if_eq_T (M := M_X11_compareToFoot) 5 dX11_compareToFoot_5 22 rfl (by omega) ?_
    refine z_iconst (M := M_X11_compareToFoot) 22 dX11_compareToFoot_22 ?_
    exact z_retZ (M := M_X11_compareToFoot) 23 dX11_compareToFoot_23 rfl (by omega) ⟨G0, (FR.rf (cs := (csB ++ [39, 40, 41])) (ss := []) (h := h0)), by omega, by omega⟩
abbrev P_X11_addFeet (h0 : m_H) (a1 a2 a3 : Int) : m_H → Prop := fun h' => GI h' ∧ FR (csB ++ [97, 98]) [(96, 2), (96, 3), (96, 4)] h0 h'
set_option maxHeartbeats 4000000 in
set_option maxRecDepth 100000 in
theorem c_X11_addFeet (h0 : m_H) (a1 a2 a3 : Int) (G0 : GI h0) (pa1 : 0 ≤ a1 ∧ a1 ≤ 11) (pa2 : 0 ≤ a2 ∧ a2 ≤ 3) : m_CV M_X11_addFeet [mR 0, mI a1, mI a2, mI a3] h0 (P_X11_addFeet h0 a1 a2 a3) := by
  refine m_CV_of ⟨by decide, rfl, by simp [m_arg, m_isL, M_X11_addFeet], ⟨rfl, rfl⟩, rfl, rfl⟩ (ls := [some (mR 0), some (mI a1), some (mI a2), some (mI a3)]) rfl ?_
  refine z_ok (fun _ _ ok => ?_)
  have oa3 : m_32 a3 := ok 3 _ rfl
  unfold m_32 at oa3
  refine z_aload_n (M := M_X11_addFeet) 0 dX11_addFeet_0 rfl ?_
  refine z_getR (M := M_X11_addFeet) 1 dX11_addFeet_1 f_X11_53 o_0 rfl (g_0_7 G0) ?_
  refine z_aload_n (M := M_X11_addFeet) 4 dX11_addFeet_4 rfl ?_
  refine z_getR (M := M_X11_addFeet) 5 dX11_addFeet_5 f_X11_46 o_0 rfl (g_0_6 G0) ?_
  refine z_iload_n (M := M_X11_addFeet) 8 dX11_addFeet_8 rfl ?_
  refine z_bipush (M := M_X11_addFeet) 9 dX11_addFeet_9 ?_
  refine z_iload_n (M := M_X11_addFeet) 11 dX11_addFeet_11 rfl ?_
  refine z_iaddN (M := M_X11_addFeet) 12 dX11_addFeet_12 (by omega) (by omega) ?_
  refine z_vV (M := M_X11_addFeet) 13 dX11_addFeet_13 t_X7_measure l_X11_427 (m_rr_of rfl) (rest := []) (c_X7_measure h0 a1 (12 + a2) G0 ⟨by omega, by omega⟩ ⟨by omega, by omega⟩) o_93 rfl rfl rfl (Nat.le_of_ble_eq_true rfl) ⟨rfl, rfl⟩ (fun h1 qx1 => ?_)
  obtain ⟨G1, S1⟩ := qx1
  have R1 := (FR.rf (cs := (csB ++ [97, 98])) (ss := [(96, 2), (96, 3), (96, 4)]) (h := h0)).call S1 (by decide +kernel)
  refine z_iload_n (M := M_X11_addFeet) 16 dX11_addFeet_16 rfl ?_
  refine z_if_ne (M := M_X11_addFeet) 17 dX11_addFeet_17 51 rfl (fun c2 => ?_) (fun c2 => ?_)
  · refine z_aload_n (M := M_X11_addFeet) 51 dX11_addFeet_51 rfl ?_
    refine z_getR (M := M_X11_addFeet) 52 dX11_addFeet_52 f_X11_60 o_0 rfl (g_0_8 G1) ?_
    refine z_aload_n (M := M_X11_addFeet) 55 dX11_addFeet_55 rfl ?_
    refine z_getR (M := M_X11_addFeet) 56 dX11_addFeet_56 f_X11_53 o_0 rfl (g_0_7 G1) ?_
    refine z_getR (M := M_X11_addFeet) 59 dX11_addFeet_59 f_X11_237 o_93 rfl (g_93_1 G1) ?_
    refine z_getJV (M := M_X11_addFeet) 62 dX11_addFeet_62 f_X11_264 o_95 rfl (fun x3 ex3 => ?_)
    refine z_aload_n (M := M_X11_addFeet) 65 dX11_addFeet_65 rfl ?_
    refine z_getR (M := M_X11_addFeet) 66 dX11_addFeet_66 f_X11_53 o_0 rfl (g_0_7 G1) ?_
    refine z_getR (M := M_X11_addFeet) 69 dX11_addFeet_69 f_X11_237 o_93 rfl (g_93_1 G1) ?_
    refine z_getJV (M := M_X11_addFeet) 72 dX11_addFeet_72 f_X11_268 o_95 rfl (fun x4 ex4 => ?_)
    refine z_aload_n (M := M_X11_addFeet) 75 dX11_addFeet_75 rfl ?_
    refine z_getR (M := M_X11_addFeet) 76 dX11_addFeet_76 f_X11_53 o_0 rfl (g_0_7 G1) ?_
    refine z_getR (M := M_X11_addFeet) 79 dX11_addFeet_79 f_X11_237 o_93 rfl (g_93_1 G1) ?_
    refine z_getIG (M := M_X11_addFeet) 82 dX11_addFeet_82 f_X11_231 o_95 (by decide) (g_95_2 G1) (fun x5 ex5 ax5 bx5 => ?_)
    refine z_vV (M := M_X11_addFeet) 85 dX11_addFeet_85 t_X10_add l_X11_431 (m_rr_of rfl) (rest := []) (c_X10_add h1 x3 x4 x5 G1 ⟨by omega, by omega⟩) o_96 rfl rfl rfl (Nat.le_of_ble_eq_true rfl) ⟨rfl, rfl⟩ (fun h2 qx6 => ?_)
    obtain ⟨G2, S2⟩ := qx6
    have R2 := R1.call S2 (by decide +kernel)
    exact z_retV (M := M_X11_addFeet) 88 dX11_addFeet_88 rfl ⟨G2, R2⟩
  · refine z_aload_n (M := M_X11_addFeet) 20 dX11_addFeet_20 rfl ?_
    refine z_getR (M := M_X11_addFeet) 21 dX11_addFeet_21 f_X11_60 o_0 rfl (g_0_8 G1) ?_
    refine z_aload_n (M := M_X11_addFeet) 24 dX11_addFeet_24 rfl ?_
    refine z_getR (M := M_X11_addFeet) 25 dX11_addFeet_25 f_X11_53 o_0 rfl (g_0_7 G1) ?_
    refine z_getR (M := M_X11_addFeet) 28 dX11_addFeet_28 f_X11_227 o_93 rfl (g_93_0 G1) ?_
    refine z_getJV (M := M_X11_addFeet) 31 dX11_addFeet_31 f_X11_268 o_94 rfl (fun x7 ex7 => ?_)
    refine z_aload_n (M := M_X11_addFeet) 34 dX11_addFeet_34 rfl ?_
    refine z_getR (M := M_X11_addFeet) 35 dX11_addFeet_35 f_X11_53 o_0 rfl (g_0_7 G1) ?_
    refine z_getR (M := M_X11_addFeet) 38 dX11_addFeet_38 f_X11_227 o_93 rfl (g_93_0 G1) ?_
    refine z_getJV (M := M_X11_addFeet) 41 dX11_addFeet_41 f_X11_264 o_94 rfl (fun x8 ex8 => ?_)
    refine z_iconst (M := M_X11_addFeet) 44 dX11_addFeet_44 ?_
    refine z_vV (M := M_X11_addFeet) 45 dX11_addFeet_45 t_X10_add l_X11_431 (m_rr_of rfl) (rest := []) (c_X10_add h1 x7 x8 0 G1 ⟨by omega, by omega⟩) o_96 rfl rfl rfl (Nat.le_of_ble_eq_true rfl) ⟨rfl, rfl⟩ (fun h3 qx9 => ?_)
    obtain ⟨G3, S3⟩ := qx9
    have R3 := R1.call S3 (by decide +kernel)
    refine z_goto (M := M_X11_addFeet) 48 dX11_addFeet_48 88 rfl ?_
    exact z_retV (M := M_X11_addFeet) 88 dX11_addFeet_88 rfl ⟨G3, R3⟩
abbrev P_X11_manyWholes (h0 : m_H) (a1 a2 : Int) : Int → m_H → Prop := fun x h' => GI h' ∧ FR (csB ++ []) [] h0 h' ∧ (-1) ≤ x ∧ x ≤ 2147483647
set_option maxHeartbeats 4000000 in
set_option maxRecDepth 100000 in
theorem c_X11_manyWholes (h0 : m_H) (a1 a2 : Int) (G0 : GI h0) (pa1 : 0 ≤ a1 ∧ a1 ≤ 11) (pa2 : 0 ≤ a2 ∧ a2 ≤ 3) : m_CI M_X11_manyWholes [mR 0, mI a1, mI a2] h0 (P_X11_manyWholes h0 a1 a2) := by
  refine m_CI_of ⟨by decide, rfl, by simp [m_arg, m_isL, M_X11_manyWholes], ⟨rfl, rfl⟩, rfl, rfl⟩ (ls := [some (mR 0), some (mI a1), some (mI a2)]) rfl ?_
  refine z_aload_n (M := M_X11_manyWholes) 0 dX11_manyWholes_0 rfl ?_
  refine z_getR (M := M_X11_manyWholes) 1 dX11_manyWholes_1 f_X11_12 o_0 rfl (g_0_0 G0) ?_
  refine z_iload_n (M := M_X11_manyWholes) 4 dX11_manyWholes_4 rfl ?_
  refine z_vI (M := M_X11_manyWholes) 5 dX11_manyWholes_5 t_X4_isThere l_X11_329 (m_rr_of rfl) (rest := []) (c_X4_isThere h0 1 a1 (Or.inl rfl) G0) o_1 rfl rfl rfl (Nat.le_of_ble_eq_true rfl) ⟨rfl, rfl⟩ (fun x1 h1 qx1 => ?_)
  obtain ⟨rfl, ⟨rfl, cx1⟩ | ⟨rfl, cx1⟩⟩ := qx1
  · refine z_if_ne_T (M := M_X11_manyWholes) 8 dX11_manyWholes_8 13 rfl (by omega) ?_
    refine z_aload_n (M := M_X11_manyWholes) 13 dX11_manyWholes_13 rfl ?_
    refine z_getR (M := M_X11_manyWholes) 14 dX11_manyWholes_14 f_X11_53 o_0 rfl (g_0_7 G0) ?_
    refine z_aload_n (M := M_X11_manyWholes) 17 dX11_manyWholes_17 rfl ?_
    refine z_getR (M := M_X11_manyWholes) 18 dX11_manyWholes_18 f_X11_46 o_0 rfl (g_0_6 G0) ?_
    refine z_iload_n (M := M_X11_manyWholes) 21 dX11_manyWholes_21 rfl ?_
    refine z_bipush (M := M_X11_manyWholes) 22 dX11_manyWholes_22 ?_
    refine z_iload_n (M := M_X11_manyWholes) 24 dX11_manyWholes_24 rfl ?_
    refine z_iaddN (M := M_X11_manyWholes) 25 dX11_manyWholes_25 (by omega) (by omega) ?_
    refine z_vV (M := M_X11_manyWholes) 26 dX11_manyWholes_26 t_X7_measure l_X11_427 (m_rr_of rfl) (rest := []) (c_X7_measure h0 a1 (12 + a2) G0 ⟨by omega, by omega⟩ ⟨by omega, by omega⟩) o_93 rfl rfl rfl (Nat.le_of_ble_eq_true rfl) ⟨rfl, rfl⟩ (fun h2 qx2 => ?_)
    obtain ⟨G2, S2⟩ := qx2
    have R2 := (FR.rf (cs := (csB ++ [])) (ss := []) (h := h0)).call S2 (by decide +kernel)
    refine z_aload_n (M := M_X11_manyWholes) 29 dX11_manyWholes_29 rfl ?_
    refine z_getR (M := M_X11_manyWholes) 30 dX11_manyWholes_30 f_X11_53 o_0 rfl (g_0_7 G2) ?_
    refine z_iconst (M := M_X11_manyWholes) 33 dX11_manyWholes_33 ?_
    refine z_vI (M := M_X11_manyWholes) 34 dX11_manyWholes_34 t_X7_manyNumbers l_X11_310 (m_rr_of rfl) (rest := []) (c_X7_manyNumbers h2 1 G2) o_93 rfl rfl rfl (Nat.le_of_ble_eq_true rfl) ⟨rfl, rfl⟩ (fun x3 h3 qx3 => ?_)
    obtain ⟨G3, S3, ax3, bx3⟩ := qx3
    have R3 := R2.call S3 (by decide +kernel)
    exact z_retI (M := M_X11_manyWholes) 37 dX11_manyWholes_37 rfl ⟨G3, R3, by omega, by omega⟩
  · refine z_if_ne_F (M := M_X11_manyWholes) 8 dX11_manyWholes_8 13 rfl (by omega) ?_
    refine z_iconst (M := M_X11_manyWholes) 11 dX11_manyWholes_11 ?_
    exact z_retI (M := M_X11_manyWholes) 12 dX11_manyWholes_12 rfl ⟨G0, (FR.rf (cs := (csB ++ [])) (ss := []) (h := h0)), by omega, by omega⟩
abbrev P_X11_couldBeTold (h0 : m_H) (a1 a2 a3 a4 : Int) : Int → m_H → Prop := fun x h' => GI h' ∧ FR (csB ++ []) [] h0 h' ∧ 0 ≤ x ∧ x ≤ 1
set_option maxHeartbeats 4000000 in
set_option maxRecDepth 100000 in
theorem c_X11_couldBeTold (h0 : m_H) (a1 a2 a3 a4 : Int) (G0 : GI h0) (pa1 : 0 ≤ a1 ∧ a1 ≤ 5) (pa2 : 0 ≤ a2 ∧ a2 ≤ 31) : m_CI M_X11_couldBeTold [mR 0, mI a1, mI a2, mI a3, mI a4] h0 (P_X11_couldBeTold h0 a1 a2 a3 a4) := by
  refine m_CI_of ⟨by decide, rfl, by simp [m_arg, m_isL, M_X11_couldBeTold], ⟨rfl, rfl⟩, rfl, rfl⟩ (ls := [some (mR 0), some (mI a1), some (mI a2), some (mI a3), some (mI a4), none]) rfl ?_
  refine z_ok (fun _ _ ok => ?_)
  have oa3 : m_32 a3 := ok 3 _ rfl
  unfold m_32 at oa3
  have oa4 : m_32 a4 := ok 4 _ rfl
  unfold m_32 at oa4
  refine z_aload_n (M := M_X11_couldBeTold) 0 dX11_couldBeTold_0 rfl ?_
  refine z_getR (M := M_X11_couldBeTold) 1 dX11_couldBeTold_1 f_X11_12 o_0 rfl (g_0_0 G0) ?_
  refine z_getR (M := M_X11_couldBeTold) 4 dX11_couldBeTold_4 f_X11_120 o_1 rfl (g_1_0 G0) ?_
  refine z_iload_n (M := M_X11_couldBeTold) 7 dX11_couldBeTold_7 rfl ?_
  refine z_ialdG (M := M_X11_couldBeTold) 8 dX11_couldBeTold_8 o_2 (by omega) (by omega) (g_2 G0 (by omega)) (fun x1 ex1 ax1 bx1 => ?_)
  refine z_istore (M := M_X11_couldBeTold) 9 dX11_couldBeTold_9 (ls' := [some (mR 0), some (mI a1), some (mI a2), some (mI a3), some (mI a4), some (mI x1)]) (by decide) rfl ?_
  refine z_iload (M := M_X11_couldBeTold) 11 dX11_couldBeTold_11 rfl ?_
  refine z_iconst (M := M_X11_couldBeTold) 13 dX11_couldBeTold_13 ?_
  refine z_icmp_ne (M := M_X11_couldBeTold) 14 dX11_couldBeTold_14 19 rfl (fun c2 => ?_) (fun c2 => ?_)
  · refine z_aload_n (M := M_X11_couldBeTold) 19 dX11_couldBeTold_19 rfl ?_
    refine z_getR (M := M_X11_couldBeTold) 20 dX11_couldBeTold_20 f_X11_53 o_0 rfl (g_0_7 G0) ?_
    refine z_aload_n (M := M_X11_couldBeTold) 23 dX11_couldBeTold_23 rfl ?_
    refine z_getR (M := M_X11_couldBeTold) 24 dX11_couldBeTold_24 f_X11_46 o_0 rfl (g_0_6 G0) ?_
    refine z_aload_n (M := M_X11_couldBeTold) 27 dX11_couldBeTold_27 rfl ?_
    refine z_getR (M := M_X11_couldBeTold) 28 dX11_couldBeTold_28 f_X11_12 o_0 rfl (g_0_0 G0) ?_
    refine z_iload_n (M := M_X11_couldBeTold) 31 dX11_couldBeTold_31 rfl ?_
    refine z_iload_n (M := M_X11_couldBeTold) 32 dX11_couldBeTold_32 rfl ?_
    refine z_vI (M := M_X11_couldBeTold) 33 dX11_couldBeTold_33 t_X4_lengthIn l_X11_409 (m_rr_of rfl) (rest := [mR 38, mR 93]) (c_X4_lengthIn h0 1 a1 a2 (Or.inl rfl) G0 ⟨by omega, by omega⟩) o_1 rfl rfl rfl (Nat.le_of_ble_eq_true rfl) ⟨rfl, rfl⟩ (fun x3 h1 qx3 => ?_)
    obtain ⟨G1, S1, ax3, bx3⟩ := qx3
    have R1 := (FR.rf (cs := (csB ++ [])) (ss := []) (h := h0)).call S1 (by decide +kernel)
    refine z_bipush (M := M_X11_couldBeTold) 36 dX11_couldBeTold_36 ?_
    refine z_iload (M := M_X11_couldBeTold) 38 dX11_couldBeTold_38 rfl ?_
    refine z_iaddN (M := M_X11_couldBeTold) 40 dX11_couldBeTold_40 (by omega) (by omega) ?_
    refine z_vV (M := M_X11_couldBeTold) 41 dX11_couldBeTold_41 t_X7_measure l_X11_427 (m_rr_of rfl) (rest := []) (c_X7_measure h1 x3 (12 + x1) G1 ⟨by omega, by omega⟩ ⟨by omega, by omega⟩) o_93 rfl rfl rfl (Nat.le_of_ble_eq_true rfl) ⟨rfl, rfl⟩ (fun h2 qx4 => ?_)
    obtain ⟨G2, S2⟩ := qx4
    have R2 := R1.call S2 (by decide +kernel)
    refine z_aload_n (M := M_X11_couldBeTold) 44 dX11_couldBeTold_44 rfl ?_
    refine z_getR (M := M_X11_couldBeTold) 45 dX11_couldBeTold_45 f_X11_53 o_0 rfl (g_0_7 G2) ?_
    refine z_iload_n (M := M_X11_couldBeTold) 48 dX11_couldBeTold_48 rfl ?_
    refine z_iload (M := M_X11_couldBeTold) 49 dX11_couldBeTold_49 rfl ?_
    refine z_vI (M := M_X11_couldBeTold) 51 dX11_couldBeTold_51 t_X7_allows l_X11_304 (m_rr_of rfl) (rest := []) (c_X7_allows h2 a3 a4 G2) o_93 rfl rfl rfl (Nat.le_of_ble_eq_true rfl) ⟨rfl, rfl⟩ (fun x5 h3 qx5 => ?_)
    obtain ⟨G3, S3, ax5, bx5⟩ := qx5
    have R3 := R2.call S3 (by decide +kernel)
    exact z_retZ (M := M_X11_couldBeTold) 54 dX11_couldBeTold_54 rfl (by omega) ⟨G3, R3, by omega, by omega⟩
  · refine z_iconst (M := M_X11_couldBeTold) 17 dX11_couldBeTold_17 ?_
    exact z_retZ (M := M_X11_couldBeTold) 18 dX11_couldBeTold_18 rfl (by omega) ⟨G0, (FR.rf (cs := (csB ++ [])) (ss := []) (h := h0)), by omega, by omega⟩
abbrev P_X11_fits (h0 : m_H) : Int → m_H → Prop := fun x h' => GI h' ∧ FR (csB ++ [39, 40, 41]) [] h0 h' ∧ 0 ≤ x ∧ x ≤ 1
set_option maxHeartbeats 4000000 in
set_option maxRecDepth 100000 in
theorem c_X11_fits (h0 : m_H) (G0 : GI h0) : m_CI M_X11_fits [mR 0] h0 (P_X11_fits h0) := by
  refine m_CI_of ⟨by decide, rfl, by simp [m_arg, m_isL, M_X11_fits], ⟨rfl, rfl⟩, rfl, rfl⟩ (ls := [some (mR 0)]) rfl ?_
  refine z_aload_n (M := M_X11_fits) 0 dX11_fits_0 rfl ?_
  refine z_vI (M := M_X11_fits) 1 dX11_fits_1 t_X11_canBe l_X11_208 (m_rr_of rfl) (rest := []) (c_X11_canBe h0 G0) o_0 rfl rfl rfl (Nat.le_of_ble_eq_true rfl) ⟨rfl, rfl⟩ (fun x1 h1 qx1 => ?_)
  obtain ⟨G1, S1, ax1, bx1⟩ := qx1
  have R1 := (FR.rf (cs := (csB ++ [39, 40, 41])) (ss := []) (h := h0)).call S1 (by decide +kernel)
  refine z_if_eq (M := M_X11_fits) 4 dX11_fits_4 11 rfl (fun c2 => ?_) (fun c2 => ?_)
  · refine z_iconst (M := M_X11_fits) 11 dX11_fits_11 ?_
    exact z_retI (M := M_X11_fits) 12 dX11_fits_12 rfl ⟨G1, R1, by omega, by omega⟩
  · refine z_iconst (M := M_X11_fits) 7 dX11_fits_7 ?_
    refine z_goto (M := M_X11_fits) 8 dX11_fits_8 12 rfl ?_
    exact z_retI (M := M_X11_fits) 12 dX11_fits_12 rfl ⟨G1, R1, by omega, by omega⟩
abbrev P_X11_between (h0 : m_H) (a1 a2 a3 : Int) : Int → m_H → Prop := fun x h' => GI h' ∧ FR (csB ++ [39, 40, 41]) [] h0 h'
set_option maxHeartbeats 4000000 in
set_option maxRecDepth 100000 in
theorem c_X11_between (h0 : m_H) (a1 a2 a3 : Int) (G0 : GI h0) : m_CI M_X11_between [mR 0, mI a1, mI a2, mI a3] h0 (P_X11_between h0 a1 a2 a3) := by
  refine m_CI_of ⟨by decide, rfl, by simp [m_arg, m_isL, M_X11_between], ⟨rfl, rfl⟩, rfl, rfl⟩ (ls := [some (mR 0), some (mI a1), some (mI a2), some (mI a3)]) rfl ?_
  refine z_ok (fun _ _ ok => ?_)
  have oa1 : m_32 a1 := ok 1 _ rfl
  unfold m_32 at oa1
  have oa2 : m_32 a2 := ok 2 _ rfl
  unfold m_32 at oa2
  have oa3 : m_32 a3 := ok 3 _ rfl
  unfold m_32 at oa3
  refine z_iload_n (M := M_X11_between) 0 dX11_between_0 rfl ?_
  refine z_iconst (M := M_X11_between) 1 dX11_between_1 ?_
  refine z_iconst (M := M_X11_between) 2 dX11_between_2 ?_
  refine z_sI (M := M_X11_between) 3 dX11_between_3 t_X11_within l_X11_112 (m_rr_of rfl) (rest := []) (c_X11_within h0 a3 0 3 G0) rfl rfl (Nat.le_of_ble_eq_true rfl) ⟨rfl, rfl⟩ (fun x1 h1 qx1 => ?_)
  obtain ⟨rfl, ⟨rfl, cx1⟩ | ⟨rfl, cx1⟩⟩ := qx1
  · refine z_if_eq_F (M := M_X11_between) 6 dX11_between_6 18 rfl (by omega) ?_
    refine z_aload_n (M := M_X11_between) 9 dX11_between_9 rfl ?_
    refine z_iload_n (M := M_X11_between) 10 dX11_between_10 rfl ?_
    refine z_iload_n (M := M_X11_between) 11 dX11_between_11 rfl ?_
    refine z_vI (M := M_X11_between) 12 dX11_between_12 t_X11_compare l_X11_211 (m_rr_of rfl) (rest := []) (c_X11_compare h0 a1 a2 G0) o_0 rfl rfl rfl (Nat.le_of_ble_eq_true rfl) ⟨rfl, rfl⟩ (fun x2 h2 qx2 => ?_)
    obtain ⟨G2, S2, ax2, bx2⟩ := qx2
    have R2 := (FR.rf (cs := (csB ++ [39, 40, 41])) (ss := []) (h := h0)).call S2 (by decide +kernel)
    refine z_if_ne (M := M_X11_between) 15 dX11_between_15 21 rfl (fun c3 => ?_) (fun c3 => ?_)
    · refine z_iload_n (M := M_X11_between) 21 dX11_between_21 rfl ?_
      by_cases c4 : a3 = 0 ∨ a3 = 1 ∨ a3 = 2
      · rcases c4 with c4_0 | c4_1 | c4_2
        · refine z_tabIn (M := M_X11_between) 22 dX11_between_22 (off := 26) 48 (by omega) (by omega) (by rw [c4_0]; rfl) rfl ?_
          refine z_aload_n (M := M_X11_between) 48 dX11_between_48 rfl ?_
          refine z_getR (M := M_X11_between) 49 dX11_between_49 f_X11_53 o_0 rfl (g_0_7 G2) ?_
          refine z_vJ (M := M_X11_between) 52 dX11_between_52 t_X7_leastMillionths l_X11_214 (m_rr_of rfl) (rest := []) (c_X7_leastMillionths h2 G2) o_93 rfl rfl rfl (Nat.le_of_ble_eq_true rfl) ⟨rfl, rfl⟩ (fun x5 h3 qx5 => ?_)
          obtain ⟨G3, S3⟩ := qx5
          have R3 := R2.call S3 (by decide +kernel)
          refine z_ldc2 (M := M_X11_between) 55 dX11_between_55 k_X11_218 ?_
          refine z_sI (M := M_X11_between) 58 dX11_between_58 t_X11_atMost l_X11_220 (m_rr_of rfl) (rest := []) (c_X11_atMost h3 x5 2000000000 G3) rfl rfl (Nat.le_of_ble_eq_true rfl) ⟨rfl, rfl⟩ (fun x6 h4 qx6 => ?_)
          obtain ⟨G4, S4⟩ := qx6
          have R4 := R3.call S4 (by decide +kernel)
          refine z_ok (fun ox6 _ _ => ?_)
          have ox6 := ox6.1; unfold m_ok m_32 at ox6
          exact z_retI (M := M_X11_between) 61 dX11_between_61 rfl ⟨G4, R4⟩
        · refine z_tabIn (M := M_X11_between) 22 dX11_between_22 (off := 40) 62 (by omega) (by omega) (by rw [c4_1]; rfl) rfl ?_
          refine z_aload_n (M := M_X11_between) 62 dX11_between_62 rfl ?_
          refine z_getR (M := M_X11_between) 63 dX11_between_63 f_X11_53 o_0 rfl (g_0_7 G2) ?_
          refine z_vJ (M := M_X11_between) 66 dX11_between_66 t_X7_greatestMillionths l_X11_224 (m_rr_of rfl) (rest := []) (c_X7_greatestMillionths h2 G2) o_93 rfl rfl rfl (Nat.le_of_ble_eq_true rfl) ⟨rfl, rfl⟩ (fun x7 h5 qx7 => ?_)
          obtain ⟨G5, S5⟩ := qx7
          have R5 := R2.call S5 (by decide +kernel)
          refine z_ldc2 (M := M_X11_between) 69 dX11_between_69 k_X11_218 ?_
          refine z_sI (M := M_X11_between) 72 dX11_between_72 t_X11_atMost l_X11_220 (m_rr_of rfl) (rest := []) (c_X11_atMost h5 x7 2000000000 G5) rfl rfl (Nat.le_of_ble_eq_true rfl) ⟨rfl, rfl⟩ (fun x8 h6 qx8 => ?_)
          obtain ⟨G6, S6⟩ := qx8
          have R6 := R5.call S6 (by decide +kernel)
          refine z_ok (fun ox8 _ _ => ?_)
          have ox8 := ox8.1; unfold m_ok m_32 at ox8
          exact z_retI (M := M_X11_between) 75 dX11_between_75 rfl ⟨G6, R6⟩
        · refine z_tabIn (M := M_X11_between) 22 dX11_between_22 (off := 54) 76 (by omega) (by omega) (by rw [c4_2]; rfl) rfl ?_
          refine z_aload_n (M := M_X11_between) 76 dX11_between_76 rfl ?_
          refine z_getR (M := M_X11_between) 77 dX11_between_77 f_X11_53 o_0 rfl (g_0_7 G2) ?_
          refine z_getR (M := M_X11_between) 80 dX11_between_80 f_X11_227 o_93 rfl (g_93_0 G2) ?_
          refine z_getIG (M := M_X11_between) 83 dX11_between_83 f_X11_231 o_94 (by decide) (g_94_2 G2) (fun x9 ex9 ax9 bx9 => ?_)
          refine z_if_eq (M := M_X11_between) 86 dX11_between_86 93 rfl (fun c10 => ?_) (fun c10 => ?_)
          · refine z_iconst (M := M_X11_between) 93 dX11_between_93 ?_
            exact z_retI (M := M_X11_between) 94 dX11_between_94 rfl ⟨G2, R2⟩
          · refine z_iconst (M := M_X11_between) 89 dX11_between_89 ?_
            refine z_goto (M := M_X11_between) 90 dX11_between_90 94 rfl ?_
            exact z_retI (M := M_X11_between) 94 dX11_between_94 rfl ⟨G2, R2⟩
      · refine z_tabOut (M := M_X11_between) 22 dX11_between_22 95 (by omega) rfl ?_
        refine z_aload_n (M := M_X11_between) 95 dX11_between_95 rfl ?_
        refine z_getR (M := M_X11_between) 96 dX11_between_96 f_X11_53 o_0 rfl (g_0_7 G2) ?_
        refine z_getR (M := M_X11_between) 99 dX11_between_99 f_X11_237 o_93 rfl (g_93_1 G2) ?_
        refine z_getIG (M := M_X11_between) 102 dX11_between_102 f_X11_231 o_95 (by decide) (g_95_2 G2) (fun x11 ex11 ax11 bx11 => ?_)
        refine z_if_eq (M := M_X11_between) 105 dX11_between_105 112 rfl (fun c12 => ?_) (fun c12 => ?_)
        · refine z_iconst (M := M_X11_between) 112 dX11_between_112 ?_
          exact z_retI (M := M_X11_between) 113 dX11_between_113 rfl ⟨G2, R2⟩
        · refine z_iconst (M := M_X11_between) 108 dX11_between_108 ?_
          refine z_goto (M := M_X11_between) 109 dX11_between_109 113 rfl ?_
          exact z_retI (M := M_X11_between) 113 dX11_between_113 rfl ⟨G2, R2⟩
    · refine z_bipush (M := M_X11_between) 18 dX11_between_18 ?_
      exact z_retI (M := M_X11_between) 20 dX11_between_20 rfl ⟨G2, R2⟩
  · refine z_if_eq_T (M := M_X11_between) 6 dX11_between_6 18 rfl (by omega) ?_
    refine z_bipush (M := M_X11_between) 18 dX11_between_18 ?_
    exact z_retI (M := M_X11_between) 20 dX11_between_20 rfl ⟨G0, (FR.rf (cs := (csB ++ [39, 40, 41])) (ss := []) (h := h0))⟩
abbrev P_X11_sure (h0 : m_H) (a1 a2 : Int) : Int → m_H → Prop := fun x h' => GI h' ∧ FR (csB ++ [39, 40, 41]) [] h0 h' ∧ (-2) ≤ x ∧ x ≤ 3
set_option maxHeartbeats 4000000 in
set_option maxRecDepth 100000 in
theorem c_X11_sure (h0 : m_H) (a1 a2 : Int) (G0 : GI h0) : m_CI M_X11_sure [mR 0, mI a1, mI a2] h0 (P_X11_sure h0 a1 a2) := by
  refine m_CI_of ⟨by decide, rfl, by simp [m_arg, m_isL, M_X11_sure], ⟨rfl, rfl⟩, rfl, rfl⟩ (ls := [some (mR 0), some (mI a1), some (mI a2)]) rfl ?_
  refine z_ok (fun _ _ ok => ?_)
  have oa1 : m_32 a1 := ok 1 _ rfl
  unfold m_32 at oa1
  have oa2 : m_32 a2 := ok 2 _ rfl
  unfold m_32 at oa2
  refine z_aload_n (M := M_X11_sure) 0 dX11_sure_0 rfl ?_
  refine z_iload_n (M := M_X11_sure) 1 dX11_sure_1 rfl ?_
  refine z_iload_n (M := M_X11_sure) 2 dX11_sure_2 rfl ?_
  refine z_vI (M := M_X11_sure) 3 dX11_sure_3 t_X11_compare l_X11_211 (m_rr_of rfl) (rest := []) (c_X11_compare h0 a1 a2 G0) o_0 rfl rfl rfl (Nat.le_of_ble_eq_true rfl) ⟨rfl, rfl⟩ (fun x1 h1 qx1 => ?_)
  obtain ⟨G1, S1, ax1, bx1⟩ := qx1
  have R1 := (FR.rf (cs := (csB ++ [39, 40, 41])) (ss := []) (h := h0)).call S1 (by decide +kernel)
  refine z_if_ne (M := M_X11_sure) 6 dX11_sure_6 12 rfl (fun c2 => ?_) (fun c2 => ?_)
  · refine z_aload_n (M := M_X11_sure) 12 dX11_sure_12 rfl ?_
    refine z_getR (M := M_X11_sure) 13 dX11_sure_13 f_X11_53 o_0 rfl (g_0_7 G1) ?_
    refine z_lconst (M := M_X11_sure) 16 dX11_sure_16 (v := 1) ?_
    refine z_vI (M := M_X11_sure) 17 dX11_sure_17 t_X7_isAlways l_X11_240 (m_rr_of rfl) (rest := []) (c_X7_isAlways h1 1 G1) o_93 rfl rfl rfl (Nat.le_of_ble_eq_true rfl) ⟨rfl, rfl⟩ (fun x3 h2 qx3 => ?_)
    obtain ⟨G2, S2, ax3, bx3⟩ := qx3
    have R2 := R1.call S2 (by decide +kernel)
    refine z_if_eq (M := M_X11_sure) 20 dX11_sure_20 25 rfl (fun c4 => ?_) (fun c4 => ?_)
    · refine z_aload_n (M := M_X11_sure) 25 dX11_sure_25 rfl ?_
      refine z_getR (M := M_X11_sure) 26 dX11_sure_26 f_X11_53 o_0 rfl (g_0_7 G2) ?_
      refine z_getR (M := M_X11_sure) 29 dX11_sure_29 f_X11_227 o_93 rfl (g_93_0 G2) ?_
      refine z_vI (M := M_X11_sure) 32 dX11_sure_32 t_X2_isBelowOne l_X11_244 (m_rr_of rfl) (rest := []) (c_X2_isBelowOne h2 94 (rfl : isBb 94 = true) G2) o_94 rfl rfl rfl (Nat.le_of_ble_eq_true rfl) ⟨rfl, rfl⟩ (fun x5 h3 qx5 => ?_)
      obtain ⟨G3, S3, ax5, bx5⟩ := qx5
      have R3 := R2.call S3 (by decide +kernel)
      refine z_if_eq (M := M_X11_sure) 35 dX11_sure_35 40 rfl (fun c6 => ?_) (fun c6 => ?_)
      · refine z_aload_n (M := M_X11_sure) 40 dX11_sure_40 rfl ?_
        refine z_getR (M := M_X11_sure) 41 dX11_sure_41 f_X11_53 o_0 rfl (g_0_7 G3) ?_
        refine z_getR (M := M_X11_sure) 44 dX11_sure_44 f_X11_237 o_93 rfl (g_93_1 G3) ?_
        refine z_vI (M := M_X11_sure) 47 dX11_sure_47 t_X2_isBelowOne l_X11_244 (m_rr_of rfl) (rest := []) (c_X2_isBelowOne h3 95 (rfl : isBb 95 = true) G3) o_95 rfl rfl rfl (Nat.le_of_ble_eq_true rfl) ⟨rfl, rfl⟩ (fun x7 h4 qx7 => ?_)
        obtain ⟨G4, S4, ax7, bx7⟩ := qx7
        have R4 := R3.call S4 (by decide +kernel)
        refine z_if_eq (M := M_X11_sure) 50 dX11_sure_50 57 rfl (fun c8 => ?_) (fun c8 => ?_)
        · refine z_iconst (M := M_X11_sure) 57 dX11_sure_57 ?_
          exact z_retI (M := M_X11_sure) 58 dX11_sure_58 rfl ⟨G4, R4, by omega, by omega⟩
        · refine z_iconst (M := M_X11_sure) 53 dX11_sure_53 ?_
          refine z_goto (M := M_X11_sure) 54 dX11_sure_54 58 rfl ?_
          exact z_retI (M := M_X11_sure) 58 dX11_sure_58 rfl ⟨G4, R4, by omega, by omega⟩
      · refine z_iconst (M := M_X11_sure) 38 dX11_sure_38 ?_
        exact z_retI (M := M_X11_sure) 39 dX11_sure_39 rfl ⟨G3, R3, by omega, by omega⟩
    · refine z_iconst (M := M_X11_sure) 23 dX11_sure_23 ?_
      exact z_retI (M := M_X11_sure) 24 dX11_sure_24 rfl ⟨G2, R2, by omega, by omega⟩
  · refine z_bipush (M := M_X11_sure) 9 dX11_sure_9 ?_
    exact z_retI (M := M_X11_sure) 11 dX11_sure_11 rfl ⟨G1, R1, by omega, by omega⟩
abbrev P_X11_feet (h0 : m_H) (a1 a2 a3 : Int) : Int → m_H → Prop := fun x h' => GI h' ∧ FR (csB ++ [39, 40, 41]) [] h0 h'
set_option maxHeartbeats 4000000 in
set_option maxRecDepth 100000 in
theorem c_X11_feet (h0 : m_H) (a1 a2 a3 : Int) (G0 : GI h0) : m_CI M_X11_feet [mR 0, mI a1, mI a2, mI a3] h0 (P_X11_feet h0 a1 a2 a3) := by
  refine m_CI_of ⟨by decide, rfl, by simp [m_arg, m_isL, M_X11_feet], ⟨rfl, rfl⟩, rfl, rfl⟩ (ls := [some (mR 0), some (mI a1), some (mI a2), some (mI a3)]) rfl ?_
  refine z_ok (fun _ _ ok => ?_)
  have oa1 : m_32 a1 := ok 1 _ rfl
  unfold m_32 at oa1
  have oa2 : m_32 a2 := ok 2 _ rfl
  unfold m_32 at oa2
  have oa3 : m_32 a3 := ok 3 _ rfl
  unfold m_32 at oa3
  refine z_iload_n (M := M_X11_feet) 0 dX11_feet_0 rfl ?_
  refine z_iconst (M := M_X11_feet) 1 dX11_feet_1 ?_
  refine z_iconst (M := M_X11_feet) 2 dX11_feet_2 ?_
  refine z_sI (M := M_X11_feet) 3 dX11_feet_3 t_X11_within l_X11_112 (m_rr_of rfl) (rest := []) (c_X11_within h0 a3 0 1 G0) rfl rfl (Nat.le_of_ble_eq_true rfl) ⟨rfl, rfl⟩ (fun x1 h1 qx1 => ?_)
  obtain ⟨rfl, ⟨rfl, cx1⟩ | ⟨rfl, cx1⟩⟩ := qx1
  · refine z_if_eq_F (M := M_X11_feet) 6 dX11_feet_6 18 rfl (by omega) ?_
    refine z_aload_n (M := M_X11_feet) 9 dX11_feet_9 rfl ?_
    refine z_iload_n (M := M_X11_feet) 10 dX11_feet_10 rfl ?_
    refine z_iload_n (M := M_X11_feet) 11 dX11_feet_11 rfl ?_
    refine z_vI (M := M_X11_feet) 12 dX11_feet_12 t_X11_compareToFoot l_X11_247 (m_rr_of rfl) (rest := []) (c_X11_compareToFoot h0 a1 a2 G0) o_0 rfl rfl rfl (Nat.le_of_ble_eq_true rfl) ⟨rfl, rfl⟩ (fun x2 h2 qx2 => ?_)
    obtain ⟨G2, S2, ax2, bx2⟩ := qx2
    have R2 := (FR.rf (cs := (csB ++ [39, 40, 41])) (ss := []) (h := h0)).call S2 (by decide +kernel)
    refine z_if_ne (M := M_X11_feet) 15 dX11_feet_15 21 rfl (fun c3 => ?_) (fun c3 => ?_)
    · refine z_iload_n (M := M_X11_feet) 21 dX11_feet_21 rfl ?_
      refine z_if_ne (M := M_X11_feet) 22 dX11_feet_22 36 rfl (fun c4 => ?_) (fun c4 => ?_)
      · refine z_aload_n (M := M_X11_feet) 36 dX11_feet_36 rfl ?_
        refine z_getR (M := M_X11_feet) 37 dX11_feet_37 f_X11_53 o_0 rfl (g_0_7 G2) ?_
        refine z_iconst (M := M_X11_feet) 40 dX11_feet_40 ?_
        refine z_vJ (M := M_X11_feet) 41 dX11_feet_41 t_X7_greatestNumber l_X11_254 (m_rr_of rfl) (rest := []) (c_X7_greatestNumber h2 1 G2) o_93 rfl rfl rfl (Nat.le_of_ble_eq_true rfl) ⟨rfl, rfl⟩ (fun x5 h3 qx5 => ?_)
        obtain ⟨G3, S3⟩ := qx5
        have R3 := R2.call S3 (by decide +kernel)
        refine z_ldc2 (M := M_X11_feet) 44 dX11_feet_44 k_X11_257 ?_
        refine z_sI (M := M_X11_feet) 47 dX11_feet_47 t_X11_atMost l_X11_220 (m_rr_of rfl) (rest := []) (c_X11_atMost h3 x5 2000 G3) rfl rfl (Nat.le_of_ble_eq_true rfl) ⟨rfl, rfl⟩ (fun x6 h4 qx6 => ?_)
        obtain ⟨G4, S4⟩ := qx6
        have R4 := R3.call S4 (by decide +kernel)
        refine z_ok (fun ox6 _ _ => ?_)
        have ox6 := ox6.1; unfold m_ok m_32 at ox6
        exact z_retI (M := M_X11_feet) 50 dX11_feet_50 rfl ⟨G4, R4⟩
      · refine z_aload_n (M := M_X11_feet) 25 dX11_feet_25 rfl ?_
        refine z_getR (M := M_X11_feet) 26 dX11_feet_26 f_X11_53 o_0 rfl (g_0_7 G2) ?_
        refine z_iconst (M := M_X11_feet) 29 dX11_feet_29 ?_
        refine z_vJ (M := M_X11_feet) 30 dX11_feet_30 t_X7_leastNumber l_X11_250 (m_rr_of rfl) (rest := []) (c_X7_leastNumber h2 1 G2) o_93 rfl rfl rfl (Nat.le_of_ble_eq_true rfl) ⟨rfl, rfl⟩ (fun x7 h5 qx7 => ?_)
        obtain ⟨G5, S5⟩ := qx7
        have R5 := R2.call S5 (by decide +kernel)
        refine z_goto (M := M_X11_feet) 33 dX11_feet_33 44 rfl ?_
        refine z_ldc2 (M := M_X11_feet) 44 dX11_feet_44 k_X11_257 ?_
        refine z_sI (M := M_X11_feet) 47 dX11_feet_47 t_X11_atMost l_X11_220 (m_rr_of rfl) (rest := []) (c_X11_atMost h5 x7 2000 G5) rfl rfl (Nat.le_of_ble_eq_true rfl) ⟨rfl, rfl⟩ (fun x8 h6 qx8 => ?_)
        obtain ⟨G6, S6⟩ := qx8
        have R6 := R5.call S6 (by decide +kernel)
        refine z_ok (fun ox8 _ _ => ?_)
        have ox8 := ox8.1; unfold m_ok m_32 at ox8
        exact z_retI (M := M_X11_feet) 50 dX11_feet_50 rfl ⟨G6, R6⟩
    · refine z_bipush (M := M_X11_feet) 18 dX11_feet_18 ?_
      exact z_retI (M := M_X11_feet) 20 dX11_feet_20 rfl ⟨G2, R2⟩
  · refine z_if_eq_T (M := M_X11_feet) 6 dX11_feet_6 18 rfl (by omega) ?_
    refine z_bipush (M := M_X11_feet) 18 dX11_feet_18 ?_
    exact z_retI (M := M_X11_feet) 20 dX11_feet_20 rfl ⟨G0, (FR.rf (cs := (csB ++ [39, 40, 41])) (ss := []) (h := h0))⟩
abbrev P_X11_part (h0 : m_H) (a1 a2 a3 : Int) : Int → m_H → Prop := fun x h' => GI h' ∧ FR (csB ++ [39, 40, 41]) [] h0 h'
set_option maxHeartbeats 4000000 in
set_option maxRecDepth 100000 in
theorem c_X11_part (h0 : m_H) (a1 a2 a3 : Int) (G0 : GI h0) : m_CJ M_X11_part [mR 0, mI a1, mI a2, mI a3] h0 (P_X11_part h0 a1 a2 a3) := by
  refine m_CJ_of ⟨by decide, rfl, by simp [m_arg, m_isL, M_X11_part], ⟨rfl, rfl⟩, rfl, rfl⟩ (ls := [some (mR 0), some (mI a1), some (mI a2), some (mI a3), none]) rfl ?_
  refine z_ok (fun _ _ ok => ?_)
  have oa1 : m_32 a1 := ok 1 _ rfl
  unfold m_32 at oa1
  have oa2 : m_32 a2 := ok 2 _ rfl
  unfold m_32 at oa2
  have oa3 : m_32 a3 := ok 3 _ rfl
  unfold m_32 at oa3
  refine z_iload_n (M := M_X11_part) 0 dX11_part_0 rfl ?_
  refine z_iconst (M := M_X11_part) 1 dX11_part_1 ?_
  refine z_iconst (M := M_X11_part) 2 dX11_part_2 ?_
  refine z_sI (M := M_X11_part) 3 dX11_part_3 t_X11_within l_X11_112 (m_rr_of rfl) (rest := []) (c_X11_within h0 a3 0 1 G0) rfl rfl (Nat.le_of_ble_eq_true rfl) ⟨rfl, rfl⟩ (fun x1 h1 qx1 => ?_)
  obtain ⟨rfl, ⟨rfl, cx1⟩ | ⟨rfl, cx1⟩⟩ := qx1
  · refine z_if_eq_F (M := M_X11_part) 6 dX11_part_6 18 rfl (by omega) ?_
    refine z_aload_n (M := M_X11_part) 9 dX11_part_9 rfl ?_
    refine z_iload_n (M := M_X11_part) 10 dX11_part_10 rfl ?_
    refine z_iload_n (M := M_X11_part) 11 dX11_part_11 rfl ?_
    refine z_vI (M := M_X11_part) 12 dX11_part_12 t_X11_compare l_X11_211 (m_rr_of rfl) (rest := []) (c_X11_compare h0 a1 a2 G0) o_0 rfl rfl rfl (Nat.le_of_ble_eq_true rfl) ⟨rfl, rfl⟩ (fun x2 h2 qx2 => ?_)
    obtain ⟨G2, S2, ax2, bx2⟩ := qx2
    have R2 := (FR.rf (cs := (csB ++ [39, 40, 41])) (ss := []) (h := h0)).call S2 (by decide +kernel)
    refine z_if_ne (M := M_X11_part) 15 dX11_part_15 22 rfl (fun c3 => ?_) (fun c3 => ?_)
    · refine z_aload_n (M := M_X11_part) 22 dX11_part_22 rfl ?_
      refine z_getR (M := M_X11_part) 23 dX11_part_23 f_X11_53 o_0 rfl (g_0_7 G2) ?_
      refine z_vI (M := M_X11_part) 26 dX11_part_26 t_X7_isTheSame l_X11_261 (m_rr_of rfl) (rest := []) (c_X7_isTheSame h2 G2) o_93 rfl rfl rfl (Nat.le_of_ble_eq_true rfl) ⟨rfl, rfl⟩ (fun x4 h3 qx4 => ?_)
      obtain ⟨G3, S3, ax4, bx4⟩ := qx4
      have R3 := R2.call S3 (by decide +kernel)
      refine z_if_ne (M := M_X11_part) 29 dX11_part_29 34 rfl (fun c5 => ?_) (fun c5 => ?_)
      · refine z_aload_n (M := M_X11_part) 34 dX11_part_34 rfl ?_
        refine z_getR (M := M_X11_part) 35 dX11_part_35 f_X11_53 o_0 rfl (g_0_7 G3) ?_
        refine z_getR (M := M_X11_part) 38 dX11_part_38 f_X11_237 o_93 rfl (g_93_1 G3) ?_
        refine z_astore (M := M_X11_part) 41 dX11_part_41 (ls' := [some (mR 0), some (mI a1), some (mI a2), some (mI a3), some (mR 95)]) (by decide) rfl ?_
        refine z_iload_n (M := M_X11_part) 43 dX11_part_43 rfl ?_
        refine z_if_ne (M := M_X11_part) 44 dX11_part_44 55 rfl (fun c6 => ?_) (fun c6 => ?_)
        · refine z_aload (M := M_X11_part) 55 dX11_part_55 rfl ?_
          refine z_getJV (M := M_X11_part) 57 dX11_part_57 f_X11_268 o_95 rfl (fun x7 ex7 => ?_)
          refine z_aload (M := M_X11_part) 60 dX11_part_60 rfl ?_
          refine z_getJV (M := M_X11_part) 62 dX11_part_62 f_X11_264 o_95 rfl (fun x8 ex8 => ?_)
          refine z_aload (M := M_X11_part) 65 dX11_part_65 rfl ?_
          refine z_getJE (M := M_X11_part) 67 dX11_part_67 f_X11_268 o_95 rfl ex7 ?_
          refine z_sJ (M := M_X11_part) 70 dX11_part_70 t_X11_commonDivisor l_X11_271 (m_rr_of rfl) (rest := [mJ x7]) (c_X11_commonDivisor h3 x8 x7 G3) rfl rfl (Nat.le_of_ble_eq_true rfl) ⟨rfl, rfl⟩ (fun x9 h4 qx9 => ?_)
          obtain ⟨G4, S4⟩ := qx9
          have R4 := R3.call S4 (by decide +kernel)
          refine z_sJ (M := M_X11_part) 73 dX11_part_73 t_X11_quotient l_X11_275 (m_rr_of rfl) (rest := []) (c_X11_quotient h4 x7 x9 G4) rfl rfl (Nat.le_of_ble_eq_true rfl) ⟨rfl, rfl⟩ (fun x10 h5 qx10 => ?_)
          obtain ⟨G5, S5⟩ := qx10
          have R5 := R4.call S5 (by decide +kernel)
          exact z_retJ (M := M_X11_part) 76 dX11_part_76 rfl ⟨G5, R5⟩
        · refine z_aload (M := M_X11_part) 47 dX11_part_47 rfl ?_
          refine z_getJV (M := M_X11_part) 49 dX11_part_49 f_X11_264 o_95 rfl (fun x11 ex11 => ?_)
          refine z_goto (M := M_X11_part) 52 dX11_part_52 60 rfl ?_
          refine z_aload (M := M_X11_part) 60 dX11_part_60 rfl ?_
          refine z_getJE (M := M_X11_part) 62 dX11_part_62 f_X11_264 o_95 rfl ex11 ?_
          refine z_aload (M := M_X11_part) 65 dX11_part_65 rfl ?_
          refine z_getJV (M := M_X11_part) 67 dX11_part_67 f_X11_268 o_95 rfl (fun x12 ex12 => ?_)
          refine z_sJ (M := M_X11_part) 70 dX11_part_70 t_X11_commonDivisor l_X11_271 (m_rr_of rfl) (rest := [mJ x11]) (c_X11_commonDivisor h3 x11 x12 G3) rfl rfl (Nat.le_of_ble_eq_true rfl) ⟨rfl, rfl⟩ (fun x13 h6 qx13 => ?_)
          obtain ⟨G6, S6⟩ := qx13
          have R6 := R3.call S6 (by decide +kernel)
          refine z_sJ (M := M_X11_part) 73 dX11_part_73 t_X11_quotient l_X11_275 (m_rr_of rfl) (rest := []) (c_X11_quotient h6 x11 x13 G6) rfl rfl (Nat.le_of_ble_eq_true rfl) ⟨rfl, rfl⟩ (fun x14 h7 qx14 => ?_)
          obtain ⟨G7, S7⟩ := qx14
          have R7 := R6.call S7 (by decide +kernel)
          exact z_retJ (M := M_X11_part) 76 dX11_part_76 rfl ⟨G7, R7⟩
      · refine z_lconst (M := M_X11_part) 32 dX11_part_32 (v := 0) ?_
        exact z_retJ (M := M_X11_part) 33 dX11_part_33 rfl ⟨G3, R3⟩
    · refine z_ldc2 (M := M_X11_part) 18 dX11_part_18 k_X11_259 ?_
      exact z_retJ (M := M_X11_part) 21 dX11_part_21 rfl ⟨G2, R2⟩
  · refine z_if_eq_T (M := M_X11_part) 6 dX11_part_6 18 rfl (by omega) ?_
    refine z_ldc2 (M := M_X11_part) 18 dX11_part_18 k_X11_259 ?_
    exact z_retJ (M := M_X11_part) 21 dX11_part_21 rfl ⟨G0, (FR.rf (cs := (csB ++ [39, 40, 41])) (ss := []) (h := h0))⟩
abbrev P_X11_lay (h0 : m_H) (a1 a2 a3 a4 a5 : Int) : Int → m_H → Prop := fun x h' => GI h' ∧ FR (csB ++ [39, 40, 41, 97, 98]) [(96, 2), (96, 3), (96, 4)] h0 h'
set_option maxHeartbeats 4000000 in
set_option maxRecDepth 100000 in
theorem c_X11_lay (h0 : m_H) (a1 a2 a3 a4 a5 : Int) (G0 : GI h0) : m_CI M_X11_lay [mR 0, mI a1, mI a2, mI a3, mI a4, mI a5] h0 (P_X11_lay h0 a1 a2 a3 a4 a5) := by
  refine m_CI_of ⟨by decide, rfl, by simp [m_arg, m_isL, M_X11_lay], ⟨rfl, rfl⟩, rfl, rfl⟩ (ls := [some (mR 0), some (mI a1), some (mI a2), some (mI a3), some (mI a4), some (mI a5), none]) rfl ?_
  refine z_ok (fun _ _ ok => ?_)
  have oa1 : m_32 a1 := ok 1 _ rfl
  unfold m_32 at oa1
  have oa2 : m_32 a2 := ok 2 _ rfl
  unfold m_32 at oa2
  have oa3 : m_32 a3 := ok 3 _ rfl
  unfold m_32 at oa3
  have oa4 : m_32 a4 := ok 4 _ rfl
  unfold m_32 at oa4
  have oa5 : m_32 a5 := ok 5 _ rfl
  unfold m_32 at oa5
  refine z_aload_n (M := M_X11_lay) 0 dX11_lay_0 rfl ?_
  refine z_iload_n (M := M_X11_lay) 1 dX11_lay_1 rfl ?_
  refine z_vI (M := M_X11_lay) 2 dX11_lay_2 t_X11_isMeasured l_X11_278 (m_rr_of rfl) (rest := []) (c_X11_isMeasured h0 a1 G0) o_0 rfl rfl rfl (Nat.le_of_ble_eq_true rfl) ⟨rfl, rfl⟩ (fun x1 h1 qx1 => ?_)
  obtain ⟨rfl, ⟨rfl, cx1⟩ | ⟨rfl, cx1⟩⟩ := qx1
  · refine z_if_eq_F (M := M_X11_lay) 5 dX11_lay_5 33 rfl (by omega) ?_
    refine z_aload_n (M := M_X11_lay) 8 dX11_lay_8 rfl ?_
    refine z_iload_n (M := M_X11_lay) 9 dX11_lay_9 rfl ?_
    refine z_vI (M := M_X11_lay) 10 dX11_lay_10 t_X11_isMeasured l_X11_278 (m_rr_of rfl) (rest := []) (c_X11_isMeasured h0 a2 G0) o_0 rfl rfl rfl (Nat.le_of_ble_eq_true rfl) ⟨rfl, rfl⟩ (fun x2 h2 qx2 => ?_)
    obtain ⟨rfl, ⟨rfl, cx2⟩ | ⟨rfl, cx2⟩⟩ := qx2
    · refine z_if_eq_F (M := M_X11_lay) 13 dX11_lay_13 33 rfl (by omega) ?_
      refine z_iload_n (M := M_X11_lay) 16 dX11_lay_16 rfl ?_
      refine z_iconst (M := M_X11_lay) 17 dX11_lay_17 ?_
      refine z_icmp_eq (M := M_X11_lay) 18 dX11_lay_18 29 rfl (fun c3 => ?_) (fun c3 => ?_)
      · refine z_iconst (M := M_X11_lay) 29 dX11_lay_29 ?_
        refine z_goto (M := M_X11_lay) 30 dX11_lay_30 34 rfl ?_
        refine z_istore (M := M_X11_lay) 34 dX11_lay_34 (ls' := [some (mR 0), some (mI a1), some (mI a2), some (mI a3), some (mI a4), some (mI a5), some (mI 1)]) (by decide) rfl ?_
        refine z_iload (M := M_X11_lay) 36 dX11_lay_36 rfl ?_
        refine z_if_eq_F (M := M_X11_lay) 38 dX11_lay_38 66 rfl (by omega) ?_
        refine z_iload (M := M_X11_lay) 41 dX11_lay_41 rfl ?_
        refine z_sI (M := M_X11_lay) 43 dX11_lay_43 t_X11_isKeeper l_X11_132 (m_rr_of rfl) (rest := []) (c_X11_isKeeper h0 a4 G0) rfl rfl (Nat.le_of_ble_eq_true rfl) ⟨rfl, rfl⟩ (fun x4 h3 qx4 => ?_)
        obtain ⟨rfl, ⟨rfl, cx4⟩ | ⟨rfl, cx4⟩⟩ := qx4
        · refine z_if_eq_F (M := M_X11_lay) 46 dX11_lay_46 66 rfl (by omega) ?_
          refine z_iload (M := M_X11_lay) 49 dX11_lay_49 rfl ?_
          refine z_iconst (M := M_X11_lay) 51 dX11_lay_51 ?_
          refine z_iconst (M := M_X11_lay) 52 dX11_lay_52 ?_
          refine z_sI (M := M_X11_lay) 53 dX11_lay_53 t_X11_within l_X11_112 (m_rr_of rfl) (rest := []) (c_X11_within h0 a5 0 1 G0) rfl rfl (Nat.le_of_ble_eq_true rfl) ⟨rfl, rfl⟩ (fun x5 h4 qx5 => ?_)
          obtain ⟨rfl, ⟨rfl, cx5⟩ | ⟨rfl, cx5⟩⟩ := qx5
          · refine z_if_eq_F (M := M_X11_lay) 56 dX11_lay_56 66 rfl (by omega) ?_
            refine z_aload_n (M := M_X11_lay) 59 dX11_lay_59 rfl ?_
            refine z_vI (M := M_X11_lay) 60 dX11_lay_60 t_X11_canBe l_X11_208 (m_rr_of rfl) (rest := []) (c_X11_canBe h0 G0) o_0 rfl rfl rfl (Nat.le_of_ble_eq_true rfl) ⟨rfl, rfl⟩ (fun x6 h5 qx6 => ?_)
            obtain ⟨G5, S5, ax6, bx6⟩ := qx6
            have R5 := (FR.rf (cs := (csB ++ [39, 40, 41, 97, 98])) (ss := [(96, 2), (96, 3), (96, 4)]) (h := h0)).call S5 (by decide +kernel)
            refine z_if_ne (M := M_X11_lay) 63 dX11_lay_63 69 rfl (fun c7 => ?_) (fun c7 => ?_)
            · refine z_aload_n (M := M_X11_lay) 69 dX11_lay_69 rfl ?_
              refine z_getR (M := M_X11_lay) 70 dX11_lay_70 f_X11_60 o_0 rfl (g_0_8 G5) ?_
              refine z_vV (M := M_X11_lay) 73 dX11_lay_73 t_X10_clear l_X11_281 (m_rr_of rfl) (rest := []) (c_X10_clear h5 G5) o_96 rfl rfl rfl (Nat.le_of_ble_eq_true rfl) ⟨rfl, rfl⟩ (fun h6 qx8 => ?_)
              obtain ⟨G6, S6⟩ := qx8
              have R6 := R5.call S6 (by decide +kernel)
              refine z_aload_n (M := M_X11_lay) 76 dX11_lay_76 rfl ?_
              refine z_iload_n (M := M_X11_lay) 77 dX11_lay_77 rfl ?_
              refine z_iload (M := M_X11_lay) 78 dX11_lay_78 rfl ?_
              refine z_iload (M := M_X11_lay) 80 dX11_lay_80 rfl ?_
              refine z_vV (M := M_X11_lay) 82 dX11_lay_82 t_X11_addFeet l_X11_284 (m_rr_of rfl) (rest := []) (c_X11_addFeet h6 a1 a4 a5 G6 ⟨by omega, by omega⟩ ⟨by omega, by omega⟩) o_0 rfl rfl rfl (Nat.le_of_ble_eq_true rfl) ⟨rfl, rfl⟩ (fun h7 qx9 => ?_)
              obtain ⟨G7, S7⟩ := qx9
              have R7 := R6.call S7 (by decide +kernel)
              refine z_aload_n (M := M_X11_lay) 85 dX11_lay_85 rfl ?_
              refine z_iload_n (M := M_X11_lay) 86 dX11_lay_86 rfl ?_
              refine z_iload (M := M_X11_lay) 87 dX11_lay_87 rfl ?_
              refine z_iload (M := M_X11_lay) 89 dX11_lay_89 rfl ?_
              refine z_vV (M := M_X11_lay) 91 dX11_lay_91 t_X11_addFeet l_X11_284 (m_rr_of rfl) (rest := []) (c_X11_addFeet h7 a2 a4 a5 G7 ⟨by omega, by omega⟩ ⟨by omega, by omega⟩) o_0 rfl rfl rfl (Nat.le_of_ble_eq_true rfl) ⟨rfl, rfl⟩ (fun h8 qx10 => ?_)
              obtain ⟨G8, S8⟩ := qx10
              have R8 := R7.call S8 (by decide +kernel)
              refine z_iload_n (M := M_X11_lay) 94 dX11_lay_94 rfl ?_
              refine z_iconst (M := M_X11_lay) 95 dX11_lay_95 ?_
              refine z_icmp_eq_T (M := M_X11_lay) 96 dX11_lay_96 108 rfl (by omega) ?_
              refine z_aload_n (M := M_X11_lay) 108 dX11_lay_108 rfl ?_
              refine z_getR (M := M_X11_lay) 109 dX11_lay_109 f_X11_60 o_0 rfl (g_0_8 G8) ?_
              refine z_vJ (M := M_X11_lay) 112 dX11_lay_112 t_X10_sum l_X11_288 (m_rr_of rfl) (rest := []) (c_X10_sum h8 G8) o_96 rfl rfl rfl (Nat.le_of_ble_eq_true rfl) ⟨rfl, rfl⟩ (fun x11 h9 qx11 => ?_)
              obtain ⟨G9, S9⟩ := qx11
              have R9 := R8.call S9 (by decide +kernel)
              refine z_ldc2 (M := M_X11_lay) 115 dX11_lay_115 k_X11_291 ?_
              refine z_sI (M := M_X11_lay) 118 dX11_lay_118 t_X11_atMost l_X11_220 (m_rr_of rfl) (rest := []) (c_X11_atMost h9 x11 6000 G9) rfl rfl (Nat.le_of_ble_eq_true rfl) ⟨rfl, rfl⟩ (fun x12 h10 qx12 => ?_)
              obtain ⟨G10, S10⟩ := qx12
              have R10 := R9.call S10 (by decide +kernel)
              refine z_ok (fun ox12 _ _ => ?_)
              have ox12 := ox12.1; unfold m_ok m_32 at ox12
              exact z_retI (M := M_X11_lay) 121 dX11_lay_121 rfl ⟨G10, R10⟩
            · refine z_bipush (M := M_X11_lay) 66 dX11_lay_66 ?_
              exact z_retI (M := M_X11_lay) 68 dX11_lay_68 rfl ⟨G5, R5⟩
          · refine z_if_eq_T (M := M_X11_lay) 56 dX11_lay_56 66 rfl (by omega) ?_
            refine z_bipush (M := M_X11_lay) 66 dX11_lay_66 ?_
            exact z_retI (M := M_X11_lay) 68 dX11_lay_68 rfl ⟨G0, (FR.rf (cs := (csB ++ [39, 40, 41, 97, 98])) (ss := [(96, 2), (96, 3), (96, 4)]) (h := h0))⟩
        · refine z_if_eq_T (M := M_X11_lay) 46 dX11_lay_46 66 rfl (by omega) ?_
          refine z_bipush (M := M_X11_lay) 66 dX11_lay_66 ?_
          exact z_retI (M := M_X11_lay) 68 dX11_lay_68 rfl ⟨G0, (FR.rf (cs := (csB ++ [39, 40, 41, 97, 98])) (ss := [(96, 2), (96, 3), (96, 4)]) (h := h0))⟩
      · refine z_aload_n (M := M_X11_lay) 21 dX11_lay_21 rfl ?_
        refine z_iload_n (M := M_X11_lay) 22 dX11_lay_22 rfl ?_
        refine z_vI (M := M_X11_lay) 23 dX11_lay_23 t_X11_isMeasured l_X11_278 (m_rr_of rfl) (rest := []) (c_X11_isMeasured h0 a3 G0) o_0 rfl rfl rfl (Nat.le_of_ble_eq_true rfl) ⟨rfl, rfl⟩ (fun x13 h11 qx13 => ?_)
        obtain ⟨rfl, ⟨rfl, cx13⟩ | ⟨rfl, cx13⟩⟩ := qx13
        · refine z_if_eq_F (M := M_X11_lay) 26 dX11_lay_26 33 rfl (by omega) ?_
          refine z_iconst (M := M_X11_lay) 29 dX11_lay_29 ?_
          refine z_goto (M := M_X11_lay) 30 dX11_lay_30 34 rfl ?_
          refine z_istore (M := M_X11_lay) 34 dX11_lay_34 (ls' := [some (mR 0), some (mI a1), some (mI a2), some (mI a3), some (mI a4), some (mI a5), some (mI 1)]) (by decide) rfl ?_
          refine z_iload (M := M_X11_lay) 36 dX11_lay_36 rfl ?_
          refine z_if_eq_F (M := M_X11_lay) 38 dX11_lay_38 66 rfl (by omega) ?_
          refine z_iload (M := M_X11_lay) 41 dX11_lay_41 rfl ?_
          refine z_sI (M := M_X11_lay) 43 dX11_lay_43 t_X11_isKeeper l_X11_132 (m_rr_of rfl) (rest := []) (c_X11_isKeeper h0 a4 G0) rfl rfl (Nat.le_of_ble_eq_true rfl) ⟨rfl, rfl⟩ (fun x14 h12 qx14 => ?_)
          obtain ⟨rfl, ⟨rfl, cx14⟩ | ⟨rfl, cx14⟩⟩ := qx14
          · refine z_if_eq_F (M := M_X11_lay) 46 dX11_lay_46 66 rfl (by omega) ?_
            refine z_iload (M := M_X11_lay) 49 dX11_lay_49 rfl ?_
            refine z_iconst (M := M_X11_lay) 51 dX11_lay_51 ?_
            refine z_iconst (M := M_X11_lay) 52 dX11_lay_52 ?_
            refine z_sI (M := M_X11_lay) 53 dX11_lay_53 t_X11_within l_X11_112 (m_rr_of rfl) (rest := []) (c_X11_within h0 a5 0 1 G0) rfl rfl (Nat.le_of_ble_eq_true rfl) ⟨rfl, rfl⟩ (fun x15 h13 qx15 => ?_)
            obtain ⟨rfl, ⟨rfl, cx15⟩ | ⟨rfl, cx15⟩⟩ := qx15
            · refine z_if_eq_F (M := M_X11_lay) 56 dX11_lay_56 66 rfl (by omega) ?_
              refine z_aload_n (M := M_X11_lay) 59 dX11_lay_59 rfl ?_
              refine z_vI (M := M_X11_lay) 60 dX11_lay_60 t_X11_canBe l_X11_208 (m_rr_of rfl) (rest := []) (c_X11_canBe h0 G0) o_0 rfl rfl rfl (Nat.le_of_ble_eq_true rfl) ⟨rfl, rfl⟩ (fun x16 h14 qx16 => ?_)
              obtain ⟨G14, S14, ax16, bx16⟩ := qx16
              have R14 := (FR.rf (cs := (csB ++ [39, 40, 41, 97, 98])) (ss := [(96, 2), (96, 3), (96, 4)]) (h := h0)).call S14 (by decide +kernel)
              refine z_if_ne (M := M_X11_lay) 63 dX11_lay_63 69 rfl (fun c17 => ?_) (fun c17 => ?_)
              · refine z_aload_n (M := M_X11_lay) 69 dX11_lay_69 rfl ?_
                refine z_getR (M := M_X11_lay) 70 dX11_lay_70 f_X11_60 o_0 rfl (g_0_8 G14) ?_
                refine z_vV (M := M_X11_lay) 73 dX11_lay_73 t_X10_clear l_X11_281 (m_rr_of rfl) (rest := []) (c_X10_clear h14 G14) o_96 rfl rfl rfl (Nat.le_of_ble_eq_true rfl) ⟨rfl, rfl⟩ (fun h15 qx18 => ?_)
                obtain ⟨G15, S15⟩ := qx18
                have R15 := R14.call S15 (by decide +kernel)
                refine z_aload_n (M := M_X11_lay) 76 dX11_lay_76 rfl ?_
                refine z_iload_n (M := M_X11_lay) 77 dX11_lay_77 rfl ?_
                refine z_iload (M := M_X11_lay) 78 dX11_lay_78 rfl ?_
                refine z_iload (M := M_X11_lay) 80 dX11_lay_80 rfl ?_
                refine z_vV (M := M_X11_lay) 82 dX11_lay_82 t_X11_addFeet l_X11_284 (m_rr_of rfl) (rest := []) (c_X11_addFeet h15 a1 a4 a5 G15 ⟨by omega, by omega⟩ ⟨by omega, by omega⟩) o_0 rfl rfl rfl (Nat.le_of_ble_eq_true rfl) ⟨rfl, rfl⟩ (fun h16 qx19 => ?_)
                obtain ⟨G16, S16⟩ := qx19
                have R16 := R15.call S16 (by decide +kernel)
                refine z_aload_n (M := M_X11_lay) 85 dX11_lay_85 rfl ?_
                refine z_iload_n (M := M_X11_lay) 86 dX11_lay_86 rfl ?_
                refine z_iload (M := M_X11_lay) 87 dX11_lay_87 rfl ?_
                refine z_iload (M := M_X11_lay) 89 dX11_lay_89 rfl ?_
                refine z_vV (M := M_X11_lay) 91 dX11_lay_91 t_X11_addFeet l_X11_284 (m_rr_of rfl) (rest := []) (c_X11_addFeet h16 a2 a4 a5 G16 ⟨by omega, by omega⟩ ⟨by omega, by omega⟩) o_0 rfl rfl rfl (Nat.le_of_ble_eq_true rfl) ⟨rfl, rfl⟩ (fun h17 qx20 => ?_)
                obtain ⟨G17, S17⟩ := qx20
                have R17 := R16.call S17 (by decide +kernel)
                refine z_iload_n (M := M_X11_lay) 94 dX11_lay_94 rfl ?_
                refine z_iconst (M := M_X11_lay) 95 dX11_lay_95 ?_
                refine z_icmp_eq_F (M := M_X11_lay) 96 dX11_lay_96 108 rfl (by omega) ?_
                refine z_aload_n (M := M_X11_lay) 99 dX11_lay_99 rfl ?_
                refine z_iload_n (M := M_X11_lay) 100 dX11_lay_100 rfl ?_
                refine z_iload (M := M_X11_lay) 101 dX11_lay_101 rfl ?_
                refine z_iload (M := M_X11_lay) 103 dX11_lay_103 rfl ?_
                refine z_vV (M := M_X11_lay) 105 dX11_lay_105 t_X11_addFeet l_X11_284 (m_rr_of rfl) (rest := []) (c_X11_addFeet h17 a3 a4 a5 G17 ⟨by omega, by omega⟩ ⟨by omega, by omega⟩) o_0 rfl rfl rfl (Nat.le_of_ble_eq_true rfl) ⟨rfl, rfl⟩ (fun h18 qx21 => ?_)
                obtain ⟨G18, S18⟩ := qx21
                have R18 := R17.call S18 (by decide +kernel)
                refine z_aload_n (M := M_X11_lay) 108 dX11_lay_108 rfl ?_
                refine z_getR (M := M_X11_lay) 109 dX11_lay_109 f_X11_60 o_0 rfl (g_0_8 G18) ?_
                refine z_vJ (M := M_X11_lay) 112 dX11_lay_112 t_X10_sum l_X11_288 (m_rr_of rfl) (rest := []) (c_X10_sum h18 G18) o_96 rfl rfl rfl (Nat.le_of_ble_eq_true rfl) ⟨rfl, rfl⟩ (fun x22 h19 qx22 => ?_)
                obtain ⟨G19, S19⟩ := qx22
                have R19 := R18.call S19 (by decide +kernel)
                refine z_ldc2 (M := M_X11_lay) 115 dX11_lay_115 k_X11_291 ?_
                refine z_sI (M := M_X11_lay) 118 dX11_lay_118 t_X11_atMost l_X11_220 (m_rr_of rfl) (rest := []) (c_X11_atMost h19 x22 6000 G19) rfl rfl (Nat.le_of_ble_eq_true rfl) ⟨rfl, rfl⟩ (fun x23 h20 qx23 => ?_)
                obtain ⟨G20, S20⟩ := qx23
                have R20 := R19.call S20 (by decide +kernel)
                refine z_ok (fun ox23 _ _ => ?_)
                have ox23 := ox23.1; unfold m_ok m_32 at ox23
                exact z_retI (M := M_X11_lay) 121 dX11_lay_121 rfl ⟨G20, R20⟩
              · refine z_bipush (M := M_X11_lay) 66 dX11_lay_66 ?_
                exact z_retI (M := M_X11_lay) 68 dX11_lay_68 rfl ⟨G14, R14⟩
            · refine z_if_eq_T (M := M_X11_lay) 56 dX11_lay_56 66 rfl (by omega) ?_
              refine z_bipush (M := M_X11_lay) 66 dX11_lay_66 ?_
              exact z_retI (M := M_X11_lay) 68 dX11_lay_68 rfl ⟨G0, (FR.rf (cs := (csB ++ [39, 40, 41, 97, 98])) (ss := [(96, 2), (96, 3), (96, 4)]) (h := h0))⟩
          · refine z_if_eq_T (M := M_X11_lay) 46 dX11_lay_46 66 rfl (by omega) ?_
            refine z_bipush (M := M_X11_lay) 66 dX11_lay_66 ?_
            exact z_retI (M := M_X11_lay) 68 dX11_lay_68 rfl ⟨G0, (FR.rf (cs := (csB ++ [39, 40, 41, 97, 98])) (ss := [(96, 2), (96, 3), (96, 4)]) (h := h0))⟩
        · refine z_if_eq_T (M := M_X11_lay) 26 dX11_lay_26 33 rfl (by omega) ?_
          refine z_iconst (M := M_X11_lay) 33 dX11_lay_33 ?_
          refine z_istore (M := M_X11_lay) 34 dX11_lay_34 (ls' := [some (mR 0), some (mI a1), some (mI a2), some (mI a3), some (mI a4), some (mI a5), some (mI 0)]) (by decide) rfl ?_
          refine z_iload (M := M_X11_lay) 36 dX11_lay_36 rfl ?_
          refine z_if_eq_T (M := M_X11_lay) 38 dX11_lay_38 66 rfl (by omega) ?_
          refine z_bipush (M := M_X11_lay) 66 dX11_lay_66 ?_
          exact z_retI (M := M_X11_lay) 68 dX11_lay_68 rfl ⟨G0, (FR.rf (cs := (csB ++ [39, 40, 41, 97, 98])) (ss := [(96, 2), (96, 3), (96, 4)]) (h := h0))⟩
    · refine z_if_eq_T (M := M_X11_lay) 13 dX11_lay_13 33 rfl (by omega) ?_
      refine z_iconst (M := M_X11_lay) 33 dX11_lay_33 ?_
      refine z_istore (M := M_X11_lay) 34 dX11_lay_34 (ls' := [some (mR 0), some (mI a1), some (mI a2), some (mI a3), some (mI a4), some (mI a5), some (mI 0)]) (by decide) rfl ?_
      refine z_iload (M := M_X11_lay) 36 dX11_lay_36 rfl ?_
      refine z_if_eq_T (M := M_X11_lay) 38 dX11_lay_38 66 rfl (by omega) ?_
      refine z_bipush (M := M_X11_lay) 66 dX11_lay_66 ?_
      exact z_retI (M := M_X11_lay) 68 dX11_lay_68 rfl ⟨G0, (FR.rf (cs := (csB ++ [39, 40, 41, 97, 98])) (ss := [(96, 2), (96, 3), (96, 4)]) (h := h0))⟩
  · refine z_if_eq_T (M := M_X11_lay) 5 dX11_lay_5 33 rfl (by omega) ?_
    refine z_iconst (M := M_X11_lay) 33 dX11_lay_33 ?_
    refine z_istore (M := M_X11_lay) 34 dX11_lay_34 (ls' := [some (mR 0), some (mI a1), some (mI a2), some (mI a3), some (mI a4), some (mI a5), some (mI 0)]) (by decide) rfl ?_
    refine z_iload (M := M_X11_lay) 36 dX11_lay_36 rfl ?_
    refine z_if_eq_T (M := M_X11_lay) 38 dX11_lay_38 66 rfl (by omega) ?_
    refine z_bipush (M := M_X11_lay) 66 dX11_lay_66 ?_
    exact z_retI (M := M_X11_lay) 68 dX11_lay_68 rfl ⟨G0, (FR.rf (cs := (csB ++ [39, 40, 41, 97, 98])) (ss := [(96, 2), (96, 3), (96, 4)]) (h := h0))⟩
abbrev P_X11_area (h0 : m_H) (a1 a2 a3 a4 : Int) : Int → m_H → Prop := fun x h' => GI h' ∧ FR (csB ++ [39, 40, 41, 97, 98]) [(96, 2), (96, 3), (96, 4)] h0 h'
set_option maxHeartbeats 4000000 in
set_option maxRecDepth 100000 in
theorem c_X11_area (h0 : m_H) (a1 a2 a3 a4 : Int) (G0 : GI h0) : m_CI M_X11_area [mR 0, mI a1, mI a2, mI a3, mI a4] h0 (P_X11_area h0 a1 a2 a3 a4) := by
  refine m_CI_of ⟨by decide, rfl, by simp [m_arg, m_isL, M_X11_area], ⟨rfl, rfl⟩, rfl, rfl⟩ (ls := [some (mR 0), some (mI a1), some (mI a2), some (mI a3), some (mI a4), none]) rfl ?_
  refine z_ok (fun _ _ ok => ?_)
  have oa1 : m_32 a1 := ok 1 _ rfl
  unfold m_32 at oa1
  have oa2 : m_32 a2 := ok 2 _ rfl
  unfold m_32 at oa2
  have oa3 : m_32 a3 := ok 3 _ rfl
  unfold m_32 at oa3
  have oa4 : m_32 a4 := ok 4 _ rfl
  unfold m_32 at oa4
  refine z_aload_n (M := M_X11_area) 0 dX11_area_0 rfl ?_
  refine z_iload_n (M := M_X11_area) 1 dX11_area_1 rfl ?_
  refine z_vI (M := M_X11_area) 2 dX11_area_2 t_X11_isMeasured l_X11_278 (m_rr_of rfl) (rest := []) (c_X11_isMeasured h0 a1 G0) o_0 rfl rfl rfl (Nat.le_of_ble_eq_true rfl) ⟨rfl, rfl⟩ (fun x1 h1 qx1 => ?_)
  obtain ⟨rfl, ⟨rfl, cx1⟩ | ⟨rfl, cx1⟩⟩ := qx1
  · refine z_if_eq_F (M := M_X11_area) 5 dX11_area_5 20 rfl (by omega) ?_
    refine z_aload_n (M := M_X11_area) 8 dX11_area_8 rfl ?_
    refine z_iload_n (M := M_X11_area) 9 dX11_area_9 rfl ?_
    refine z_vI (M := M_X11_area) 10 dX11_area_10 t_X11_isMeasured l_X11_278 (m_rr_of rfl) (rest := []) (c_X11_isMeasured h0 a2 G0) o_0 rfl rfl rfl (Nat.le_of_ble_eq_true rfl) ⟨rfl, rfl⟩ (fun x2 h2 qx2 => ?_)
    obtain ⟨rfl, ⟨rfl, cx2⟩ | ⟨rfl, cx2⟩⟩ := qx2
    · refine z_if_eq_F (M := M_X11_area) 13 dX11_area_13 20 rfl (by omega) ?_
      refine z_iconst (M := M_X11_area) 16 dX11_area_16 ?_
      refine z_goto (M := M_X11_area) 17 dX11_area_17 21 rfl ?_
      refine z_istore (M := M_X11_area) 21 dX11_area_21 (ls' := [some (mR 0), some (mI a1), some (mI a2), some (mI a3), some (mI a4), some (mI 1)]) (by decide) rfl ?_
      refine z_iload (M := M_X11_area) 23 dX11_area_23 rfl ?_
      refine z_if_eq_F (M := M_X11_area) 25 dX11_area_25 52 rfl (by omega) ?_
      refine z_iload_n (M := M_X11_area) 28 dX11_area_28 rfl ?_
      refine z_sI (M := M_X11_area) 29 dX11_area_29 t_X11_isKeeper l_X11_132 (m_rr_of rfl) (rest := []) (c_X11_isKeeper h0 a3 G0) rfl rfl (Nat.le_of_ble_eq_true rfl) ⟨rfl, rfl⟩ (fun x3 h3 qx3 => ?_)
      obtain ⟨rfl, ⟨rfl, cx3⟩ | ⟨rfl, cx3⟩⟩ := qx3
      · refine z_if_eq_F (M := M_X11_area) 32 dX11_area_32 52 rfl (by omega) ?_
        refine z_iload (M := M_X11_area) 35 dX11_area_35 rfl ?_
        refine z_iconst (M := M_X11_area) 37 dX11_area_37 ?_
        refine z_iconst (M := M_X11_area) 38 dX11_area_38 ?_
        refine z_sI (M := M_X11_area) 39 dX11_area_39 t_X11_within l_X11_112 (m_rr_of rfl) (rest := []) (c_X11_within h0 a4 0 1 G0) rfl rfl (Nat.le_of_ble_eq_true rfl) ⟨rfl, rfl⟩ (fun x4 h4 qx4 => ?_)
        obtain ⟨rfl, ⟨rfl, cx4⟩ | ⟨rfl, cx4⟩⟩ := qx4
        · refine z_if_eq_F (M := M_X11_area) 42 dX11_area_42 52 rfl (by omega) ?_
          refine z_aload_n (M := M_X11_area) 45 dX11_area_45 rfl ?_
          refine z_vI (M := M_X11_area) 46 dX11_area_46 t_X11_canBe l_X11_208 (m_rr_of rfl) (rest := []) (c_X11_canBe h0 G0) o_0 rfl rfl rfl (Nat.le_of_ble_eq_true rfl) ⟨rfl, rfl⟩ (fun x5 h5 qx5 => ?_)
          obtain ⟨G5, S5, ax5, bx5⟩ := qx5
          have R5 := (FR.rf (cs := (csB ++ [39, 40, 41, 97, 98])) (ss := [(96, 2), (96, 3), (96, 4)]) (h := h0)).call S5 (by decide +kernel)
          refine z_if_ne (M := M_X11_area) 49 dX11_area_49 55 rfl (fun c6 => ?_) (fun c6 => ?_)
          · refine z_aload_n (M := M_X11_area) 55 dX11_area_55 rfl ?_
            refine z_getR (M := M_X11_area) 56 dX11_area_56 f_X11_60 o_0 rfl (g_0_8 G5) ?_
            refine z_vV (M := M_X11_area) 59 dX11_area_59 t_X10_clear l_X11_281 (m_rr_of rfl) (rest := []) (c_X10_clear h5 G5) o_96 rfl rfl rfl (Nat.le_of_ble_eq_true rfl) ⟨rfl, rfl⟩ (fun h6 qx7 => ?_)
            obtain ⟨G6, S6⟩ := qx7
            have R6 := R5.call S6 (by decide +kernel)
            refine z_aload_n (M := M_X11_area) 62 dX11_area_62 rfl ?_
            refine z_iload_n (M := M_X11_area) 63 dX11_area_63 rfl ?_
            refine z_iload_n (M := M_X11_area) 64 dX11_area_64 rfl ?_
            refine z_iload (M := M_X11_area) 65 dX11_area_65 rfl ?_
            refine z_vV (M := M_X11_area) 67 dX11_area_67 t_X11_addFeet l_X11_284 (m_rr_of rfl) (rest := []) (c_X11_addFeet h6 a1 a3 a4 G6 ⟨by omega, by omega⟩ ⟨by omega, by omega⟩) o_0 rfl rfl rfl (Nat.le_of_ble_eq_true rfl) ⟨rfl, rfl⟩ (fun h7 qx8 => ?_)
            obtain ⟨G7, S7⟩ := qx8
            have R7 := R6.call S7 (by decide +kernel)
            refine z_aload_n (M := M_X11_area) 70 dX11_area_70 rfl ?_
            refine z_iload_n (M := M_X11_area) 71 dX11_area_71 rfl ?_
            refine z_iload_n (M := M_X11_area) 72 dX11_area_72 rfl ?_
            refine z_iload (M := M_X11_area) 73 dX11_area_73 rfl ?_
            refine z_vV (M := M_X11_area) 75 dX11_area_75 t_X11_addFeet l_X11_284 (m_rr_of rfl) (rest := []) (c_X11_addFeet h7 a2 a3 a4 G7 ⟨by omega, by omega⟩ ⟨by omega, by omega⟩) o_0 rfl rfl rfl (Nat.le_of_ble_eq_true rfl) ⟨rfl, rfl⟩ (fun h8 qx9 => ?_)
            obtain ⟨G8, S8⟩ := qx9
            have R8 := R7.call S8 (by decide +kernel)
            refine z_aload_n (M := M_X11_area) 78 dX11_area_78 rfl ?_
            refine z_getR (M := M_X11_area) 79 dX11_area_79 f_X11_60 o_0 rfl (g_0_8 G8) ?_
            refine z_vJ (M := M_X11_area) 82 dX11_area_82 t_X10_product l_X11_293 (m_rr_of rfl) (rest := []) (c_X10_product h8 G8) o_96 rfl rfl rfl (Nat.le_of_ble_eq_true rfl) ⟨rfl, rfl⟩ (fun x10 h9 qx10 => ?_)
            obtain ⟨G9, S9⟩ := qx10
            have R9 := R8.call S9 (by decide +kernel)
            refine z_ldc2 (M := M_X11_area) 85 dX11_area_85 k_X11_296 ?_
            refine z_sI (M := M_X11_area) 88 dX11_area_88 t_X11_atMost l_X11_220 (m_rr_of rfl) (rest := []) (c_X11_atMost h9 x10 4000000 G9) rfl rfl (Nat.le_of_ble_eq_true rfl) ⟨rfl, rfl⟩ (fun x11 h10 qx11 => ?_)
            obtain ⟨G10, S10⟩ := qx11
            have R10 := R9.call S10 (by decide +kernel)
            refine z_ok (fun ox11 _ _ => ?_)
            have ox11 := ox11.1; unfold m_ok m_32 at ox11
            exact z_retI (M := M_X11_area) 91 dX11_area_91 rfl ⟨G10, R10⟩
          · refine z_bipush (M := M_X11_area) 52 dX11_area_52 ?_
            exact z_retI (M := M_X11_area) 54 dX11_area_54 rfl ⟨G5, R5⟩
        · refine z_if_eq_T (M := M_X11_area) 42 dX11_area_42 52 rfl (by omega) ?_
          refine z_bipush (M := M_X11_area) 52 dX11_area_52 ?_
          exact z_retI (M := M_X11_area) 54 dX11_area_54 rfl ⟨G0, (FR.rf (cs := (csB ++ [39, 40, 41, 97, 98])) (ss := [(96, 2), (96, 3), (96, 4)]) (h := h0))⟩
      · refine z_if_eq_T (M := M_X11_area) 32 dX11_area_32 52 rfl (by omega) ?_
        refine z_bipush (M := M_X11_area) 52 dX11_area_52 ?_
        exact z_retI (M := M_X11_area) 54 dX11_area_54 rfl ⟨G0, (FR.rf (cs := (csB ++ [39, 40, 41, 97, 98])) (ss := [(96, 2), (96, 3), (96, 4)]) (h := h0))⟩
    · refine z_if_eq_T (M := M_X11_area) 13 dX11_area_13 20 rfl (by omega) ?_
      refine z_iconst (M := M_X11_area) 20 dX11_area_20 ?_
      refine z_istore (M := M_X11_area) 21 dX11_area_21 (ls' := [some (mR 0), some (mI a1), some (mI a2), some (mI a3), some (mI a4), some (mI 0)]) (by decide) rfl ?_
      refine z_iload (M := M_X11_area) 23 dX11_area_23 rfl ?_
      refine z_if_eq_T (M := M_X11_area) 25 dX11_area_25 52 rfl (by omega) ?_
      refine z_bipush (M := M_X11_area) 52 dX11_area_52 ?_
      exact z_retI (M := M_X11_area) 54 dX11_area_54 rfl ⟨G0, (FR.rf (cs := (csB ++ [39, 40, 41, 97, 98])) (ss := [(96, 2), (96, 3), (96, 4)]) (h := h0))⟩
  · refine z_if_eq_T (M := M_X11_area) 5 dX11_area_5 20 rfl (by omega) ?_
    refine z_iconst (M := M_X11_area) 20 dX11_area_20 ?_
    refine z_istore (M := M_X11_area) 21 dX11_area_21 (ls' := [some (mR 0), some (mI a1), some (mI a2), some (mI a3), some (mI a4), some (mI 0)]) (by decide) rfl ?_
    refine z_iload (M := M_X11_area) 23 dX11_area_23 rfl ?_
    refine z_if_eq_T (M := M_X11_area) 25 dX11_area_25 52 rfl (by omega) ?_
    refine z_bipush (M := M_X11_area) 52 dX11_area_52 ?_
    exact z_retI (M := M_X11_area) 54 dX11_area_54 rfl ⟨G0, (FR.rf (cs := (csB ++ [39, 40, 41, 97, 98])) (ss := [(96, 2), (96, 3), (96, 4)]) (h := h0))⟩
abbrev P_X11_would (h0 : m_H) (a1 a2 a3 a4 : Int) : Int → m_H → Prop := fun x h' => GI h' ∧ FR (csB ++ [39, 40, 41]) [] h0 h' ∧ (-2) ≤ x ∧ x ≤ 2
set_option maxHeartbeats 4000000 in
set_option maxRecDepth 100000 in
theorem c_X11_would (h0 : m_H) (a1 a2 a3 a4 : Int) (G0 : GI h0) : m_CI M_X11_would [mR 0, mI a1, mI a2, mI a3, mI a4] h0 (P_X11_would h0 a1 a2 a3 a4) := by
  refine m_CI_of ⟨by decide, rfl, by simp [m_arg, m_isL, M_X11_would], ⟨rfl, rfl⟩, rfl, rfl⟩ (ls := [some (mR 0), some (mI a1), some (mI a2), some (mI a3), some (mI a4)]) rfl ?_
  refine z_ok (fun _ _ ok => ?_)
  have oa1 : m_32 a1 := ok 1 _ rfl
  unfold m_32 at oa1
  have oa2 : m_32 a2 := ok 2 _ rfl
  unfold m_32 at oa2
  have oa3 : m_32 a3 := ok 3 _ rfl
  unfold m_32 at oa3
  have oa4 : m_32 a4 := ok 4 _ rfl
  unfold m_32 at oa4
  refine z_iload_n (M := M_X11_would) 0 dX11_would_0 rfl ?_
  refine z_sI (M := M_X11_would) 1 dX11_would_1 t_X11_isNumber l_X11_298 (m_rr_of rfl) (rest := []) (c_X11_isNumber h0 a3 G0) rfl rfl (Nat.le_of_ble_eq_true rfl) ⟨rfl, rfl⟩ (fun x1 h1 qx1 => ?_)
  obtain ⟨rfl, ⟨rfl, cx1⟩ | ⟨rfl, cx1⟩⟩ := qx1
  · refine z_if_eq_F (M := M_X11_would) 4 dX11_would_4 24 rfl (by omega) ?_
    refine z_iload (M := M_X11_would) 7 dX11_would_7 rfl ?_
    refine z_sI (M := M_X11_would) 9 dX11_would_9 t_X11_isKind l_X11_301 (m_rr_of rfl) (rest := []) (c_X11_isKind h0 a4 G0) rfl rfl (Nat.le_of_ble_eq_true rfl) ⟨rfl, rfl⟩ (fun x2 h2 qx2 => ?_)
    obtain ⟨rfl, ⟨rfl, cx2⟩ | ⟨rfl, cx2⟩⟩ := qx2
    · refine z_if_eq_F (M := M_X11_would) 12 dX11_would_12 24 rfl (by omega) ?_
      refine z_aload_n (M := M_X11_would) 15 dX11_would_15 rfl ?_
      refine z_iload_n (M := M_X11_would) 16 dX11_would_16 rfl ?_
      refine z_iload_n (M := M_X11_would) 17 dX11_would_17 rfl ?_
      refine z_vI (M := M_X11_would) 18 dX11_would_18 t_X11_compareToFoot l_X11_247 (m_rr_of rfl) (rest := []) (c_X11_compareToFoot h0 a1 a2 G0) o_0 rfl rfl rfl (Nat.le_of_ble_eq_true rfl) ⟨rfl, rfl⟩ (fun x3 h3 qx3 => ?_)
      obtain ⟨G3, S3, ax3, bx3⟩ := qx3
      have R3 := (FR.rf (cs := (csB ++ [39, 40, 41])) (ss := []) (h := h0)).call S3 (by decide +kernel)
      refine z_if_ne (M := M_X11_would) 21 dX11_would_21 27 rfl (fun c4 => ?_) (fun c4 => ?_)
      · refine z_aload_n (M := M_X11_would) 27 dX11_would_27 rfl ?_
        refine z_getR (M := M_X11_would) 28 dX11_would_28 f_X11_53 o_0 rfl (g_0_7 G3) ?_
        refine z_iload_n (M := M_X11_would) 31 dX11_would_31 rfl ?_
        refine z_iload (M := M_X11_would) 32 dX11_would_32 rfl ?_
        refine z_vI (M := M_X11_would) 34 dX11_would_34 t_X7_allows l_X11_304 (m_rr_of rfl) (rest := []) (c_X7_allows h3 a3 a4 G3) o_93 rfl rfl rfl (Nat.le_of_ble_eq_true rfl) ⟨rfl, rfl⟩ (fun x5 h4 qx5 => ?_)
        obtain ⟨G4, S4, ax5, bx5⟩ := qx5
        have R4 := R3.call S4 (by decide +kernel)
        refine z_if_ne (M := M_X11_would) 37 dX11_would_37 42 rfl (fun c6 => ?_) (fun c6 => ?_)
        · refine z_aload_n (M := M_X11_would) 42 dX11_would_42 rfl ?_
          refine z_getR (M := M_X11_would) 43 dX11_would_43 f_X11_53 o_0 rfl (g_0_7 G4) ?_
          refine z_iload_n (M := M_X11_would) 46 dX11_would_46 rfl ?_
          refine z_iload (M := M_X11_would) 47 dX11_would_47 rfl ?_
          refine z_vI (M := M_X11_would) 49 dX11_would_49 t_X7_forces l_X11_307 (m_rr_of rfl) (rest := []) (c_X7_forces h4 a3 a4 G4) o_93 rfl rfl rfl (Nat.le_of_ble_eq_true rfl) ⟨rfl, rfl⟩ (fun x7 h5 qx7 => ?_)
          obtain ⟨G5, S5, ax7, bx7⟩ := qx7
          have R5 := R4.call S5 (by decide +kernel)
          refine z_if_eq (M := M_X11_would) 52 dX11_would_52 59 rfl (fun c8 => ?_) (fun c8 => ?_)
          · refine z_iconst (M := M_X11_would) 59 dX11_would_59 ?_
            exact z_retI (M := M_X11_would) 60 dX11_would_60 rfl ⟨G5, R5, by omega, by omega⟩
          · refine z_iconst (M := M_X11_would) 55 dX11_would_55 ?_
            refine z_goto (M := M_X11_would) 56 dX11_would_56 60 rfl ?_
            exact z_retI (M := M_X11_would) 60 dX11_would_60 rfl ⟨G5, R5, by omega, by omega⟩
        · refine z_iconst (M := M_X11_would) 40 dX11_would_40 ?_
          exact z_retI (M := M_X11_would) 41 dX11_would_41 rfl ⟨G4, R4, by omega, by omega⟩
      · refine z_bipush (M := M_X11_would) 24 dX11_would_24 ?_
        exact z_retI (M := M_X11_would) 26 dX11_would_26 rfl ⟨G3, R3, by omega, by omega⟩
    · refine z_if_eq_T (M := M_X11_would) 12 dX11_would_12 24 rfl (by omega) ?_
      refine z_bipush (M := M_X11_would) 24 dX11_would_24 ?_
      exact z_retI (M := M_X11_would) 26 dX11_would_26 rfl ⟨G0, (FR.rf (cs := (csB ++ [39, 40, 41])) (ss := []) (h := h0)), by omega, by omega⟩
  · refine z_if_eq_T (M := M_X11_would) 4 dX11_would_4 24 rfl (by omega) ?_
    refine z_bipush (M := M_X11_would) 24 dX11_would_24 ?_
    exact z_retI (M := M_X11_would) 26 dX11_would_26 rfl ⟨G0, (FR.rf (cs := (csB ++ [39, 40, 41])) (ss := []) (h := h0)), by omega, by omega⟩
abbrev P_X11_numbers (h0 : m_H) (a1 a2 a3 a4 : Int) : Int → m_H → Prop := fun x h' => GI h' ∧ FR (csB ++ [39, 40, 41]) [] h0 h'
set_option maxHeartbeats 4000000 in
set_option maxRecDepth 100000 in
theorem c_X11_numbers (h0 : m_H) (a1 a2 a3 a4 : Int) (G0 : GI h0) : m_CI M_X11_numbers [mR 0, mI a1, mI a2, mI a3, mI a4] h0 (P_X11_numbers h0 a1 a2 a3 a4) := by
  refine m_CI_of ⟨by decide, rfl, by simp [m_arg, m_isL, M_X11_numbers], ⟨rfl, rfl⟩, rfl, rfl⟩ (ls := [some (mR 0), some (mI a1), some (mI a2), some (mI a3), some (mI a4), none]) rfl ?_
  refine z_ok (fun _ _ ok => ?_)
  have oa1 : m_32 a1 := ok 1 _ rfl
  unfold m_32 at oa1
  have oa2 : m_32 a2 := ok 2 _ rfl
  unfold m_32 at oa2
  have oa3 : m_32 a3 := ok 3 _ rfl
  unfold m_32 at oa3
  have oa4 : m_32 a4 := ok 4 _ rfl
  unfold m_32 at oa4
  refine z_iload_n (M := M_X11_numbers) 0 dX11_numbers_0 rfl ?_
  refine z_sI (M := M_X11_numbers) 1 dX11_numbers_1 t_X11_isKind l_X11_301 (m_rr_of rfl) (rest := []) (c_X11_isKind h0 a3 G0) rfl rfl (Nat.le_of_ble_eq_true rfl) ⟨rfl, rfl⟩ (fun x1 h1 qx1 => ?_)
  obtain ⟨rfl, ⟨rfl, cx1⟩ | ⟨rfl, cx1⟩⟩ := qx1
  · refine z_if_eq_F (M := M_X11_numbers) 4 dX11_numbers_4 26 rfl (by omega) ?_
    refine z_iload (M := M_X11_numbers) 7 dX11_numbers_7 rfl ?_
    refine z_iconst (M := M_X11_numbers) 9 dX11_numbers_9 ?_
    refine z_iconst (M := M_X11_numbers) 10 dX11_numbers_10 ?_
    refine z_sI (M := M_X11_numbers) 11 dX11_numbers_11 t_X11_within l_X11_112 (m_rr_of rfl) (rest := []) (c_X11_within h0 a4 0 2 G0) rfl rfl (Nat.le_of_ble_eq_true rfl) ⟨rfl, rfl⟩ (fun x2 h2 qx2 => ?_)
    obtain ⟨rfl, ⟨rfl, cx2⟩ | ⟨rfl, cx2⟩⟩ := qx2
    · refine z_if_eq_F (M := M_X11_numbers) 14 dX11_numbers_14 26 rfl (by omega) ?_
      refine z_aload_n (M := M_X11_numbers) 17 dX11_numbers_17 rfl ?_
      refine z_iload_n (M := M_X11_numbers) 18 dX11_numbers_18 rfl ?_
      refine z_iload_n (M := M_X11_numbers) 19 dX11_numbers_19 rfl ?_
      refine z_vI (M := M_X11_numbers) 20 dX11_numbers_20 t_X11_compareToFoot l_X11_247 (m_rr_of rfl) (rest := []) (c_X11_compareToFoot h0 a1 a2 G0) o_0 rfl rfl rfl (Nat.le_of_ble_eq_true rfl) ⟨rfl, rfl⟩ (fun x3 h3 qx3 => ?_)
      obtain ⟨G3, S3, ax3, bx3⟩ := qx3
      have R3 := (FR.rf (cs := (csB ++ [39, 40, 41])) (ss := []) (h := h0)).call S3 (by decide +kernel)
      refine z_if_ne (M := M_X11_numbers) 23 dX11_numbers_23 29 rfl (fun c4 => ?_) (fun c4 => ?_)
      · refine z_aload_n (M := M_X11_numbers) 29 dX11_numbers_29 rfl ?_
        refine z_getR (M := M_X11_numbers) 30 dX11_numbers_30 f_X11_53 o_0 rfl (g_0_7 G3) ?_
        refine z_iload_n (M := M_X11_numbers) 33 dX11_numbers_33 rfl ?_
        refine z_vI (M := M_X11_numbers) 34 dX11_numbers_34 t_X7_manyNumbers l_X11_310 (m_rr_of rfl) (rest := []) (c_X7_manyNumbers h3 a3 G3) o_93 rfl rfl rfl (Nat.le_of_ble_eq_true rfl) ⟨rfl, rfl⟩ (fun x5 h4 qx5 => ?_)
        obtain ⟨G4, S4, ax5, bx5⟩ := qx5
        have R4 := R3.call S4 (by decide +kernel)
        refine z_istore (M := M_X11_numbers) 37 dX11_numbers_37 (ls' := [some (mR 0), some (mI a1), some (mI a2), some (mI a3), some (mI a4), some (mI x5)]) (by decide) rfl ?_
        refine z_iload (M := M_X11_numbers) 39 dX11_numbers_39 rfl ?_
        refine z_if_ne (M := M_X11_numbers) 41 dX11_numbers_41 47 rfl (fun c6 => ?_) (fun c6 => ?_)
        · refine z_iload (M := M_X11_numbers) 47 dX11_numbers_47 rfl ?_
          refine z_if_ne (M := M_X11_numbers) 49 dX11_numbers_49 54 rfl (fun c7 => ?_) (fun c7 => ?_)
          · refine z_iload (M := M_X11_numbers) 54 dX11_numbers_54 rfl ?_
            refine z_iconst (M := M_X11_numbers) 56 dX11_numbers_56 ?_
            refine z_icmp_ne (M := M_X11_numbers) 57 dX11_numbers_57 71 rfl (fun c8 => ?_) (fun c8 => ?_)
            · refine z_aload_n (M := M_X11_numbers) 71 dX11_numbers_71 rfl ?_
              refine z_getR (M := M_X11_numbers) 72 dX11_numbers_72 f_X11_53 o_0 rfl (g_0_7 G4) ?_
              refine z_iload_n (M := M_X11_numbers) 75 dX11_numbers_75 rfl ?_
              refine z_vI (M := M_X11_numbers) 76 dX11_numbers_76 t_X7_lastNumber l_X11_316 (m_rr_of rfl) (rest := []) (c_X7_lastNumber h4 a3 G4) o_93 rfl rfl rfl (Nat.le_of_ble_eq_true rfl) ⟨rfl, rfl⟩ (fun x9 h5 qx9 => ?_)
              obtain ⟨G5, S5⟩ := qx9
              have R5 := R4.call S5 (by decide +kernel)
              refine z_ok (fun ox9 _ _ => ?_)
              have ox9 := ox9.1; unfold m_ok m_32 at ox9
              exact z_retI (M := M_X11_numbers) 79 dX11_numbers_79 rfl ⟨G5, R5⟩
            · refine z_aload_n (M := M_X11_numbers) 60 dX11_numbers_60 rfl ?_
              refine z_getR (M := M_X11_numbers) 61 dX11_numbers_61 f_X11_53 o_0 rfl (g_0_7 G4) ?_
              refine z_iload_n (M := M_X11_numbers) 64 dX11_numbers_64 rfl ?_
              refine z_vI (M := M_X11_numbers) 65 dX11_numbers_65 t_X7_firstNumber l_X11_313 (m_rr_of rfl) (rest := []) (c_X7_firstNumber h4 a3 G4) o_93 rfl rfl rfl (Nat.le_of_ble_eq_true rfl) ⟨rfl, rfl⟩ (fun x10 h6 qx10 => ?_)
              obtain ⟨G6, S6⟩ := qx10
              have R6 := R4.call S6 (by decide +kernel)
              refine z_ok (fun ox10 _ _ => ?_)
              have ox10 := ox10.1; unfold m_ok m_32 at ox10
              refine z_goto (M := M_X11_numbers) 68 dX11_numbers_68 79 rfl ?_
              exact z_retI (M := M_X11_numbers) 79 dX11_numbers_79 rfl ⟨G6, R6⟩
          · refine z_iconst (M := M_X11_numbers) 52 dX11_numbers_52 ?_
            exact z_retI (M := M_X11_numbers) 53 dX11_numbers_53 rfl ⟨G4, R4⟩
        · refine z_iload (M := M_X11_numbers) 44 dX11_numbers_44 rfl ?_
          exact z_retI (M := M_X11_numbers) 46 dX11_numbers_46 rfl ⟨G4, R4⟩
      · refine z_bipush (M := M_X11_numbers) 26 dX11_numbers_26 ?_
        exact z_retI (M := M_X11_numbers) 28 dX11_numbers_28 rfl ⟨G3, R3⟩
    · refine z_if_eq_T (M := M_X11_numbers) 14 dX11_numbers_14 26 rfl (by omega) ?_
      refine z_bipush (M := M_X11_numbers) 26 dX11_numbers_26 ?_
      exact z_retI (M := M_X11_numbers) 28 dX11_numbers_28 rfl ⟨G0, (FR.rf (cs := (csB ++ [39, 40, 41])) (ss := []) (h := h0))⟩
  · refine z_if_eq_T (M := M_X11_numbers) 4 dX11_numbers_4 26 rfl (by omega) ?_
    refine z_bipush (M := M_X11_numbers) 26 dX11_numbers_26 ?_
    exact z_retI (M := M_X11_numbers) 28 dX11_numbers_28 rfl ⟨G0, (FR.rf (cs := (csB ++ [39, 40, 41])) (ss := []) (h := h0))⟩
abbrev P_X11_ask (h0 : m_H) (a1 : Int) : Int → m_H → Prop := fun x h' => GI h' ∧ FR (csB ++ [39, 40, 41]) [] h0 h' ∧ (-1) ≤ x ∧ x ≤ 2147483647
def q_X11_ask (h0 : m_H) (a1 : Int) (n : Nat) : Prop := (∀ (l2 l3 l4 : Int) (h : m_H), GI h → FR (csB ++ [39, 40, 41]) [] h0 h → (-1) ≤ l2 → l2 ≤ 2147483647 → 0 ≤ l3 → l3 ≤ 47 → 0 ≤ l4 → l4 ≤ 48 → 0 ≤ a1 → a1 ≤ 2 → 2 * (48 - l4) + (1) ≤ (n : Int) → m_Z oF M_X11_ask 25 [some (mR 0), some (mI a1), some (mI l2), some (mI l3), some (mI l4), none] [] h (m_QI (P_X11_ask h0 a1)))
set_option maxHeartbeats 4000000 in
set_option maxRecDepth 100000 in
theorem s_X11_ask_25 (h0 : m_H) (a1 : Int) (G0 : GI h0) (n : Nat) (ih : q_X11_ask h0 a1 n) : ∀ (l2 l3 l4 : Int) (h : m_H), GI h → FR (csB ++ [39, 40, 41]) [] h0 h → (-1) ≤ l2 → l2 ≤ 2147483647 → 0 ≤ l3 → l3 ≤ 47 → 0 ≤ l4 → l4 ≤ 48 → 0 ≤ a1 → a1 ≤ 2 → 2 * (48 - l4) + (1) ≤ ((n + 1 : Nat) : Int) → m_Z oF M_X11_ask 25 [some (mR 0), some (mI a1), some (mI l2), some (mI l3), some (mI l4), none] [] h (m_QI (P_X11_ask h0 a1)) := by
  intro l2 l3 l4 h G R v0 v1 v2 v3 v4 v5 v6 v7 hr
  refine z_iload (M := M_X11_ask) 25 dX11_ask_25 rfl ?_
  refine z_bipush (M := M_X11_ask) 27 dX11_ask_27 ?_
  refine z_icmp_ge (M := M_X11_ask) 29 dX11_ask_29 64 rfl (fun c1 => ?_) (fun c1 => ?_)
  · refine z_iload_n (M := M_X11_ask) 64 dX11_ask_64 rfl ?_
    refine z_iconst (M := M_X11_ask) 65 dX11_ask_65 ?_
    refine z_icmp_ne (M := M_X11_ask) 66 dX11_ask_66 71 rfl (fun c2 => ?_) (fun c2 => ?_)
    · refine z_iload_n (M := M_X11_ask) 71 dX11_ask_71 rfl ?_
      refine z_if_ne (M := M_X11_ask) 72 dX11_ask_72 81 rfl (fun c3 => ?_) (fun c3 => ?_)
      · refine z_iload_n (M := M_X11_ask) 81 dX11_ask_81 rfl ?_
        refine z_iconst (M := M_X11_ask) 82 dX11_ask_82 ?_
        refine z_iremN (M := M_X11_ask) 83 dX11_ask_83 (by omega) (by omega) ?_
        refine z_topBI (lo := 0) (hi := 3) ⟨by omega, by omega⟩ (fun x4 ex4 ax4 bx4 => ?_)
        exact z_retI (M := M_X11_ask) 84 dX11_ask_84 rfl ⟨G, R, by omega, by omega⟩
      · refine z_iload_n (M := M_X11_ask) 75 dX11_ask_75 rfl ?_
        refine z_iconst (M := M_X11_ask) 76 dX11_ask_76 ?_
        refine z_idivN (M := M_X11_ask) 77 dX11_ask_77 (by omega) (by omega) ?_
        refine z_topBI (lo := 0) (hi := 11) ⟨by omega, by omega⟩ (fun x5 ex5 ax5 bx5 => ?_)
        refine z_goto (M := M_X11_ask) 78 dX11_ask_78 84 rfl ?_
        exact z_retI (M := M_X11_ask) 84 dX11_ask_84 rfl ⟨G, R, by omega, by omega⟩
    · refine z_iload_n (M := M_X11_ask) 69 dX11_ask_69 rfl ?_
      exact z_retI (M := M_X11_ask) 70 dX11_ask_70 rfl ⟨G, R, by omega, by omega⟩
  · refine z_aload_n (M := M_X11_ask) 32 dX11_ask_32 rfl ?_
    refine z_iload (M := M_X11_ask) 33 dX11_ask_33 rfl ?_
    refine z_iconst (M := M_X11_ask) 35 dX11_ask_35 ?_
    refine z_idivN (M := M_X11_ask) 36 dX11_ask_36 (by omega) (by omega) ?_
    refine z_topBI (lo := 0) (hi := 11) ⟨by omega, by omega⟩ (fun x6 ex6 ax6 bx6 => ?_)
    refine z_iload (M := M_X11_ask) 37 dX11_ask_37 rfl ?_
    refine z_iconst (M := M_X11_ask) 39 dX11_ask_39 ?_
    refine z_iremN (M := M_X11_ask) 40 dX11_ask_40 (by omega) (by omega) ?_
    refine z_topBI (lo := 0) (hi := 3) ⟨by omega, by omega⟩ (fun x7 ex7 ax7 bx7 => ?_)
    refine z_vI (M := M_X11_ask) 41 dX11_ask_41 t_X11_manyWholes l_X11_319 (m_rr_of rfl) (rest := []) (c_X11_manyWholes h x6 x7 G ⟨by omega, by omega⟩ ⟨by omega, by omega⟩) o_0 rfl rfl rfl (Nat.le_of_ble_eq_true rfl) ⟨rfl, rfl⟩ (fun x8 h1 qx8 => ?_)
    obtain ⟨G1, S1, ax8, bx8⟩ := qx8
    have R1 := R.call S1 (by decide +kernel)
    refine z_istore (M := M_X11_ask) 44 dX11_ask_44 (ls' := [some (mR 0), some (mI a1), some (mI l2), some (mI l3), some (mI l4), some (mI x8)]) (by decide) rfl ?_
    refine z_iload (M := M_X11_ask) 46 dX11_ask_46 rfl ?_
    refine z_iload_n (M := M_X11_ask) 48 dX11_ask_48 rfl ?_
    refine z_icmp_le (M := M_X11_ask) 49 dX11_ask_49 58 rfl (fun c9 => ?_) (fun c9 => ?_)
    · refine z_iincN (M := M_X11_ask) 58 dX11_ask_58 (ls' := [some (mR 0), some (mI a1), some (mI l2), some (mI l3), some (mI (l4 + 1)), some (mI x8)]) (by decide) rfl (by (unfold m_32; decide)) (by omega) (by omega) rfl ?_
      refine z_goto (M := M_X11_ask) 61 dX11_ask_61 25 rfl ?_
      exact z_mask [true, true, true, true, true, false] rfl (ih l2 l3 (l4 + 1) h1 G1 R1 (by omega) (by omega) (by omega) (by omega) (by omega) (by omega) (by omega) (by omega) (by omega))
    · refine z_iload (M := M_X11_ask) 52 dX11_ask_52 rfl ?_
      refine z_istore_n (M := M_X11_ask) 54 dX11_ask_54 (ls' := [some (mR 0), some (mI a1), some (mI x8), some (mI l3), some (mI l4), some (mI x8)]) (by decide) rfl ?_
      refine z_iload (M := M_X11_ask) 55 dX11_ask_55 rfl ?_
      refine z_istore_n (M := M_X11_ask) 57 dX11_ask_57 (ls' := [some (mR 0), some (mI a1), some (mI x8), some (mI l4), some (mI l4), some (mI x8)]) (by decide) rfl ?_
      refine z_iincN (M := M_X11_ask) 58 dX11_ask_58 (ls' := [some (mR 0), some (mI a1), some (mI x8), some (mI l4), some (mI (l4 + 1)), some (mI x8)]) (by decide) rfl (by (unfold m_32; decide)) (by omega) (by omega) rfl ?_
      refine z_goto (M := M_X11_ask) 61 dX11_ask_61 25 rfl ?_
      exact z_mask [true, true, true, true, true, false] rfl (ih x8 l4 (l4 + 1) h1 G1 R1 (by omega) (by omega) (by omega) (by omega) (by omega) (by omega) (by omega) (by omega) (by omega))
theorem a_X11_ask (h0 : m_H) (a1 : Int) (G0 : GI h0) : ∀ n, q_X11_ask h0 a1 n := by
  intro n
  induction n with
  | zero => unfold q_X11_ask; intros; omega
  | succ n ih => exact s_X11_ask_25 h0 a1 G0 n ih
set_option maxHeartbeats 4000000 in
set_option maxRecDepth 100000 in
theorem c_X11_ask (h0 : m_H) (a1 : Int) (G0 : GI h0) : m_CI M_X11_ask [mR 0, mI a1] h0 (P_X11_ask h0 a1) := by
  refine m_CI_of ⟨by decide, rfl, by simp [m_arg, m_isL, M_X11_ask], ⟨rfl, rfl⟩, rfl, rfl⟩ (ls := [some (mR 0), some (mI a1), none, none, none, none]) rfl ?_
  have ih := a_X11_ask h0 a1 G0 104
  refine z_ok (fun _ _ ok => ?_)
  have oa1 : m_32 a1 := ok 1 _ rfl
  unfold m_32 at oa1
  refine z_iload_n (M := M_X11_ask) 0 dX11_ask_0 rfl ?_
  refine z_iconst (M := M_X11_ask) 1 dX11_ask_1 ?_
  refine z_iconst (M := M_X11_ask) 2 dX11_ask_2 ?_
  refine z_sI (M := M_X11_ask) 3 dX11_ask_3 t_X11_within l_X11_112 (m_rr_of rfl) (rest := []) (c_X11_within h0 a1 0 2 G0) rfl rfl (Nat.le_of_ble_eq_true rfl) ⟨rfl, rfl⟩ (fun x1 h1 qx1 => ?_)
  obtain ⟨rfl, ⟨rfl, cx1⟩ | ⟨rfl, cx1⟩⟩ := qx1
  · refine z_if_eq_F (M := M_X11_ask) 6 dX11_ask_6 16 rfl (by omega) ?_
    refine z_aload_n (M := M_X11_ask) 9 dX11_ask_9 rfl ?_
    refine z_vI (M := M_X11_ask) 10 dX11_ask_10 t_X11_canBe l_X11_208 (m_rr_of rfl) (rest := []) (c_X11_canBe h0 G0) o_0 rfl rfl rfl (Nat.le_of_ble_eq_true rfl) ⟨rfl, rfl⟩ (fun x2 h2 qx2 => ?_)
    obtain ⟨G2, S2, ax2, bx2⟩ := qx2
    have R2 := (FR.rf (cs := (csB ++ [39, 40, 41])) (ss := []) (h := h0)).call S2 (by decide +kernel)
    refine z_if_ne (M := M_X11_ask) 13 dX11_ask_13 18 rfl (fun c3 => ?_) (fun c3 => ?_)
    · refine z_iconst (M := M_X11_ask) 18 dX11_ask_18 ?_
      refine z_istore_n (M := M_X11_ask) 19 dX11_ask_19 (ls' := [some (mR 0), some (mI a1), some (mI (-1)), none, none, none]) (by decide) rfl ?_
      refine z_iconst (M := M_X11_ask) 20 dX11_ask_20 ?_
      refine z_istore_n (M := M_X11_ask) 21 dX11_ask_21 (ls' := [some (mR 0), some (mI a1), some (mI (-1)), some (mI 0), none, none]) (by decide) rfl ?_
      refine z_iconst (M := M_X11_ask) 22 dX11_ask_22 ?_
      refine z_istore (M := M_X11_ask) 23 dX11_ask_23 (ls' := [some (mR 0), some (mI a1), some (mI (-1)), some (mI 0), some (mI 0), none]) (by decide) rfl ?_
      exact z_mask [true, true, true, true, true, false] rfl (ih (-1) 0 0 h2 G2 R2 (by omega) (by omega) (by omega) (by omega) (by omega) (by omega) (by omega) (by omega) (by omega))
    · refine z_iconst (M := M_X11_ask) 16 dX11_ask_16 ?_
      exact z_retI (M := M_X11_ask) 17 dX11_ask_17 rfl ⟨G2, R2, by omega, by omega⟩
  · refine z_if_eq_T (M := M_X11_ask) 6 dX11_ask_6 16 rfl (by omega) ?_
    refine z_iconst (M := M_X11_ask) 16 dX11_ask_16 ?_
    exact z_retI (M := M_X11_ask) 17 dX11_ask_17 rfl ⟨G0, (FR.rf (cs := (csB ++ [39, 40, 41])) (ss := []) (h := h0)), by omega, by omega⟩
abbrev P_X11_dates (h0 : m_H) (a1 a2 a3 a4 : Int) : Int → m_H → Prop := fun x h' => GI h' ∧ FR (csB ++ [39, 40, 41]) [] h0 h' ∧ (-2) ≤ x ∧ x ≤ 63
def q_X11_dates (h0 : m_H) (a1 a2 a3 a4 : Int) (n : Nat) : Prop := (∀ (l6 l7 : Int) (h : m_H), GI h → FR (csB ++ [39, 40, 41]) [] h0 h → 0 ≤ l7 → l7 ≤ 32 → 0 ≤ a1 → a1 ≤ 5 → 1 ≤ a2 → a2 ≤ 99 → 0 ≤ a3 → a3 ≤ 2 → 0 ≤ a4 → a4 ≤ 2 → 2 * (32 - l7) + (1) ≤ (n : Int) → m_Z oF M_X11_dates 59 [some (mR 0), some (mI a1), some (mI a2), some (mI a3), some (mI a4), none, some (mI l6), some (mI l7)] [] h (m_QI (P_X11_dates h0 a1 a2 a3 a4)))
set_option maxHeartbeats 4000000 in
set_option maxRecDepth 100000 in
theorem s_X11_dates_59 (h0 : m_H) (a1 a2 a3 a4 : Int) (G0 : GI h0) (n : Nat) (ih : q_X11_dates h0 a1 a2 a3 a4 n) : ∀ (l6 l7 : Int) (h : m_H), GI h → FR (csB ++ [39, 40, 41]) [] h0 h → 0 ≤ l7 → l7 ≤ 32 → 0 ≤ a1 → a1 ≤ 5 → 1 ≤ a2 → a2 ≤ 99 → 0 ≤ a3 → a3 ≤ 2 → 0 ≤ a4 → a4 ≤ 2 → 2 * (32 - l7) + (1) ≤ ((n + 1 : Nat) : Int) → m_Z oF M_X11_dates 59 [some (mR 0), some (mI a1), some (mI a2), some (mI a3), some (mI a4), none, some (mI l6), some (mI l7)] [] h (m_QI (P_X11_dates h0 a1 a2 a3 a4)) := by
  intro l6 l7 h G R v0 v1 v2 v3 v4 v5 v6 v7 v8 v9 hr
  refine z_ok (fun ostk _ olocs => ?_)
  have ol6 : m_32 l6 := olocs 6 _ rfl
  unfold m_32 at ol6
  refine z_iload (M := M_X11_dates) 59 dX11_dates_59 rfl ?_
  refine z_bipush (M := M_X11_dates) 61 dX11_dates_61 ?_
  refine z_icmp_ge (M := M_X11_dates) 63 dX11_dates_63 93 rfl (fun c1 => ?_) (fun c1 => ?_)
  · refine z_iload (M := M_X11_dates) 93 dX11_dates_93 rfl ?_
    refine z_iload (M := M_X11_dates) 95 dX11_dates_95 rfl ?_
    refine z_sI (M := M_X11_dates) 97 dX11_dates_97 t_X11_ofWeeks l_X11_326 (m_rr_of rfl) (rest := []) (c_X11_ofWeeks h l6 a4 G) rfl rfl (Nat.le_of_ble_eq_true rfl) ⟨rfl, rfl⟩ (fun x2 h1 qx2 => ?_)
    obtain ⟨G1, S1, ax2, bx2⟩ := qx2
    have R1 := R.call S1 (by decide +kernel)
    exact z_retI (M := M_X11_dates) 100 dX11_dates_100 rfl ⟨G1, R1, by omega, by omega⟩
  · refine z_aload_n (M := M_X11_dates) 66 dX11_dates_66 rfl ?_
    refine z_iload_n (M := M_X11_dates) 67 dX11_dates_67 rfl ?_
    refine z_iload (M := M_X11_dates) 68 dX11_dates_68 rfl ?_
    refine z_iload_n (M := M_X11_dates) 70 dX11_dates_70 rfl ?_
    refine z_iload_n (M := M_X11_dates) 71 dX11_dates_71 rfl ?_
    refine z_vI (M := M_X11_dates) 72 dX11_dates_72 t_X11_couldBeTold l_X11_323 (m_rr_of rfl) (rest := []) (c_X11_couldBeTold h a1 l7 a2 a3 G ⟨by omega, by omega⟩ ⟨by omega, by omega⟩) o_0 rfl rfl rfl (Nat.le_of_ble_eq_true rfl) ⟨rfl, rfl⟩ (fun x3 h2 qx3 => ?_)
    obtain ⟨G2, S2, ax3, bx3⟩ := qx3
    have R2 := R.call S2 (by decide +kernel)
    refine z_if_eq (M := M_X11_dates) 75 dX11_dates_75 87 rfl (fun c4 => ?_) (fun c4 => ?_)
    · refine z_iincN (M := M_X11_dates) 87 dX11_dates_87 (ls' := [some (mR 0), some (mI a1), some (mI a2), some (mI a3), some (mI a4), none, some (mI l6), some (mI (l7 + 1))]) (by decide) rfl (by (unfold m_32; decide)) (by omega) (by omega) rfl ?_
      refine z_goto (M := M_X11_dates) 90 dX11_dates_90 59 rfl ?_
      exact z_mask [true, true, true, true, true, false, true, true] rfl (ih l6 (l7 + 1) h2 G2 R2 (by omega) (by omega) (by omega) (by omega) (by omega) (by omega) (by omega) (by omega) (by omega) (by omega) (by omega))
    · refine z_iload (M := M_X11_dates) 78 dX11_dates_78 rfl ?_
      refine z_iconst (M := M_X11_dates) 80 dX11_dates_80 ?_
      refine z_iload (M := M_X11_dates) 81 dX11_dates_81 rfl ?_
      refine z_ishl (M := M_X11_dates) 83 dX11_dates_83 ?_
      refine z_topm (fun x5 ex5 ox5 => ?_)
      unfold m_32 at ox5
      refine z_ior (M := M_X11_dates) 84 dX11_dates_84 ?_
      refine z_topm (fun x6 ex6 ox6 => ?_)
      unfold m_32 at ox6
      refine z_istore (M := M_X11_dates) 85 dX11_dates_85 (ls' := [some (mR 0), some (mI a1), some (mI a2), some (mI a3), some (mI a4), none, some (mI x6), some (mI l7)]) (by decide) rfl ?_
      refine z_iincN (M := M_X11_dates) 87 dX11_dates_87 (ls' := [some (mR 0), some (mI a1), some (mI a2), some (mI a3), some (mI a4), none, some (mI x6), some (mI (l7 + 1))]) (by decide) rfl (by (unfold m_32; decide)) (by omega) (by omega) rfl ?_
      refine z_goto (M := M_X11_dates) 90 dX11_dates_90 59 rfl ?_
      exact z_mask [true, true, true, true, true, false, true, true] rfl (ih x6 (l7 + 1) h2 G2 R2 (by omega) (by omega) (by omega) (by omega) (by omega) (by omega) (by omega) (by omega) (by omega) (by omega) (by omega))
theorem a_X11_dates (h0 : m_H) (a1 a2 a3 a4 : Int) (G0 : GI h0) : ∀ n, q_X11_dates h0 a1 a2 a3 a4 n := by
  intro n
  induction n with
  | zero => unfold q_X11_dates; intros; omega
  | succ n ih => exact s_X11_dates_59 h0 a1 a2 a3 a4 G0 n ih
set_option maxHeartbeats 4000000 in
set_option maxRecDepth 100000 in
theorem c_X11_dates (h0 : m_H) (a1 a2 a3 a4 : Int) (G0 : GI h0) : m_CI M_X11_dates [mR 0, mI a1, mI a2, mI a3, mI a4] h0 (P_X11_dates h0 a1 a2 a3 a4) := by
  refine m_CI_of ⟨by decide, rfl, by simp [m_arg, m_isL, M_X11_dates], ⟨rfl, rfl⟩, rfl, rfl⟩ (ls := [some (mR 0), some (mI a1), some (mI a2), some (mI a3), some (mI a4), none, none, none]) rfl ?_
  have ih := a_X11_dates h0 a1 a2 a3 a4 G0 72
  refine z_ok (fun _ _ ok => ?_)
  have oa1 : m_32 a1 := ok 1 _ rfl
  unfold m_32 at oa1
  have oa2 : m_32 a2 := ok 2 _ rfl
  unfold m_32 at oa2
  have oa3 : m_32 a3 := ok 3 _ rfl
  unfold m_32 at oa3
  have oa4 : m_32 a4 := ok 4 _ rfl
  unfold m_32 at oa4
  refine z_iload_n (M := M_X11_dates) 0 dX11_dates_0 rfl ?_
  refine z_sI (M := M_X11_dates) 1 dX11_dates_1 t_X11_isThing l_X11_126 (m_rr_of rfl) (rest := []) (c_X11_isThing h0 a1 G0) rfl rfl (Nat.le_of_ble_eq_true rfl) ⟨rfl, rfl⟩ (fun x1 h1 qx1 => ?_)
  obtain ⟨rfl, ⟨rfl, cx1⟩ | ⟨rfl, cx1⟩⟩ := qx1
  · refine z_if_eq_F (M := M_X11_dates) 4 dX11_dates_4 35 rfl (by omega) ?_
    refine z_iload_n (M := M_X11_dates) 7 dX11_dates_7 rfl ?_
    refine z_sI (M := M_X11_dates) 8 dX11_dates_8 t_X11_isNumber l_X11_298 (m_rr_of rfl) (rest := []) (c_X11_isNumber h0 a2 G0) rfl rfl (Nat.le_of_ble_eq_true rfl) ⟨rfl, rfl⟩ (fun x2 h2 qx2 => ?_)
    obtain ⟨rfl, ⟨rfl, cx2⟩ | ⟨rfl, cx2⟩⟩ := qx2
    · refine z_if_eq_F (M := M_X11_dates) 11 dX11_dates_11 35 rfl (by omega) ?_
      refine z_iload_n (M := M_X11_dates) 14 dX11_dates_14 rfl ?_
      refine z_sI (M := M_X11_dates) 15 dX11_dates_15 t_X11_isKind l_X11_301 (m_rr_of rfl) (rest := []) (c_X11_isKind h0 a3 G0) rfl rfl (Nat.le_of_ble_eq_true rfl) ⟨rfl, rfl⟩ (fun x3 h3 qx3 => ?_)
      obtain ⟨rfl, ⟨rfl, cx3⟩ | ⟨rfl, cx3⟩⟩ := qx3
      · refine z_if_eq_F (M := M_X11_dates) 18 dX11_dates_18 35 rfl (by omega) ?_
        refine z_iload (M := M_X11_dates) 21 dX11_dates_21 rfl ?_
        refine z_iconst (M := M_X11_dates) 23 dX11_dates_23 ?_
        refine z_iconst (M := M_X11_dates) 24 dX11_dates_24 ?_
        refine z_sI (M := M_X11_dates) 25 dX11_dates_25 t_X11_within l_X11_112 (m_rr_of rfl) (rest := []) (c_X11_within h0 a4 0 2 G0) rfl rfl (Nat.le_of_ble_eq_true rfl) ⟨rfl, rfl⟩ (fun x4 h4 qx4 => ?_)
        obtain ⟨rfl, ⟨rfl, cx4⟩ | ⟨rfl, cx4⟩⟩ := qx4
        · refine z_if_eq_F (M := M_X11_dates) 28 dX11_dates_28 35 rfl (by omega) ?_
          refine z_iconst (M := M_X11_dates) 31 dX11_dates_31 ?_
          refine z_goto (M := M_X11_dates) 32 dX11_dates_32 36 rfl ?_
          refine z_istore (M := M_X11_dates) 36 dX11_dates_36 (ls' := [some (mR 0), some (mI a1), some (mI a2), some (mI a3), some (mI a4), some (mI 1), none, none]) (by decide) rfl ?_
          refine z_iload (M := M_X11_dates) 38 dX11_dates_38 rfl ?_
          refine z_if_eq_F (M := M_X11_dates) 40 dX11_dates_40 50 rfl (by omega) ?_
          refine z_aload_n (M := M_X11_dates) 43 dX11_dates_43 rfl ?_
          refine z_vI (M := M_X11_dates) 44 dX11_dates_44 t_X11_canBe l_X11_208 (m_rr_of rfl) (rest := []) (c_X11_canBe h0 G0) o_0 rfl rfl rfl (Nat.le_of_ble_eq_true rfl) ⟨rfl, rfl⟩ (fun x5 h5 qx5 => ?_)
          obtain ⟨G5, S5, ax5, bx5⟩ := qx5
          have R5 := (FR.rf (cs := (csB ++ [39, 40, 41])) (ss := []) (h := h0)).call S5 (by decide +kernel)
          refine z_if_ne (M := M_X11_dates) 47 dX11_dates_47 53 rfl (fun c6 => ?_) (fun c6 => ?_)
          · refine z_iconst (M := M_X11_dates) 53 dX11_dates_53 ?_
            refine z_istore (M := M_X11_dates) 54 dX11_dates_54 (ls' := [some (mR 0), some (mI a1), some (mI a2), some (mI a3), some (mI a4), some (mI 1), some (mI 0), none]) (by decide) rfl ?_
            refine z_iconst (M := M_X11_dates) 56 dX11_dates_56 ?_
            refine z_istore (M := M_X11_dates) 57 dX11_dates_57 (ls' := [some (mR 0), some (mI a1), some (mI a2), some (mI a3), some (mI a4), some (mI 1), some (mI 0), some (mI 0)]) (by decide) rfl ?_
            exact z_mask [true, true, true, true, true, false, true, true] rfl (ih 0 0 h5 G5 R5 (by omega) (by omega) (by omega) (by omega) (by omega) (by omega) (by omega) (by omega) (by omega) (by omega) (by omega))
          · refine z_bipush (M := M_X11_dates) 50 dX11_dates_50 ?_
            exact z_retI (M := M_X11_dates) 52 dX11_dates_52 rfl ⟨G5, R5, by omega, by omega⟩
        · refine z_if_eq_T (M := M_X11_dates) 28 dX11_dates_28 35 rfl (by omega) ?_
          refine z_iconst (M := M_X11_dates) 35 dX11_dates_35 ?_
          refine z_istore (M := M_X11_dates) 36 dX11_dates_36 (ls' := [some (mR 0), some (mI a1), some (mI a2), some (mI a3), some (mI a4), some (mI 0), none, none]) (by decide) rfl ?_
          refine z_iload (M := M_X11_dates) 38 dX11_dates_38 rfl ?_
          refine z_if_eq_T (M := M_X11_dates) 40 dX11_dates_40 50 rfl (by omega) ?_
          refine z_bipush (M := M_X11_dates) 50 dX11_dates_50 ?_
          exact z_retI (M := M_X11_dates) 52 dX11_dates_52 rfl ⟨G0, (FR.rf (cs := (csB ++ [39, 40, 41])) (ss := []) (h := h0)), by omega, by omega⟩
      · refine z_if_eq_T (M := M_X11_dates) 18 dX11_dates_18 35 rfl (by omega) ?_
        refine z_iconst (M := M_X11_dates) 35 dX11_dates_35 ?_
        refine z_istore (M := M_X11_dates) 36 dX11_dates_36 (ls' := [some (mR 0), some (mI a1), some (mI a2), some (mI a3), some (mI a4), some (mI 0), none, none]) (by decide) rfl ?_
        refine z_iload (M := M_X11_dates) 38 dX11_dates_38 rfl ?_
        refine z_if_eq_T (M := M_X11_dates) 40 dX11_dates_40 50 rfl (by omega) ?_
        refine z_bipush (M := M_X11_dates) 50 dX11_dates_50 ?_
        exact z_retI (M := M_X11_dates) 52 dX11_dates_52 rfl ⟨G0, (FR.rf (cs := (csB ++ [39, 40, 41])) (ss := []) (h := h0)), by omega, by omega⟩
    · refine z_if_eq_T (M := M_X11_dates) 11 dX11_dates_11 35 rfl (by omega) ?_
      refine z_iconst (M := M_X11_dates) 35 dX11_dates_35 ?_
      refine z_istore (M := M_X11_dates) 36 dX11_dates_36 (ls' := [some (mR 0), some (mI a1), some (mI a2), some (mI a3), some (mI a4), some (mI 0), none, none]) (by decide) rfl ?_
      refine z_iload (M := M_X11_dates) 38 dX11_dates_38 rfl ?_
      refine z_if_eq_T (M := M_X11_dates) 40 dX11_dates_40 50 rfl (by omega) ?_
      refine z_bipush (M := M_X11_dates) 50 dX11_dates_50 ?_
      exact z_retI (M := M_X11_dates) 52 dX11_dates_52 rfl ⟨G0, (FR.rf (cs := (csB ++ [39, 40, 41])) (ss := []) (h := h0)), by omega, by omega⟩
  · refine z_if_eq_T (M := M_X11_dates) 4 dX11_dates_4 35 rfl (by omega) ?_
    refine z_iconst (M := M_X11_dates) 35 dX11_dates_35 ?_
    refine z_istore (M := M_X11_dates) 36 dX11_dates_36 (ls' := [some (mR 0), some (mI a1), some (mI a2), some (mI a3), some (mI a4), some (mI 0), none, none]) (by decide) rfl ?_
    refine z_iload (M := M_X11_dates) 38 dX11_dates_38 rfl ?_
    refine z_if_eq_T (M := M_X11_dates) 40 dX11_dates_40 50 rfl (by omega) ?_
    refine z_bipush (M := M_X11_dates) 50 dX11_dates_50 ?_
    exact z_retI (M := M_X11_dates) 52 dX11_dates_52 rfl ⟨G0, (FR.rf (cs := (csB ++ [39, 40, 41])) (ss := []) (h := h0)), by omega, by omega⟩
abbrev P_X11_core (h0 : m_H) : Int → m_H → Prop := fun x h' => GI h' ∧ FR (csB ++ [39, 40, 41]) [] h0 h'
set_option maxHeartbeats 4000000 in
set_option maxRecDepth 100000 in
theorem c_X11_core (h0 : m_H) (G0 : GI h0) : m_CI M_X11_core [mR 0] h0 (P_X11_core h0) := by
  refine m_CI_of ⟨by decide, rfl, by simp [m_arg, m_isL, M_X11_core], ⟨rfl, rfl⟩, rfl, rfl⟩ (ls := [some (mR 0)]) rfl ?_
  refine z_aload_n (M := M_X11_core) 0 dX11_core_0 rfl ?_
  refine z_vI (M := M_X11_core) 1 dX11_core_1 t_X11_canBe l_X11_208 (m_rr_of rfl) (rest := []) (c_X11_canBe h0 G0) o_0 rfl rfl rfl (Nat.le_of_ble_eq_true rfl) ⟨rfl, rfl⟩ (fun x1 h1 qx1 => ?_)
  obtain ⟨G1, S1, ax1, bx1⟩ := qx1
  have R1 := (FR.rf (cs := (csB ++ [39, 40, 41])) (ss := []) (h := h0)).call S1 (by decide +kernel)
  refine z_if_eq (M := M_X11_core) 4 dX11_core_4 9 rfl (fun c2 => ?_) (fun c2 => ?_)
  · refine z_aload_n (M := M_X11_core) 9 dX11_core_9 rfl ?_
    refine z_getR (M := M_X11_core) 10 dX11_core_10 f_X11_46 o_0 rfl (g_0_6 G1) ?_
    refine z_aload_n (M := M_X11_core) 13 dX11_core_13 rfl ?_
    refine z_getR (M := M_X11_core) 14 dX11_core_14 f_X11_12 o_0 rfl (g_0_0 G1) ?_
    refine z_iconst (M := M_X11_core) 17 dX11_core_17 ?_
    refine z_vI (M := M_X11_core) 18 dX11_core_18 t_X9_canBe l_X11_343 (m_rr_of rfl) (rest := []) (c_X9_canBe h1 1 0 (Or.inl rfl) G1) o_38 rfl rfl rfl (Nat.le_of_ble_eq_true rfl) ⟨rfl, rfl⟩ (fun x3 h2 qx3 => ?_)
    obtain ⟨G2, S2, ax3, bx3⟩ := qx3
    have R2 := R1.call S2 (by decide +kernel)
    refine z_if_ne (M := M_X11_core) 21 dX11_core_21 26 rfl (fun c4 => ?_) (fun c4 => ?_)
    · refine z_aload_n (M := M_X11_core) 26 dX11_core_26 rfl ?_
      refine z_getR (M := M_X11_core) 27 dX11_core_27 f_X11_76 o_0 rfl (g_0_10 G2) ?_
      refine z_aload_n (M := M_X11_core) 30 dX11_core_30 rfl ?_
      refine z_getR (M := M_X11_core) 31 dX11_core_31 f_X11_12 o_0 rfl (g_0_0 G2) ?_
      refine z_aload_n (M := M_X11_core) 34 dX11_core_34 rfl ?_
      refine z_getR (M := M_X11_core) 35 dX11_core_35 f_X11_12 o_0 rfl (g_0_0 G2) ?_
      refine z_getIV (M := M_X11_core) 38 dX11_core_38 f_X11_346 o_1 (by decide) (fun x5 ex5 => ?_)
      refine z_ok (fun ox5 _ _ => ?_)
      have ox5 := ox5.1; unfold m_ok m_32 at ox5
      refine z_vI (M := M_X11_core) 41 dX11_core_41 t_X3_leaveOut l_X11_349 (m_rr_of rfl) (rest := []) (c_X3_leaveOut h2 1 x5 (Or.inl rfl) G2) o_101 rfl rfl rfl (Nat.le_of_ble_eq_true rfl) ⟨rfl, rfl⟩ (fun x6 h3 qx6 => ?_)
      obtain ⟨G3, S3⟩ := qx6
      have R3 := R2.call S3 (by decide +kernel)
      refine z_ok (fun ox6 _ _ => ?_)
      have ox6 := ox6.1; unfold m_ok m_32 at ox6
      exact z_retI (M := M_X11_core) 44 dX11_core_44 rfl ⟨G3, R3⟩
    · refine z_iconst (M := M_X11_core) 24 dX11_core_24 ?_
      exact z_retI (M := M_X11_core) 25 dX11_core_25 rfl ⟨G2, R2⟩
  · refine z_iconst (M := M_X11_core) 7 dX11_core_7 ?_
    exact z_retI (M := M_X11_core) 8 dX11_core_8 rfl ⟨G1, R1⟩
abbrev P_X11_wrong (h0 : m_H) (a1 : Int) : Int → m_H → Prop := fun x h' => GI h' ∧ FR (csB ++ [39, 40, 41]) [(101, 1), (101, 2), (101, 3)] h0 h'
set_option maxHeartbeats 4000000 in
set_option maxRecDepth 100000 in
theorem c_X11_wrong (h0 : m_H) (a1 : Int) (G0 : GI h0) : m_CI M_X11_wrong [mR 0, mI a1] h0 (P_X11_wrong h0 a1) := by
  refine m_CI_of ⟨by decide, rfl, by simp [m_arg, m_isL, M_X11_wrong], ⟨rfl, rfl⟩, rfl, rfl⟩ (ls := [some (mR 0), some (mI a1)]) rfl ?_
  refine z_ok (fun _ _ ok => ?_)
  have oa1 : m_32 a1 := ok 1 _ rfl
  unfold m_32 at oa1
  refine z_iload_n (M := M_X11_wrong) 0 dX11_wrong_0 rfl ?_
  refine z_iconst (M := M_X11_wrong) 1 dX11_wrong_1 ?_
  refine z_iconst (M := M_X11_wrong) 2 dX11_wrong_2 ?_
  refine z_sI (M := M_X11_wrong) 3 dX11_wrong_3 t_X11_within l_X11_112 (m_rr_of rfl) (rest := []) (c_X11_within h0 a1 0 2 G0) rfl rfl (Nat.le_of_ble_eq_true rfl) ⟨rfl, rfl⟩ (fun x1 h1 qx1 => ?_)
  obtain ⟨rfl, ⟨rfl, cx1⟩ | ⟨rfl, cx1⟩⟩ := qx1
  · refine z_if_eq_F (M := M_X11_wrong) 6 dX11_wrong_6 23 rfl (by omega) ?_
    refine z_aload_n (M := M_X11_wrong) 9 dX11_wrong_9 rfl ?_
    refine z_getR (M := M_X11_wrong) 10 dX11_wrong_10 f_X11_76 o_0 rfl (g_0_10 G0) ?_
    refine z_aload_n (M := M_X11_wrong) 13 dX11_wrong_13 rfl ?_
    refine z_getR (M := M_X11_wrong) 14 dX11_wrong_14 f_X11_12 o_0 rfl (g_0_0 G0) ?_
    refine z_vI (M := M_X11_wrong) 17 dX11_wrong_17 t_X3_search l_X11_353 (m_rr_of rfl) (rest := []) (c_X3_search h0 1 (Or.inl rfl) G0) o_101 rfl rfl rfl (Nat.le_of_ble_eq_true rfl) ⟨rfl, rfl⟩ (fun x2 h2 qx2 => ?_)
    obtain ⟨G2, S2, ax2, bx2⟩ := qx2
    have R2 := (FR.rf (cs := (csB ++ [39, 40, 41])) (ss := [(101, 1), (101, 2), (101, 3)]) (h := h0)).call S2 (by decide +kernel)
    refine z_if_ne (M := M_X11_wrong) 20 dX11_wrong_20 25 rfl (fun c3 => ?_) (fun c3 => ?_)
    · refine z_iload_n (M := M_X11_wrong) 25 dX11_wrong_25 rfl ?_
      refine z_if_ne (M := M_X11_wrong) 26 dX11_wrong_26 37 rfl (fun c4 => ?_) (fun c4 => ?_)
      · refine z_iload_n (M := M_X11_wrong) 37 dX11_wrong_37 rfl ?_
        refine z_iconst (M := M_X11_wrong) 38 dX11_wrong_38 ?_
        refine z_icmp_ne (M := M_X11_wrong) 39 dX11_wrong_39 52 rfl (fun c5 => ?_) (fun c5 => ?_)
        · refine z_aload_n (M := M_X11_wrong) 52 dX11_wrong_52 rfl ?_
          refine z_getR (M := M_X11_wrong) 53 dX11_wrong_53 f_X11_76 o_0 rfl (g_0_10 G2) ?_
          refine z_getIV (M := M_X11_wrong) 56 dX11_wrong_56 f_X11_363 o_101 (by decide) (fun x6 ex6 => ?_)
          refine z_ok (fun ox6 _ _ => ?_)
          have ox6 := ox6.1; unfold m_ok m_32 at ox6
          exact z_retI (M := M_X11_wrong) 59 dX11_wrong_59 rfl ⟨G2, R2⟩
        · refine z_aload_n (M := M_X11_wrong) 42 dX11_wrong_42 rfl ?_
          refine z_getR (M := M_X11_wrong) 43 dX11_wrong_43 f_X11_76 o_0 rfl (g_0_10 G2) ?_
          refine z_getIV (M := M_X11_wrong) 46 dX11_wrong_46 f_X11_360 o_101 (by decide) (fun x7 ex7 => ?_)
          refine z_ok (fun ox7 _ _ => ?_)
          have ox7 := ox7.1; unfold m_ok m_32 at ox7
          refine z_goto (M := M_X11_wrong) 49 dX11_wrong_49 59 rfl ?_
          exact z_retI (M := M_X11_wrong) 59 dX11_wrong_59 rfl ⟨G2, R2⟩
      · refine z_aload_n (M := M_X11_wrong) 29 dX11_wrong_29 rfl ?_
        refine z_getR (M := M_X11_wrong) 30 dX11_wrong_30 f_X11_76 o_0 rfl (g_0_10 G2) ?_
        refine z_getIV (M := M_X11_wrong) 33 dX11_wrong_33 f_X11_357 o_101 (by decide) (fun x8 ex8 => ?_)
        refine z_ok (fun ox8 _ _ => ?_)
        have ox8 := ox8.1; unfold m_ok m_32 at ox8
        exact z_retI (M := M_X11_wrong) 36 dX11_wrong_36 rfl ⟨G2, R2⟩
    · refine z_iconst (M := M_X11_wrong) 23 dX11_wrong_23 ?_
      exact z_retI (M := M_X11_wrong) 24 dX11_wrong_24 rfl ⟨G2, R2⟩
  · refine z_if_eq_T (M := M_X11_wrong) 6 dX11_wrong_6 23 rfl (by omega) ?_
    refine z_iconst (M := M_X11_wrong) 23 dX11_wrong_23 ?_
    exact z_retI (M := M_X11_wrong) 24 dX11_wrong_24 rfl ⟨G0, (FR.rf (cs := (csB ++ [39, 40, 41])) (ss := [(101, 1), (101, 2), (101, 3)]) (h := h0))⟩
abbrev P_X11_whose (h0 : m_H) (a1 : Int) : Int → m_H → Prop := fun x h' => GI h' ∧ FR (csB ++ [10, 11, 12, 13, 14, 15, 16, 39, 40, 41, 103, 104]) [(9, 7), (9, 8), (9, 9), (102, 3), (102, 4)] h0 h'
set_option maxHeartbeats 4000000 in
set_option maxRecDepth 100000 in
theorem c_X11_whose (h0 : m_H) (a1 : Int) (G0 : GI h0) : m_CI M_X11_whose [mR 0, mI a1] h0 (P_X11_whose h0 a1) := by
  refine m_CI_of ⟨by decide, rfl, by simp [m_arg, m_isL, M_X11_whose], ⟨rfl, rfl⟩, rfl, rfl⟩ (ls := [some (mR 0), some (mI a1)]) rfl ?_
  refine z_ok (fun _ _ ok => ?_)
  have oa1 : m_32 a1 := ok 1 _ rfl
  unfold m_32 at oa1
  refine z_iload_n (M := M_X11_whose) 0 dX11_whose_0 rfl ?_
  refine z_iconst (M := M_X11_whose) 1 dX11_whose_1 ?_
  refine z_icmp_eq (M := M_X11_whose) 2 dX11_whose_2 14 rfl (fun c1 => ?_) (fun c1 => ?_)
  · refine z_aload_n (M := M_X11_whose) 14 dX11_whose_14 rfl ?_
    refine z_getR (M := M_X11_whose) 15 dX11_whose_15 f_X11_16 o_0 rfl (g_0_1 G0) ?_
    refine z_aload_n (M := M_X11_whose) 18 dX11_whose_18 rfl ?_
    refine z_getR (M := M_X11_whose) 19 dX11_whose_19 f_X11_12 o_0 rfl (g_0_0 G0) ?_
    refine z_vV (M := M_X11_whose) 22 dX11_whose_22 t_X4_copyFrom l_X11_197 (m_rr_of rfl) (rest := []) (c_X4_copyFrom h0 9 1 (Or.inr (Or.inl rfl)) (Or.inl rfl) G0) o_9 rfl rfl rfl (Nat.le_of_ble_eq_true rfl) ⟨rfl, rfl⟩ (fun h1 qx2 => ?_)
    obtain ⟨G1, S1⟩ := qx2
    have R1 := (FR.rf (cs := (csB ++ [10, 11, 12, 13, 14, 15, 16, 39, 40, 41, 103, 104])) (ss := [(9, 7), (9, 8), (9, 9), (102, 3), (102, 4)]) (h := h0)).call S1 (by decide +kernel)
    refine z_aload_n (M := M_X11_whose) 25 dX11_whose_25 rfl ?_
    refine z_getR (M := M_X11_whose) 26 dX11_whose_26 f_X11_83 o_0 rfl (g_0_11 G1) ?_
    refine z_aload_n (M := M_X11_whose) 29 dX11_whose_29 rfl ?_
    refine z_getR (M := M_X11_whose) 30 dX11_whose_30 f_X11_16 o_0 rfl (g_0_1 G1) ?_
    refine z_vI (M := M_X11_whose) 33 dX11_whose_33 t_X6_seek l_X11_366 (m_rr_of rfl) (rest := []) (c_X6_seek h1 9 (Or.inr (Or.inl rfl)) G1) o_102 rfl rfl rfl (Nat.le_of_ble_eq_true rfl) ⟨rfl, rfl⟩ (fun x3 h2 qx3 => ?_)
    obtain ⟨G2, S2, ax3, bx3⟩ := qx3
    have R2 := R1.call S2 (by decide +kernel)
    refine z_if_ne (M := M_X11_whose) 36 dX11_whose_36 41 rfl (fun c4 => ?_) (fun c4 => ?_)
    · refine z_iload_n (M := M_X11_whose) 41 dX11_whose_41 rfl ?_
      refine z_iconst (M := M_X11_whose) 42 dX11_whose_42 ?_
      refine z_icmp_ne_F (M := M_X11_whose) 43 dX11_whose_43 56 rfl (by omega) ?_
      refine z_aload_n (M := M_X11_whose) 46 dX11_whose_46 rfl ?_
      refine z_getR (M := M_X11_whose) 47 dX11_whose_47 f_X11_83 o_0 rfl (g_0_11 G2) ?_
      refine z_getIV (M := M_X11_whose) 50 dX11_whose_50 f_X11_369 o_102 (by decide) (fun x5 ex5 => ?_)
      refine z_ok (fun ox5 _ _ => ?_)
      have ox5 := ox5.1; unfold m_ok m_32 at ox5
      refine z_goto (M := M_X11_whose) 53 dX11_whose_53 64 rfl ?_
      exact z_retI (M := M_X11_whose) 64 dX11_whose_64 rfl ⟨G2, R2⟩
    · refine z_iconst (M := M_X11_whose) 39 dX11_whose_39 ?_
      exact z_retI (M := M_X11_whose) 40 dX11_whose_40 rfl ⟨G2, R2⟩
  · refine z_iload_n (M := M_X11_whose) 5 dX11_whose_5 rfl ?_
    refine z_sI (M := M_X11_whose) 6 dX11_whose_6 t_X11_isWeek l_X11_108 (m_rr_of rfl) (rest := []) (c_X11_isWeek h0 a1 G0) rfl rfl (Nat.le_of_ble_eq_true rfl) ⟨rfl, rfl⟩ (fun x6 h3 qx6 => ?_)
    obtain ⟨rfl, ⟨rfl, cx6⟩ | ⟨rfl, cx6⟩⟩ := qx6
    · refine z_if_ne_T (M := M_X11_whose) 9 dX11_whose_9 14 rfl (by omega) ?_
      refine z_aload_n (M := M_X11_whose) 14 dX11_whose_14 rfl ?_
      refine z_getR (M := M_X11_whose) 15 dX11_whose_15 f_X11_16 o_0 rfl (g_0_1 G0) ?_
      refine z_aload_n (M := M_X11_whose) 18 dX11_whose_18 rfl ?_
      refine z_getR (M := M_X11_whose) 19 dX11_whose_19 f_X11_12 o_0 rfl (g_0_0 G0) ?_
      refine z_vV (M := M_X11_whose) 22 dX11_whose_22 t_X4_copyFrom l_X11_197 (m_rr_of rfl) (rest := []) (c_X4_copyFrom h0 9 1 (Or.inr (Or.inl rfl)) (Or.inl rfl) G0) o_9 rfl rfl rfl (Nat.le_of_ble_eq_true rfl) ⟨rfl, rfl⟩ (fun h4 qx7 => ?_)
      obtain ⟨G4, S4⟩ := qx7
      have R4 := (FR.rf (cs := (csB ++ [10, 11, 12, 13, 14, 15, 16, 39, 40, 41, 103, 104])) (ss := [(9, 7), (9, 8), (9, 9), (102, 3), (102, 4)]) (h := h0)).call S4 (by decide +kernel)
      refine z_aload_n (M := M_X11_whose) 25 dX11_whose_25 rfl ?_
      refine z_getR (M := M_X11_whose) 26 dX11_whose_26 f_X11_83 o_0 rfl (g_0_11 G4) ?_
      refine z_aload_n (M := M_X11_whose) 29 dX11_whose_29 rfl ?_
      refine z_getR (M := M_X11_whose) 30 dX11_whose_30 f_X11_16 o_0 rfl (g_0_1 G4) ?_
      refine z_vI (M := M_X11_whose) 33 dX11_whose_33 t_X6_seek l_X11_366 (m_rr_of rfl) (rest := []) (c_X6_seek h4 9 (Or.inr (Or.inl rfl)) G4) o_102 rfl rfl rfl (Nat.le_of_ble_eq_true rfl) ⟨rfl, rfl⟩ (fun x8 h5 qx8 => ?_)
      obtain ⟨G5, S5, ax8, bx8⟩ := qx8
      have R5 := R4.call S5 (by decide +kernel)
      refine z_if_ne (M := M_X11_whose) 36 dX11_whose_36 41 rfl (fun c9 => ?_) (fun c9 => ?_)
      · refine z_iload_n (M := M_X11_whose) 41 dX11_whose_41 rfl ?_
        refine z_iconst (M := M_X11_whose) 42 dX11_whose_42 ?_
        refine z_icmp_ne_T (M := M_X11_whose) 43 dX11_whose_43 56 rfl (by omega) ?_
        refine z_aload_n (M := M_X11_whose) 56 dX11_whose_56 rfl ?_
        refine z_getR (M := M_X11_whose) 57 dX11_whose_57 f_X11_83 o_0 rfl (g_0_11 G5) ?_
        refine z_iload_n (M := M_X11_whose) 60 dX11_whose_60 rfl ?_
        refine z_vI (M := M_X11_whose) 61 dX11_whose_61 t_X6_onlyKeeper l_X11_370 (m_rr_of rfl) (rest := []) (c_X6_onlyKeeper h5 a1 G5) o_102 rfl rfl rfl (Nat.le_of_ble_eq_true rfl) ⟨rfl, rfl⟩ (fun x10 h6 qx10 => ?_)
        obtain ⟨G6, S6, ax10, bx10⟩ := qx10
        have R6 := R5.call S6 (by decide +kernel)
        exact z_retI (M := M_X11_whose) 64 dX11_whose_64 rfl ⟨G6, R6⟩
      · refine z_iconst (M := M_X11_whose) 39 dX11_whose_39 ?_
        exact z_retI (M := M_X11_whose) 40 dX11_whose_40 rfl ⟨G5, R5⟩
    · refine z_if_ne_F (M := M_X11_whose) 9 dX11_whose_9 14 rfl (by omega) ?_
      refine z_iconst (M := M_X11_whose) 12 dX11_whose_12 ?_
      exact z_retI (M := M_X11_whose) 13 dX11_whose_13 rfl ⟨G0, (FR.rf (cs := (csB ++ [10, 11, 12, 13, 14, 15, 16, 39, 40, 41, 103, 104])) (ss := [(9, 7), (9, 8), (9, 9), (102, 3), (102, 4)]) (h := h0))⟩
abbrev P_X11_could (h0 : m_H) (a1 a2 : Int) : Int → m_H → Prop := fun x h' => GI h' ∧ FR (csB ++ [10, 11, 12, 13, 14, 15, 16, 39, 40, 41, 103, 104]) [(9, 7), (9, 8), (9, 9), (102, 3), (102, 4)] h0 h'
set_option maxHeartbeats 4000000 in
set_option maxRecDepth 100000 in
theorem c_X11_could (h0 : m_H) (a1 a2 : Int) (G0 : GI h0) : m_CI M_X11_could [mR 0, mI a1, mI a2] h0 (P_X11_could h0 a1 a2) := by
  refine m_CI_of ⟨by decide, rfl, by simp [m_arg, m_isL, M_X11_could], ⟨rfl, rfl⟩, rfl, rfl⟩ (ls := [some (mR 0), some (mI a1), some (mI a2)]) rfl ?_
  refine z_ok (fun _ _ ok => ?_)
  have oa1 : m_32 a1 := ok 1 _ rfl
  unfold m_32 at oa1
  have oa2 : m_32 a2 := ok 2 _ rfl
  unfold m_32 at oa2
  refine z_iload_n (M := M_X11_could) 0 dX11_could_0 rfl ?_
  refine z_sI (M := M_X11_could) 1 dX11_could_1 t_X11_isWeek l_X11_108 (m_rr_of rfl) (rest := []) (c_X11_isWeek h0 a1 G0) rfl rfl (Nat.le_of_ble_eq_true rfl) ⟨rfl, rfl⟩ (fun x1 h1 qx1 => ?_)
  obtain ⟨rfl, ⟨rfl, cx1⟩ | ⟨rfl, cx1⟩⟩ := qx1
  · refine z_if_eq_F (M := M_X11_could) 4 dX11_could_4 14 rfl (by omega) ?_
    refine z_iload_n (M := M_X11_could) 7 dX11_could_7 rfl ?_
    refine z_sI (M := M_X11_could) 8 dX11_could_8 t_X11_isKeeper l_X11_132 (m_rr_of rfl) (rest := []) (c_X11_isKeeper h0 a2 G0) rfl rfl (Nat.le_of_ble_eq_true rfl) ⟨rfl, rfl⟩ (fun x2 h2 qx2 => ?_)
    obtain ⟨rfl, ⟨rfl, cx2⟩ | ⟨rfl, cx2⟩⟩ := qx2
    · refine z_if_ne_T (M := M_X11_could) 11 dX11_could_11 16 rfl (by omega) ?_
      refine z_aload_n (M := M_X11_could) 16 dX11_could_16 rfl ?_
      refine z_getR (M := M_X11_could) 17 dX11_could_17 f_X11_16 o_0 rfl (g_0_1 G0) ?_
      refine z_aload_n (M := M_X11_could) 20 dX11_could_20 rfl ?_
      refine z_getR (M := M_X11_could) 21 dX11_could_21 f_X11_12 o_0 rfl (g_0_0 G0) ?_
      refine z_vV (M := M_X11_could) 24 dX11_could_24 t_X4_copyFrom l_X11_197 (m_rr_of rfl) (rest := []) (c_X4_copyFrom h0 9 1 (Or.inr (Or.inl rfl)) (Or.inl rfl) G0) o_9 rfl rfl rfl (Nat.le_of_ble_eq_true rfl) ⟨rfl, rfl⟩ (fun h3 qx3 => ?_)
      obtain ⟨G3, S3⟩ := qx3
      have R3 := (FR.rf (cs := (csB ++ [10, 11, 12, 13, 14, 15, 16, 39, 40, 41, 103, 104])) (ss := [(9, 7), (9, 8), (9, 9), (102, 3), (102, 4)]) (h := h0)).call S3 (by decide +kernel)
      refine z_aload_n (M := M_X11_could) 27 dX11_could_27 rfl ?_
      refine z_getR (M := M_X11_could) 28 dX11_could_28 f_X11_83 o_0 rfl (g_0_11 G3) ?_
      refine z_aload_n (M := M_X11_could) 31 dX11_could_31 rfl ?_
      refine z_getR (M := M_X11_could) 32 dX11_could_32 f_X11_16 o_0 rfl (g_0_1 G3) ?_
      refine z_vI (M := M_X11_could) 35 dX11_could_35 t_X6_seek l_X11_366 (m_rr_of rfl) (rest := []) (c_X6_seek h3 9 (Or.inr (Or.inl rfl)) G3) o_102 rfl rfl rfl (Nat.le_of_ble_eq_true rfl) ⟨rfl, rfl⟩ (fun x4 h4 qx4 => ?_)
      obtain ⟨G4, S4, ax4, bx4⟩ := qx4
      have R4 := R3.call S4 (by decide +kernel)
      refine z_if_ne (M := M_X11_could) 38 dX11_could_38 43 rfl (fun c5 => ?_) (fun c5 => ?_)
      · refine z_aload_n (M := M_X11_could) 43 dX11_could_43 rfl ?_
        refine z_getR (M := M_X11_could) 44 dX11_could_44 f_X11_83 o_0 rfl (g_0_11 G4) ?_
        refine z_iload_n (M := M_X11_could) 47 dX11_could_47 rfl ?_
        refine z_iload_n (M := M_X11_could) 48 dX11_could_48 rfl ?_
        refine z_vI (M := M_X11_could) 49 dX11_could_49 t_X6_waysWith l_X11_373 (m_rr_of rfl) (rest := []) (c_X6_waysWith h4 a1 a2 G4 ⟨by omega, by omega⟩) o_102 rfl rfl rfl (Nat.le_of_ble_eq_true rfl) ⟨rfl, rfl⟩ (fun x6 h5 qx6 => ?_)
        obtain ⟨G5, S5⟩ := qx6
        have R5 := R4.call S5 (by decide +kernel)
        refine z_ok (fun ox6 _ _ => ?_)
        have ox6 := ox6.1; unfold m_ok m_32 at ox6
        exact z_retI (M := M_X11_could) 52 dX11_could_52 rfl ⟨G5, R5⟩
      · refine z_iconst (M := M_X11_could) 41 dX11_could_41 ?_
        exact z_retI (M := M_X11_could) 42 dX11_could_42 rfl ⟨G4, R4⟩
    · refine z_if_ne_F (M := M_X11_could) 11 dX11_could_11 16 rfl (by omega) ?_
      refine z_iconst (M := M_X11_could) 14 dX11_could_14 ?_
      exact z_retI (M := M_X11_could) 15 dX11_could_15 rfl ⟨G0, (FR.rf (cs := (csB ++ [10, 11, 12, 13, 14, 15, 16, 39, 40, 41, 103, 104])) (ss := [(9, 7), (9, 8), (9, 9), (102, 3), (102, 4)]) (h := h0))⟩
  · refine z_if_eq_T (M := M_X11_could) 4 dX11_could_4 14 rfl (by omega) ?_
    refine z_iconst (M := M_X11_could) 14 dX11_could_14 ?_
    exact z_retI (M := M_X11_could) 15 dX11_could_15 rfl ⟨G0, (FR.rf (cs := (csB ++ [10, 11, 12, 13, 14, 15, 16, 39, 40, 41, 103, 104])) (ss := [(9, 7), (9, 8), (9, 9), (102, 3), (102, 4)]) (h := h0))⟩
abbrev P_X11_when (h0 : m_H) (a1 a2 : Int) : Int → m_H → Prop := fun x h' => GI h' ∧ FR (csB ++ [10, 11, 12, 13, 14, 15, 16, 39, 40, 41]) [(9, 7), (9, 8), (9, 9)] h0 h' ∧ (-1) ≤ x ∧ x ≤ 63
def q_X11_when (h0 : m_H) (a1 a2 : Int) (n : Nat) : Prop := (∀ (l3 l4 : Int) (h : m_H), GI h → FR (csB ++ [10, 11, 12, 13, 14, 15, 16, 39, 40, 41]) [(9, 7), (9, 8), (9, 9)] h0 h → 1 ≤ l4 → l4 ≤ 32 → 0 ≤ a1 → a1 ≤ 5 → 0 ≤ a2 → a2 ≤ 2 → 2 * (32 - l4) + (1) ≤ (n : Int) → m_Z oF M_X11_when 47 [some (mR 0), some (mI a1), some (mI a2), some (mI l3), some (mI l4)] [] h (m_QI (P_X11_when h0 a1 a2)))
set_option maxHeartbeats 4000000 in
set_option maxRecDepth 100000 in
theorem s_X11_when_47 (h0 : m_H) (a1 a2 : Int) (G0 : GI h0) (n : Nat) (ih : q_X11_when h0 a1 a2 n) : ∀ (l3 l4 : Int) (h : m_H), GI h → FR (csB ++ [10, 11, 12, 13, 14, 15, 16, 39, 40, 41]) [(9, 7), (9, 8), (9, 9)] h0 h → 1 ≤ l4 → l4 ≤ 32 → 0 ≤ a1 → a1 ≤ 5 → 0 ≤ a2 → a2 ≤ 2 → 2 * (32 - l4) + (1) ≤ ((n + 1 : Nat) : Int) → m_Z oF M_X11_when 47 [some (mR 0), some (mI a1), some (mI a2), some (mI l3), some (mI l4)] [] h (m_QI (P_X11_when h0 a1 a2)) := by
  intro l3 l4 h G R v0 v1 v2 v3 v4 v5 hr
  refine z_ok (fun ostk _ olocs => ?_)
  have ol3 : m_32 l3 := olocs 3 _ rfl
  unfold m_32 at ol3
  refine z_iload (M := M_X11_when) 47 dX11_when_47 rfl ?_
  refine z_bipush (M := M_X11_when) 49 dX11_when_49 ?_
  refine z_icmp_ge (M := M_X11_when) 51 dX11_when_51 99 rfl (fun c1 => ?_) (fun c1 => ?_)
  · refine z_iload_n (M := M_X11_when) 99 dX11_when_99 rfl ?_
    refine z_iload_n (M := M_X11_when) 100 dX11_when_100 rfl ?_
    refine z_sI (M := M_X11_when) 101 dX11_when_101 t_X11_ofWeeks l_X11_326 (m_rr_of rfl) (rest := []) (c_X11_ofWeeks h l3 a2 G) rfl rfl (Nat.le_of_ble_eq_true rfl) ⟨rfl, rfl⟩ (fun x2 h1 qx2 => ?_)
    obtain ⟨G1, S1, ax2, bx2⟩ := qx2
    have R1 := R.call S1 (by decide +kernel)
    exact z_retI (M := M_X11_when) 104 dX11_when_104 rfl ⟨G1, R1, by omega, by omega⟩
  · refine z_aload_n (M := M_X11_when) 54 dX11_when_54 rfl ?_
    refine z_getR (M := M_X11_when) 55 dX11_when_55 f_X11_16 o_0 rfl (g_0_1 G) ?_
    refine z_getR (M := M_X11_when) 58 dX11_when_58 f_X11_129 o_9 rfl (g_9_1 G) ?_
    refine z_iload_n (M := M_X11_when) 61 dX11_when_61 rfl ?_
    refine z_iload (M := M_X11_when) 62 dX11_when_62 rfl ?_
    refine z_iastH (M := M_X11_when) 64 dX11_when_64 o_11 (by omega) (by omega) (u_11 G (by omega) (by omega)) (R.up rfl) (fun h2 E2 G2 R2 => ?_)
    refine z_aload_n (M := M_X11_when) 65 dX11_when_65 rfl ?_
    refine z_getR (M := M_X11_when) 66 dX11_when_66 f_X11_46 o_0 rfl (g_0_6 G2) ?_
    refine z_aload_n (M := M_X11_when) 69 dX11_when_69 rfl ?_
    refine z_getR (M := M_X11_when) 70 dX11_when_70 f_X11_16 o_0 rfl (g_0_1 G2) ?_
    refine z_aload_n (M := M_X11_when) 73 dX11_when_73 rfl ?_
    refine z_getR (M := M_X11_when) 74 dX11_when_74 f_X11_16 o_0 rfl (g_0_1 G2) ?_
    refine z_getIV (M := M_X11_when) 77 dX11_when_77 f_X11_346 o_9 (by decide) (fun x3 ex3 => ?_)
    refine z_ok (fun ox3 _ _ => ?_)
    have ox3 := ox3.1; unfold m_ok m_32 at ox3
    refine z_vI (M := M_X11_when) 80 dX11_when_80 t_X9_canBe l_X11_343 (m_rr_of rfl) (rest := []) (c_X9_canBe h2 9 x3 (Or.inr (Or.inl rfl)) G2) o_38 rfl rfl rfl (Nat.le_of_ble_eq_true rfl) ⟨rfl, rfl⟩ (fun x4 h3 qx4 => ?_)
    obtain ⟨G3, S3, ax4, bx4⟩ := qx4
    have R3 := R2.call S3 (by decide +kernel)
    refine z_if_eq (M := M_X11_when) 83 dX11_when_83 93 rfl (fun c5 => ?_) (fun c5 => ?_)
    · refine z_iincN (M := M_X11_when) 93 dX11_when_93 (ls' := [some (mR 0), some (mI a1), some (mI a2), some (mI l3), some (mI (l4 + 1))]) (by decide) rfl (by (unfold m_32; decide)) (by omega) (by omega) rfl ?_
      refine z_goto (M := M_X11_when) 96 dX11_when_96 47 rfl ?_
      exact z_mask [true, true, true, true, true] rfl (ih l3 (l4 + 1) h3 G3 R3 (by omega) (by omega) (by omega) (by omega) (by omega) (by omega) (by omega))
    · refine z_iload_n (M := M_X11_when) 86 dX11_when_86 rfl ?_
      refine z_iconst (M := M_X11_when) 87 dX11_when_87 ?_
      refine z_iload (M := M_X11_when) 88 dX11_when_88 rfl ?_
      refine z_ishl (M := M_X11_when) 90 dX11_when_90 ?_
      refine z_topm (fun x6 ex6 ox6 => ?_)
      unfold m_32 at ox6
      refine z_ior (M := M_X11_when) 91 dX11_when_91 ?_
      refine z_topm (fun x7 ex7 ox7 => ?_)
      unfold m_32 at ox7
      refine z_istore_n (M := M_X11_when) 92 dX11_when_92 (ls' := [some (mR 0), some (mI a1), some (mI a2), some (mI x7), some (mI l4)]) (by decide) rfl ?_
      refine z_iincN (M := M_X11_when) 93 dX11_when_93 (ls' := [some (mR 0), some (mI a1), some (mI a2), some (mI x7), some (mI (l4 + 1))]) (by decide) rfl (by (unfold m_32; decide)) (by omega) (by omega) rfl ?_
      refine z_goto (M := M_X11_when) 96 dX11_when_96 47 rfl ?_
      exact z_mask [true, true, true, true, true] rfl (ih x7 (l4 + 1) h3 G3 R3 (by omega) (by omega) (by omega) (by omega) (by omega) (by omega) (by omega))
theorem a_X11_when (h0 : m_H) (a1 a2 : Int) (G0 : GI h0) : ∀ n, q_X11_when h0 a1 a2 n := by
  intro n
  induction n with
  | zero => unfold q_X11_when; intros; omega
  | succ n ih => exact s_X11_when_47 h0 a1 a2 G0 n ih
set_option maxHeartbeats 4000000 in
set_option maxRecDepth 100000 in
theorem c_X11_when (h0 : m_H) (a1 a2 : Int) (G0 : GI h0) : m_CI M_X11_when [mR 0, mI a1, mI a2] h0 (P_X11_when h0 a1 a2) := by
  refine m_CI_of ⟨by decide, rfl, by simp [m_arg, m_isL, M_X11_when], ⟨rfl, rfl⟩, rfl, rfl⟩ (ls := [some (mR 0), some (mI a1), some (mI a2), none, none]) rfl ?_
  have ih := a_X11_when h0 a1 a2 G0 70
  refine z_ok (fun _ _ ok => ?_)
  have oa1 : m_32 a1 := ok 1 _ rfl
  unfold m_32 at oa1
  have oa2 : m_32 a2 := ok 2 _ rfl
  unfold m_32 at oa2
  refine z_iload_n (M := M_X11_when) 0 dX11_when_0 rfl ?_
  refine z_sI (M := M_X11_when) 1 dX11_when_1 t_X11_isThing l_X11_126 (m_rr_of rfl) (rest := []) (c_X11_isThing h0 a1 G0) rfl rfl (Nat.le_of_ble_eq_true rfl) ⟨rfl, rfl⟩ (fun x1 h1 qx1 => ?_)
  obtain ⟨rfl, ⟨rfl, cx1⟩ | ⟨rfl, cx1⟩⟩ := qx1
  · refine z_if_eq_F (M := M_X11_when) 4 dX11_when_4 29 rfl (by omega) ?_
    refine z_iload_n (M := M_X11_when) 7 dX11_when_7 rfl ?_
    refine z_iconst (M := M_X11_when) 8 dX11_when_8 ?_
    refine z_iconst (M := M_X11_when) 9 dX11_when_9 ?_
    refine z_sI (M := M_X11_when) 10 dX11_when_10 t_X11_within l_X11_112 (m_rr_of rfl) (rest := []) (c_X11_within h0 a2 0 2 G0) rfl rfl (Nat.le_of_ble_eq_true rfl) ⟨rfl, rfl⟩ (fun x2 h2 qx2 => ?_)
    obtain ⟨rfl, ⟨rfl, cx2⟩ | ⟨rfl, cx2⟩⟩ := qx2
    · refine z_if_eq_F (M := M_X11_when) 13 dX11_when_13 29 rfl (by omega) ?_
      refine z_aload_n (M := M_X11_when) 16 dX11_when_16 rfl ?_
      refine z_getR (M := M_X11_when) 17 dX11_when_17 f_X11_12 o_0 rfl (g_0_0 G0) ?_
      refine z_getR (M := M_X11_when) 20 dX11_when_20 f_X11_129 o_1 rfl (g_1_1 G0) ?_
      refine z_iload_n (M := M_X11_when) 23 dX11_when_23 rfl ?_
      refine z_ialdG (M := M_X11_when) 24 dX11_when_24 o_3 (by omega) (by omega) (g_3 G0 (by omega)) (fun x3 ex3 ax3 bx3 => ?_)
      refine z_iconst (M := M_X11_when) 25 dX11_when_25 ?_
      refine z_icmp_eq (M := M_X11_when) 26 dX11_when_26 31 rfl (fun c4 => ?_) (fun c4 => ?_)
      · refine z_aload_n (M := M_X11_when) 31 dX11_when_31 rfl ?_
        refine z_getR (M := M_X11_when) 32 dX11_when_32 f_X11_16 o_0 rfl (g_0_1 G0) ?_
        refine z_aload_n (M := M_X11_when) 35 dX11_when_35 rfl ?_
        refine z_getR (M := M_X11_when) 36 dX11_when_36 f_X11_12 o_0 rfl (g_0_0 G0) ?_
        refine z_vV (M := M_X11_when) 39 dX11_when_39 t_X4_copyFrom l_X11_197 (m_rr_of rfl) (rest := []) (c_X4_copyFrom h0 9 1 (Or.inr (Or.inl rfl)) (Or.inl rfl) G0) o_9 rfl rfl rfl (Nat.le_of_ble_eq_true rfl) ⟨rfl, rfl⟩ (fun h3 qx5 => ?_)
        obtain ⟨G3, S3⟩ := qx5
        have R3 := (FR.rf (cs := (csB ++ [10, 11, 12, 13, 14, 15, 16, 39, 40, 41])) (ss := [(9, 7), (9, 8), (9, 9)]) (h := h0)).call S3 (by decide +kernel)
        refine z_iconst (M := M_X11_when) 42 dX11_when_42 ?_
        refine z_istore_n (M := M_X11_when) 43 dX11_when_43 (ls' := [some (mR 0), some (mI a1), some (mI a2), some (mI 0), none]) (by decide) rfl ?_
        refine z_iconst (M := M_X11_when) 44 dX11_when_44 ?_
        refine z_istore (M := M_X11_when) 45 dX11_when_45 (ls' := [some (mR 0), some (mI a1), some (mI a2), some (mI 0), some (mI 1)]) (by decide) rfl ?_
        exact z_mask [true, true, true, true, true] rfl (ih 0 1 h3 G3 R3 (by omega) (by omega) (by omega) (by omega) (by omega) (by omega) (by omega))
      · refine z_iconst (M := M_X11_when) 29 dX11_when_29 ?_
        exact z_retI (M := M_X11_when) 30 dX11_when_30 rfl ⟨G0, (FR.rf (cs := (csB ++ [10, 11, 12, 13, 14, 15, 16, 39, 40, 41])) (ss := [(9, 7), (9, 8), (9, 9)]) (h := h0)), by omega, by omega⟩
    · refine z_if_eq_T (M := M_X11_when) 13 dX11_when_13 29 rfl (by omega) ?_
      refine z_iconst (M := M_X11_when) 29 dX11_when_29 ?_
      exact z_retI (M := M_X11_when) 30 dX11_when_30 rfl ⟨G0, (FR.rf (cs := (csB ++ [10, 11, 12, 13, 14, 15, 16, 39, 40, 41])) (ss := [(9, 7), (9, 8), (9, 9)]) (h := h0)), by omega, by omega⟩
  · refine z_if_eq_T (M := M_X11_when) 4 dX11_when_4 29 rfl (by omega) ?_
    refine z_iconst (M := M_X11_when) 29 dX11_when_29 ?_
    exact z_retI (M := M_X11_when) 30 dX11_when_30 rfl ⟨G0, (FR.rf (cs := (csB ++ [10, 11, 12, 13, 14, 15, 16, 39, 40, 41])) (ss := [(9, 7), (9, 8), (9, 9)]) (h := h0)), by omega, by omega⟩
abbrev P_X8_append (h0 : m_H) (a1 : Int) : m_H → Prop := fun h' => GI h' ∧ FR [36] [(35, 1)] h0 h' ∧ h' 35 1 = h0 35 1 + 4
set_option maxHeartbeats 4000000 in
set_option maxRecDepth 100000 in
theorem c_X8_append (h0 : m_H) (a1 : Int) (G0 : GI h0) (ht : h0 35 1 ≤ 396) : m_CV M_X8_append [mR 35, mI a1] h0 (P_X8_append h0 a1) := by
  refine m_CV_of ⟨by decide, rfl, by simp [m_arg, m_isL, M_X8_append], ⟨rfl, rfl⟩, rfl, rfl⟩ (ls := [some (mR 35), some (mI a1)]) rfl ?_
  refine z_ok (fun _ _ ok => ?_)
  have oa1 : m_32 a1 := ok 1 _ rfl
  unfold m_32 at oa1
  obtain ⟨x1, ex1⟩ : ∃ y : Int, h0 35 1 = y := ⟨_, rfl⟩
  have bx1 : 0 ≤ x1 ∧ x1 ≤ 400 := ex1 ▸ g_35_1 G0
  refine z_aload_n (M := M_X8_append) 0 dX8_append_0 rfl ?_
  refine z_getIE (M := M_X8_append) 1 dX8_append_1 f_X8_15 o_35 (by decide) ex1 ?_
  refine z_iconst (M := M_X8_append) 4 dX8_append_4 ?_
  refine z_iaddN (M := M_X8_append) 5 dX8_append_5 (by omega) (by omega) ?_
  refine z_sipush (M := M_X8_append) 6 dX8_append_6 ?_
  refine z_icmp_le (M := M_X8_append) 9 dX8_append_9 13 rfl (fun c2 => ?_) (fun c2 => ?_)
  · refine z_aload_n (M := M_X8_append) 13 dX8_append_13 rfl ?_
    refine z_getR (M := M_X8_append) 14 dX8_append_14 f_X8_9 o_35 rfl (g_35_0 G0) ?_
    refine z_aload_n (M := M_X8_append) 17 dX8_append_17 rfl ?_
    refine z_getIE (M := M_X8_append) 18 dX8_append_18 f_X8_15 o_35 (by decide) ex1 ?_
    refine z_iload_n (M := M_X8_append) 21 dX8_append_21 rfl ?_
    refine z_bipush (M := M_X8_append) 22 dX8_append_22 ?_
    refine z_iushr (M := M_X8_append) 24 dX8_append_24 ?_
    refine z_topBI (m_ushr_24 _) (fun x3 ex3 ax3 bx3 => ?_)
    refine z_iastH (M := M_X8_append) 25 dX8_append_25 o_36 (by omega) (by omega) (u_36 G0 (by omega) (by omega)) ((FR.rf (cs := [36]) (ss := [(35, 1)]) (h := h0)).up rfl) (fun h1 E1 G1 R1 => ?_)
    refine z_aload_n (M := M_X8_append) 26 dX8_append_26 rfl ?_
    refine z_getR (M := M_X8_append) 27 dX8_append_27 f_X8_9 o_35 rfl (g_35_0 G1) ?_
    refine z_aload_n (M := M_X8_append) 30 dX8_append_30 rfl ?_
    refine z_getIE (M := M_X8_append) 31 dX8_append_31 f_X8_15 o_35 (by decide) ((upN E1 (fun q => absurd q.1 (by decide))).trans ex1) ?_
    refine z_iconst (M := M_X8_append) 34 dX8_append_34 ?_
    refine z_iaddN (M := M_X8_append) 35 dX8_append_35 (by omega) (by omega) ?_
    refine z_iload_n (M := M_X8_append) 36 dX8_append_36 rfl ?_
    refine z_bipush (M := M_X8_append) 37 dX8_append_37 ?_
    refine z_iushr (M := M_X8_append) 39 dX8_append_39 ?_
    refine z_topm (fun x4 ex4 ox4 => ?_)
    unfold m_32 at ox4
    refine z_sipush (M := M_X8_append) 40 dX8_append_40 ?_
    refine z_iand (M := M_X8_append) 43 dX8_append_43 ?_
    refine z_topBI (m_and_255 _) (fun x5 ex5 ax5 bx5 => ?_)
    refine z_iastH (M := M_X8_append) 44 dX8_append_44 o_36 (by omega) (by omega) (u_36 G1 (by omega) (by omega)) (R1.up rfl) (fun h2 E2 G2 R2 => ?_)
    refine z_aload_n (M := M_X8_append) 45 dX8_append_45 rfl ?_
    refine z_getR (M := M_X8_append) 46 dX8_append_46 f_X8_9 o_35 rfl (g_35_0 G2) ?_
    refine z_aload_n (M := M_X8_append) 49 dX8_append_49 rfl ?_
    refine z_getIE (M := M_X8_append) 50 dX8_append_50 f_X8_15 o_35 (by decide) ((upN E2 (fun q => absurd q.1 (by decide))).trans ((upN E1 (fun q => absurd q.1 (by decide))).trans ex1)) ?_
    refine z_iconst (M := M_X8_append) 53 dX8_append_53 ?_
    refine z_iaddN (M := M_X8_append) 54 dX8_append_54 (by omega) (by omega) ?_
    refine z_iload_n (M := M_X8_append) 55 dX8_append_55 rfl ?_
    refine z_bipush (M := M_X8_append) 56 dX8_append_56 ?_
    refine z_iushr (M := M_X8_append) 58 dX8_append_58 ?_
    refine z_topm (fun x6 ex6 ox6 => ?_)
    unfold m_32 at ox6
    refine z_sipush (M := M_X8_append) 59 dX8_append_59 ?_
    refine z_iand (M := M_X8_append) 62 dX8_append_62 ?_
    refine z_topBI (m_and_255 _) (fun x7 ex7 ax7 bx7 => ?_)
    refine z_iastH (M := M_X8_append) 63 dX8_append_63 o_36 (by omega) (by omega) (u_36 G2 (by omega) (by omega)) (R2.up rfl) (fun h3 E3 G3 R3 => ?_)
    refine z_aload_n (M := M_X8_append) 64 dX8_append_64 rfl ?_
    refine z_getR (M := M_X8_append) 65 dX8_append_65 f_X8_9 o_35 rfl (g_35_0 G3) ?_
    refine z_aload_n (M := M_X8_append) 68 dX8_append_68 rfl ?_
    refine z_getIE (M := M_X8_append) 69 dX8_append_69 f_X8_15 o_35 (by decide) ((upN E3 (fun q => absurd q.1 (by decide))).trans ((upN E2 (fun q => absurd q.1 (by decide))).trans ((upN E1 (fun q => absurd q.1 (by decide))).trans ex1))) ?_
    refine z_iconst (M := M_X8_append) 72 dX8_append_72 ?_
    refine z_iaddN (M := M_X8_append) 73 dX8_append_73 (by omega) (by omega) ?_
    refine z_iload_n (M := M_X8_append) 74 dX8_append_74 rfl ?_
    refine z_sipush (M := M_X8_append) 75 dX8_append_75 ?_
    refine z_iand (M := M_X8_append) 78 dX8_append_78 ?_
    refine z_topBI (m_and_255 _) (fun x8 ex8 ax8 bx8 => ?_)
    refine z_iastH (M := M_X8_append) 79 dX8_append_79 o_36 (by omega) (by omega) (u_36 G3 (by omega) (by omega)) (R3.up rfl) (fun h4 E4 G4 R4 => ?_)
    refine z_aload_n (M := M_X8_append) 80 dX8_append_80 rfl ?_
    refine z_dup (M := M_X8_append) 81 dX8_append_81 rfl ?_
    refine z_getIE (M := M_X8_append) 82 dX8_append_82 f_X8_15 o_35 (by decide) ((upN E4 (fun q => absurd q.1 (by decide))).trans ((upN E3 (fun q => absurd q.1 (by decide))).trans ((upN E2 (fun q => absurd q.1 (by decide))).trans ((upN E1 (fun q => absurd q.1 (by decide))).trans ex1)))) ?_
    refine z_iconst (M := M_X8_append) 85 dX8_append_85 ?_
    refine z_iaddN (M := M_X8_append) 86 dX8_append_86 (by omega) (by omega) ?_
    refine z_putIH (M := M_X8_append) 87 dX8_append_87 p_X8_15 o_35 rfl (u_35_1 G4 (by omega) (by omega)) (R4.up rfl) (fun h5 E5 G5 R5 => ?_)
    have z8 : h5 35 1 = (x1 + 4) := (upE E5)
    exact z_retV (M := M_X8_append) 90 dX8_append_90 rfl ⟨G5, R5, by omega⟩
  · have z8 : h0 35 1 = x1 := ex1
    exact z_retV (M := M_X8_append) 12 dX8_append_12 rfl ⟨G0, (FR.rf (cs := [36]) (ss := [(35, 1)]) (h := h0)), by omega⟩
abbrev P_X11_feed (h0 : m_H) (a1 a2 a3 a4 a5 : Int) : Int → m_H → Prop := fun x h' => GI h' ∧ FR [36] [(35, 1)] h0 h' ∧ ((380 < h0 35 1 ∧ x = -1 ∧ h' 35 1 = h0 35 1) ∨ (h0 35 1 ≤ 380 ∧ x = h0 35 1 + 20 ∧ h' 35 1 = h0 35 1 + 20))
set_option maxHeartbeats 4000000 in
set_option maxRecDepth 100000 in
theorem c_X11_feed (h0 : m_H) (a1 a2 a3 a4 a5 : Int) (G0 : GI h0) : m_CI M_X11_feed [mR 0, mI a1, mI a2, mI a3, mI a4, mI a5] h0 (P_X11_feed h0 a1 a2 a3 a4 a5) := by
  refine m_CI_of ⟨by decide, rfl, by simp [m_arg, m_isL, M_X11_feed], ⟨rfl, rfl⟩, rfl, rfl⟩ (ls := [some (mR 0), some (mI a1), some (mI a2), some (mI a3), some (mI a4), some (mI a5)]) rfl ?_
  refine z_ok (fun _ _ ok => ?_)
  have oa1 : m_32 a1 := ok 1 _ rfl
  unfold m_32 at oa1
  have oa2 : m_32 a2 := ok 2 _ rfl
  unfold m_32 at oa2
  have oa3 : m_32 a3 := ok 3 _ rfl
  unfold m_32 at oa3
  have oa4 : m_32 a4 := ok 4 _ rfl
  unfold m_32 at oa4
  have oa5 : m_32 a5 := ok 5 _ rfl
  unfold m_32 at oa5
  obtain ⟨x1, ex1⟩ : ∃ y : Int, h0 35 1 = y := ⟨_, rfl⟩
  have bx1 : 0 ≤ x1 ∧ x1 ≤ 400 := ex1 ▸ g_35_1 G0
  refine z_aload_n (M := M_X11_feed) 0 dX11_feed_0 rfl ?_
  refine z_getR (M := M_X11_feed) 1 dX11_feed_1 f_X11_30 o_0 rfl (g_0_4 G0) ?_
  refine z_getIE (M := M_X11_feed) 4 dX11_feed_4 f_X11_187 o_35 (by decide) ex1 ?_
  refine z_bipush (M := M_X11_feed) 7 dX11_feed_7 ?_
  refine z_iaddN (M := M_X11_feed) 9 dX11_feed_9 (by omega) (by omega) ?_
  refine z_sipush (M := M_X11_feed) 10 dX11_feed_10 ?_
  refine z_icmp_le (M := M_X11_feed) 13 dX11_feed_13 18 rfl (fun c2 => ?_) (fun c2 => ?_)
  · refine z_aload_n (M := M_X11_feed) 18 dX11_feed_18 rfl ?_
    refine z_getR (M := M_X11_feed) 19 dX11_feed_19 f_X11_30 o_0 rfl (g_0_4 G0) ?_
    refine z_iload_n (M := M_X11_feed) 22 dX11_feed_22 rfl ?_
    refine z_vV (M := M_X11_feed) 23 dX11_feed_23 t_X8_append l_X11_190 (m_rr_of rfl) (rest := []) (c_X8_append h0 a1 G0 (le_e ex1 (by omega))) o_35 rfl rfl rfl (Nat.le_of_ble_eq_true rfl) ⟨rfl, rfl⟩ (fun h1 qx3 => ?_)
    obtain ⟨G1, S1, fx3_0⟩ := qx3
    have R1 := (FR.rf (cs := [36]) (ss := [(35, 1)]) (h := h0)).call S1 (by decide +kernel)
    refine z_aload_n (M := M_X11_feed) 26 dX11_feed_26 rfl ?_
    refine z_getR (M := M_X11_feed) 27 dX11_feed_27 f_X11_30 o_0 rfl (g_0_4 G1) ?_
    refine z_iload_n (M := M_X11_feed) 30 dX11_feed_30 rfl ?_
    refine z_vV (M := M_X11_feed) 31 dX11_feed_31 t_X8_append l_X11_190 (m_rr_of rfl) (rest := []) (c_X8_append h1 a2 G1 (le_e (eq_ad fx3_0 ex1) (by omega))) o_35 rfl rfl rfl (Nat.le_of_ble_eq_true rfl) ⟨rfl, rfl⟩ (fun h2 qx4 => ?_)
    obtain ⟨G2, S2, fx4_0⟩ := qx4
    have R2 := R1.call S2 (by decide +kernel)
    refine z_aload_n (M := M_X11_feed) 34 dX11_feed_34 rfl ?_
    refine z_getR (M := M_X11_feed) 35 dX11_feed_35 f_X11_30 o_0 rfl (g_0_4 G2) ?_
    refine z_iload_n (M := M_X11_feed) 38 dX11_feed_38 rfl ?_
    refine z_vV (M := M_X11_feed) 39 dX11_feed_39 t_X8_append l_X11_190 (m_rr_of rfl) (rest := []) (c_X8_append h2 a3 G2 (le_e (eq_ad fx4_0 (eq_ad fx3_0 ex1)) (by omega))) o_35 rfl rfl rfl (Nat.le_of_ble_eq_true rfl) ⟨rfl, rfl⟩ (fun h3 qx5 => ?_)
    obtain ⟨G3, S3, fx5_0⟩ := qx5
    have R3 := R2.call S3 (by decide +kernel)
    refine z_aload_n (M := M_X11_feed) 42 dX11_feed_42 rfl ?_
    refine z_getR (M := M_X11_feed) 43 dX11_feed_43 f_X11_30 o_0 rfl (g_0_4 G3) ?_
    refine z_iload (M := M_X11_feed) 46 dX11_feed_46 rfl ?_
    refine z_vV (M := M_X11_feed) 48 dX11_feed_48 t_X8_append l_X11_190 (m_rr_of rfl) (rest := []) (c_X8_append h3 a4 G3 (le_e (eq_ad fx5_0 (eq_ad fx4_0 (eq_ad fx3_0 ex1))) (by omega))) o_35 rfl rfl rfl (Nat.le_of_ble_eq_true rfl) ⟨rfl, rfl⟩ (fun h4 qx6 => ?_)
    obtain ⟨G4, S4, fx6_0⟩ := qx6
    have R4 := R3.call S4 (by decide +kernel)
    refine z_aload_n (M := M_X11_feed) 51 dX11_feed_51 rfl ?_
    refine z_getR (M := M_X11_feed) 52 dX11_feed_52 f_X11_30 o_0 rfl (g_0_4 G4) ?_
    refine z_iload (M := M_X11_feed) 55 dX11_feed_55 rfl ?_
    refine z_vV (M := M_X11_feed) 57 dX11_feed_57 t_X8_append l_X11_190 (m_rr_of rfl) (rest := []) (c_X8_append h4 a5 G4 (le_e (eq_ad fx6_0 (eq_ad fx5_0 (eq_ad fx4_0 (eq_ad fx3_0 ex1)))) (by omega))) o_35 rfl rfl rfl (Nat.le_of_ble_eq_true rfl) ⟨rfl, rfl⟩ (fun h5 qx7 => ?_)
    obtain ⟨G5, S5, fx7_0⟩ := qx7
    have R5 := R4.call S5 (by decide +kernel)
    refine z_aload_n (M := M_X11_feed) 60 dX11_feed_60 rfl ?_
    refine z_getR (M := M_X11_feed) 61 dX11_feed_61 f_X11_30 o_0 rfl (g_0_4 G5) ?_
    refine z_getIE (M := M_X11_feed) 64 dX11_feed_64 f_X11_187 o_35 (by decide) (eq_ad fx7_0 (eq_ad fx6_0 (eq_ad fx5_0 (eq_ad fx4_0 (eq_ad fx3_0 ex1))))) ?_
    have z8 : h5 35 1 = (((((x1 + 4) + 4) + 4) + 4) + 4) := (eq_ad fx7_0 (eq_ad fx6_0 (eq_ad fx5_0 (eq_ad fx4_0 (eq_ad fx3_0 ex1)))))
    exact z_retI (M := M_X11_feed) 67 dX11_feed_67 rfl ⟨G5, R5, by omega⟩
  · refine z_iconst (M := M_X11_feed) 16 dX11_feed_16 ?_
    have z8 : h0 35 1 = x1 := ex1
    exact z_retI (M := M_X11_feed) 17 dX11_feed_17 rfl ⟨G0, (FR.rf (cs := [36]) (ss := [(35, 1)]) (h := h0)), by omega⟩
abbrev P_X11_end (h0 : m_H) (a1 : Int) : Int → m_H → Prop := fun x h' => GI h' ∧ FR [] [(35, 1)] h0 h' ∧ (((a1 < 0 ∨ h0 35 1 < a1) ∧ x = -1 ∧ h' 35 1 = h0 35 1) ∨ (0 ≤ a1 ∧ a1 ≤ h0 35 1 ∧ x = a1 ∧ h' 35 1 = a1))
set_option maxHeartbeats 4000000 in
set_option maxRecDepth 100000 in
theorem c_X11_end (h0 : m_H) (a1 : Int) (G0 : GI h0) : m_CI M_X11_end [mR 0, mI a1] h0 (P_X11_end h0 a1) := by
  refine m_CI_of ⟨by decide, rfl, by simp [m_arg, m_isL, M_X11_end], ⟨rfl, rfl⟩, rfl, rfl⟩ (ls := [some (mR 0), some (mI a1)]) rfl ?_
  refine z_ok (fun _ _ ok => ?_)
  have oa1 : m_32 a1 := ok 1 _ rfl
  unfold m_32 at oa1
  obtain ⟨x1, ex1⟩ : ∃ y : Int, h0 35 1 = y := ⟨_, rfl⟩
  have bx1 : 0 ≤ x1 ∧ x1 ≤ 400 := ex1 ▸ g_35_1 G0
  refine z_iload_n (M := M_X11_end) 0 dX11_end_0 rfl ?_
  refine z_iconst (M := M_X11_end) 1 dX11_end_1 ?_
  refine z_aload_n (M := M_X11_end) 2 dX11_end_2 rfl ?_
  refine z_getR (M := M_X11_end) 3 dX11_end_3 f_X11_30 o_0 rfl (g_0_4 G0) ?_
  refine z_getIE (M := M_X11_end) 6 dX11_end_6 f_X11_187 o_35 (by decide) ex1 ?_
  refine z_sI (M := M_X11_end) 9 dX11_end_9 t_X11_within l_X11_112 (m_rr_of rfl) (rest := []) (c_X11_within h0 a1 0 x1 G0) rfl rfl (Nat.le_of_ble_eq_true rfl) ⟨rfl, rfl⟩ (fun x2 h1 qx2 => ?_)
  obtain ⟨rfl, ⟨rfl, cx2⟩ | ⟨rfl, cx2⟩⟩ := qx2
  · refine z_if_ne_T (M := M_X11_end) 12 dX11_end_12 17 rfl (by omega) ?_
    refine z_aload_n (M := M_X11_end) 17 dX11_end_17 rfl ?_
    refine z_getR (M := M_X11_end) 18 dX11_end_18 f_X11_30 o_0 rfl (g_0_4 G0) ?_
    refine z_iload_n (M := M_X11_end) 21 dX11_end_21 rfl ?_
    refine z_putIH (M := M_X11_end) 22 dX11_end_22 p_X11_187 o_35 rfl (u_35_1 G0 (by omega) (by omega)) ((FR.rf (cs := []) (ss := [(35, 1)]) (h := h0)).up rfl) (fun h2 E2 G2 R2 => ?_)
    refine z_iload_n (M := M_X11_end) 25 dX11_end_25 rfl ?_
    have z8 : h2 35 1 = a1 := (upE E2)
    exact z_retI (M := M_X11_end) 26 dX11_end_26 rfl ⟨G2, R2, by omega⟩
  · refine z_if_ne_F (M := M_X11_end) 12 dX11_end_12 17 rfl (by omega) ?_
    refine z_iconst (M := M_X11_end) 15 dX11_end_15 ?_
    have z8 : h0 35 1 = x1 := ex1
    exact z_retI (M := M_X11_end) 16 dX11_end_16 rfl ⟨G0, (FR.rf (cs := []) (ss := [(35, 1)]) (h := h0)), by omega⟩
abbrev P_X11_takeFromRow (h0 : m_H) (a1 : Int) : Int → m_H → Prop := fun x h' => GI h' ∧ FR [4, 5, 6, 7] [(1, 7), (1, 8)] h0 h' ∧ 0 ≤ x ∧ x ≤ 1
set_option maxHeartbeats 4000000 in
set_option maxRecDepth 100000 in
theorem c_X11_takeFromRow (h0 : m_H) (a1 : Int) (G0 : GI h0) (pa1 : 0 ≤ a1 ∧ a1 ≤ 400) : m_CI M_X11_takeFromRow [mR 0, mI a1] h0 (P_X11_takeFromRow h0 a1) := by
  refine m_CI_of ⟨by decide, rfl, by simp [m_arg, m_isL, M_X11_takeFromRow], ⟨rfl, rfl⟩, rfl, rfl⟩ (ls := [some (mR 0), some (mI a1), none, none, none, none]) rfl ?_
  refine z_iload_n (M := M_X11_takeFromRow) 0 dX11_takeFromRow_0 rfl ?_
  refine z_iconst (M := M_X11_takeFromRow) 1 dX11_takeFromRow_1 ?_
  refine z_iaddN (M := M_X11_takeFromRow) 2 dX11_takeFromRow_2 (by omega) (by omega) ?_
  refine z_aload_n (M := M_X11_takeFromRow) 3 dX11_takeFromRow_3 rfl ?_
  refine z_getR (M := M_X11_takeFromRow) 4 dX11_takeFromRow_4 f_X11_30 o_0 rfl (g_0_4 G0) ?_
  refine z_getIG (M := M_X11_takeFromRow) 7 dX11_takeFromRow_7 f_X11_187 o_35 (by decide) (g_35_1 G0) (fun x1 ex1 ax1 bx1 => ?_)
  refine z_icmp_le (M := M_X11_takeFromRow) 10 dX11_takeFromRow_10 15 rfl (fun c2 => ?_) (fun c2 => ?_)
  · refine z_aload_n (M := M_X11_takeFromRow) 15 dX11_takeFromRow_15 rfl ?_
    refine z_getR (M := M_X11_takeFromRow) 16 dX11_takeFromRow_16 f_X11_30 o_0 rfl (g_0_4 G0) ?_
    refine z_getR (M := M_X11_takeFromRow) 19 dX11_takeFromRow_19 f_X11_424 o_35 rfl (g_35_0 G0) ?_
    refine z_iload_n (M := M_X11_takeFromRow) 22 dX11_takeFromRow_22 rfl ?_
    refine z_ialdG (M := M_X11_takeFromRow) 23 dX11_takeFromRow_23 o_36 (by omega) (by omega) (g_36 G0 (by omega)) (fun x3 ex3 ax3 bx3 => ?_)
    refine z_istore_n (M := M_X11_takeFromRow) 24 dX11_takeFromRow_24 (ls' := [some (mR 0), some (mI a1), some (mI x3), none, none, none]) (by decide) rfl ?_
    refine z_aload_n (M := M_X11_takeFromRow) 25 dX11_takeFromRow_25 rfl ?_
    refine z_getR (M := M_X11_takeFromRow) 26 dX11_takeFromRow_26 f_X11_30 o_0 rfl (g_0_4 G0) ?_
    refine z_getR (M := M_X11_takeFromRow) 29 dX11_takeFromRow_29 f_X11_424 o_35 rfl (g_35_0 G0) ?_
    refine z_iload_n (M := M_X11_takeFromRow) 32 dX11_takeFromRow_32 rfl ?_
    refine z_iconst (M := M_X11_takeFromRow) 33 dX11_takeFromRow_33 ?_
    refine z_iaddN (M := M_X11_takeFromRow) 34 dX11_takeFromRow_34 (by omega) (by omega) ?_
    refine z_ialdG (M := M_X11_takeFromRow) 35 dX11_takeFromRow_35 o_36 (by omega) (by omega) (g_36 G0 (by omega)) (fun x4 ex4 ax4 bx4 => ?_)
    refine z_istore_n (M := M_X11_takeFromRow) 36 dX11_takeFromRow_36 (ls' := [some (mR 0), some (mI a1), some (mI x3), some (mI x4), none, none]) (by decide) rfl ?_
    refine z_aload_n (M := M_X11_takeFromRow) 37 dX11_takeFromRow_37 rfl ?_
    refine z_getR (M := M_X11_takeFromRow) 38 dX11_takeFromRow_38 f_X11_30 o_0 rfl (g_0_4 G0) ?_
    refine z_getR (M := M_X11_takeFromRow) 41 dX11_takeFromRow_41 f_X11_424 o_35 rfl (g_35_0 G0) ?_
    refine z_iload_n (M := M_X11_takeFromRow) 44 dX11_takeFromRow_44 rfl ?_
    refine z_iconst (M := M_X11_takeFromRow) 45 dX11_takeFromRow_45 ?_
    refine z_iaddN (M := M_X11_takeFromRow) 46 dX11_takeFromRow_46 (by omega) (by omega) ?_
    refine z_ialdG (M := M_X11_takeFromRow) 47 dX11_takeFromRow_47 o_36 (by omega) (by omega) (g_36 G0 (by omega)) (fun x5 ex5 ax5 bx5 => ?_)
    refine z_istore (M := M_X11_takeFromRow) 48 dX11_takeFromRow_48 (ls' := [some (mR 0), some (mI a1), some (mI x3), some (mI x4), some (mI x5), none]) (by decide) rfl ?_
    refine z_aload_n (M := M_X11_takeFromRow) 50 dX11_takeFromRow_50 rfl ?_
    refine z_getR (M := M_X11_takeFromRow) 51 dX11_takeFromRow_51 f_X11_30 o_0 rfl (g_0_4 G0) ?_
    refine z_getR (M := M_X11_takeFromRow) 54 dX11_takeFromRow_54 f_X11_424 o_35 rfl (g_35_0 G0) ?_
    refine z_iload_n (M := M_X11_takeFromRow) 57 dX11_takeFromRow_57 rfl ?_
    refine z_iconst (M := M_X11_takeFromRow) 58 dX11_takeFromRow_58 ?_
    refine z_iaddN (M := M_X11_takeFromRow) 59 dX11_takeFromRow_59 (by omega) (by omega) ?_
    refine z_ialdG (M := M_X11_takeFromRow) 60 dX11_takeFromRow_60 o_36 (by omega) (by omega) (g_36 G0 (by omega)) (fun x6 ex6 ax6 bx6 => ?_)
    refine z_istore (M := M_X11_takeFromRow) 61 dX11_takeFromRow_61 (ls' := [some (mR 0), some (mI a1), some (mI x3), some (mI x4), some (mI x5), some (mI x6)]) (by decide) rfl ?_
    refine z_iload_n (M := M_X11_takeFromRow) 63 dX11_takeFromRow_63 rfl ?_
    refine z_iload_n (M := M_X11_takeFromRow) 64 dX11_takeFromRow_64 rfl ?_
    refine z_iload (M := M_X11_takeFromRow) 65 dX11_takeFromRow_65 rfl ?_
    refine z_iload (M := M_X11_takeFromRow) 67 dX11_takeFromRow_67 rfl ?_
    refine z_sI (M := M_X11_takeFromRow) 69 dX11_takeFromRow_69 t_X11_isEntry l_X11_151 (m_rr_of rfl) (rest := []) (c_X11_isEntry h0 x3 x4 x5 x6 G0) rfl rfl (Nat.le_of_ble_eq_true rfl) ⟨rfl, rfl⟩ (fun x7 h1 qx7 => ?_)
    obtain ⟨rfl, ⟨rfl, cx7⟩ | ⟨rfl, cx7⟩⟩ := qx7
    · refine z_if_eq_F (M := M_X11_takeFromRow) 72 dX11_takeFromRow_72 85 rfl (by omega) ?_
      refine z_aload_n (M := M_X11_takeFromRow) 75 dX11_takeFromRow_75 rfl ?_
      refine z_getR (M := M_X11_takeFromRow) 76 dX11_takeFromRow_76 f_X11_12 o_0 rfl (g_0_0 G0) ?_
      refine z_vI (M := M_X11_takeFromRow) 79 dX11_takeFromRow_79 t_X4_hasRoom l_X11_155 (m_rr_of rfl) (rest := []) (c_X4_hasRoom h0 1 (Or.inl rfl) G0) o_1 rfl rfl rfl (Nat.le_of_ble_eq_true rfl) ⟨rfl, rfl⟩ (fun x8 h2 qx8 => ?_)
      obtain ⟨rfl, ⟨rfl, cx8⟩ | ⟨rfl, cx8⟩⟩ := qx8
      · refine z_if_ne_T (M := M_X11_takeFromRow) 82 dX11_takeFromRow_82 87 rfl (by omega) ?_
        refine z_aload_n (M := M_X11_takeFromRow) 87 dX11_takeFromRow_87 rfl ?_
        refine z_getR (M := M_X11_takeFromRow) 88 dX11_takeFromRow_88 f_X11_12 o_0 rfl (g_0_0 G0) ?_
        refine z_iload_n (M := M_X11_takeFromRow) 91 dX11_takeFromRow_91 rfl ?_
        refine z_iload_n (M := M_X11_takeFromRow) 92 dX11_takeFromRow_92 rfl ?_
        refine z_iload (M := M_X11_takeFromRow) 93 dX11_takeFromRow_93 rfl ?_
        refine z_iload (M := M_X11_takeFromRow) 95 dX11_takeFromRow_95 rfl ?_
        refine z_vV (M := M_X11_takeFromRow) 97 dX11_takeFromRow_97 t_X4_addEntry l_X11_158 (m_rr_of rfl) (rest := []) (c_X4_addEntry h0 1 x3 x4 x5 x6 (Or.inl rfl) G0 ⟨by omega, by omega⟩ ⟨by omega, by omega⟩ ⟨by omega, by omega⟩ ⟨by omega, by omega⟩) o_1 rfl rfl rfl (Nat.le_of_ble_eq_true rfl) ⟨rfl, rfl⟩ (fun h3 qx9 => ?_)
        obtain ⟨G3, S3⟩ := qx9
        have R3 := (FR.rf (cs := [4, 5, 6, 7]) (ss := [(1, 7), (1, 8)]) (h := h0)).call S3 (by decide +kernel)
        refine z_iconst (M := M_X11_takeFromRow) 100 dX11_takeFromRow_100 ?_
        exact z_retZ (M := M_X11_takeFromRow) 101 dX11_takeFromRow_101 rfl (by omega) ⟨G3, R3, by omega, by omega⟩
      · refine z_if_ne_F (M := M_X11_takeFromRow) 82 dX11_takeFromRow_82 87 rfl (by omega) ?_
        refine z_iconst (M := M_X11_takeFromRow) 85 dX11_takeFromRow_85 ?_
        exact z_retZ (M := M_X11_takeFromRow) 86 dX11_takeFromRow_86 rfl (by omega) ⟨G0, (FR.rf (cs := [4, 5, 6, 7]) (ss := [(1, 7), (1, 8)]) (h := h0)), by omega, by omega⟩
    · refine z_if_eq_T (M := M_X11_takeFromRow) 72 dX11_takeFromRow_72 85 rfl (by omega) ?_
      refine z_iconst (M := M_X11_takeFromRow) 85 dX11_takeFromRow_85 ?_
      exact z_retZ (M := M_X11_takeFromRow) 86 dX11_takeFromRow_86 rfl (by omega) ⟨G0, (FR.rf (cs := [4, 5, 6, 7]) (ss := [(1, 7), (1, 8)]) (h := h0)), by omega, by omega⟩
  · refine z_iconst (M := M_X11_takeFromRow) 13 dX11_takeFromRow_13 ?_
    exact z_retZ (M := M_X11_takeFromRow) 14 dX11_takeFromRow_14 rfl (by omega) ⟨G0, (FR.rf (cs := [4, 5, 6, 7]) (ss := [(1, 7), (1, 8)]) (h := h0)), by omega, by omega⟩
abbrev P_X11_row (h0 : m_H) : Int → m_H → Prop := fun x h' => GI h' ∧ FR [4, 5, 6, 7, 107] [(0, 14), (0, 15), (1, 7), (1, 8), (35, 1)] h0 h' ∧ (-24) ≤ x ∧ x ≤ 24 ∧ h' 35 1 = 0
def q_X11_row (h0 : m_H) (n : Nat) : Prop := (∀ (l1 l2 : Int) (h : m_H), GI h → FR [4, 5, 6, 7, 107] [(0, 14), (0, 15), (1, 7), (1, 8), (35, 1)] h0 h → 0 ≤ l1 → l1 ≤ 24 → 0 ≤ l2 → l2 ≤ 403 → 2 * (403 - l2) + (1) ≤ (n : Int) → m_Z oF M_X11_row 32 [some (mR 0), some (mI l1), some (mI l2)] [] h (m_QI (P_X11_row h0)))
set_option maxHeartbeats 4000000 in
set_option maxRecDepth 100000 in
theorem s_X11_row_32 (h0 : m_H) (G0 : GI h0) (n : Nat) (ih : q_X11_row h0 n) : ∀ (l1 l2 : Int) (h : m_H), GI h → FR [4, 5, 6, 7, 107] [(0, 14), (0, 15), (1, 7), (1, 8), (35, 1)] h0 h → 0 ≤ l1 → l1 ≤ 24 → 0 ≤ l2 → l2 ≤ 403 → 2 * (403 - l2) + (1) ≤ ((n + 1 : Nat) : Int) → m_Z oF M_X11_row 32 [some (mR 0), some (mI l1), some (mI l2)] [] h (m_QI (P_X11_row h0)) := by
  intro l1 l2 h G R v0 v1 v2 v3 hr
  refine z_iload_n (M := M_X11_row) 32 dX11_row_32 rfl ?_
  refine z_aload_n (M := M_X11_row) 33 dX11_row_33 rfl ?_
  refine z_getR (M := M_X11_row) 34 dX11_row_34 f_X11_30 o_0 rfl (g_0_4 G) ?_
  refine z_getIG (M := M_X11_row) 37 dX11_row_37 f_X11_187 o_35 (by decide) (g_35_1 G) (fun x1 ex1 ax1 bx1 => ?_)
  refine z_icmp_ge (M := M_X11_row) 40 dX11_row_40 67 rfl (fun c2 => ?_) (fun c2 => ?_)
  · refine z_aload_n (M := M_X11_row) 67 dX11_row_67 rfl ?_
    refine z_getR (M := M_X11_row) 68 dX11_row_68 f_X11_30 o_0 rfl (g_0_4 G) ?_
    refine z_iconst (M := M_X11_row) 71 dX11_row_71 ?_
    refine z_putIH (M := M_X11_row) 72 dX11_row_72 p_X11_187 o_35 rfl (u_35_1 G (by omega) (by omega)) (R.up rfl) (fun h1 E1 G1 R1 => ?_)
    refine z_aload_n (M := M_X11_row) 75 dX11_row_75 rfl ?_
    refine z_aload_n (M := M_X11_row) 76 dX11_row_76 rfl ?_
    refine z_getR (M := M_X11_row) 77 dX11_row_77 f_X11_12 o_0 rfl (g_0_0 G1) ?_
    refine z_getIG (M := M_X11_row) 80 dX11_row_80 f_X11_162 o_1 (by decide) (g_1_7 G1) (fun x3 ex3 ax3 bx3 => ?_)
    refine z_iload_n (M := M_X11_row) 83 dX11_row_83 rfl ?_
    refine z_isubN (M := M_X11_row) 84 dX11_row_84 (by omega) (by omega) ?_
    refine z_vI (M := M_X11_row) 85 dX11_row_85 t_X11_accept l_X11_123 (m_rr_of rfl) (rest := []) (c_X11_accept h1 (x3 - l1) G1) o_0 rfl rfl rfl (Nat.le_of_ble_eq_true rfl) ⟨rfl, rfl⟩ (fun x4 h2 qx4 => ?_)
    obtain ⟨G2, S2, rfl⟩ := qx4
    have R2 := R1.call S2 (by decide +kernel)
    have z8 : h2 35 1 = 0 := ((S2 35 1 rfl).trans (upE E1))
    exact z_retI (M := M_X11_row) 88 dX11_row_88 rfl ⟨G2, R2, by omega, by omega, by omega⟩
  · refine z_aload_n (M := M_X11_row) 43 dX11_row_43 rfl ?_
    refine z_iload_n (M := M_X11_row) 44 dX11_row_44 rfl ?_
    refine z_vI (M := M_X11_row) 45 dX11_row_45 t_X11_takeFromRow l_X11_194 (m_rr_of rfl) (rest := []) (c_X11_takeFromRow h l2 G ⟨by omega, by omega⟩) o_0 rfl rfl rfl (Nat.le_of_ble_eq_true rfl) ⟨rfl, rfl⟩ (fun x5 h3 qx5 => ?_)
    obtain ⟨G3, S3, ax5, bx5⟩ := qx5
    have R3 := R.call S3 (by decide +kernel)
    refine z_if_ne (M := M_X11_row) 48 dX11_row_48 61 rfl (fun c6 => ?_) (fun c6 => ?_)
    · refine z_iincN (M := M_X11_row) 61 dX11_row_61 (ls' := [some (mR 0), some (mI l1), some (mI (l2 + 4))]) (by decide) rfl (by (unfold m_32; decide)) (by omega) (by omega) rfl ?_
      refine z_goto (M := M_X11_row) 64 dX11_row_64 32 rfl ?_
      exact z_mask [true, true, true] rfl (ih l1 (l2 + 4) h3 G3 R3 (by omega) (by omega) (by omega) (by omega) (by omega))
    · refine z_aload_n (M := M_X11_row) 51 dX11_row_51 rfl ?_
      refine z_dup (M := M_X11_row) 52 dX11_row_52 rfl ?_
      refine z_getIV (M := M_X11_row) 53 dX11_row_53 f_X11_102 o_0 (by decide) (fun x7 ex7 => ?_)
      refine z_ok (fun ox7 _ _ => ?_)
      have ox7 := ox7.1; unfold m_ok m_32 at ox7
      refine z_iconst (M := M_X11_row) 56 dX11_row_56 ?_
      refine z_iadd (M := M_X11_row) 57 dX11_row_57 ?_
      refine z_topm (fun x8 ex8 ox8 => ?_)
      unfold m_32 at ox8
      refine z_putIH (M := M_X11_row) 58 dX11_row_58 p_X11_102 o_0 rfl (u_0_15 G3) (R3.up rfl) (fun h4 E4 G4 R4 => ?_)
      refine z_iincN (M := M_X11_row) 61 dX11_row_61 (ls' := [some (mR 0), some (mI l1), some (mI (l2 + 4))]) (by decide) rfl (by (unfold m_32; decide)) (by omega) (by omega) rfl ?_
      refine z_goto (M := M_X11_row) 64 dX11_row_64 32 rfl ?_
      exact z_mask [true, true, true] rfl (ih l1 (l2 + 4) h4 G4 R4 (by omega) (by omega) (by omega) (by omega) (by omega))
theorem a_X11_row (h0 : m_H) (G0 : GI h0) : ∀ n, q_X11_row h0 n := by
  intro n
  induction n with
  | zero => unfold q_X11_row; intros; omega
  | succ n ih => exact s_X11_row_32 h0 G0 n ih
set_option maxHeartbeats 4000000 in
set_option maxRecDepth 100000 in
theorem c_X11_row (h0 : m_H) (G0 : GI h0) : m_CI M_X11_row [mR 0] h0 (P_X11_row h0) := by
  refine m_CI_of ⟨by decide, rfl, by simp [m_arg, m_isL, M_X11_row], ⟨rfl, rfl⟩, rfl, rfl⟩ (ls := [some (mR 0), none, none]) rfl ?_
  have ih := a_X11_row h0 G0 814
  obtain ⟨x1, ex1⟩ : ∃ y : Int, h0 35 1 = y := ⟨_, rfl⟩
  have bx1 : 0 ≤ x1 ∧ x1 ≤ 400 := ex1 ▸ g_35_1 G0
  refine z_aload_n (M := M_X11_row) 0 dX11_row_0 rfl ?_
  refine z_getR (M := M_X11_row) 1 dX11_row_1 f_X11_30 o_0 rfl (g_0_4 G0) ?_
  refine z_getIE (M := M_X11_row) 4 dX11_row_4 f_X11_187 o_35 (by decide) ex1 ?_
  refine z_if_ne (M := M_X11_row) 7 dX11_row_7 17 rfl (fun c2 => ?_) (fun c2 => ?_)
  · refine z_aload_n (M := M_X11_row) 17 dX11_row_17 rfl ?_
    refine z_getR (M := M_X11_row) 18 dX11_row_18 f_X11_12 o_0 rfl (g_0_0 G0) ?_
    refine z_getIG (M := M_X11_row) 21 dX11_row_21 f_X11_162 o_1 (by decide) (g_1_7 G0) (fun x3 ex3 ax3 bx3 => ?_)
    refine z_istore_n (M := M_X11_row) 24 dX11_row_24 (ls' := [some (mR 0), some (mI x3), none]) (by decide) rfl ?_
    refine z_aload_n (M := M_X11_row) 25 dX11_row_25 rfl ?_
    refine z_iconst (M := M_X11_row) 26 dX11_row_26 ?_
    refine z_putIH (M := M_X11_row) 27 dX11_row_27 p_X11_102 o_0 rfl (u_0_15 G0) ((FR.rf (cs := [4, 5, 6, 7, 107]) (ss := [(0, 14), (0, 15), (1, 7), (1, 8), (35, 1)]) (h := h0)).up rfl) (fun h1 E1 G1 R1 => ?_)
    refine z_iconst (M := M_X11_row) 30 dX11_row_30 ?_
    refine z_istore_n (M := M_X11_row) 31 dX11_row_31 (ls' := [some (mR 0), some (mI x3), some (mI 0)]) (by decide) rfl ?_
    exact z_mask [true, true, true] rfl (ih x3 0 h1 G1 R1 (by omega) (by omega) (by omega) (by omega) (by omega))
  · refine z_aload_n (M := M_X11_row) 10 dX11_row_10 rfl ?_
    refine z_bipush (M := M_X11_row) 11 dX11_row_11 ?_
    refine z_vI (M := M_X11_row) 13 dX11_row_13 t_X11_refuse l_X11_116 (m_rr_of rfl) (rest := []) (c_X11_refuse h0 (-6) G0 ⟨by omega, by omega⟩) o_0 rfl rfl rfl (Nat.le_of_ble_eq_true rfl) ⟨rfl, rfl⟩ (fun x4 h2 qx4 => ?_)
    obtain ⟨G2, S2, rfl⟩ := qx4
    have R2 := (FR.rf (cs := [4, 5, 6, 7, 107]) (ss := [(0, 14), (0, 15), (1, 7), (1, 8), (35, 1)]) (h := h0)).call S2 (by decide +kernel)
    have z8 : h2 35 1 = x1 := ((S2 35 1 rfl).trans ex1)
    exact z_retI (M := M_X11_row) 16 dX11_row_16 rfl ⟨G2, R2, by omega, by omega, by omega⟩
abbrev P_X11_image (h0 : m_H) (a1 : Int) : Int → m_H → Prop := fun x h' => GI h' ∧ FR [18, 19, 20, 21, 22, 23, 24, 25, 26, 27, 28, 29, 30, 31, 32, 33, 34, 107] [(0, 14), (0, 15), (0, 16)] h0 h' ∧ (-1) ≤ x ∧ x ≤ 0
set_option maxHeartbeats 4000000 in
set_option maxRecDepth 100000 in
theorem c_X11_image (h0 : m_H) (a1 : Int) (G0 : GI h0) : m_CI M_X11_image [mR 0, mI a1] h0 (P_X11_image h0 a1) := by
  refine m_CI_of ⟨by decide, rfl, by simp [m_arg, m_isL, M_X11_image], ⟨rfl, rfl⟩, rfl, rfl⟩ (ls := [some (mR 0), some (mI a1)]) rfl ?_
  refine z_ok (fun _ _ ok => ?_)
  have oa1 : m_32 a1 := ok 1 _ rfl
  unfold m_32 at oa1
  refine z_iload_n (M := M_X11_image) 0 dX11_image_0 rfl ?_
  refine z_iconst (M := M_X11_image) 1 dX11_image_1 ?_
  refine z_iconst (M := M_X11_image) 2 dX11_image_2 ?_
  refine z_sI (M := M_X11_image) 3 dX11_image_3 t_X11_within l_X11_112 (m_rr_of rfl) (rest := []) (c_X11_within h0 a1 0 1 G0) rfl rfl (Nat.le_of_ble_eq_true rfl) ⟨rfl, rfl⟩ (fun x1 h1 qx1 => ?_)
  obtain ⟨rfl, ⟨rfl, cx1⟩ | ⟨rfl, cx1⟩⟩ := qx1
  · refine z_if_ne_T (M := M_X11_image) 6 dX11_image_6 15 rfl (by omega) ?_
    refine z_aload_n (M := M_X11_image) 15 dX11_image_15 rfl ?_
    refine z_getR (M := M_X11_image) 16 dX11_image_16 f_X11_19 o_0 rfl (g_0_2 G0) ?_
    refine z_iload_n (M := M_X11_image) 19 dX11_image_19 rfl ?_
    have hi2 := isL_17 (i := a1) (by omega) (by omega)
    refine z_aaldL (M := M_X11_image) 20 dX11_image_20 o_17 (by omega) (by omega) (g_17 G0 (by omega)) ?_
    refine z_aload_n (M := M_X11_image) 21 dX11_image_21 rfl ?_
    refine z_getR (M := M_X11_image) 22 dX11_image_22 f_X11_12 o_0 rfl (g_0_0 G0) ?_
    refine z_vV (M := M_X11_image) 25 dX11_image_25 t_X4_copyFrom l_X11_197 (m_rr_of rfl) (rest := []) (c_X4_copyFrom h0 (18 + 8 * (a1).toNat) 1 hi2 (Or.inl rfl) G0) (oL hi2) rfl rfl rfl (Nat.le_of_ble_eq_true rfl) ⟨rfl, rfl⟩ (fun h2 qx3 => ?_)
    obtain ⟨G2, S2⟩ := qx3
    have R2 := (FR.rf (cs := [18, 19, 20, 21, 22, 23, 24, 25, 26, 27, 28, 29, 30, 31, 32, 33, 34, 107]) (ss := [(0, 14), (0, 15), (0, 16)]) (h := h0)).call S2 (by rcases (show a1 = 0 ∨ a1 = 1 by omega) with rfl | rfl <;> decide +kernel)
    refine z_aload_n (M := M_X11_image) 28 dX11_image_28 rfl ?_
    refine z_getR (M := M_X11_image) 29 dX11_image_29 f_X11_23 o_0 rfl (g_0_3 G2) ?_
    refine z_iload_n (M := M_X11_image) 32 dX11_image_32 rfl ?_
    refine z_iconst (M := M_X11_image) 33 dX11_image_33 ?_
    refine z_zastH (M := M_X11_image) 34 dX11_image_34 o_34 (by omega) (by omega) (by omega) (u_34 G2 (by omega) (by omega)) (R2.up rfl) (fun h3 E3 G3 R3 => ?_)
    refine z_aload_n (M := M_X11_image) 35 dX11_image_35 rfl ?_
    refine z_iconst (M := M_X11_image) 36 dX11_image_36 ?_
    refine z_vI (M := M_X11_image) 37 dX11_image_37 t_X11_accept l_X11_123 (m_rr_of rfl) (rest := []) (c_X11_accept h3 0 G3) o_0 rfl rfl rfl (Nat.le_of_ble_eq_true rfl) ⟨rfl, rfl⟩ (fun x4 h4 qx4 => ?_)
    obtain ⟨G4, S4, rfl⟩ := qx4
    have R4 := R3.call S4 (by decide +kernel)
    exact z_retI (M := M_X11_image) 40 dX11_image_40 rfl ⟨G4, R4, by omega, by omega⟩
  · refine z_if_ne_F (M := M_X11_image) 6 dX11_image_6 15 rfl (by omega) ?_
    refine z_aload_n (M := M_X11_image) 9 dX11_image_9 rfl ?_
    refine z_iconst (M := M_X11_image) 10 dX11_image_10 ?_
    refine z_vI (M := M_X11_image) 11 dX11_image_11 t_X11_refuse l_X11_116 (m_rr_of rfl) (rest := []) (c_X11_refuse h0 (-1) G0 ⟨by omega, by omega⟩) o_0 rfl rfl rfl (Nat.le_of_ble_eq_true rfl) ⟨rfl, rfl⟩ (fun x5 h5 qx5 => ?_)
    obtain ⟨G5, S5, rfl⟩ := qx5
    have R5 := (FR.rf (cs := [18, 19, 20, 21, 22, 23, 24, 25, 26, 27, 28, 29, 30, 31, 32, 33, 34, 107]) (ss := [(0, 14), (0, 15), (0, 16)]) (h := h0)).call S5 (by decide +kernel)
    exact z_retI (M := M_X11_image) 14 dX11_image_14 rfl ⟨G5, R5, by omega, by omega⟩
abbrev P_X11_back (h0 : m_H) (a1 : Int) : Int → m_H → Prop := fun x h' => GI h' ∧ FR [2, 3, 4, 5, 6, 7, 8, 107] [(0, 14), (1, 7), (1, 8), (1, 9)] h0 h' ∧ (-2) ≤ x ∧ x ≤ 0
set_option maxHeartbeats 4000000 in
set_option maxRecDepth 100000 in
theorem c_X11_back (h0 : m_H) (a1 : Int) (G0 : GI h0) : m_CI M_X11_back [mR 0, mI a1] h0 (P_X11_back h0 a1) := by
  refine m_CI_of ⟨by decide, rfl, by simp [m_arg, m_isL, M_X11_back], ⟨rfl, rfl⟩, rfl, rfl⟩ (ls := [some (mR 0), some (mI a1)]) rfl ?_
  refine z_ok (fun _ _ ok => ?_)
  have oa1 : m_32 a1 := ok 1 _ rfl
  unfold m_32 at oa1
  refine z_iload_n (M := M_X11_back) 0 dX11_back_0 rfl ?_
  refine z_iconst (M := M_X11_back) 1 dX11_back_1 ?_
  refine z_iconst (M := M_X11_back) 2 dX11_back_2 ?_
  refine z_sI (M := M_X11_back) 3 dX11_back_3 t_X11_within l_X11_112 (m_rr_of rfl) (rest := []) (c_X11_within h0 a1 0 1 G0) rfl rfl (Nat.le_of_ble_eq_true rfl) ⟨rfl, rfl⟩ (fun x1 h1 qx1 => ?_)
  obtain ⟨rfl, ⟨rfl, cx1⟩ | ⟨rfl, cx1⟩⟩ := qx1
  · refine z_if_ne_T (M := M_X11_back) 6 dX11_back_6 15 rfl (by omega) ?_
    refine z_aload_n (M := M_X11_back) 15 dX11_back_15 rfl ?_
    refine z_getR (M := M_X11_back) 16 dX11_back_16 f_X11_23 o_0 rfl (g_0_3 G0) ?_
    refine z_iload_n (M := M_X11_back) 19 dX11_back_19 rfl ?_
    refine z_zaldG (M := M_X11_back) 20 dX11_back_20 o_34 (by omega) (by omega) (g_34 G0 (by omega)) (fun x2 ex2 ax2 bx2 => ?_)
    refine z_if_ne (M := M_X11_back) 21 dX11_back_21 31 rfl (fun c3 => ?_) (fun c3 => ?_)
    · refine z_aload_n (M := M_X11_back) 31 dX11_back_31 rfl ?_
      refine z_getR (M := M_X11_back) 32 dX11_back_32 f_X11_12 o_0 rfl (g_0_0 G0) ?_
      refine z_aload_n (M := M_X11_back) 35 dX11_back_35 rfl ?_
      refine z_getR (M := M_X11_back) 36 dX11_back_36 f_X11_19 o_0 rfl (g_0_2 G0) ?_
      refine z_iload_n (M := M_X11_back) 39 dX11_back_39 rfl ?_
      have hi4 := isL_17 (i := a1) (by omega) (by omega)
      refine z_aaldL (M := M_X11_back) 40 dX11_back_40 o_17 (by omega) (by omega) (g_17 G0 (by omega)) ?_
      refine z_vV (M := M_X11_back) 41 dX11_back_41 t_X4_copyFrom l_X11_197 (m_rr_of rfl) (rest := []) (c_X4_copyFrom h0 1 (18 + 8 * (a1).toNat) (Or.inl rfl) hi4 G0) o_1 rfl rfl rfl (Nat.le_of_ble_eq_true rfl) ⟨rfl, rfl⟩ (fun h2 qx5 => ?_)
      obtain ⟨G2, S2⟩ := qx5
      have R2 := (FR.rf (cs := [2, 3, 4, 5, 6, 7, 8, 107]) (ss := [(0, 14), (1, 7), (1, 8), (1, 9)]) (h := h0)).call S2 (by decide +kernel)
      refine z_aload_n (M := M_X11_back) 44 dX11_back_44 rfl ?_
      refine z_iconst (M := M_X11_back) 45 dX11_back_45 ?_
      refine z_vI (M := M_X11_back) 46 dX11_back_46 t_X11_accept l_X11_123 (m_rr_of rfl) (rest := []) (c_X11_accept h2 0 G2) o_0 rfl rfl rfl (Nat.le_of_ble_eq_true rfl) ⟨rfl, rfl⟩ (fun x6 h3 qx6 => ?_)
      obtain ⟨G3, S3, rfl⟩ := qx6
      have R3 := R2.call S3 (by decide +kernel)
      exact z_retI (M := M_X11_back) 49 dX11_back_49 rfl ⟨G3, R3, by omega, by omega⟩
    · refine z_aload_n (M := M_X11_back) 24 dX11_back_24 rfl ?_
      refine z_bipush (M := M_X11_back) 25 dX11_back_25 ?_
      refine z_vI (M := M_X11_back) 27 dX11_back_27 t_X11_refuse l_X11_116 (m_rr_of rfl) (rest := []) (c_X11_refuse h0 (-2) G0 ⟨by omega, by omega⟩) o_0 rfl rfl rfl (Nat.le_of_ble_eq_true rfl) ⟨rfl, rfl⟩ (fun x7 h4 qx7 => ?_)
      obtain ⟨G4, S4, rfl⟩ := qx7
      have R4 := (FR.rf (cs := [2, 3, 4, 5, 6, 7, 8, 107]) (ss := [(0, 14), (1, 7), (1, 8), (1, 9)]) (h := h0)).call S4 (by decide +kernel)
      exact z_retI (M := M_X11_back) 30 dX11_back_30 rfl ⟨G4, R4, by omega, by omega⟩
  · refine z_if_ne_F (M := M_X11_back) 6 dX11_back_6 15 rfl (by omega) ?_
    refine z_aload_n (M := M_X11_back) 9 dX11_back_9 rfl ?_
    refine z_iconst (M := M_X11_back) 10 dX11_back_10 ?_
    refine z_vI (M := M_X11_back) 11 dX11_back_11 t_X11_refuse l_X11_116 (m_rr_of rfl) (rest := []) (c_X11_refuse h0 (-1) G0 ⟨by omega, by omega⟩) o_0 rfl rfl rfl (Nat.le_of_ble_eq_true rfl) ⟨rfl, rfl⟩ (fun x8 h5 qx8 => ?_)
    obtain ⟨G5, S5, rfl⟩ := qx8
    have R5 := (FR.rf (cs := [2, 3, 4, 5, 6, 7, 8, 107]) (ss := [(0, 14), (1, 7), (1, 8), (1, 9)]) (h := h0)).call S5 (by decide +kernel)
    exact z_retI (M := M_X11_back) 14 dX11_back_14 rfl ⟨G5, R5, by omega, by omega⟩
abbrev P_X1_familyOf (h0 : m_H) (a0 : Int) : Int → m_H → Prop := fun x h' => GI h' ∧ FR [] [] h0 h' ∧ 0 ≤ x ∧ x ≤ 2
set_option maxHeartbeats 4000000 in
set_option maxRecDepth 100000 in
theorem c_X1_familyOf (h0 : m_H) (a0 : Int) (G0 : GI h0) : m_CI M_X1_familyOf [mI a0] h0 (P_X1_familyOf h0 a0) := by
  refine m_CI_of ⟨by decide, rfl, by simp [m_arg, m_isL, M_X1_familyOf], ⟨rfl, rfl⟩, rfl, rfl⟩ (ls := [some (mI a0)]) rfl ?_
  refine z_ok (fun _ _ ok => ?_)
  have oa0 : m_32 a0 := ok 0 _ rfl
  unfold m_32 at oa0
  refine z_iload_n (M := M_X1_familyOf) 0 dX1_familyOf_0 rfl ?_
  refine z_bipush (M := M_X1_familyOf) 1 dX1_familyOf_1 ?_
  refine z_icmp_lt (M := M_X1_familyOf) 3 dX1_familyOf_3 14 rfl (fun c1 => ?_) (fun c1 => ?_)
  · refine z_iload_n (M := M_X1_familyOf) 14 dX1_familyOf_14 rfl ?_
    refine z_bipush (M := M_X1_familyOf) 15 dX1_familyOf_15 ?_
    refine z_icmp_lt (M := M_X1_familyOf) 17 dX1_familyOf_17 30 rfl (fun c2 => ?_) (fun c2 => ?_)
    · refine z_iconst (M := M_X1_familyOf) 30 dX1_familyOf_30 ?_
      exact z_retI (M := M_X1_familyOf) 31 dX1_familyOf_31 rfl ⟨G0, (FR.rf (cs := []) (ss := []) (h := h0)), by omega, by omega⟩
    · refine z_iload_n (M := M_X1_familyOf) 20 dX1_familyOf_20 rfl ?_
      refine z_bipush (M := M_X1_familyOf) 21 dX1_familyOf_21 ?_
      refine z_icmp_gt (M := M_X1_familyOf) 23 dX1_familyOf_23 30 rfl (fun c3 => ?_) (fun c3 => ?_)
      · refine z_iconst (M := M_X1_familyOf) 30 dX1_familyOf_30 ?_
        exact z_retI (M := M_X1_familyOf) 31 dX1_familyOf_31 rfl ⟨G0, (FR.rf (cs := []) (ss := []) (h := h0)), by omega, by omega⟩
      · refine z_iconst (M := M_X1_familyOf) 26 dX1_familyOf_26 ?_
        refine z_goto (M := M_X1_familyOf) 27 dX1_familyOf_27 31 rfl ?_
        exact z_retI (M := M_X1_familyOf) 31 dX1_familyOf_31 rfl ⟨G0, (FR.rf (cs := []) (ss := []) (h := h0)), by omega, by omega⟩
  · refine z_iload_n (M := M_X1_familyOf) 6 dX1_familyOf_6 rfl ?_
    refine z_bipush (M := M_X1_familyOf) 7 dX1_familyOf_7 ?_
    refine z_icmp_gt (M := M_X1_familyOf) 9 dX1_familyOf_9 14 rfl (fun c4 => ?_) (fun c4 => ?_)
    · refine z_iload_n (M := M_X1_familyOf) 14 dX1_familyOf_14 rfl ?_
      refine z_bipush (M := M_X1_familyOf) 15 dX1_familyOf_15 ?_
      refine z_icmp_lt_F (M := M_X1_familyOf) 17 dX1_familyOf_17 30 rfl (by omega) ?_
      refine z_iload_n (M := M_X1_familyOf) 20 dX1_familyOf_20 rfl ?_
      refine z_bipush (M := M_X1_familyOf) 21 dX1_familyOf_21 ?_
      refine z_icmp_gt_T (M := M_X1_familyOf) 23 dX1_familyOf_23 30 rfl (by omega) ?_
      refine z_iconst (M := M_X1_familyOf) 30 dX1_familyOf_30 ?_
      exact z_retI (M := M_X1_familyOf) 31 dX1_familyOf_31 rfl ⟨G0, (FR.rf (cs := []) (ss := []) (h := h0)), by omega, by omega⟩
    · refine z_iconst (M := M_X1_familyOf) 12 dX1_familyOf_12 ?_
      exact z_retI (M := M_X1_familyOf) 13 dX1_familyOf_13 rfl ⟨G0, (FR.rf (cs := []) (ss := []) (h := h0)), by omega, by omega⟩
abbrev P_X1_advance (h0 : m_H) : m_H → Prop := fun h' => GI h' ∧ FR [] [(37, 1), (37, 2)] h0 h'
def q_X1_advance (h0 : m_H) (n : Nat) : Prop := (∀ (y_37_1 : Int) (h : m_H), GI h → FR [] [(37, 1), (37, 2)] h0 h → 0 ≤ y_37_1 → y_37_1 ≤ 400 → (h 37 1 = y_37_1) → 2 * (400 - y_37_1) + (804) ≤ (n : Int) → m_Z oF M_X1_advance 8 [some (mR 37), none] [] h (m_QV (P_X1_advance h0))) ∧ (∀ (l1 y_37_2 : Int) (h : m_H), GI h → FR [] [(37, 1), (37, 2)] h0 h → 0 ≤ l1 → l1 ≤ 2 → 1 ≤ y_37_2 → y_37_2 ≤ 400 → (h 37 2 = y_37_2) → 2 * (400 - y_37_2) + (1) ≤ (n : Int) → m_Z oF M_X1_advance 101 [some (mR 37), some (mI l1)] [] h (m_QV (P_X1_advance h0)))
set_option maxHeartbeats 4000000 in
set_option maxRecDepth 100000 in
theorem s_X1_advance_8 (h0 : m_H) (G0 : GI h0) (n : Nat) (ih : q_X1_advance h0 n) : ∀ (y_37_1 : Int) (h : m_H), GI h → FR [] [(37, 1), (37, 2)] h0 h → 0 ≤ y_37_1 → y_37_1 ≤ 400 → (h 37 1 = y_37_1) → 2 * (400 - y_37_1) + (804) ≤ ((n + 1 : Nat) : Int) → m_Z oF M_X1_advance 8 [some (mR 37), none] [] h (m_QV (P_X1_advance h0)) := by
  intro y_37_1 h G R v0 v1 t_37_1 hr
  refine z_aload_n (M := M_X1_advance) 8 dX1_advance_8 rfl ?_
  refine z_getIE (M := M_X1_advance) 9 dX1_advance_9 f_X1_43 o_37 (by decide) t_37_1 ?_
  refine z_aload_n (M := M_X1_advance) 12 dX1_advance_12 rfl ?_
  refine z_getR (M := M_X1_advance) 13 dX1_advance_13 f_X1_9 o_37 rfl (g_37_0 G) ?_
  refine z_getIG (M := M_X1_advance) 16 dX1_advance_16 f_X1_46 o_35 (by decide) (g_35_1 G) (fun x1 ex1 ax1 bx1 => ?_)
  refine z_icmp_ge (M := M_X1_advance) 19 dX1_advance_19 52 rfl (fun c2 => ?_) (fun c2 => ?_)
  · refine z_aload_n (M := M_X1_advance) 52 dX1_advance_52 rfl ?_
    refine z_aload_n (M := M_X1_advance) 53 dX1_advance_53 rfl ?_
    refine z_getIE (M := M_X1_advance) 54 dX1_advance_54 f_X1_43 o_37 (by decide) t_37_1 ?_
    refine z_putIH (M := M_X1_advance) 57 dX1_advance_57 p_X1_19 o_37 rfl (u_37_2 G (by omega) (by omega)) (R.up rfl) (fun h1 E1 G1 R1 => ?_)
    refine z_aload_n (M := M_X1_advance) 60 dX1_advance_60 rfl ?_
    refine z_getIE (M := M_X1_advance) 61 dX1_advance_61 f_X1_43 o_37 (by decide) ((upN E1 (fun q => absurd q.2 (by decide))).trans t_37_1) ?_
    refine z_aload_n (M := M_X1_advance) 64 dX1_advance_64 rfl ?_
    refine z_getR (M := M_X1_advance) 65 dX1_advance_65 f_X1_9 o_37 rfl (g_37_0 G1) ?_
    refine z_getIE (M := M_X1_advance) 68 dX1_advance_68 f_X1_46 o_35 (by decide) ((upN E1 (fun q => absurd q.1 (by decide))).trans ex1) ?_
    refine z_icmp_lt (M := M_X1_advance) 71 dX1_advance_71 75 rfl (fun c3 => ?_) (fun c3 => ?_)
    · refine z_aload_n (M := M_X1_advance) 75 dX1_advance_75 rfl ?_
      refine z_getR (M := M_X1_advance) 76 dX1_advance_76 f_X1_9 o_37 rfl (g_37_0 G1) ?_
      refine z_getR (M := M_X1_advance) 79 dX1_advance_79 f_X1_128 o_35 rfl (g_35_0 G1) ?_
      refine z_aload_n (M := M_X1_advance) 82 dX1_advance_82 rfl ?_
      refine z_getIE (M := M_X1_advance) 83 dX1_advance_83 f_X1_43 o_37 (by decide) ((upN E1 (fun q => absurd q.2 (by decide))).trans t_37_1) ?_
      refine z_ialdG (M := M_X1_advance) 86 dX1_advance_86 o_36 (by omega) (by omega) (g_36 G1 (by omega)) (fun x4 ex4 ax4 bx4 => ?_)
      refine z_sI (M := M_X1_advance) 87 dX1_advance_87 t_X1_familyOf l_X1_139 (m_rr_of rfl) (rest := []) (c_X1_familyOf h1 x4 G1) rfl rfl (Nat.le_of_ble_eq_true rfl) ⟨rfl, rfl⟩ (fun x5 h2 qx5 => ?_)
      obtain ⟨G2, S2, ax5, bx5⟩ := qx5
      have R2 := R1.call S2 (by decide +kernel)
      refine z_istore_n (M := M_X1_advance) 90 dX1_advance_90 (ls' := [some (mR 37), some (mI x5)]) (by decide) rfl ?_
      refine z_aload_n (M := M_X1_advance) 91 dX1_advance_91 rfl ?_
      refine z_dup (M := M_X1_advance) 92 dX1_advance_92 rfl ?_
      refine z_getIE (M := M_X1_advance) 93 dX1_advance_93 f_X1_19 o_37 (by decide) ((S2 37 2 rfl).trans (upE E1)) ?_
      refine z_iconst (M := M_X1_advance) 96 dX1_advance_96 ?_
      refine z_iaddN (M := M_X1_advance) 97 dX1_advance_97 (by omega) (by omega) ?_
      refine z_putIH (M := M_X1_advance) 98 dX1_advance_98 p_X1_19 o_37 rfl (u_37_2 G2 (by omega) (by omega)) (R2.up rfl) (fun h3 E3 G3 R3 => ?_)
      exact z_mask [true, true] rfl (ih.2 x5 (y_37_1 + 1) h3 G3 R3 (by omega) (by omega) (by omega) (by omega) (upE E3) (by omega))
    · exact z_retV (M := M_X1_advance) 74 dX1_advance_74 rfl ⟨G1, R1⟩
  · refine z_aload_n (M := M_X1_advance) 22 dX1_advance_22 rfl ?_
    refine z_getR (M := M_X1_advance) 23 dX1_advance_23 f_X1_9 o_37 rfl (g_37_0 G) ?_
    refine z_getR (M := M_X1_advance) 26 dX1_advance_26 f_X1_128 o_35 rfl (g_35_0 G) ?_
    refine z_aload_n (M := M_X1_advance) 29 dX1_advance_29 rfl ?_
    refine z_getIE (M := M_X1_advance) 30 dX1_advance_30 f_X1_43 o_37 (by decide) t_37_1 ?_
    refine z_ialdG (M := M_X1_advance) 33 dX1_advance_33 o_36 (by omega) (by omega) (g_36 G (by omega)) (fun x6 ex6 ax6 bx6 => ?_)
    refine z_bipush (M := M_X1_advance) 34 dX1_advance_34 ?_
    refine z_icmp_ne (M := M_X1_advance) 36 dX1_advance_36 52 rfl (fun c7 => ?_) (fun c7 => ?_)
    · refine z_aload_n (M := M_X1_advance) 52 dX1_advance_52 rfl ?_
      refine z_aload_n (M := M_X1_advance) 53 dX1_advance_53 rfl ?_
      refine z_getIE (M := M_X1_advance) 54 dX1_advance_54 f_X1_43 o_37 (by decide) t_37_1 ?_
      refine z_putIH (M := M_X1_advance) 57 dX1_advance_57 p_X1_19 o_37 rfl (u_37_2 G (by omega) (by omega)) (R.up rfl) (fun h4 E4 G4 R4 => ?_)
      refine z_aload_n (M := M_X1_advance) 60 dX1_advance_60 rfl ?_
      refine z_getIE (M := M_X1_advance) 61 dX1_advance_61 f_X1_43 o_37 (by decide) ((upN E4 (fun q => absurd q.2 (by decide))).trans t_37_1) ?_
      refine z_aload_n (M := M_X1_advance) 64 dX1_advance_64 rfl ?_
      refine z_getR (M := M_X1_advance) 65 dX1_advance_65 f_X1_9 o_37 rfl (g_37_0 G4) ?_
      refine z_getIE (M := M_X1_advance) 68 dX1_advance_68 f_X1_46 o_35 (by decide) ((upN E4 (fun q => absurd q.1 (by decide))).trans ex1) ?_
      refine z_icmp_lt (M := M_X1_advance) 71 dX1_advance_71 75 rfl (fun c8 => ?_) (fun c8 => ?_)
      · refine z_aload_n (M := M_X1_advance) 75 dX1_advance_75 rfl ?_
        refine z_getR (M := M_X1_advance) 76 dX1_advance_76 f_X1_9 o_37 rfl (g_37_0 G4) ?_
        refine z_getR (M := M_X1_advance) 79 dX1_advance_79 f_X1_128 o_35 rfl (g_35_0 G4) ?_
        refine z_aload_n (M := M_X1_advance) 82 dX1_advance_82 rfl ?_
        refine z_getIE (M := M_X1_advance) 83 dX1_advance_83 f_X1_43 o_37 (by decide) ((upN E4 (fun q => absurd q.2 (by decide))).trans t_37_1) ?_
        refine z_ialdG (M := M_X1_advance) 86 dX1_advance_86 o_36 (by omega) (by omega) (g_36 G4 (by omega)) (fun x9 ex9 ax9 bx9 => ?_)
        refine z_sI (M := M_X1_advance) 87 dX1_advance_87 t_X1_familyOf l_X1_139 (m_rr_of rfl) (rest := []) (c_X1_familyOf h4 x9 G4) rfl rfl (Nat.le_of_ble_eq_true rfl) ⟨rfl, rfl⟩ (fun x10 h5 qx10 => ?_)
        obtain ⟨G5, S5, ax10, bx10⟩ := qx10
        have R5 := R4.call S5 (by decide +kernel)
        refine z_istore_n (M := M_X1_advance) 90 dX1_advance_90 (ls' := [some (mR 37), some (mI x10)]) (by decide) rfl ?_
        refine z_aload_n (M := M_X1_advance) 91 dX1_advance_91 rfl ?_
        refine z_dup (M := M_X1_advance) 92 dX1_advance_92 rfl ?_
        refine z_getIE (M := M_X1_advance) 93 dX1_advance_93 f_X1_19 o_37 (by decide) ((S5 37 2 rfl).trans (upE E4)) ?_
        refine z_iconst (M := M_X1_advance) 96 dX1_advance_96 ?_
        refine z_iaddN (M := M_X1_advance) 97 dX1_advance_97 (by omega) (by omega) ?_
        refine z_putIH (M := M_X1_advance) 98 dX1_advance_98 p_X1_19 o_37 rfl (u_37_2 G5 (by omega) (by omega)) (R5.up rfl) (fun h6 E6 G6 R6 => ?_)
        exact z_mask [true, true] rfl (ih.2 x10 (y_37_1 + 1) h6 G6 R6 (by omega) (by omega) (by omega) (by omega) (upE E6) (by omega))
      · exact z_retV (M := M_X1_advance) 74 dX1_advance_74 rfl ⟨G4, R4⟩
    · refine z_aload_n (M := M_X1_advance) 39 dX1_advance_39 rfl ?_
      refine z_dup (M := M_X1_advance) 40 dX1_advance_40 rfl ?_
      refine z_getIE (M := M_X1_advance) 41 dX1_advance_41 f_X1_43 o_37 (by decide) t_37_1 ?_
      refine z_iconst (M := M_X1_advance) 44 dX1_advance_44 ?_
      refine z_iaddN (M := M_X1_advance) 45 dX1_advance_45 (by omega) (by omega) ?_
      refine z_putIH (M := M_X1_advance) 46 dX1_advance_46 p_X1_43 o_37 rfl (u_37_1 G (by omega) (by omega)) (R.up rfl) (fun h7 E7 G7 R7 => ?_)
      refine z_goto (M := M_X1_advance) 49 dX1_advance_49 8 rfl ?_
      exact z_mask [true, false] rfl (ih.1 (y_37_1 + 1) h7 G7 R7 (by omega) (by omega) (upE E7) (by omega))
set_option maxHeartbeats 4000000 in
set_option maxRecDepth 100000 in
theorem s_X1_advance_101 (h0 : m_H) (G0 : GI h0) (n : Nat) (ih : q_X1_advance h0 n) : ∀ (l1 y_37_2 : Int) (h : m_H), GI h → FR [] [(37, 1), (37, 2)] h0 h → 0 ≤ l1 → l1 ≤ 2 → 1 ≤ y_37_2 → y_37_2 ≤ 400 → (h 37 2 = y_37_2) → 2 * (400 - y_37_2) + (1) ≤ ((n + 1 : Nat) : Int) → m_Z oF M_X1_advance 101 [some (mR 37), some (mI l1)] [] h (m_QV (P_X1_advance h0)) := by
  intro l1 y_37_2 h G R v0 v1 v2 v3 t_37_2 hr
  refine z_iload_n (M := M_X1_advance) 101 dX1_advance_101 rfl ?_
  refine z_if_eq (M := M_X1_advance) 102 dX1_advance_102 151 rfl (fun c1 => ?_) (fun c1 => ?_)
  · exact z_retV (M := M_X1_advance) 151 dX1_advance_151 rfl ⟨G, R⟩
  · refine z_aload_n (M := M_X1_advance) 105 dX1_advance_105 rfl ?_
    refine z_getIE (M := M_X1_advance) 106 dX1_advance_106 f_X1_19 o_37 (by decide) t_37_2 ?_
    refine z_aload_n (M := M_X1_advance) 109 dX1_advance_109 rfl ?_
    refine z_getR (M := M_X1_advance) 110 dX1_advance_110 f_X1_9 o_37 rfl (g_37_0 G) ?_
    refine z_getIG (M := M_X1_advance) 113 dX1_advance_113 f_X1_46 o_35 (by decide) (g_35_1 G) (fun x2 ex2 ax2 bx2 => ?_)
    refine z_icmp_ge (M := M_X1_advance) 116 dX1_advance_116 151 rfl (fun c3 => ?_) (fun c3 => ?_)
    · exact z_retV (M := M_X1_advance) 151 dX1_advance_151 rfl ⟨G, R⟩
    · refine z_aload_n (M := M_X1_advance) 119 dX1_advance_119 rfl ?_
      refine z_getR (M := M_X1_advance) 120 dX1_advance_120 f_X1_9 o_37 rfl (g_37_0 G) ?_
      refine z_getR (M := M_X1_advance) 123 dX1_advance_123 f_X1_128 o_35 rfl (g_35_0 G) ?_
      refine z_aload_n (M := M_X1_advance) 126 dX1_advance_126 rfl ?_
      refine z_getIE (M := M_X1_advance) 127 dX1_advance_127 f_X1_19 o_37 (by decide) t_37_2 ?_
      refine z_ialdG (M := M_X1_advance) 130 dX1_advance_130 o_36 (by omega) (by omega) (g_36 G (by omega)) (fun x4 ex4 ax4 bx4 => ?_)
      refine z_sI (M := M_X1_advance) 131 dX1_advance_131 t_X1_familyOf l_X1_139 (m_rr_of rfl) (rest := []) (c_X1_familyOf h x4 G) rfl rfl (Nat.le_of_ble_eq_true rfl) ⟨rfl, rfl⟩ (fun x5 h1 qx5 => ?_)
      obtain ⟨G1, S1, ax5, bx5⟩ := qx5
      have R1 := R.call S1 (by decide +kernel)
      refine z_iload_n (M := M_X1_advance) 134 dX1_advance_134 rfl ?_
      refine z_icmp_ne (M := M_X1_advance) 135 dX1_advance_135 151 rfl (fun c6 => ?_) (fun c6 => ?_)
      · exact z_retV (M := M_X1_advance) 151 dX1_advance_151 rfl ⟨G1, R1⟩
      · refine z_aload_n (M := M_X1_advance) 138 dX1_advance_138 rfl ?_
        refine z_dup (M := M_X1_advance) 139 dX1_advance_139 rfl ?_
        refine z_getIE (M := M_X1_advance) 140 dX1_advance_140 f_X1_19 o_37 (by decide) ((S1 37 2 rfl).trans t_37_2) ?_
        refine z_iconst (M := M_X1_advance) 143 dX1_advance_143 ?_
        refine z_iaddN (M := M_X1_advance) 144 dX1_advance_144 (by omega) (by omega) ?_
        refine z_putIH (M := M_X1_advance) 145 dX1_advance_145 p_X1_19 o_37 rfl (u_37_2 G1 (by omega) (by omega)) (R1.up rfl) (fun h2 E2 G2 R2 => ?_)
        refine z_goto (M := M_X1_advance) 148 dX1_advance_148 101 rfl ?_
        exact z_mask [true, true] rfl (ih.2 l1 (y_37_2 + 1) h2 G2 R2 (by omega) (by omega) (by omega) (by omega) (upE E2) (by omega))
theorem a_X1_advance (h0 : m_H) (G0 : GI h0) : ∀ n, q_X1_advance h0 n := by
  intro n
  induction n with
  | zero => unfold q_X1_advance; refine ⟨?_, ?_⟩ <;> (intros; omega)
  | succ n ih => exact ⟨s_X1_advance_8 h0 G0 n ih, s_X1_advance_101 h0 G0 n ih⟩
set_option maxHeartbeats 4000000 in
set_option maxRecDepth 100000 in
theorem c_X1_advance (h0 : m_H) (G0 : GI h0) : m_CV M_X1_advance [mR 37] h0 (P_X1_advance h0) := by
  refine m_CV_of ⟨by decide, rfl, by simp [m_arg, m_isL, M_X1_advance], ⟨rfl, rfl⟩, rfl, rfl⟩ (ls := [some (mR 37), none]) rfl ?_
  have ih := a_X1_advance h0 G0 1611
  refine z_aload_n (M := M_X1_advance) 0 dX1_advance_0 rfl ?_
  refine z_aload_n (M := M_X1_advance) 1 dX1_advance_1 rfl ?_
  refine z_getIG (M := M_X1_advance) 2 dX1_advance_2 f_X1_19 o_37 (by decide) (g_37_2 G0) (fun x1 ex1 ax1 bx1 => ?_)
  refine z_putIH (M := M_X1_advance) 5 dX1_advance_5 p_X1_43 o_37 rfl (u_37_1 G0 (by omega) (by omega)) ((FR.rf (cs := []) (ss := [(37, 1), (37, 2)]) (h := h0)).up rfl) (fun h1 E1 G1 R1 => ?_)
  exact z_mask [true, false] rfl (ih.1 x1 h1 G1 R1 (by omega) (by omega) (upE E1) (by omega))
abbrev P_X1_value (h0 : m_H) : Int → m_H → Prop := fun x h' => GI h' ∧ FR [] [] h0 h' ∧ (-2147483648) ≤ x ∧ x ≤ 1000
def q_X1_value (h0 : m_H) (n : Nat) : Prop := (∀ (l1 l2 : Int) (h : m_H), GI h → FR [] [] h0 h → (-2147483648) ≤ l1 → l1 ≤ 1000 → 0 ≤ l2 → l2 ≤ 400 → 2 * (400 - l2) + (1) ≤ (n : Int) → m_Z oF M_X1_value 42 [some (mR 37), some (mI l1), some (mI l2)] [] h (m_QI (P_X1_value h0)))
set_option maxHeartbeats 4000000 in
set_option maxRecDepth 100000 in
theorem s_X1_value_42 (h0 : m_H) (G0 : GI h0) (n : Nat) (ih : q_X1_value h0 n) : ∀ (l1 l2 : Int) (h : m_H), GI h → FR [] [] h0 h → (-2147483648) ≤ l1 → l1 ≤ 1000 → 0 ≤ l2 → l2 ≤ 400 → 2 * (400 - l2) + (1) ≤ ((n + 1 : Nat) : Int) → m_Z oF M_X1_value 42 [some (mR 37), some (mI l1), some (mI l2)] [] h (m_QI (P_X1_value h0)) := by
  intro l1 l2 h G R v0 v1 v2 v3 hr
  refine z_iload_n (M := M_X1_value) 42 dX1_value_42 rfl ?_
  refine z_aload_n (M := M_X1_value) 43 dX1_value_43 rfl ?_
  refine z_getIG (M := M_X1_value) 44 dX1_value_44 f_X1_19 o_37 (by decide) (g_37_2 G) (fun x1 ex1 ax1 bx1 => ?_)
  refine z_icmp_ge (M := M_X1_value) 47 dX1_value_47 80 rfl (fun c2 => ?_) (fun c2 => ?_)
  · refine z_iload_n (M := M_X1_value) 80 dX1_value_80 rfl ?_
    exact z_retI (M := M_X1_value) 81 dX1_value_81 rfl ⟨G, R, by omega, by omega⟩
  · refine z_sipush (M := M_X1_value) 50 dX1_value_50 ?_
    refine z_bipush (M := M_X1_value) 53 dX1_value_53 ?_
    refine z_iload_n (M := M_X1_value) 55 dX1_value_55 rfl ?_
    refine z_imul (M := M_X1_value) 56 dX1_value_56 ?_
    refine z_topm (fun x3 ex3 ox3 => ?_)
    unfold m_32 at ox3
    refine z_aload_n (M := M_X1_value) 57 dX1_value_57 rfl ?_
    refine z_getR (M := M_X1_value) 58 dX1_value_58 f_X1_9 o_37 rfl (g_37_0 G) ?_
    refine z_getR (M := M_X1_value) 61 dX1_value_61 f_X1_128 o_35 rfl (g_35_0 G) ?_
    refine z_iload_n (M := M_X1_value) 64 dX1_value_64 rfl ?_
    refine z_ialdG (M := M_X1_value) 65 dX1_value_65 o_36 (by omega) (by omega) (g_36 G (by omega)) (fun x4 ex4 ax4 bx4 => ?_)
    refine z_iadd (M := M_X1_value) 66 dX1_value_66 ?_
    refine z_topm (fun x5 ex5 ox5 => ?_)
    unfold m_32 at ox5
    refine z_bipush (M := M_X1_value) 67 dX1_value_67 ?_
    refine z_isub (M := M_X1_value) 69 dX1_value_69 ?_
    refine z_topm (fun x6 ex6 ox6 => ?_)
    unfold m_32 at ox6
    refine z_minI (M := M_X1_value) 70 dX1_value_70 ml_X1_143 (rest := []) (Nat.le_of_ble_eq_true rfl) (Nat.le_of_ble_eq_true rfl) ?_
    refine z_topBI (lo := (-2147483648)) (hi := 1000) ⟨by split <;> omega, by split <;> omega⟩ (fun x7 ex7 ax7 bx7 => ?_)
    refine z_istore_n (M := M_X1_value) 73 dX1_value_73 (ls' := [some (mR 37), some (mI x7), some (mI l2)]) (by decide) rfl ?_
    refine z_iincN (M := M_X1_value) 74 dX1_value_74 (ls' := [some (mR 37), some (mI x7), some (mI (l2 + 1))]) (by decide) rfl (by (unfold m_32; decide)) (by omega) (by omega) rfl ?_
    refine z_goto (M := M_X1_value) 77 dX1_value_77 42 rfl ?_
    exact z_mask [true, true, true] rfl (ih x7 (l2 + 1) h G R (by omega) (by omega) (by omega) (by omega) (by omega))
theorem a_X1_value (h0 : m_H) (G0 : GI h0) : ∀ n, q_X1_value h0 n := by
  intro n
  induction n with
  | zero => unfold q_X1_value; intros; omega
  | succ n ih => exact s_X1_value_42 h0 G0 n ih
set_option maxHeartbeats 4000000 in
set_option maxRecDepth 100000 in
theorem c_X1_value (h0 : m_H) (G0 : GI h0) : m_CI M_X1_value [mR 37] h0 (P_X1_value h0) := by
  refine m_CI_of ⟨by decide, rfl, by simp [m_arg, m_isL, M_X1_value], ⟨rfl, rfl⟩, rfl, rfl⟩ (ls := [some (mR 37), none, none]) rfl ?_
  have ih := a_X1_value h0 G0 808
  refine z_aload_n (M := M_X1_value) 0 dX1_value_0 rfl ?_
  refine z_getIG (M := M_X1_value) 1 dX1_value_1 f_X1_43 o_37 (by decide) (g_37_1 G0) (fun x1 ex1 ax1 bx1 => ?_)
  refine z_aload_n (M := M_X1_value) 4 dX1_value_4 rfl ?_
  refine z_getR (M := M_X1_value) 5 dX1_value_5 f_X1_9 o_37 rfl (g_37_0 G0) ?_
  refine z_getIG (M := M_X1_value) 8 dX1_value_8 f_X1_46 o_35 (by decide) (g_35_1 G0) (fun x2 ex2 ax2 bx2 => ?_)
  refine z_icmp_ge (M := M_X1_value) 11 dX1_value_11 33 rfl (fun c3 => ?_) (fun c3 => ?_)
  · refine z_iconst (M := M_X1_value) 33 dX1_value_33 ?_
    exact z_retI (M := M_X1_value) 34 dX1_value_34 rfl ⟨G0, (FR.rf (cs := []) (ss := []) (h := h0)), by omega, by omega⟩
  · refine z_aload_n (M := M_X1_value) 14 dX1_value_14 rfl ?_
    refine z_getR (M := M_X1_value) 15 dX1_value_15 f_X1_9 o_37 rfl (g_37_0 G0) ?_
    refine z_getR (M := M_X1_value) 18 dX1_value_18 f_X1_128 o_35 rfl (g_35_0 G0) ?_
    refine z_aload_n (M := M_X1_value) 21 dX1_value_21 rfl ?_
    refine z_getIE (M := M_X1_value) 22 dX1_value_22 f_X1_43 o_37 (by decide) ex1 ?_
    refine z_ialdG (M := M_X1_value) 25 dX1_value_25 o_36 (by omega) (by omega) (g_36 G0 (by omega)) (fun x4 ex4 ax4 bx4 => ?_)
    refine z_sI (M := M_X1_value) 26 dX1_value_26 t_X1_familyOf l_X1_139 (m_rr_of rfl) (rest := []) (c_X1_familyOf h0 x4 G0) rfl rfl (Nat.le_of_ble_eq_true rfl) ⟨rfl, rfl⟩ (fun x5 h1 qx5 => ?_)
    obtain ⟨G1, S1, ax5, bx5⟩ := qx5
    have R1 := (FR.rf (cs := []) (ss := []) (h := h0)).call S1 (by decide +kernel)
    refine z_iconst (M := M_X1_value) 29 dX1_value_29 ?_
    refine z_icmp_eq (M := M_X1_value) 30 dX1_value_30 35 rfl (fun c6 => ?_) (fun c6 => ?_)
    · refine z_iconst (M := M_X1_value) 35 dX1_value_35 ?_
      refine z_istore_n (M := M_X1_value) 36 dX1_value_36 (ls' := [some (mR 37), some (mI 0), none]) (by decide) rfl ?_
      refine z_aload_n (M := M_X1_value) 37 dX1_value_37 rfl ?_
      refine z_getIE (M := M_X1_value) 38 dX1_value_38 f_X1_43 o_37 (by decide) ((S1 37 1 rfl).trans ex1) ?_
      refine z_istore_n (M := M_X1_value) 41 dX1_value_41 (ls' := [some (mR 37), some (mI 0), some (mI x1)]) (by decide) rfl ?_
      exact z_mask [true, true, true] rfl (ih 0 x1 h1 G1 R1 (by omega) (by omega) (by omega) (by omega) (by omega))
    · refine z_iconst (M := M_X1_value) 33 dX1_value_33 ?_
      exact z_retI (M := M_X1_value) 34 dX1_value_34 rfl ⟨G1, R1, by omega, by omega⟩
abbrev P_X1_takeNumber (h0 : m_H) (a1 a2 : Int) : Int → m_H → Prop := fun x h' => GI h' ∧ FR [] [(37, 1), (37, 2)] h0 h' ∧ -1 ≤ x ∧ x ≤ a2 ∧ (x = -1 ∨ a1 ≤ x)
set_option maxHeartbeats 4000000 in
set_option maxRecDepth 100000 in
theorem c_X1_takeNumber (h0 : m_H) (a1 a2 : Int) (G0 : GI h0) (pa1 : 0 ≤ a1 ∧ a1 ≤ 31) (pa2 : 0 ≤ a2 ∧ a2 ≤ 99) : m_CI M_X1_takeNumber [mR 37, mI a1, mI a2] h0 (P_X1_takeNumber h0 a1 a2) := by
  refine m_CI_of ⟨by decide, rfl, by simp [m_arg, m_isL, M_X1_takeNumber], ⟨rfl, rfl⟩, rfl, rfl⟩ (ls := [some (mR 37), some (mI a1), some (mI a2), none]) rfl ?_
  refine z_aload_n (M := M_X1_takeNumber) 0 dX1_takeNumber_0 rfl ?_
  refine z_vI (M := M_X1_takeNumber) 1 dX1_takeNumber_1 t_X1_value l_X1_72 (m_rr_of rfl) (rest := []) (c_X1_value h0 G0) o_37 rfl rfl rfl (Nat.le_of_ble_eq_true rfl) ⟨rfl, rfl⟩ (fun x1 h1 qx1 => ?_)
  obtain ⟨G1, S1, ax1, bx1⟩ := qx1
  have R1 := (FR.rf (cs := []) (ss := [(37, 1), (37, 2)]) (h := h0)).call S1 (by decide +kernel)
  refine z_istore_n (M := M_X1_takeNumber) 4 dX1_takeNumber_4 (ls' := [some (mR 37), some (mI a1), some (mI a2), some (mI x1)]) (by decide) rfl ?_
  refine z_iload_n (M := M_X1_takeNumber) 5 dX1_takeNumber_5 rfl ?_
  refine z_iload_n (M := M_X1_takeNumber) 6 dX1_takeNumber_6 rfl ?_
  refine z_iload_n (M := M_X1_takeNumber) 7 dX1_takeNumber_7 rfl ?_
  refine z_nI (M := M_X1_takeNumber) 8 dX1_takeNumber_8 t_X11_within l_X1_135 (m_rr_of rfl) (rest := []) (c_X11_within h1 x1 a1 a2 G1) rfl rfl (Nat.le_of_ble_eq_true rfl) ⟨rfl, rfl⟩ (fun x2 h2 qx2 => ?_)
  obtain ⟨rfl, ⟨rfl, cx2⟩ | ⟨rfl, cx2⟩⟩ := qx2
  · refine z_if_ne_T (M := M_X1_takeNumber) 11 dX1_takeNumber_11 16 rfl (by omega) ?_
    refine z_aload_n (M := M_X1_takeNumber) 16 dX1_takeNumber_16 rfl ?_
    refine z_vV (M := M_X1_takeNumber) 17 dX1_takeNumber_17 t_X1_advance l_X1_22 (m_rr_of rfl) (rest := []) (c_X1_advance h1 G1) o_37 rfl rfl rfl (Nat.le_of_ble_eq_true rfl) ⟨rfl, rfl⟩ (fun h3 qx3 => ?_)
    obtain ⟨G3, S3⟩ := qx3
    have R3 := R1.call S3 (by decide +kernel)
    refine z_iload_n (M := M_X1_takeNumber) 20 dX1_takeNumber_20 rfl ?_
    exact z_retI (M := M_X1_takeNumber) 21 dX1_takeNumber_21 rfl ⟨G3, R3, by omega, by omega, by omega⟩
  · refine z_if_ne_F (M := M_X1_takeNumber) 11 dX1_takeNumber_11 16 rfl (by omega) ?_
    refine z_iconst (M := M_X1_takeNumber) 14 dX1_takeNumber_14 ?_
    exact z_retI (M := M_X1_takeNumber) 15 dX1_takeNumber_15 rfl ⟨G1, R1, by omega, by omega, by omega⟩
abbrev P_X1_stands (h0 : m_H) (w : Nat) : Int → m_H → Prop := fun x h' => GI h' ∧ FR [] [] h0 h' ∧ 0 ≤ x ∧ x ≤ 1
def q_X1_stands (h0 : m_H) (w : Nat) (n : Nat) : Prop := (∀ (l2 y_37_1 y_37_2 : Int) (h : m_H), GI h → FR [] [] h0 h → 0 ≤ l2 → l2 ≤ 6 → 0 ≤ y_37_1 → y_37_1 ≤ 400 → 0 ≤ y_37_2 → y_37_2 ≤ 400 → (h 37 1 = y_37_1) → (h 37 2 = y_37_2) → (y_37_2 - y_37_1 = slen w) → 2 * (6 - l2) + (1) ≤ (n : Int) → m_Z oF M_X1_stands 20 [some (mR 37), some (mO w), some (mI l2)] [] h (m_QI (P_X1_stands h0 w)))
set_option maxHeartbeats 4000000 in
set_option maxRecDepth 100000 in
theorem s_X1_stands_20 (h0 : m_H) (w : Nat) (hw : w < 16) (G0 : GI h0) (n : Nat) (ih : q_X1_stands h0 w n) : ∀ (l2 y_37_1 y_37_2 : Int) (h : m_H), GI h → FR [] [] h0 h → 0 ≤ l2 → l2 ≤ 6 → 0 ≤ y_37_1 → y_37_1 ≤ 400 → 0 ≤ y_37_2 → y_37_2 ≤ 400 → (h 37 1 = y_37_1) → (h 37 2 = y_37_2) → (y_37_2 - y_37_1 = slen w) → 2 * (6 - l2) + (1) ≤ ((n + 1 : Nat) : Int) → m_Z oF M_X1_stands 20 [some (mR 37), some (mO w), some (mI l2)] [] h (m_QI (P_X1_stands h0 w)) := by
  intro l2 y_37_1 y_37_2 h G R v0 v1 v2 v3 v4 v5 t_37_1 t_37_2 i0 hr
  refine z_iload_n (M := M_X1_stands) 20 dX1_stands_20 rfl ?_
  refine z_aload_nO (M := M_X1_stands) 21 dX1_stands_21 rfl ?_
  refine z_vIO (M := M_X1_stands) 22 dX1_stands_22 t_J0_length_8abf5 l_X1_124 (m_rr_of rfl) (rest := [mI l2]) (c_J0_length_8abf5 h w hw) hw rfl rfl rfl (Nat.le_of_ble_eq_true rfl) ⟨rfl, rfl⟩ (fun x1 h1 qx1 => ?_)
  obtain ⟨rfl, ex1⟩ := qx1
  have bx1 := slen_b w
  refine z_icmp_ge (M := M_X1_stands) 25 dX1_stands_25 58 rfl (fun c2 => ?_) (fun c2 => ?_)
  · refine z_iconst (M := M_X1_stands) 58 dX1_stands_58 ?_
    exact z_retZ (M := M_X1_stands) 59 dX1_stands_59 rfl (by omega) ⟨G, R, by omega, by omega⟩
  · refine z_aload_n (M := M_X1_stands) 28 dX1_stands_28 rfl ?_
    refine z_getR (M := M_X1_stands) 29 dX1_stands_29 f_X1_9 o_37 rfl (g_37_0 G) ?_
    refine z_getR (M := M_X1_stands) 32 dX1_stands_32 f_X1_128 o_35 rfl (g_35_0 G) ?_
    refine z_aload_n (M := M_X1_stands) 35 dX1_stands_35 rfl ?_
    refine z_getIE (M := M_X1_stands) 36 dX1_stands_36 f_X1_43 o_37 (by decide) t_37_1 ?_
    refine z_iload_n (M := M_X1_stands) 39 dX1_stands_39 rfl ?_
    refine z_iaddN (M := M_X1_stands) 40 dX1_stands_40 (by omega) (by omega) ?_
    refine z_ialdG (M := M_X1_stands) 41 dX1_stands_41 o_36 (by omega) (by omega) (g_36 G (by omega)) (fun x3 ex3 ax3 bx3 => ?_)
    refine z_aload_nO (M := M_X1_stands) 42 dX1_stands_42 rfl ?_
    refine z_iload_n (M := M_X1_stands) 43 dX1_stands_43 rfl ?_
    refine z_vIO (M := M_X1_stands) 44 dX1_stands_44 t_J0_charAt_5068e l_X1_131 (m_rr_of rfl) (rest := [mI x3]) (c_J0_charAt_5068e h w l2 hw (by omega) (by omega)) hw rfl rfl rfl (Nat.le_of_ble_eq_true rfl) ⟨rfl, rfl⟩ (fun x4 h2 qx4 => ?_)
    obtain ⟨rfl, ex4⟩ := qx4
    have bx4 := (sch_ok (i := w) (a := l2) hw (by omega) (by omega)).1
    refine z_icmp_eq (M := M_X1_stands) 47 dX1_stands_47 52 rfl (fun c5 => ?_) (fun c5 => ?_)
    · refine z_iincN (M := M_X1_stands) 52 dX1_stands_52 (ls' := [some (mR 37), some (mO w), some (mI (l2 + 1))]) (by decide) rfl (by (unfold m_32; decide)) (by omega) (by omega) rfl ?_
      refine z_goto (M := M_X1_stands) 55 dX1_stands_55 20 rfl ?_
      exact z_mask [true, true, true] rfl (ih (l2 + 1) y_37_1 y_37_2 h G R (by omega) (by omega) (by omega) (by omega) (by omega) (by omega) t_37_1 t_37_2 (by omega) (by omega))
    · refine z_iconst (M := M_X1_stands) 50 dX1_stands_50 ?_
      exact z_retZ (M := M_X1_stands) 51 dX1_stands_51 rfl (by omega) ⟨G, R, by omega, by omega⟩
theorem a_X1_stands (h0 : m_H) (w : Nat) (hw : w < 16) (G0 : GI h0) : ∀ n, q_X1_stands h0 w n := by
  intro n
  induction n with
  | zero => unfold q_X1_stands; intros; omega
  | succ n ih => exact s_X1_stands_20 h0 w hw G0 n ih
set_option maxHeartbeats 4000000 in
set_option maxRecDepth 100000 in
theorem c_X1_stands (h0 : m_H) (w : Nat) (hw : w < 16) (G0 : GI h0) : m_CI M_X1_stands [mR 37, mO w] h0 (P_X1_stands h0 w) := by
  refine m_CI_of ⟨by decide, rfl, by simp [m_arg, m_isL, M_X1_stands], ⟨rfl, rfl⟩, rfl, rfl⟩ (ls := [some (mR 37), some (mO w), none]) rfl ?_
  have ih := a_X1_stands h0 w hw G0 20
  obtain ⟨x1, ex1⟩ : ∃ y : Int, h0 37 1 = y := ⟨_, rfl⟩
  have bx1 : 0 ≤ x1 ∧ x1 ≤ 400 := ex1 ▸ g_37_1 G0
  obtain ⟨x2, ex2⟩ : ∃ y : Int, h0 37 2 = y := ⟨_, rfl⟩
  have bx2 : 0 ≤ x2 ∧ x2 ≤ 400 := ex2 ▸ g_37_2 G0
  refine z_aload_n (M := M_X1_stands) 0 dX1_stands_0 rfl ?_
  refine z_getIE (M := M_X1_stands) 1 dX1_stands_1 f_X1_19 o_37 (by decide) ex2 ?_
  refine z_aload_n (M := M_X1_stands) 4 dX1_stands_4 rfl ?_
  refine z_getIE (M := M_X1_stands) 5 dX1_stands_5 f_X1_43 o_37 (by decide) ex1 ?_
  refine z_isubN (M := M_X1_stands) 8 dX1_stands_8 (by omega) (by omega) ?_
  refine z_aload_nO (M := M_X1_stands) 9 dX1_stands_9 rfl ?_
  refine z_vIO (M := M_X1_stands) 10 dX1_stands_10 t_J0_length_8abf5 l_X1_124 (m_rr_of rfl) (rest := [mI (x2 - x1)]) (c_J0_length_8abf5 h0 w hw) hw rfl rfl rfl (Nat.le_of_ble_eq_true rfl) ⟨rfl, rfl⟩ (fun x3 h1 qx3 => ?_)
  obtain ⟨rfl, ex3⟩ := qx3
  have bx3 := slen_b w
  refine z_icmp_eq (M := M_X1_stands) 13 dX1_stands_13 18 rfl (fun c4 => ?_) (fun c4 => ?_)
  · refine z_iconst (M := M_X1_stands) 18 dX1_stands_18 ?_
    refine z_istore_n (M := M_X1_stands) 19 dX1_stands_19 (ls' := [some (mR 37), some (mO w), some (mI 0)]) (by decide) rfl ?_
    exact z_mask [true, true, true] rfl (ih 0 x1 x2 h0 G0 (FR.rf (cs := []) (ss := []) (h := h0)) (by omega) (by omega) (by omega) (by omega) (by omega) (by omega) ex1 ex2 (by omega) (by omega))
  · refine z_iconst (M := M_X1_stands) 16 dX1_stands_16 ?_
    exact z_retZ (M := M_X1_stands) 17 dX1_stands_17 rfl (by omega) ⟨G0, (FR.rf (cs := []) (ss := []) (h := h0)), by omega, by omega⟩
abbrev P_X1_take (h0 : m_H) (w : Nat) : Int → m_H → Prop := fun x h' => GI h' ∧ FR [] [(37, 1), (37, 2)] h0 h' ∧ 0 ≤ x ∧ x ≤ 1
set_option maxHeartbeats 4000000 in
set_option maxRecDepth 100000 in
theorem c_X1_take (h0 : m_H) (w : Nat) (hw : w < 16) (G0 : GI h0) : m_CI M_X1_take [mR 37, mO w] h0 (P_X1_take h0 w) := by
  refine m_CI_of ⟨by decide, rfl, by simp [m_arg, m_isL, M_X1_take], ⟨rfl, rfl⟩, rfl, rfl⟩ (ls := [some (mR 37), some (mO w)]) rfl ?_
  refine z_aload_n (M := M_X1_take) 0 dX1_take_0 rfl ?_
  refine z_aload_nO (M := M_X1_take) 1 dX1_take_1 rfl ?_
  refine z_vI (M := M_X1_take) 2 dX1_take_2 t_X1_stands l_X1_121 (m_rr_of rfl) (rest := []) (c_X1_stands h0 w hw G0) o_37 rfl rfl rfl (Nat.le_of_ble_eq_true rfl) ⟨rfl, rfl⟩ (fun x1 h1 qx1 => ?_)
  obtain ⟨G1, S1, ax1, bx1⟩ := qx1
  have R1 := (FR.rf (cs := []) (ss := [(37, 1), (37, 2)]) (h := h0)).call S1 (by decide +kernel)
  refine z_if_ne (M := M_X1_take) 5 dX1_take_5 10 rfl (fun c2 => ?_) (fun c2 => ?_)
  · refine z_aload_n (M := M_X1_take) 10 dX1_take_10 rfl ?_
    refine z_vV (M := M_X1_take) 11 dX1_take_11 t_X1_advance l_X1_22 (m_rr_of rfl) (rest := []) (c_X1_advance h1 G1) o_37 rfl rfl rfl (Nat.le_of_ble_eq_true rfl) ⟨rfl, rfl⟩ (fun h2 qx3 => ?_)
    obtain ⟨G2, S2⟩ := qx3
    have R2 := R1.call S2 (by decide +kernel)
    refine z_iconst (M := M_X1_take) 14 dX1_take_14 ?_
    exact z_retZ (M := M_X1_take) 15 dX1_take_15 rfl (by omega) ⟨G2, R2, by omega, by omega⟩
  · refine z_iconst (M := M_X1_take) 8 dX1_take_8 ?_
    exact z_retZ (M := M_X1_take) 9 dX1_take_9 rfl (by omega) ⟨G1, R1, by omega, by omega⟩
abbrev P_X1_readCut (h0 : m_H) (L : Nat) (a2 : Int) : Int → m_H → Prop := fun x h' => GI h' ∧ FR [(L + 2)] [(37, 1), (37, 2)] h0 h' ∧ 0 ≤ x ∧ x ≤ 1
set_option maxHeartbeats 4000000 in
set_option maxRecDepth 100000 in
theorem c_X1_readCut (h0 : m_H) (L : Nat) (a2 : Int) (hL : isL L) (G0 : GI h0) (pa2 : 0 ≤ a2 ∧ a2 ≤ 5) : m_CI M_X1_readCut [mR 37, mR L, mI a2] h0 (P_X1_readCut h0 L a2) := by
  refine m_CI_of ⟨by decide, rfl, by simp [m_arg, m_isL, M_X1_readCut], ⟨rfl, rfl⟩, rfl, rfl⟩ (ls := [some (mR 37), some (mR L), some (mI a2), none]) rfl ?_
  refine z_aload_n (M := M_X1_readCut) 0 dX1_readCut_0 rfl ?_
  refine z_ldcS (M := M_X1_readCut) 1 dX1_readCut_1 (i := 6) rfl rfl rfl ?_
  refine z_vI (M := M_X1_readCut) 3 dX1_readCut_3 t_X1_take l_X1_27 (m_rr_of rfl) (rest := []) (c_X1_take h0 6 (by decide) G0) o_37 rfl rfl rfl (Nat.le_of_ble_eq_true rfl) ⟨rfl, rfl⟩ (fun x1 h1 qx1 => ?_)
  obtain ⟨G1, S1, ax1, bx1⟩ := qx1
  have R1 := (FR.rf (cs := [(L + 2)]) (ss := [(37, 1), (37, 2)]) (h := h0)).call S1 (by simp [fsub, fr, csB])
  refine z_if_eq (M := M_X1_readCut) 6 dX1_readCut_6 18 rfl (fun c2 => ?_) (fun c2 => ?_)
  · refine z_aload_n (M := M_X1_readCut) 18 dX1_readCut_18 rfl ?_
    refine z_ldcS (M := M_X1_readCut) 19 dX1_readCut_19 (i := 7) rfl rfl rfl ?_
    refine z_vI (M := M_X1_readCut) 21 dX1_readCut_21 t_X1_take l_X1_27 (m_rr_of rfl) (rest := []) (c_X1_take h1 7 (by decide) G1) o_37 rfl rfl rfl (Nat.le_of_ble_eq_true rfl) ⟨rfl, rfl⟩ (fun x3 h2 qx3 => ?_)
    obtain ⟨G2, S2, ax3, bx3⟩ := qx3
    have R2 := R1.call S2 (by simp [fsub, fr, csB])
    refine z_if_eq (M := M_X1_readCut) 24 dX1_readCut_24 37 rfl (fun c4 => ?_) (fun c4 => ?_)
    · refine z_iconst (M := M_X1_readCut) 37 dX1_readCut_37 ?_
      refine z_istore_n (M := M_X1_readCut) 38 dX1_readCut_38 (ls' := [some (mR 37), some (mR L), some (mI a2), some (mI (-1))]) (by decide) rfl ?_
      refine z_iload_n (M := M_X1_readCut) 39 dX1_readCut_39 rfl ?_
      refine z_iconst (M := M_X1_readCut) 40 dX1_readCut_40 ?_
      refine z_icmp_ne_F (M := M_X1_readCut) 41 dX1_readCut_41 46 rfl (by omega) ?_
      refine z_iconst (M := M_X1_readCut) 44 dX1_readCut_44 ?_
      exact z_retZ (M := M_X1_readCut) 45 dX1_readCut_45 rfl (by omega) ⟨G2, R2, by omega, by omega⟩
    · refine z_aload_n (M := M_X1_readCut) 27 dX1_readCut_27 rfl ?_
      refine z_iconst (M := M_X1_readCut) 28 dX1_readCut_28 ?_
      refine z_bipush (M := M_X1_readCut) 29 dX1_readCut_29 ?_
      refine z_vI (M := M_X1_readCut) 31 dX1_readCut_31 t_X1_takeNumber l_X1_53 (m_rr_of rfl) (rest := []) (c_X1_takeNumber h2 1 31 G2 ⟨by omega, by omega⟩ ⟨by omega, by omega⟩) o_37 rfl rfl rfl (Nat.le_of_ble_eq_true rfl) ⟨rfl, rfl⟩ (fun x5 h3 qx5 => ?_)
      obtain ⟨G3, S3, fx5_0, fx5_1, fx5_2⟩ := qx5
      have R3 := R2.call S3 (by simp [fsub, fr, csB])
      refine z_ok (fun ox5 _ _ => ?_)
      have ox5 := ox5.1; unfold m_ok m_32 at ox5
      refine z_goto (M := M_X1_readCut) 34 dX1_readCut_34 38 rfl ?_
      refine z_istore_n (M := M_X1_readCut) 38 dX1_readCut_38 (ls' := [some (mR 37), some (mR L), some (mI a2), some (mI x5)]) (by decide) rfl ?_
      refine z_iload_n (M := M_X1_readCut) 39 dX1_readCut_39 rfl ?_
      refine z_iconst (M := M_X1_readCut) 40 dX1_readCut_40 ?_
      refine z_icmp_ne (M := M_X1_readCut) 41 dX1_readCut_41 46 rfl (fun c6 => ?_) (fun c6 => ?_)
      · refine z_aload_n (M := M_X1_readCut) 46 dX1_readCut_46 rfl ?_
        refine z_getR (M := M_X1_readCut) 47 dX1_readCut_47 f_X1_101 (oL hL) rfl (rL_1 hL G3) ?_
        refine z_iload_n (M := M_X1_readCut) 50 dX1_readCut_50 rfl ?_
        refine z_iload_n (M := M_X1_readCut) 51 dX1_readCut_51 rfl ?_
        refine z_iastH (M := M_X1_readCut) 52 dX1_readCut_52 (oL_2 hL) (by omega) (by omega) (uL_2 hL G3 (by omega) (by omega)) (R3.up (by simp [fr])) (fun h4 E4 G4 R4 => ?_)
        refine z_iconst (M := M_X1_readCut) 53 dX1_readCut_53 ?_
        exact z_retZ (M := M_X1_readCut) 54 dX1_readCut_54 rfl (by omega) ⟨G4, R4, by omega, by omega⟩
      · refine z_iconst (M := M_X1_readCut) 44 dX1_readCut_44 ?_
        exact z_retZ (M := M_X1_readCut) 45 dX1_readCut_45 rfl (by omega) ⟨G3, R3, by omega, by omega⟩
  · refine z_aload_n (M := M_X1_readCut) 9 dX1_readCut_9 rfl ?_
    refine z_getR (M := M_X1_readCut) 10 dX1_readCut_10 f_X1_101 (oL hL) rfl (rL_1 hL G1) ?_
    refine z_iload_n (M := M_X1_readCut) 13 dX1_readCut_13 rfl ?_
    refine z_iconst (M := M_X1_readCut) 14 dX1_readCut_14 ?_
    refine z_iastH (M := M_X1_readCut) 15 dX1_readCut_15 (oL_2 hL) (by omega) (by omega) (uL_2 hL G1 (by omega) (by omega)) (R1.up (by simp [fr])) (fun h5 E5 G5 R5 => ?_)
    refine z_iconst (M := M_X1_readCut) 16 dX1_readCut_16 ?_
    exact z_retZ (M := M_X1_readCut) 17 dX1_readCut_17 rfl (by omega) ⟨G5, R5, by omega, by omega⟩
abbrev P_X1_readMeasure (h0 : m_H) (L : Nat) (a2 : Int) : Int → m_H → Prop := fun x h' => GI h' ∧ FR [(L + 3), (L + 4), (L + 5), (L + 6)] [(37, 1), (37, 2), (L, 7), (L, 8)] h0 h' ∧ 0 ≤ x ∧ x ≤ 1
set_option maxHeartbeats 4000000 in
set_option maxRecDepth 100000 in
theorem c_X1_readMeasure (h0 : m_H) (L : Nat) (a2 : Int) (hL : isL L) (G0 : GI h0) (pa2 : 0 ≤ a2 ∧ a2 ≤ 5) : m_CI M_X1_readMeasure [mR 37, mR L, mI a2] h0 (P_X1_readMeasure h0 L a2) := by
  refine m_CI_of ⟨by decide, rfl, by simp [m_arg, m_isL, M_X1_readMeasure], ⟨rfl, rfl⟩, rfl, rfl⟩ (ls := [some (mR 37), some (mR L), some (mI a2), none, none, none]) rfl ?_
  refine z_aload_n (M := M_X1_readMeasure) 0 dX1_readMeasure_0 rfl ?_
  refine z_vI (M := M_X1_readMeasure) 1 dX1_readMeasure_1 t_X4_hasRoom l_X1_106 (m_rr_of rfl) (rest := []) (c_X4_hasRoom h0 L hL G0) (oL hL) rfl rfl rfl (Nat.le_of_ble_eq_true rfl) ⟨rfl, rfl⟩ (fun x1 h1 qx1 => ?_)
  obtain ⟨rfl, ⟨rfl, cx1⟩ | ⟨rfl, cx1⟩⟩ := qx1
  · refine z_if_eq_F (M := M_X1_readMeasure) 4 dX1_readMeasure_4 16 rfl (by omega) ?_
    refine z_aload_n (M := M_X1_readMeasure) 7 dX1_readMeasure_7 rfl ?_
    refine z_ldcS (M := M_X1_readMeasure) 8 dX1_readMeasure_8 (i := 7) rfl rfl rfl ?_
    refine z_vI (M := M_X1_readMeasure) 10 dX1_readMeasure_10 t_X1_take l_X1_27 (m_rr_of rfl) (rest := []) (c_X1_take h0 7 (by decide) G0) o_37 rfl rfl rfl (Nat.le_of_ble_eq_true rfl) ⟨rfl, rfl⟩ (fun x2 h2 qx2 => ?_)
    obtain ⟨G2, S2, ax2, bx2⟩ := qx2
    have R2 := (FR.rf (cs := [(L + 3), (L + 4), (L + 5), (L + 6)]) (ss := [(37, 1), (37, 2), (L, 7), (L, 8)]) (h := h0)).call S2 (by simp [fsub, fr, csB])
    refine z_if_ne (M := M_X1_readMeasure) 13 dX1_readMeasure_13 18 rfl (fun c3 => ?_) (fun c3 => ?_)
    · refine z_aload_n (M := M_X1_readMeasure) 18 dX1_readMeasure_18 rfl ?_
      refine z_iconst (M := M_X1_readMeasure) 19 dX1_readMeasure_19 ?_
      refine z_bipush (M := M_X1_readMeasure) 20 dX1_readMeasure_20 ?_
      refine z_vI (M := M_X1_readMeasure) 22 dX1_readMeasure_22 t_X1_takeNumber l_X1_53 (m_rr_of rfl) (rest := []) (c_X1_takeNumber h2 0 31 G2 ⟨by omega, by omega⟩ ⟨by omega, by omega⟩) o_37 rfl rfl rfl (Nat.le_of_ble_eq_true rfl) ⟨rfl, rfl⟩ (fun x4 h3 qx4 => ?_)
      obtain ⟨G3, S3, fx4_0, fx4_1, fx4_2⟩ := qx4
      have R3 := R2.call S3 (by simp [fsub, fr, csB])
      refine z_ok (fun ox4 _ _ => ?_)
      have ox4 := ox4.1; unfold m_ok m_32 at ox4
      refine z_istore_n (M := M_X1_readMeasure) 25 dX1_readMeasure_25 (ls' := [some (mR 37), some (mR L), some (mI a2), some (mI x4), none, none]) (by decide) rfl ?_
      refine z_iload_n (M := M_X1_readMeasure) 26 dX1_readMeasure_26 rfl ?_
      refine z_iconst (M := M_X1_readMeasure) 27 dX1_readMeasure_27 ?_
      refine z_icmp_eq (M := M_X1_readMeasure) 28 dX1_readMeasure_28 40 rfl (fun c5 => ?_) (fun c5 => ?_)
      · refine z_iconst (M := M_X1_readMeasure) 40 dX1_readMeasure_40 ?_
        exact z_retZ (M := M_X1_readMeasure) 41 dX1_readMeasure_41 rfl (by omega) ⟨G3, R3, by omega, by omega⟩
      · refine z_aload_n (M := M_X1_readMeasure) 31 dX1_readMeasure_31 rfl ?_
        refine z_ldcS (M := M_X1_readMeasure) 32 dX1_readMeasure_32 (i := 8) rfl rfl rfl ?_
        refine z_vI (M := M_X1_readMeasure) 34 dX1_readMeasure_34 t_X1_take l_X1_27 (m_rr_of rfl) (rest := []) (c_X1_take h3 8 (by decide) G3) o_37 rfl rfl rfl (Nat.le_of_ble_eq_true rfl) ⟨rfl, rfl⟩ (fun x6 h4 qx6 => ?_)
        obtain ⟨G4, S4, ax6, bx6⟩ := qx6
        have R4 := R3.call S4 (by simp [fsub, fr, csB])
        refine z_if_ne (M := M_X1_readMeasure) 37 dX1_readMeasure_37 42 rfl (fun c7 => ?_) (fun c7 => ?_)
        · refine z_aload_n (M := M_X1_readMeasure) 42 dX1_readMeasure_42 rfl ?_
          refine z_iconst (M := M_X1_readMeasure) 43 dX1_readMeasure_43 ?_
          refine z_bipush (M := M_X1_readMeasure) 44 dX1_readMeasure_44 ?_
          refine z_vI (M := M_X1_readMeasure) 46 dX1_readMeasure_46 t_X1_takeNumber l_X1_53 (m_rr_of rfl) (rest := []) (c_X1_takeNumber h4 1 99 G4 ⟨by omega, by omega⟩ ⟨by omega, by omega⟩) o_37 rfl rfl rfl (Nat.le_of_ble_eq_true rfl) ⟨rfl, rfl⟩ (fun x8 h5 qx8 => ?_)
          obtain ⟨G5, S5, fx8_0, fx8_1, fx8_2⟩ := qx8
          have R5 := R4.call S5 (by simp [fsub, fr, csB])
          refine z_ok (fun ox8 _ _ => ?_)
          have ox8 := ox8.1; unfold m_ok m_32 at ox8
          refine z_istore (M := M_X1_readMeasure) 49 dX1_readMeasure_49 (ls' := [some (mR 37), some (mR L), some (mI a2), some (mI x4), some (mI x8), none]) (by decide) rfl ?_
          refine z_iload (M := M_X1_readMeasure) 51 dX1_readMeasure_51 rfl ?_
          refine z_iconst (M := M_X1_readMeasure) 53 dX1_readMeasure_53 ?_
          refine z_icmp_ne (M := M_X1_readMeasure) 54 dX1_readMeasure_54 59 rfl (fun c9 => ?_) (fun c9 => ?_)
          · refine z_iconst (M := M_X1_readMeasure) 59 dX1_readMeasure_59 ?_
            refine z_istore (M := M_X1_readMeasure) 60 dX1_readMeasure_60 (ls' := [some (mR 37), some (mR L), some (mI a2), some (mI x4), some (mI x8), some (mI 0)]) (by decide) rfl ?_
            refine z_aload_n (M := M_X1_readMeasure) 62 dX1_readMeasure_62 rfl ?_
            refine z_ldcS (M := M_X1_readMeasure) 63 dX1_readMeasure_63 (i := 9) rfl rfl rfl ?_
            refine z_vI (M := M_X1_readMeasure) 65 dX1_readMeasure_65 t_X1_take l_X1_27 (m_rr_of rfl) (rest := []) (c_X1_take h5 9 (by decide) G5) o_37 rfl rfl rfl (Nat.le_of_ble_eq_true rfl) ⟨rfl, rfl⟩ (fun x10 h6 qx10 => ?_)
            obtain ⟨G6, S6, ax10, bx10⟩ := qx10
            have R6 := R5.call S6 (by simp [fsub, fr, csB])
            refine z_if_eq (M := M_X1_readMeasure) 68 dX1_readMeasure_68 77 rfl (fun c11 => ?_) (fun c11 => ?_)
            · refine z_aload_n (M := M_X1_readMeasure) 77 dX1_readMeasure_77 rfl ?_
              refine z_ldcS (M := M_X1_readMeasure) 78 dX1_readMeasure_78 (i := 10) rfl rfl rfl ?_
              refine z_vI (M := M_X1_readMeasure) 80 dX1_readMeasure_80 t_X1_take l_X1_27 (m_rr_of rfl) (rest := []) (c_X1_take h6 10 (by decide) G6) o_37 rfl rfl rfl (Nat.le_of_ble_eq_true rfl) ⟨rfl, rfl⟩ (fun x12 h7 qx12 => ?_)
              obtain ⟨G7, S7, ax12, bx12⟩ := qx12
              have R7 := R6.call S7 (by simp [fsub, fr, csB])
              refine z_if_eq (M := M_X1_readMeasure) 83 dX1_readMeasure_83 92 rfl (fun c13 => ?_) (fun c13 => ?_)
              · refine z_aload_n (M := M_X1_readMeasure) 92 dX1_readMeasure_92 rfl ?_
                refine z_ldcS (M := M_X1_readMeasure) 93 dX1_readMeasure_93 (i := 11) rfl rfl rfl ?_
                refine z_vI (M := M_X1_readMeasure) 95 dX1_readMeasure_95 t_X1_take l_X1_27 (m_rr_of rfl) (rest := []) (c_X1_take h7 11 (by decide) G7) o_37 rfl rfl rfl (Nat.le_of_ble_eq_true rfl) ⟨rfl, rfl⟩ (fun x14 h8 qx14 => ?_)
                obtain ⟨G8, S8, ax14, bx14⟩ := qx14
                have R8 := R7.call S8 (by simp [fsub, fr, csB])
                refine z_pop (M := M_X1_readMeasure) 98 dX1_readMeasure_98 rfl ?_
                refine z_aload_n (M := M_X1_readMeasure) 99 dX1_readMeasure_99 rfl ?_
                refine z_iload_n (M := M_X1_readMeasure) 100 dX1_readMeasure_100 rfl ?_
                refine z_iload_n (M := M_X1_readMeasure) 101 dX1_readMeasure_101 rfl ?_
                refine z_iload (M := M_X1_readMeasure) 102 dX1_readMeasure_102 rfl ?_
                refine z_iload (M := M_X1_readMeasure) 104 dX1_readMeasure_104 rfl ?_
                refine z_vV (M := M_X1_readMeasure) 106 dX1_readMeasure_106 t_X4_addEntry l_X1_117 (m_rr_of rfl) (rest := []) (c_X4_addEntry h8 L a2 x4 x8 0 hL G8 ⟨by omega, by omega⟩ ⟨by omega, by omega⟩ ⟨by omega, by omega⟩ ⟨by omega, by omega⟩) (oL hL) rfl rfl rfl (Nat.le_of_ble_eq_true rfl) ⟨rfl, rfl⟩ (fun h9 qx15 => ?_)
                obtain ⟨G9, S9⟩ := qx15
                have R9 := R8.call S9 (by simp [fsub, fr, csB])
                refine z_iconst (M := M_X1_readMeasure) 109 dX1_readMeasure_109 ?_
                exact z_retZ (M := M_X1_readMeasure) 110 dX1_readMeasure_110 rfl (by omega) ⟨G9, R9, by omega, by omega⟩
              · refine z_iconst (M := M_X1_readMeasure) 86 dX1_readMeasure_86 ?_
                refine z_istore (M := M_X1_readMeasure) 87 dX1_readMeasure_87 (ls' := [some (mR 37), some (mR L), some (mI a2), some (mI x4), some (mI x8), some (mI 2)]) (by decide) rfl ?_
                refine z_goto (M := M_X1_readMeasure) 89 dX1_readMeasure_89 99 rfl ?_
                refine z_aload_n (M := M_X1_readMeasure) 99 dX1_readMeasure_99 rfl ?_
                refine z_iload_n (M := M_X1_readMeasure) 100 dX1_readMeasure_100 rfl ?_
                refine z_iload_n (M := M_X1_readMeasure) 101 dX1_readMeasure_101 rfl ?_
                refine z_iload (M := M_X1_readMeasure) 102 dX1_readMeasure_102 rfl ?_
                refine z_iload (M := M_X1_readMeasure) 104 dX1_readMeasure_104 rfl ?_
                refine z_vV (M := M_X1_readMeasure) 106 dX1_readMeasure_106 t_X4_addEntry l_X1_117 (m_rr_of rfl) (rest := []) (c_X4_addEntry h7 L a2 x4 x8 2 hL G7 ⟨by omega, by omega⟩ ⟨by omega, by omega⟩ ⟨by omega, by omega⟩ ⟨by omega, by omega⟩) (oL hL) rfl rfl rfl (Nat.le_of_ble_eq_true rfl) ⟨rfl, rfl⟩ (fun h10 qx16 => ?_)
                obtain ⟨G10, S10⟩ := qx16
                have R10 := R7.call S10 (by simp [fsub, fr, csB])
                refine z_iconst (M := M_X1_readMeasure) 109 dX1_readMeasure_109 ?_
                exact z_retZ (M := M_X1_readMeasure) 110 dX1_readMeasure_110 rfl (by omega) ⟨G10, R10, by omega, by omega⟩
            · refine z_iconst (M := M_X1_readMeasure) 71 dX1_readMeasure_71 ?_
              refine z_istore (M := M_X1_readMeasure) 72 dX1_readMeasure_72 (ls' := [some (mR 37), some (mR L), some (mI a2), some (mI x4), some (mI x8), some (mI 1)]) (by decide) rfl ?_
              refine z_goto (M := M_X1_readMeasure) 74 dX1_readMeasure_74 99 rfl ?_
              refine z_aload_n (M := M_X1_readMeasure) 99 dX1_readMeasure_99 rfl ?_
              refine z_iload_n (M := M_X1_readMeasure) 100 dX1_readMeasure_100 rfl ?_
              refine z_iload_n (M := M_X1_readMeasure) 101 dX1_readMeasure_101 rfl ?_
              refine z_iload (M := M_X1_readMeasure) 102 dX1_readMeasure_102 rfl ?_
              refine z_iload (M := M_X1_readMeasure) 104 dX1_readMeasure_104 rfl ?_
              refine z_vV (M := M_X1_readMeasure) 106 dX1_readMeasure_106 t_X4_addEntry l_X1_117 (m_rr_of rfl) (rest := []) (c_X4_addEntry h6 L a2 x4 x8 1 hL G6 ⟨by omega, by omega⟩ ⟨by omega, by omega⟩ ⟨by omega, by omega⟩ ⟨by omega, by omega⟩) (oL hL) rfl rfl rfl (Nat.le_of_ble_eq_true rfl) ⟨rfl, rfl⟩ (fun h11 qx17 => ?_)
              obtain ⟨G11, S11⟩ := qx17
              have R11 := R6.call S11 (by simp [fsub, fr, csB])
              refine z_iconst (M := M_X1_readMeasure) 109 dX1_readMeasure_109 ?_
              exact z_retZ (M := M_X1_readMeasure) 110 dX1_readMeasure_110 rfl (by omega) ⟨G11, R11, by omega, by omega⟩
          · refine z_iconst (M := M_X1_readMeasure) 57 dX1_readMeasure_57 ?_
            exact z_retZ (M := M_X1_readMeasure) 58 dX1_readMeasure_58 rfl (by omega) ⟨G5, R5, by omega, by omega⟩
        · refine z_iconst (M := M_X1_readMeasure) 40 dX1_readMeasure_40 ?_
          exact z_retZ (M := M_X1_readMeasure) 41 dX1_readMeasure_41 rfl (by omega) ⟨G4, R4, by omega, by omega⟩
    · refine z_iconst (M := M_X1_readMeasure) 16 dX1_readMeasure_16 ?_
      exact z_retZ (M := M_X1_readMeasure) 17 dX1_readMeasure_17 rfl (by omega) ⟨G2, R2, by omega, by omega⟩
  · refine z_if_eq_T (M := M_X1_readMeasure) 4 dX1_readMeasure_4 16 rfl (by omega) ?_
    refine z_iconst (M := M_X1_readMeasure) 16 dX1_readMeasure_16 ?_
    exact z_retZ (M := M_X1_readMeasure) 17 dX1_readMeasure_17 rfl (by omega) ⟨G0, (FR.rf (cs := [(L + 3), (L + 4), (L + 5), (L + 6)]) (ss := [(37, 1), (37, 2), (L, 7), (L, 8)]) (h := h0)), by omega, by omega⟩
abbrev P_X1_readThing (h0 : m_H) (L : Nat) : Int → m_H → Prop := fun x h' => GI h' ∧ FR [(L + 2), (L + 3), (L + 4), (L + 5), (L + 6)] [(37, 1), (37, 2), (L, 7), (L, 8)] h0 h' ∧ 0 ≤ x ∧ x ≤ 1
def q_X1_readThing (h0 : m_H) (L : Nat) (n : Nat) : Prop := (∀ (l2 l3 : Int) (h : m_H), GI h → FR [(L + 2), (L + 3), (L + 4), (L + 5), (L + 6)] [(37, 1), (37, 2), (L, 7), (L, 8)] h0 h → 0 ≤ l2 → l2 ≤ 5 → 0 ≤ l3 → l3 ≤ 25 → 2 * (25 - l3) + (1) ≤ (n : Int) → m_Z oF M_X1_readThing 32 [some (mR 37), some (mR L), some (mI l2), some (mI l3)] [] h (m_QI (P_X1_readThing h0 L)))
set_option maxHeartbeats 4000000 in
set_option maxRecDepth 100000 in
theorem s_X1_readThing_32 (h0 : m_H) (L : Nat) (hL : isL L) (G0 : GI h0) (n : Nat) (ih : q_X1_readThing h0 L n) : ∀ (l2 l3 : Int) (h : m_H), GI h → FR [(L + 2), (L + 3), (L + 4), (L + 5), (L + 6)] [(37, 1), (37, 2), (L, 7), (L, 8)] h0 h → 0 ≤ l2 → l2 ≤ 5 → 0 ≤ l3 → l3 ≤ 25 → 2 * (25 - l3) + (1) ≤ ((n + 1 : Nat) : Int) → m_Z oF M_X1_readThing 32 [some (mR 37), some (mR L), some (mI l2), some (mI l3)] [] h (m_QI (P_X1_readThing h0 L)) := by
  intro l2 l3 h G R v0 v1 v2 v3 hr
  refine z_iload_n (M := M_X1_readThing) 32 dX1_readThing_32 rfl ?_
  refine z_bipush (M := M_X1_readThing) 33 dX1_readThing_33 ?_
  refine z_icmp_gt (M := M_X1_readThing) 35 dX1_readThing_35 66 rfl (fun c1 => ?_) (fun c1 => ?_)
  · refine z_iconst (M := M_X1_readThing) 66 dX1_readThing_66 ?_
    exact z_retZ (M := M_X1_readThing) 67 dX1_readThing_67 rfl (by omega) ⟨G, R, by omega, by omega⟩
  · refine z_aload_n (M := M_X1_readThing) 38 dX1_readThing_38 rfl ?_
    refine z_aload_n (M := M_X1_readThing) 39 dX1_readThing_39 rfl ?_
    refine z_iload_n (M := M_X1_readThing) 40 dX1_readThing_40 rfl ?_
    refine z_vI (M := M_X1_readThing) 41 dX1_readThing_41 t_X1_readMeasure l_X1_94 (m_rr_of rfl) (rest := []) (c_X1_readMeasure h L l2 hL G ⟨by omega, by omega⟩) o_37 rfl rfl rfl (Nat.le_of_ble_eq_true rfl) ⟨rfl, rfl⟩ (fun x2 h1 qx2 => ?_)
    obtain ⟨G1, S1, ax2, bx2⟩ := qx2
    have R1 := R.call S1 (by simp [fsub, fr, csB])
    refine z_if_ne (M := M_X1_readThing) 44 dX1_readThing_44 49 rfl (fun c3 => ?_) (fun c3 => ?_)
    · refine z_aload_n (M := M_X1_readThing) 49 dX1_readThing_49 rfl ?_
      refine z_ldcS (M := M_X1_readThing) 50 dX1_readThing_50 (i := 12) rfl rfl rfl ?_
      refine z_vI (M := M_X1_readThing) 52 dX1_readThing_52 t_X1_take l_X1_27 (m_rr_of rfl) (rest := []) (c_X1_take h1 12 (by decide) G1) o_37 rfl rfl rfl (Nat.le_of_ble_eq_true rfl) ⟨rfl, rfl⟩ (fun x4 h2 qx4 => ?_)
      obtain ⟨G2, S2, ax4, bx4⟩ := qx4
      have R2 := R1.call S2 (by simp [fsub, fr, csB])
      refine z_if_ne (M := M_X1_readThing) 55 dX1_readThing_55 60 rfl (fun c5 => ?_) (fun c5 => ?_)
      · refine z_iincN (M := M_X1_readThing) 60 dX1_readThing_60 (ls' := [some (mR 37), some (mR L), some (mI l2), some (mI (l3 + 1))]) (by decide) rfl (by (unfold m_32; decide)) (by omega) (by omega) rfl ?_
        refine z_goto (M := M_X1_readThing) 63 dX1_readThing_63 32 rfl ?_
        exact z_mask [true, true, true, true] rfl (ih l2 (l3 + 1) h2 G2 R2 (by omega) (by omega) (by omega) (by omega) (by omega))
      · refine z_iconst (M := M_X1_readThing) 58 dX1_readThing_58 ?_
        exact z_retZ (M := M_X1_readThing) 59 dX1_readThing_59 rfl (by omega) ⟨G2, R2, by omega, by omega⟩
    · refine z_iconst (M := M_X1_readThing) 47 dX1_readThing_47 ?_
      exact z_retZ (M := M_X1_readThing) 48 dX1_readThing_48 rfl (by omega) ⟨G1, R1, by omega, by omega⟩
theorem a_X1_readThing (h0 : m_H) (L : Nat) (hL : isL L) (G0 : GI h0) : ∀ n, q_X1_readThing h0 L n := by
  intro n
  induction n with
  | zero => unfold q_X1_readThing; intros; omega
  | succ n ih => exact s_X1_readThing_32 h0 L hL G0 n ih
set_option maxHeartbeats 4000000 in
set_option maxRecDepth 100000 in
theorem c_X1_readThing (h0 : m_H) (L : Nat) (hL : isL L) (G0 : GI h0) : m_CI M_X1_readThing [mR 37, mR L] h0 (P_X1_readThing h0 L) := by
  refine m_CI_of ⟨by decide, rfl, by simp [m_arg, m_isL, M_X1_readThing], ⟨rfl, rfl⟩, rfl, rfl⟩ (ls := [some (mR 37), some (mR L), none, none]) rfl ?_
  have ih := a_X1_readThing h0 L hL G0 58
  refine z_aload_n (M := M_X1_readThing) 0 dX1_readThing_0 rfl ?_
  refine z_iconst (M := M_X1_readThing) 1 dX1_readThing_1 ?_
  refine z_iconst (M := M_X1_readThing) 2 dX1_readThing_2 ?_
  refine z_vI (M := M_X1_readThing) 3 dX1_readThing_3 t_X1_takeNumber l_X1_53 (m_rr_of rfl) (rest := []) (c_X1_takeNumber h0 0 5 G0 ⟨by omega, by omega⟩ ⟨by omega, by omega⟩) o_37 rfl rfl rfl (Nat.le_of_ble_eq_true rfl) ⟨rfl, rfl⟩ (fun x1 h1 qx1 => ?_)
  obtain ⟨G1, S1, fx1_0, fx1_1, fx1_2⟩ := qx1
  have R1 := (FR.rf (cs := [(L + 2), (L + 3), (L + 4), (L + 5), (L + 6)]) (ss := [(37, 1), (37, 2), (L, 7), (L, 8)]) (h := h0)).call S1 (by simp [fsub, fr, csB])
  refine z_ok (fun ox1 _ _ => ?_)
  have ox1 := ox1.1; unfold m_ok m_32 at ox1
  refine z_istore_n (M := M_X1_readThing) 6 dX1_readThing_6 (ls' := [some (mR 37), some (mR L), some (mI x1), none]) (by decide) rfl ?_
  refine z_iload_n (M := M_X1_readThing) 7 dX1_readThing_7 rfl ?_
  refine z_iconst (M := M_X1_readThing) 8 dX1_readThing_8 ?_
  refine z_icmp_ne (M := M_X1_readThing) 9 dX1_readThing_9 14 rfl (fun c2 => ?_) (fun c2 => ?_)
  · refine z_aload_n (M := M_X1_readThing) 14 dX1_readThing_14 rfl ?_
    refine z_ldcS (M := M_X1_readThing) 15 dX1_readThing_15 (i := 5) rfl rfl rfl ?_
    refine z_vI (M := M_X1_readThing) 17 dX1_readThing_17 t_X1_take l_X1_27 (m_rr_of rfl) (rest := []) (c_X1_take h1 5 (by decide) G1) o_37 rfl rfl rfl (Nat.le_of_ble_eq_true rfl) ⟨rfl, rfl⟩ (fun x3 h2 qx3 => ?_)
    obtain ⟨G2, S2, ax3, bx3⟩ := qx3
    have R2 := R1.call S2 (by simp [fsub, fr, csB])
    refine z_if_eq (M := M_X1_readThing) 20 dX1_readThing_20 30 rfl (fun c4 => ?_) (fun c4 => ?_)
    · refine z_iconst (M := M_X1_readThing) 30 dX1_readThing_30 ?_
      refine z_istore_n (M := M_X1_readThing) 31 dX1_readThing_31 (ls' := [some (mR 37), some (mR L), some (mI x1), some (mI 0)]) (by decide) rfl ?_
      exact z_mask [true, true, true, true] rfl (ih x1 0 h2 G2 R2 (by omega) (by omega) (by omega) (by omega) (by omega))
    · refine z_aload_n (M := M_X1_readThing) 23 dX1_readThing_23 rfl ?_
      refine z_aload_n (M := M_X1_readThing) 24 dX1_readThing_24 rfl ?_
      refine z_iload_n (M := M_X1_readThing) 25 dX1_readThing_25 rfl ?_
      refine z_vI (M := M_X1_readThing) 26 dX1_readThing_26 t_X1_readCut l_X1_90 (m_rr_of rfl) (rest := []) (c_X1_readCut h2 L x1 hL G2 ⟨by omega, by omega⟩) o_37 rfl rfl rfl (Nat.le_of_ble_eq_true rfl) ⟨rfl, rfl⟩ (fun x5 h3 qx5 => ?_)
      obtain ⟨G3, S3, ax5, bx5⟩ := qx5
      have R3 := R2.call S3 (by simp [fsub, fr, csB])
      exact z_retZ (M := M_X1_readThing) 29 dX1_readThing_29 rfl (by omega) ⟨G3, R3, by omega, by omega⟩
  · refine z_iconst (M := M_X1_readThing) 12 dX1_readThing_12 ?_
    exact z_retZ (M := M_X1_readThing) 13 dX1_readThing_13 rfl (by omega) ⟨G1, R1, by omega, by omega⟩
abbrev P_X1_readShorter (h0 : m_H) (L : Nat) : Int → m_H → Prop := fun x h' => GI h' ∧ FR [] [(37, 1), (37, 2), (37, 3), (L, 9)] h0 h' ∧ 0 ≤ x ∧ x ≤ 1
set_option maxHeartbeats 4000000 in
set_option maxRecDepth 100000 in
theorem c_X1_readShorter (h0 : m_H) (L : Nat) (hL : isL L) (G0 : GI h0) : m_CI M_X1_readShorter [mR 37, mR L] h0 (P_X1_readShorter h0 L) := by
  refine m_CI_of ⟨by decide, rfl, by simp [m_arg, m_isL, M_X1_readShorter], ⟨rfl, rfl⟩, rfl, rfl⟩ (ls := [some (mR 37), some (mR L), none, none, none]) rfl ?_
  refine z_aload_n (M := M_X1_readShorter) 0 dX1_readShorter_0 rfl ?_
  refine z_getIG (M := M_X1_readShorter) 1 dX1_readShorter_1 f_X1_43 o_37 (by decide) (g_37_1 G0) (fun x1 ex1 ax1 bx1 => ?_)
  refine z_istore_n (M := M_X1_readShorter) 4 dX1_readShorter_4 (ls' := [some (mR 37), some (mR L), some (mI x1), none, none]) (by decide) rfl ?_
  refine z_aload_n (M := M_X1_readShorter) 5 dX1_readShorter_5 rfl ?_
  refine z_ldcS (M := M_X1_readShorter) 6 dX1_readShorter_6 (i := 13) rfl rfl rfl ?_
  refine z_vI (M := M_X1_readShorter) 8 dX1_readShorter_8 t_X1_take l_X1_27 (m_rr_of rfl) (rest := []) (c_X1_take h0 13 (by decide) G0) o_37 rfl rfl rfl (Nat.le_of_ble_eq_true rfl) ⟨rfl, rfl⟩ (fun x2 h1 qx2 => ?_)
  obtain ⟨G1, S1, ax2, bx2⟩ := qx2
  have R1 := (FR.rf (cs := []) (ss := [(37, 1), (37, 2), (37, 3), (L, 9)]) (h := h0)).call S1 (by simp [fsub, fr, csB])
  refine z_if_eq (M := M_X1_readShorter) 11 dX1_readShorter_11 23 rfl (fun c3 => ?_) (fun c3 => ?_)
  · refine z_iconst (M := M_X1_readShorter) 23 dX1_readShorter_23 ?_
    refine z_istore_n (M := M_X1_readShorter) 24 dX1_readShorter_24 (ls' := [some (mR 37), some (mR L), some (mI x1), some (mI (-1)), none]) (by decide) rfl ?_
    refine z_iload_n (M := M_X1_readShorter) 25 dX1_readShorter_25 rfl ?_
    refine z_iconst (M := M_X1_readShorter) 26 dX1_readShorter_26 ?_
    refine z_icmp_eq_T (M := M_X1_readShorter) 27 dX1_readShorter_27 47 rfl (by omega) ?_
    refine z_iconst (M := M_X1_readShorter) 47 dX1_readShorter_47 ?_
    exact z_retZ (M := M_X1_readShorter) 48 dX1_readShorter_48 rfl (by omega) ⟨G1, R1, by omega, by omega⟩
  · refine z_aload_n (M := M_X1_readShorter) 14 dX1_readShorter_14 rfl ?_
    refine z_iconst (M := M_X1_readShorter) 15 dX1_readShorter_15 ?_
    refine z_iconst (M := M_X1_readShorter) 16 dX1_readShorter_16 ?_
    refine z_vI (M := M_X1_readShorter) 17 dX1_readShorter_17 t_X1_takeNumber l_X1_53 (m_rr_of rfl) (rest := []) (c_X1_takeNumber h1 0 3 G1 ⟨by omega, by omega⟩ ⟨by omega, by omega⟩) o_37 rfl rfl rfl (Nat.le_of_ble_eq_true rfl) ⟨rfl, rfl⟩ (fun x4 h2 qx4 => ?_)
    obtain ⟨G2, S2, fx4_0, fx4_1, fx4_2⟩ := qx4
    have R2 := R1.call S2 (by simp [fsub, fr, csB])
    refine z_ok (fun ox4 _ _ => ?_)
    have ox4 := ox4.1; unfold m_ok m_32 at ox4
    refine z_goto (M := M_X1_readShorter) 20 dX1_readShorter_20 24 rfl ?_
    refine z_istore_n (M := M_X1_readShorter) 24 dX1_readShorter_24 (ls' := [some (mR 37), some (mR L), some (mI x1), some (mI x4), none]) (by decide) rfl ?_
    refine z_iload_n (M := M_X1_readShorter) 25 dX1_readShorter_25 rfl ?_
    refine z_iconst (M := M_X1_readShorter) 26 dX1_readShorter_26 ?_
    refine z_icmp_eq (M := M_X1_readShorter) 27 dX1_readShorter_27 47 rfl (fun c5 => ?_) (fun c5 => ?_)
    · refine z_iconst (M := M_X1_readShorter) 47 dX1_readShorter_47 ?_
      exact z_retZ (M := M_X1_readShorter) 48 dX1_readShorter_48 rfl (by omega) ⟨G2, R2, by omega, by omega⟩
    · refine z_aload_n (M := M_X1_readShorter) 30 dX1_readShorter_30 rfl ?_
      refine z_ldcS (M := M_X1_readShorter) 31 dX1_readShorter_31 (i := 14) rfl rfl rfl ?_
      refine z_vI (M := M_X1_readShorter) 33 dX1_readShorter_33 t_X1_take l_X1_27 (m_rr_of rfl) (rest := []) (c_X1_take h2 14 (by decide) G2) o_37 rfl rfl rfl (Nat.le_of_ble_eq_true rfl) ⟨rfl, rfl⟩ (fun x6 h3 qx6 => ?_)
      obtain ⟨G3, S3, ax6, bx6⟩ := qx6
      have R3 := R2.call S3 (by simp [fsub, fr, csB])
      refine z_if_eq (M := M_X1_readShorter) 36 dX1_readShorter_36 47 rfl (fun c7 => ?_) (fun c7 => ?_)
      · refine z_iconst (M := M_X1_readShorter) 47 dX1_readShorter_47 ?_
        exact z_retZ (M := M_X1_readShorter) 48 dX1_readShorter_48 rfl (by omega) ⟨G3, R3, by omega, by omega⟩
      · refine z_aload_n (M := M_X1_readShorter) 39 dX1_readShorter_39 rfl ?_
        refine z_vI (M := M_X1_readShorter) 40 dX1_readShorter_40 t_X1_value l_X1_72 (m_rr_of rfl) (rest := []) (c_X1_value h3 G3) o_37 rfl rfl rfl (Nat.le_of_ble_eq_true rfl) ⟨rfl, rfl⟩ (fun x8 h4 qx8 => ?_)
        obtain ⟨G4, S4, ax8, bx8⟩ := qx8
        have R4 := R3.call S4 (by simp [fsub, fr, csB])
        refine z_iload_n (M := M_X1_readShorter) 43 dX1_readShorter_43 rfl ?_
        refine z_icmp_ne (M := M_X1_readShorter) 44 dX1_readShorter_44 49 rfl (fun c9 => ?_) (fun c9 => ?_)
        · refine z_aload_n (M := M_X1_readShorter) 49 dX1_readShorter_49 rfl ?_
          refine z_iconst (M := M_X1_readShorter) 50 dX1_readShorter_50 ?_
          refine z_iconst (M := M_X1_readShorter) 51 dX1_readShorter_51 ?_
          refine z_vI (M := M_X1_readShorter) 52 dX1_readShorter_52 t_X1_takeNumber l_X1_53 (m_rr_of rfl) (rest := []) (c_X1_takeNumber h4 0 3 G4 ⟨by omega, by omega⟩ ⟨by omega, by omega⟩) o_37 rfl rfl rfl (Nat.le_of_ble_eq_true rfl) ⟨rfl, rfl⟩ (fun x10 h5 qx10 => ?_)
          obtain ⟨G5, S5, fx10_0, fx10_1, fx10_2⟩ := qx10
          have R5 := R4.call S5 (by simp [fsub, fr, csB])
          refine z_ok (fun ox10 _ _ => ?_)
          have ox10 := ox10.1; unfold m_ok m_32 at ox10
          refine z_istore (M := M_X1_readShorter) 55 dX1_readShorter_55 (ls' := [some (mR 37), some (mR L), some (mI x1), some (mI x4), some (mI x10)]) (by decide) rfl ?_
          refine z_iload (M := M_X1_readShorter) 57 dX1_readShorter_57 rfl ?_
          refine z_iconst (M := M_X1_readShorter) 59 dX1_readShorter_59 ?_
          refine z_icmp_ne (M := M_X1_readShorter) 60 dX1_readShorter_60 65 rfl (fun c11 => ?_) (fun c11 => ?_)
          · refine z_aload_n (M := M_X1_readShorter) 65 dX1_readShorter_65 rfl ?_
            refine z_iload_n (M := M_X1_readShorter) 66 dX1_readShorter_66 rfl ?_
            refine z_iload (M := M_X1_readShorter) 67 dX1_readShorter_67 rfl ?_
            refine z_vI (M := M_X1_readShorter) 69 dX1_readShorter_69 t_X4_isShorter l_X1_76 (m_rr_of rfl) (rest := []) (c_X4_isShorter h5 L x4 x10 hL G5) (oL hL) rfl rfl rfl (Nat.le_of_ble_eq_true rfl) ⟨rfl, rfl⟩ (fun x12 h6 qx12 => ?_)
            obtain ⟨G6, S6, ax12, bx12⟩ := qx12
            have R6 := R5.call S6 (by simp [fsub, fr, csB])
            refine z_if_eq (M := M_X1_readShorter) 72 dX1_readShorter_72 77 rfl (fun c13 => ?_) (fun c13 => ?_)
            · refine z_aload_n (M := M_X1_readShorter) 77 dX1_readShorter_77 rfl ?_
              refine z_vI (M := M_X1_readShorter) 78 dX1_readShorter_78 t_X4_hasRoomForShorter l_X1_80 (m_rr_of rfl) (rest := []) (c_X4_hasRoomForShorter h6 L hL G6) (oL hL) rfl rfl rfl (Nat.le_of_ble_eq_true rfl) ⟨rfl, rfl⟩ (fun x14 h7 qx14 => ?_)
              obtain ⟨G7, S7, ax14, bx14⟩ := qx14
              have R7 := R6.call S7 (by simp [fsub, fr, csB])
              refine z_if_ne (M := M_X1_readShorter) 81 dX1_readShorter_81 91 rfl (fun c15 => ?_) (fun c15 => ?_)
              · refine z_aload_n (M := M_X1_readShorter) 91 dX1_readShorter_91 rfl ?_
                refine z_iload_n (M := M_X1_readShorter) 92 dX1_readShorter_92 rfl ?_
                refine z_iload (M := M_X1_readShorter) 93 dX1_readShorter_93 rfl ?_
                refine z_vV (M := M_X1_readShorter) 95 dX1_readShorter_95 t_X4_addShorter l_X1_84 (m_rr_of rfl) (rest := []) (c_X4_addShorter h7 L x4 x10 hL G7 ⟨by omega, by omega⟩ ⟨by omega, by omega⟩) (oL hL) rfl rfl rfl (Nat.le_of_ble_eq_true rfl) ⟨rfl, rfl⟩ (fun h8 qx16 => ?_)
                obtain ⟨G8, S8⟩ := qx16
                have R8 := R7.call S8 (by simp [fsub, fr, csB])
                refine z_iconst (M := M_X1_readShorter) 98 dX1_readShorter_98 ?_
                exact z_retZ (M := M_X1_readShorter) 99 dX1_readShorter_99 rfl (by omega) ⟨G8, R8, by omega, by omega⟩
              · refine z_aload_n (M := M_X1_readShorter) 84 dX1_readShorter_84 rfl ?_
                refine z_iload_n (M := M_X1_readShorter) 85 dX1_readShorter_85 rfl ?_
                refine z_putIH (M := M_X1_readShorter) 86 dX1_readShorter_86 p_X1_15 o_37 rfl (u_37_3 G7) (R7.up (by simp [fr, csB])) (fun h9 E9 G9 R9 => ?_)
                refine z_iconst (M := M_X1_readShorter) 89 dX1_readShorter_89 ?_
                exact z_retZ (M := M_X1_readShorter) 90 dX1_readShorter_90 rfl (by omega) ⟨G9, R9, by omega, by omega⟩
            · refine z_iconst (M := M_X1_readShorter) 75 dX1_readShorter_75 ?_
              exact z_retZ (M := M_X1_readShorter) 76 dX1_readShorter_76 rfl (by omega) ⟨G6, R6, by omega, by omega⟩
          · refine z_iconst (M := M_X1_readShorter) 63 dX1_readShorter_63 ?_
            exact z_retZ (M := M_X1_readShorter) 64 dX1_readShorter_64 rfl (by omega) ⟨G5, R5, by omega, by omega⟩
        · refine z_iconst (M := M_X1_readShorter) 47 dX1_readShorter_47 ?_
          exact z_retZ (M := M_X1_readShorter) 48 dX1_readShorter_48 rfl (by omega) ⟨G4, R4, by omega, by omega⟩
abbrev P_X1_readWeeks (h0 : m_H) (L : Nat) : Int → m_H → Prop := fun x h' => GI h' ∧ FR [(L + 1)] [(37, 1), (37, 2)] h0 h' ∧ 0 ≤ x ∧ x ≤ 1
def q_X1_readWeeks (h0 : m_H) (L : Nat) (n : Nat) : Prop := (∀ (l3 l5 l6 : Int) (h : m_H), GI h → FR [(L + 1)] [(37, 1), (37, 2)] h0 h → 0 ≤ l3 → l3 ≤ 31 → (-1) ≤ l5 → l5 ≤ 3 → 0 ≤ l6 → l6 ≤ 32 → 2 * (32 - l6) + (1) ≤ (n : Int) → m_Z oF M_X1_readWeeks 93 [none, some (mR L), none, some (mI l3), none, some (mI l5), some (mI l6)] [] h (m_QI (P_X1_readWeeks h0 L)))
set_option maxHeartbeats 4000000 in
set_option maxRecDepth 100000 in
theorem s_X1_readWeeks_93 (h0 : m_H) (L : Nat) (hL : isL L) (G0 : GI h0) (n : Nat) (ih : q_X1_readWeeks h0 L n) : ∀ (l3 l5 l6 : Int) (h : m_H), GI h → FR [(L + 1)] [(37, 1), (37, 2)] h0 h → 0 ≤ l3 → l3 ≤ 31 → (-1) ≤ l5 → l5 ≤ 3 → 0 ≤ l6 → l6 ≤ 32 → 2 * (32 - l6) + (1) ≤ ((n + 1 : Nat) : Int) → m_Z oF M_X1_readWeeks 93 [none, some (mR L), none, some (mI l3), none, some (mI l5), some (mI l6)] [] h (m_QI (P_X1_readWeeks h0 L)) := by
  intro l3 l5 l6 h G R v0 v1 v2 v3 v4 v5 hr
  refine z_iload (M := M_X1_readWeeks) 93 dX1_readWeeks_93 rfl ?_
  refine z_iload_n (M := M_X1_readWeeks) 95 dX1_readWeeks_95 rfl ?_
  refine z_icmp_gt (M := M_X1_readWeeks) 96 dX1_readWeeks_96 114 rfl (fun c1 => ?_) (fun c1 => ?_)
  · refine z_iconst (M := M_X1_readWeeks) 114 dX1_readWeeks_114 ?_
    exact z_retZ (M := M_X1_readWeeks) 115 dX1_readWeeks_115 rfl (by omega) ⟨G, R, by omega, by omega⟩
  · refine z_aload_n (M := M_X1_readWeeks) 99 dX1_readWeeks_99 rfl ?_
    refine z_getR (M := M_X1_readWeeks) 100 dX1_readWeeks_100 f_X1_63 (oL hL) rfl (rL_0 hL G) ?_
    refine z_iload (M := M_X1_readWeeks) 103 dX1_readWeeks_103 rfl ?_
    refine z_iload (M := M_X1_readWeeks) 105 dX1_readWeeks_105 rfl ?_
    refine z_iastH (M := M_X1_readWeeks) 107 dX1_readWeeks_107 (oL_1 hL) (by omega) (by omega) (uL_1 hL G (by omega) (by omega)) (R.up (by simp [fr])) (fun h1 E1 G1 R1 => ?_)
    refine z_iincN (M := M_X1_readWeeks) 108 dX1_readWeeks_108 (ls' := [none, some (mR L), none, some (mI l3), none, some (mI l5), some (mI (l6 + 1))]) (by decide) rfl (by (unfold m_32; decide)) (by omega) (by omega) rfl ?_
    refine z_goto (M := M_X1_readWeeks) 111 dX1_readWeeks_111 93 rfl ?_
    exact z_mask [false, true, false, true, false, true, true] rfl (ih l3 l5 (l6 + 1) h1 G1 R1 (by omega) (by omega) (by omega) (by omega) (by omega) (by omega) (by omega))
theorem a_X1_readWeeks (h0 : m_H) (L : Nat) (hL : isL L) (G0 : GI h0) : ∀ n, q_X1_readWeeks h0 L n := by
  intro n
  induction n with
  | zero => unfold q_X1_readWeeks; intros; omega
  | succ n ih => exact s_X1_readWeeks_93 h0 L hL G0 n ih
set_option maxHeartbeats 4000000 in
set_option maxRecDepth 100000 in
theorem c_X1_readWeeks (h0 : m_H) (L : Nat) (hL : isL L) (G0 : GI h0) : m_CI M_X1_readWeeks [mR 37, mR L] h0 (P_X1_readWeeks h0 L) := by
  refine m_CI_of ⟨by decide, rfl, by simp [m_arg, m_isL, M_X1_readWeeks], ⟨rfl, rfl⟩, rfl, rfl⟩ (ls := [some (mR 37), some (mR L), none, none, none, none, none]) rfl ?_
  have ih := a_X1_readWeeks h0 L hL G0 72
  refine z_aload_n (M := M_X1_readWeeks) 0 dX1_readWeeks_0 rfl ?_
  refine z_iconst (M := M_X1_readWeeks) 1 dX1_readWeeks_1 ?_
  refine z_bipush (M := M_X1_readWeeks) 2 dX1_readWeeks_2 ?_
  refine z_vI (M := M_X1_readWeeks) 4 dX1_readWeeks_4 t_X1_takeNumber l_X1_53 (m_rr_of rfl) (rest := []) (c_X1_takeNumber h0 0 31 G0 ⟨by omega, by omega⟩ ⟨by omega, by omega⟩) o_37 rfl rfl rfl (Nat.le_of_ble_eq_true rfl) ⟨rfl, rfl⟩ (fun x1 h1 qx1 => ?_)
  obtain ⟨G1, S1, fx1_0, fx1_1, fx1_2⟩ := qx1
  have R1 := (FR.rf (cs := [(L + 1)]) (ss := [(37, 1), (37, 2)]) (h := h0)).call S1 (by simp [fsub, fr, csB])
  refine z_ok (fun ox1 _ _ => ?_)
  have ox1 := ox1.1; unfold m_ok m_32 at ox1
  refine z_istore_n (M := M_X1_readWeeks) 7 dX1_readWeeks_7 (ls' := [some (mR 37), some (mR L), some (mI x1), none, none, none, none]) (by decide) rfl ?_
  refine z_iload_n (M := M_X1_readWeeks) 8 dX1_readWeeks_8 rfl ?_
  refine z_iconst (M := M_X1_readWeeks) 9 dX1_readWeeks_9 ?_
  refine z_icmp_ne (M := M_X1_readWeeks) 10 dX1_readWeeks_10 15 rfl (fun c2 => ?_) (fun c2 => ?_)
  · refine z_aload_n (M := M_X1_readWeeks) 15 dX1_readWeeks_15 rfl ?_
    refine z_ldcS (M := M_X1_readWeeks) 16 dX1_readWeeks_16 (i := 1) rfl rfl rfl ?_
    refine z_vI (M := M_X1_readWeeks) 18 dX1_readWeeks_18 t_X1_take l_X1_27 (m_rr_of rfl) (rest := []) (c_X1_take h1 1 (by decide) G1) o_37 rfl rfl rfl (Nat.le_of_ble_eq_true rfl) ⟨rfl, rfl⟩ (fun x3 h2 qx3 => ?_)
    obtain ⟨G2, S2, ax3, bx3⟩ := qx3
    have R2 := R1.call S2 (by simp [fsub, fr, csB])
    refine z_if_eq (M := M_X1_readWeeks) 21 dX1_readWeeks_21 34 rfl (fun c4 => ?_) (fun c4 => ?_)
    · refine z_iload_n (M := M_X1_readWeeks) 34 dX1_readWeeks_34 rfl ?_
      refine z_istore_n (M := M_X1_readWeeks) 35 dX1_readWeeks_35 (ls' := [some (mR 37), some (mR L), some (mI x1), some (mI x1), none, none, none]) (by decide) rfl ?_
      refine z_iload_n (M := M_X1_readWeeks) 36 dX1_readWeeks_36 rfl ?_
      refine z_iconst (M := M_X1_readWeeks) 37 dX1_readWeeks_37 ?_
      refine z_icmp_eq_F (M := M_X1_readWeeks) 38 dX1_readWeeks_38 50 rfl (by omega) ?_
      refine z_aload_n (M := M_X1_readWeeks) 41 dX1_readWeeks_41 rfl ?_
      refine z_ldcS (M := M_X1_readWeeks) 42 dX1_readWeeks_42 (i := 2) rfl rfl rfl ?_
      refine z_vI (M := M_X1_readWeeks) 44 dX1_readWeeks_44 t_X1_take l_X1_27 (m_rr_of rfl) (rest := []) (c_X1_take h2 2 (by decide) G2) o_37 rfl rfl rfl (Nat.le_of_ble_eq_true rfl) ⟨rfl, rfl⟩ (fun x5 h3 qx5 => ?_)
      obtain ⟨G3, S3, ax5, bx5⟩ := qx5
      have R3 := R2.call S3 (by simp [fsub, fr, csB])
      refine z_if_ne (M := M_X1_readWeeks) 47 dX1_readWeeks_47 52 rfl (fun c6 => ?_) (fun c6 => ?_)
      · refine z_aload_n (M := M_X1_readWeeks) 52 dX1_readWeeks_52 rfl ?_
        refine z_ldcS (M := M_X1_readWeeks) 53 dX1_readWeeks_53 (i := 3) rfl rfl rfl ?_
        refine z_vI (M := M_X1_readWeeks) 55 dX1_readWeeks_55 t_X1_take l_X1_27 (m_rr_of rfl) (rest := []) (c_X1_take h3 3 (by decide) G3) o_37 rfl rfl rfl (Nat.le_of_ble_eq_true rfl) ⟨rfl, rfl⟩ (fun x7 h4 qx7 => ?_)
        obtain ⟨G4, S4, ax7, bx7⟩ := qx7
        have R4 := R3.call S4 (by simp [fsub, fr, csB])
        refine z_istore (M := M_X1_readWeeks) 58 dX1_readWeeks_58 (ls' := [some (mR 37), some (mR L), some (mI x1), some (mI x1), some (mI x7), none, none]) (by decide) rfl ?_
        refine z_iload (M := M_X1_readWeeks) 60 dX1_readWeeks_60 rfl ?_
        refine z_if_eq (M := M_X1_readWeeks) 62 dX1_readWeeks_62 69 rfl (fun c8 => ?_) (fun c8 => ?_)
        · refine z_aload_n (M := M_X1_readWeeks) 69 dX1_readWeeks_69 rfl ?_
          refine z_iconst (M := M_X1_readWeeks) 70 dX1_readWeeks_70 ?_
          refine z_iconst (M := M_X1_readWeeks) 71 dX1_readWeeks_71 ?_
          refine z_vI (M := M_X1_readWeeks) 72 dX1_readWeeks_72 t_X1_takeNumber l_X1_53 (m_rr_of rfl) (rest := []) (c_X1_takeNumber h4 0 3 G4 ⟨by omega, by omega⟩ ⟨by omega, by omega⟩) o_37 rfl rfl rfl (Nat.le_of_ble_eq_true rfl) ⟨rfl, rfl⟩ (fun x9 h5 qx9 => ?_)
          obtain ⟨G5, S5, fx9_0, fx9_1, fx9_2⟩ := qx9
          have R5 := R4.call S5 (by simp [fsub, fr, csB])
          refine z_ok (fun ox9 _ _ => ?_)
          have ox9 := ox9.1; unfold m_ok m_32 at ox9
          refine z_istore (M := M_X1_readWeeks) 75 dX1_readWeeks_75 (ls' := [some (mR 37), some (mR L), some (mI x1), some (mI x1), some (mI x7), some (mI x9), none]) (by decide) rfl ?_
          refine z_iload (M := M_X1_readWeeks) 77 dX1_readWeeks_77 rfl ?_
          refine z_iconst (M := M_X1_readWeeks) 79 dX1_readWeeks_79 ?_
          refine z_icmp_ne (M := M_X1_readWeeks) 80 dX1_readWeeks_80 90 rfl (fun c10 => ?_) (fun c10 => ?_)
          · refine z_iload_n (M := M_X1_readWeeks) 90 dX1_readWeeks_90 rfl ?_
            refine z_istore (M := M_X1_readWeeks) 91 dX1_readWeeks_91 (ls' := [some (mR 37), some (mR L), some (mI x1), some (mI x1), some (mI x7), some (mI x9), some (mI x1)]) (by decide) rfl ?_
            exact z_mask [false, true, false, true, false, true, true] rfl (ih x1 x9 x1 h5 G5 R5 (by omega) (by omega) (by omega) (by omega) (by omega) (by omega) (by omega))
          · refine z_iload (M := M_X1_readWeeks) 83 dX1_readWeeks_83 rfl ?_
            refine z_if_ne_F (M := M_X1_readWeeks) 85 dX1_readWeeks_85 90 rfl (by omega) ?_
            refine z_iconst (M := M_X1_readWeeks) 88 dX1_readWeeks_88 ?_
            exact z_retZ (M := M_X1_readWeeks) 89 dX1_readWeeks_89 rfl (by omega) ⟨G5, R5, by omega, by omega⟩
        · refine z_iconst (M := M_X1_readWeeks) 65 dX1_readWeeks_65 ?_
          refine z_goto (M := M_X1_readWeeks) 66 dX1_readWeeks_66 75 rfl ?_
          refine z_istore (M := M_X1_readWeeks) 75 dX1_readWeeks_75 (ls' := [some (mR 37), some (mR L), some (mI x1), some (mI x1), some (mI x7), some (mI (-1)), none]) (by decide) rfl ?_
          refine z_iload (M := M_X1_readWeeks) 77 dX1_readWeeks_77 rfl ?_
          refine z_iconst (M := M_X1_readWeeks) 79 dX1_readWeeks_79 ?_
          refine z_icmp_ne_F (M := M_X1_readWeeks) 80 dX1_readWeeks_80 90 rfl (by omega) ?_
          refine z_iload (M := M_X1_readWeeks) 83 dX1_readWeeks_83 rfl ?_
          refine z_if_ne_T (M := M_X1_readWeeks) 85 dX1_readWeeks_85 90 rfl (by omega) ?_
          refine z_iload_n (M := M_X1_readWeeks) 90 dX1_readWeeks_90 rfl ?_
          refine z_istore (M := M_X1_readWeeks) 91 dX1_readWeeks_91 (ls' := [some (mR 37), some (mR L), some (mI x1), some (mI x1), some (mI x7), some (mI (-1)), some (mI x1)]) (by decide) rfl ?_
          exact z_mask [false, true, false, true, false, true, true] rfl (ih x1 (-1) x1 h4 G4 R4 (by omega) (by omega) (by omega) (by omega) (by omega) (by omega) (by omega))
      · refine z_iconst (M := M_X1_readWeeks) 50 dX1_readWeeks_50 ?_
        exact z_retZ (M := M_X1_readWeeks) 51 dX1_readWeeks_51 rfl (by omega) ⟨G3, R3, by omega, by omega⟩
    · refine z_aload_n (M := M_X1_readWeeks) 24 dX1_readWeeks_24 rfl ?_
      refine z_iload_n (M := M_X1_readWeeks) 25 dX1_readWeeks_25 rfl ?_
      refine z_bipush (M := M_X1_readWeeks) 26 dX1_readWeeks_26 ?_
      refine z_vI (M := M_X1_readWeeks) 28 dX1_readWeeks_28 t_X1_takeNumber l_X1_53 (m_rr_of rfl) (rest := []) (c_X1_takeNumber h2 x1 31 G2 ⟨by omega, by omega⟩ ⟨by omega, by omega⟩) o_37 rfl rfl rfl (Nat.le_of_ble_eq_true rfl) ⟨rfl, rfl⟩ (fun x11 h6 qx11 => ?_)
      obtain ⟨G6, S6, fx11_0, fx11_1, fx11_2⟩ := qx11
      have R6 := R2.call S6 (by simp [fsub, fr, csB])
      refine z_ok (fun ox11 _ _ => ?_)
      have ox11 := ox11.1; unfold m_ok m_32 at ox11
      refine z_goto (M := M_X1_readWeeks) 31 dX1_readWeeks_31 35 rfl ?_
      refine z_istore_n (M := M_X1_readWeeks) 35 dX1_readWeeks_35 (ls' := [some (mR 37), some (mR L), some (mI x1), some (mI x11), none, none, none]) (by decide) rfl ?_
      refine z_iload_n (M := M_X1_readWeeks) 36 dX1_readWeeks_36 rfl ?_
      refine z_iconst (M := M_X1_readWeeks) 37 dX1_readWeeks_37 ?_
      refine z_icmp_eq (M := M_X1_readWeeks) 38 dX1_readWeeks_38 50 rfl (fun c12 => ?_) (fun c12 => ?_)
      · refine z_iconst (M := M_X1_readWeeks) 50 dX1_readWeeks_50 ?_
        exact z_retZ (M := M_X1_readWeeks) 51 dX1_readWeeks_51 rfl (by omega) ⟨G6, R6, by omega, by omega⟩
      · refine z_aload_n (M := M_X1_readWeeks) 41 dX1_readWeeks_41 rfl ?_
        refine z_ldcS (M := M_X1_readWeeks) 42 dX1_readWeeks_42 (i := 2) rfl rfl rfl ?_
        refine z_vI (M := M_X1_readWeeks) 44 dX1_readWeeks_44 t_X1_take l_X1_27 (m_rr_of rfl) (rest := []) (c_X1_take h6 2 (by decide) G6) o_37 rfl rfl rfl (Nat.le_of_ble_eq_true rfl) ⟨rfl, rfl⟩ (fun x13 h7 qx13 => ?_)
        obtain ⟨G7, S7, ax13, bx13⟩ := qx13
        have R7 := R6.call S7 (by simp [fsub, fr, csB])
        refine z_if_ne (M := M_X1_readWeeks) 47 dX1_readWeeks_47 52 rfl (fun c14 => ?_) (fun c14 => ?_)
        · refine z_aload_n (M := M_X1_readWeeks) 52 dX1_readWeeks_52 rfl ?_
          refine z_ldcS (M := M_X1_readWeeks) 53 dX1_readWeeks_53 (i := 3) rfl rfl rfl ?_
          refine z_vI (M := M_X1_readWeeks) 55 dX1_readWeeks_55 t_X1_take l_X1_27 (m_rr_of rfl) (rest := []) (c_X1_take h7 3 (by decide) G7) o_37 rfl rfl rfl (Nat.le_of_ble_eq_true rfl) ⟨rfl, rfl⟩ (fun x15 h8 qx15 => ?_)
          obtain ⟨G8, S8, ax15, bx15⟩ := qx15
          have R8 := R7.call S8 (by simp [fsub, fr, csB])
          refine z_istore (M := M_X1_readWeeks) 58 dX1_readWeeks_58 (ls' := [some (mR 37), some (mR L), some (mI x1), some (mI x11), some (mI x15), none, none]) (by decide) rfl ?_
          refine z_iload (M := M_X1_readWeeks) 60 dX1_readWeeks_60 rfl ?_
          refine z_if_eq (M := M_X1_readWeeks) 62 dX1_readWeeks_62 69 rfl (fun c16 => ?_) (fun c16 => ?_)
          · refine z_aload_n (M := M_X1_readWeeks) 69 dX1_readWeeks_69 rfl ?_
            refine z_iconst (M := M_X1_readWeeks) 70 dX1_readWeeks_70 ?_
            refine z_iconst (M := M_X1_readWeeks) 71 dX1_readWeeks_71 ?_
            refine z_vI (M := M_X1_readWeeks) 72 dX1_readWeeks_72 t_X1_takeNumber l_X1_53 (m_rr_of rfl) (rest := []) (c_X1_takeNumber h8 0 3 G8 ⟨by omega, by omega⟩ ⟨by omega, by omega⟩) o_37 rfl rfl rfl (Nat.le_of_ble_eq_true rfl) ⟨rfl, rfl⟩ (fun x17 h9 qx17 => ?_)
            obtain ⟨G9, S9, fx17_0, fx17_1, fx17_2⟩ := qx17
            have R9 := R8.call S9 (by simp [fsub, fr, csB])
            refine z_ok (fun ox17 _ _ => ?_)
            have ox17 := ox17.1; unfold m_ok m_32 at ox17
            refine z_istore (M := M_X1_readWeeks) 75 dX1_readWeeks_75 (ls' := [some (mR 37), some (mR L), some (mI x1), some (mI x11), some (mI x15), some (mI x17), none]) (by decide) rfl ?_
            refine z_iload (M := M_X1_readWeeks) 77 dX1_readWeeks_77 rfl ?_
            refine z_iconst (M := M_X1_readWeeks) 79 dX1_readWeeks_79 ?_
            refine z_icmp_ne (M := M_X1_readWeeks) 80 dX1_readWeeks_80 90 rfl (fun c18 => ?_) (fun c18 => ?_)
            · refine z_iload_n (M := M_X1_readWeeks) 90 dX1_readWeeks_90 rfl ?_
              refine z_istore (M := M_X1_readWeeks) 91 dX1_readWeeks_91 (ls' := [some (mR 37), some (mR L), some (mI x1), some (mI x11), some (mI x15), some (mI x17), some (mI x1)]) (by decide) rfl ?_
              exact z_mask [false, true, false, true, false, true, true] rfl (ih x11 x17 x1 h9 G9 R9 (by omega) (by omega) (by omega) (by omega) (by omega) (by omega) (by omega))
            · refine z_iload (M := M_X1_readWeeks) 83 dX1_readWeeks_83 rfl ?_
              refine z_if_ne_F (M := M_X1_readWeeks) 85 dX1_readWeeks_85 90 rfl (by omega) ?_
              refine z_iconst (M := M_X1_readWeeks) 88 dX1_readWeeks_88 ?_
              exact z_retZ (M := M_X1_readWeeks) 89 dX1_readWeeks_89 rfl (by omega) ⟨G9, R9, by omega, by omega⟩
          · refine z_iconst (M := M_X1_readWeeks) 65 dX1_readWeeks_65 ?_
            refine z_goto (M := M_X1_readWeeks) 66 dX1_readWeeks_66 75 rfl ?_
            refine z_istore (M := M_X1_readWeeks) 75 dX1_readWeeks_75 (ls' := [some (mR 37), some (mR L), some (mI x1), some (mI x11), some (mI x15), some (mI (-1)), none]) (by decide) rfl ?_
            refine z_iload (M := M_X1_readWeeks) 77 dX1_readWeeks_77 rfl ?_
            refine z_iconst (M := M_X1_readWeeks) 79 dX1_readWeeks_79 ?_
            refine z_icmp_ne_F (M := M_X1_readWeeks) 80 dX1_readWeeks_80 90 rfl (by omega) ?_
            refine z_iload (M := M_X1_readWeeks) 83 dX1_readWeeks_83 rfl ?_
            refine z_if_ne_T (M := M_X1_readWeeks) 85 dX1_readWeeks_85 90 rfl (by omega) ?_
            refine z_iload_n (M := M_X1_readWeeks) 90 dX1_readWeeks_90 rfl ?_
            refine z_istore (M := M_X1_readWeeks) 91 dX1_readWeeks_91 (ls' := [some (mR 37), some (mR L), some (mI x1), some (mI x11), some (mI x15), some (mI (-1)), some (mI x1)]) (by decide) rfl ?_
            exact z_mask [false, true, false, true, false, true, true] rfl (ih x11 (-1) x1 h8 G8 R8 (by omega) (by omega) (by omega) (by omega) (by omega) (by omega) (by omega))
        · refine z_iconst (M := M_X1_readWeeks) 50 dX1_readWeeks_50 ?_
          exact z_retZ (M := M_X1_readWeeks) 51 dX1_readWeeks_51 rfl (by omega) ⟨G7, R7, by omega, by omega⟩
  · refine z_iconst (M := M_X1_readWeeks) 13 dX1_readWeeks_13 ?_
    exact z_retZ (M := M_X1_readWeeks) 14 dX1_readWeeks_14 rfl (by omega) ⟨G1, R1, by omega, by omega⟩
abbrev P_X1_readOnto (h0 : m_H) (L : Nat) : Int → m_H → Prop := fun x h' => GI h' ∧ FR [(L + 1), (L + 2), (L + 3), (L + 4), (L + 5), (L + 6)] [(37, 1), (37, 2), (37, 3), (L, 7), (L, 8), (L, 9)] h0 h' ∧ (-1) ≤ x ∧ x ≤ 400
def q_X1_readOnto (h0 : m_H) (L : Nat) (n : Nat) : Prop := (∀ (l2 : Int) (h : m_H), GI h → FR [(L + 1), (L + 2), (L + 3), (L + 4), (L + 5), (L + 6)] [(37, 1), (37, 2), (37, 3), (L, 7), (L, 8), (L, 9)] h0 h → 1 ≤ l2 → l2 ≤ 401 → 2 * (401 - l2) + (2) ≤ (n : Int) → m_Z oF M_X1_readOnto 16 [some (mR 37), some (mR L), some (mI l2), none] [] h (m_QI (P_X1_readOnto h0 L))) ∧ (∀ (h : m_H), GI h → FR [(L + 1), (L + 2), (L + 3), (L + 4), (L + 5), (L + 6)] [(37, 1), (37, 2), (37, 3), (L, 7), (L, 8), (L, 9)] h0 h → (1) ≤ (n : Int) → m_Z oF M_X1_readOnto 107 [some (mR 37), none, none, none] [] h (m_QI (P_X1_readOnto h0 L)))
set_option maxHeartbeats 4000000 in
set_option maxRecDepth 100000 in
theorem s_X1_readOnto_16 (h0 : m_H) (L : Nat) (hL : isL L) (G0 : GI h0) (n : Nat) (ih : q_X1_readOnto h0 L n) : ∀ (l2 : Int) (h : m_H), GI h → FR [(L + 1), (L + 2), (L + 3), (L + 4), (L + 5), (L + 6)] [(37, 1), (37, 2), (37, 3), (L, 7), (L, 8), (L, 9)] h0 h → 1 ≤ l2 → l2 ≤ 401 → 2 * (401 - l2) + (2) ≤ ((n + 1 : Nat) : Int) → m_Z oF M_X1_readOnto 16 [some (mR 37), some (mR L), some (mI l2), none] [] h (m_QI (P_X1_readOnto h0 L)) := by
  intro l2 h G R v0 v1 hr
  refine z_iload_n (M := M_X1_readOnto) 16 dX1_readOnto_16 rfl ?_
  refine z_sipush (M := M_X1_readOnto) 17 dX1_readOnto_17 ?_
  refine z_icmp_gt (M := M_X1_readOnto) 20 dX1_readOnto_20 107 rfl (fun c1 => ?_) (fun c1 => ?_)
  · exact z_mask [true, false, false, false] rfl (ih.2 h G R (by omega))
  · refine z_aload_n (M := M_X1_readOnto) 23 dX1_readOnto_23 rfl ?_
    refine z_ldcS (M := M_X1_readOnto) 24 dX1_readOnto_24 (i := 0) rfl rfl rfl ?_
    refine z_vI (M := M_X1_readOnto) 26 dX1_readOnto_26 t_X1_take l_X1_27 (m_rr_of rfl) (rest := []) (c_X1_take h 0 (by decide) G) o_37 rfl rfl rfl (Nat.le_of_ble_eq_true rfl) ⟨rfl, rfl⟩ (fun x2 h1 qx2 => ?_)
    obtain ⟨G1, S1, ax2, bx2⟩ := qx2
    have R1 := R.call S1 (by simp [fsub, fr, csB])
    refine z_if_eq (M := M_X1_readOnto) 29 dX1_readOnto_29 41 rfl (fun c3 => ?_) (fun c3 => ?_)
    · refine z_aload_n (M := M_X1_readOnto) 41 dX1_readOnto_41 rfl ?_
      refine z_ldcS (M := M_X1_readOnto) 42 dX1_readOnto_42 (i := 4) rfl rfl rfl ?_
      refine z_vI (M := M_X1_readOnto) 44 dX1_readOnto_44 t_X1_take l_X1_27 (m_rr_of rfl) (rest := []) (c_X1_take h1 4 (by decide) G1) o_37 rfl rfl rfl (Nat.le_of_ble_eq_true rfl) ⟨rfl, rfl⟩ (fun x4 h2 qx4 => ?_)
      obtain ⟨G2, S2, ax4, bx4⟩ := qx4
      have R2 := R1.call S2 (by simp [fsub, fr, csB])
      refine z_if_eq (M := M_X1_readOnto) 47 dX1_readOnto_47 59 rfl (fun c5 => ?_) (fun c5 => ?_)
      · refine z_aload_n (M := M_X1_readOnto) 59 dX1_readOnto_59 rfl ?_
        refine z_aload_n (M := M_X1_readOnto) 60 dX1_readOnto_60 rfl ?_
        refine z_vI (M := M_X1_readOnto) 61 dX1_readOnto_61 t_X1_readShorter l_X1_40 (m_rr_of rfl) (rest := []) (c_X1_readShorter h2 L hL G2) o_37 rfl rfl rfl (Nat.le_of_ble_eq_true rfl) ⟨rfl, rfl⟩ (fun x6 h3 qx6 => ?_)
        obtain ⟨G3, S3, ax6, bx6⟩ := qx6
        have R3 := R2.call S3 (by simp [fsub, fr, csB])
        refine z_istore_n (M := M_X1_readOnto) 64 dX1_readOnto_64 (ls' := [some (mR 37), some (mR L), some (mI l2), some (mI x6)]) (by decide) rfl ?_
        refine z_iload_n (M := M_X1_readOnto) 65 dX1_readOnto_65 rfl ?_
        refine z_if_eq (M := M_X1_readOnto) 66 dX1_readOnto_66 85 rfl (fun c7 => ?_) (fun c7 => ?_)
        · refine z_iload_n (M := M_X1_readOnto) 85 dX1_readOnto_85 rfl ?_
          refine z_if_eq_T (M := M_X1_readOnto) 86 dX1_readOnto_86 107 rfl (by omega) ?_
          exact z_mask [true, false, false, false] rfl (ih.2 h3 G3 R3 (by omega))
        · refine z_aload_n (M := M_X1_readOnto) 69 dX1_readOnto_69 rfl ?_
          refine z_getIG (M := M_X1_readOnto) 70 dX1_readOnto_70 f_X1_43 o_37 (by decide) (g_37_1 G3) (fun x8 ex8 ax8 bx8 => ?_)
          refine z_aload_n (M := M_X1_readOnto) 73 dX1_readOnto_73 rfl ?_
          refine z_getR (M := M_X1_readOnto) 74 dX1_readOnto_74 f_X1_9 o_37 rfl (g_37_0 G3) ?_
          refine z_getIG (M := M_X1_readOnto) 77 dX1_readOnto_77 f_X1_46 o_35 (by decide) (g_35_1 G3) (fun x9 ex9 ax9 bx9 => ?_)
          refine z_icmp_lt (M := M_X1_readOnto) 80 dX1_readOnto_80 85 rfl (fun c10 => ?_) (fun c10 => ?_)
          · refine z_iload_n (M := M_X1_readOnto) 85 dX1_readOnto_85 rfl ?_
            refine z_if_eq_F (M := M_X1_readOnto) 86 dX1_readOnto_86 107 rfl (by omega) ?_
            refine z_aload_n (M := M_X1_readOnto) 89 dX1_readOnto_89 rfl ?_
            refine z_ldcS (M := M_X1_readOnto) 90 dX1_readOnto_90 (i := 15) rfl rfl rfl ?_
            refine z_vI (M := M_X1_readOnto) 92 dX1_readOnto_92 t_X1_take l_X1_27 (m_rr_of rfl) (rest := []) (c_X1_take h3 15 (by decide) G3) o_37 rfl rfl rfl (Nat.le_of_ble_eq_true rfl) ⟨rfl, rfl⟩ (fun x11 h4 qx11 => ?_)
            obtain ⟨G4, S4, ax11, bx11⟩ := qx11
            have R4 := R3.call S4 (by simp [fsub, fr, csB])
            refine z_if_ne (M := M_X1_readOnto) 95 dX1_readOnto_95 101 rfl (fun c12 => ?_) (fun c12 => ?_)
            · refine z_iincN (M := M_X1_readOnto) 101 dX1_readOnto_101 (ls' := [some (mR 37), some (mR L), some (mI (l2 + 1)), some (mI x6)]) (by decide) rfl (by (unfold m_32; decide)) (by omega) (by omega) rfl ?_
              refine z_goto (M := M_X1_readOnto) 104 dX1_readOnto_104 16 rfl ?_
              exact z_mask [true, true, true, false] rfl (ih.1 (l2 + 1) h4 G4 R4 (by omega) (by omega) (by omega))
            · refine z_goto (M := M_X1_readOnto) 98 dX1_readOnto_98 107 rfl ?_
              exact z_mask [true, false, false, false] rfl (ih.2 h4 G4 R4 (by omega))
          · refine z_iload_n (M := M_X1_readOnto) 83 dX1_readOnto_83 rfl ?_
            exact z_retI (M := M_X1_readOnto) 84 dX1_readOnto_84 rfl ⟨G3, R3, by omega, by omega⟩
      · refine z_aload_n (M := M_X1_readOnto) 50 dX1_readOnto_50 rfl ?_
        refine z_aload_n (M := M_X1_readOnto) 51 dX1_readOnto_51 rfl ?_
        refine z_vI (M := M_X1_readOnto) 52 dX1_readOnto_52 t_X1_readThing l_X1_37 (m_rr_of rfl) (rest := []) (c_X1_readThing h2 L hL G2) o_37 rfl rfl rfl (Nat.le_of_ble_eq_true rfl) ⟨rfl, rfl⟩ (fun x13 h5 qx13 => ?_)
        obtain ⟨G5, S5, ax13, bx13⟩ := qx13
        have R5 := R2.call S5 (by simp [fsub, fr, csB])
        refine z_istore_n (M := M_X1_readOnto) 55 dX1_readOnto_55 (ls' := [some (mR 37), some (mR L), some (mI l2), some (mI x13)]) (by decide) rfl ?_
        refine z_goto (M := M_X1_readOnto) 56 dX1_readOnto_56 65 rfl ?_
        refine z_iload_n (M := M_X1_readOnto) 65 dX1_readOnto_65 rfl ?_
        refine z_if_eq (M := M_X1_readOnto) 66 dX1_readOnto_66 85 rfl (fun c14 => ?_) (fun c14 => ?_)
        · refine z_iload_n (M := M_X1_readOnto) 85 dX1_readOnto_85 rfl ?_
          refine z_if_eq_T (M := M_X1_readOnto) 86 dX1_readOnto_86 107 rfl (by omega) ?_
          exact z_mask [true, false, false, false] rfl (ih.2 h5 G5 R5 (by omega))
        · refine z_aload_n (M := M_X1_readOnto) 69 dX1_readOnto_69 rfl ?_
          refine z_getIG (M := M_X1_readOnto) 70 dX1_readOnto_70 f_X1_43 o_37 (by decide) (g_37_1 G5) (fun x15 ex15 ax15 bx15 => ?_)
          refine z_aload_n (M := M_X1_readOnto) 73 dX1_readOnto_73 rfl ?_
          refine z_getR (M := M_X1_readOnto) 74 dX1_readOnto_74 f_X1_9 o_37 rfl (g_37_0 G5) ?_
          refine z_getIG (M := M_X1_readOnto) 77 dX1_readOnto_77 f_X1_46 o_35 (by decide) (g_35_1 G5) (fun x16 ex16 ax16 bx16 => ?_)
          refine z_icmp_lt (M := M_X1_readOnto) 80 dX1_readOnto_80 85 rfl (fun c17 => ?_) (fun c17 => ?_)
          · refine z_iload_n (M := M_X1_readOnto) 85 dX1_readOnto_85 rfl ?_
            refine z_if_eq_F (M := M_X1_readOnto) 86 dX1_readOnto_86 107 rfl (by omega) ?_
            refine z_aload_n (M := M_X1_readOnto) 89 dX1_readOnto_89 rfl ?_
            refine z_ldcS (M := M_X1_readOnto) 90 dX1_readOnto_90 (i := 15) rfl rfl rfl ?_
            refine z_vI (M := M_X1_readOnto) 92 dX1_readOnto_92 t_X1_take l_X1_27 (m_rr_of rfl) (rest := []) (c_X1_take h5 15 (by decide) G5) o_37 rfl rfl rfl (Nat.le_of_ble_eq_true rfl) ⟨rfl, rfl⟩ (fun x18 h6 qx18 => ?_)
            obtain ⟨G6, S6, ax18, bx18⟩ := qx18
            have R6 := R5.call S6 (by simp [fsub, fr, csB])
            refine z_if_ne (M := M_X1_readOnto) 95 dX1_readOnto_95 101 rfl (fun c19 => ?_) (fun c19 => ?_)
            · refine z_iincN (M := M_X1_readOnto) 101 dX1_readOnto_101 (ls' := [some (mR 37), some (mR L), some (mI (l2 + 1)), some (mI x13)]) (by decide) rfl (by (unfold m_32; decide)) (by omega) (by omega) rfl ?_
              refine z_goto (M := M_X1_readOnto) 104 dX1_readOnto_104 16 rfl ?_
              exact z_mask [true, true, true, false] rfl (ih.1 (l2 + 1) h6 G6 R6 (by omega) (by omega) (by omega))
            · refine z_goto (M := M_X1_readOnto) 98 dX1_readOnto_98 107 rfl ?_
              exact z_mask [true, false, false, false] rfl (ih.2 h6 G6 R6 (by omega))
          · refine z_iload_n (M := M_X1_readOnto) 83 dX1_readOnto_83 rfl ?_
            exact z_retI (M := M_X1_readOnto) 84 dX1_readOnto_84 rfl ⟨G5, R5, by omega, by omega⟩
    · refine z_aload_n (M := M_X1_readOnto) 32 dX1_readOnto_32 rfl ?_
      refine z_aload_n (M := M_X1_readOnto) 33 dX1_readOnto_33 rfl ?_
      refine z_vI (M := M_X1_readOnto) 34 dX1_readOnto_34 t_X1_readWeeks l_X1_31 (m_rr_of rfl) (rest := []) (c_X1_readWeeks h1 L hL G1) o_37 rfl rfl rfl (Nat.le_of_ble_eq_true rfl) ⟨rfl, rfl⟩ (fun x20 h7 qx20 => ?_)
      obtain ⟨G7, S7, ax20, bx20⟩ := qx20
      have R7 := R1.call S7 (by simp [fsub, fr, csB])
      refine z_istore_n (M := M_X1_readOnto) 37 dX1_readOnto_37 (ls' := [some (mR 37), some (mR L), some (mI l2), some (mI x20)]) (by decide) rfl ?_
      refine z_goto (M := M_X1_readOnto) 38 dX1_readOnto_38 65 rfl ?_
      refine z_iload_n (M := M_X1_readOnto) 65 dX1_readOnto_65 rfl ?_
      refine z_if_eq (M := M_X1_readOnto) 66 dX1_readOnto_66 85 rfl (fun c21 => ?_) (fun c21 => ?_)
      · refine z_iload_n (M := M_X1_readOnto) 85 dX1_readOnto_85 rfl ?_
        refine z_if_eq_T (M := M_X1_readOnto) 86 dX1_readOnto_86 107 rfl (by omega) ?_
        exact z_mask [true, false, false, false] rfl (ih.2 h7 G7 R7 (by omega))
      · refine z_aload_n (M := M_X1_readOnto) 69 dX1_readOnto_69 rfl ?_
        refine z_getIG (M := M_X1_readOnto) 70 dX1_readOnto_70 f_X1_43 o_37 (by decide) (g_37_1 G7) (fun x22 ex22 ax22 bx22 => ?_)
        refine z_aload_n (M := M_X1_readOnto) 73 dX1_readOnto_73 rfl ?_
        refine z_getR (M := M_X1_readOnto) 74 dX1_readOnto_74 f_X1_9 o_37 rfl (g_37_0 G7) ?_
        refine z_getIG (M := M_X1_readOnto) 77 dX1_readOnto_77 f_X1_46 o_35 (by decide) (g_35_1 G7) (fun x23 ex23 ax23 bx23 => ?_)
        refine z_icmp_lt (M := M_X1_readOnto) 80 dX1_readOnto_80 85 rfl (fun c24 => ?_) (fun c24 => ?_)
        · refine z_iload_n (M := M_X1_readOnto) 85 dX1_readOnto_85 rfl ?_
          refine z_if_eq_F (M := M_X1_readOnto) 86 dX1_readOnto_86 107 rfl (by omega) ?_
          refine z_aload_n (M := M_X1_readOnto) 89 dX1_readOnto_89 rfl ?_
          refine z_ldcS (M := M_X1_readOnto) 90 dX1_readOnto_90 (i := 15) rfl rfl rfl ?_
          refine z_vI (M := M_X1_readOnto) 92 dX1_readOnto_92 t_X1_take l_X1_27 (m_rr_of rfl) (rest := []) (c_X1_take h7 15 (by decide) G7) o_37 rfl rfl rfl (Nat.le_of_ble_eq_true rfl) ⟨rfl, rfl⟩ (fun x25 h8 qx25 => ?_)
          obtain ⟨G8, S8, ax25, bx25⟩ := qx25
          have R8 := R7.call S8 (by simp [fsub, fr, csB])
          refine z_if_ne (M := M_X1_readOnto) 95 dX1_readOnto_95 101 rfl (fun c26 => ?_) (fun c26 => ?_)
          · refine z_iincN (M := M_X1_readOnto) 101 dX1_readOnto_101 (ls' := [some (mR 37), some (mR L), some (mI (l2 + 1)), some (mI x20)]) (by decide) rfl (by (unfold m_32; decide)) (by omega) (by omega) rfl ?_
            refine z_goto (M := M_X1_readOnto) 104 dX1_readOnto_104 16 rfl ?_
            exact z_mask [true, true, true, false] rfl (ih.1 (l2 + 1) h8 G8 R8 (by omega) (by omega) (by omega))
          · refine z_goto (M := M_X1_readOnto) 98 dX1_readOnto_98 107 rfl ?_
            exact z_mask [true, false, false, false] rfl (ih.2 h8 G8 R8 (by omega))
        · refine z_iload_n (M := M_X1_readOnto) 83 dX1_readOnto_83 rfl ?_
          exact z_retI (M := M_X1_readOnto) 84 dX1_readOnto_84 rfl ⟨G7, R7, by omega, by omega⟩
set_option maxHeartbeats 4000000 in
set_option maxRecDepth 100000 in
theorem s_X1_readOnto_107 (h0 : m_H) (L : Nat) (hL : isL L) (G0 : GI h0) (n : Nat) (ih : q_X1_readOnto h0 L n) : ∀ (h : m_H), GI h → FR [(L + 1), (L + 2), (L + 3), (L + 4), (L + 5), (L + 6)] [(37, 1), (37, 2), (37, 3), (L, 7), (L, 8), (L, 9)] h0 h → (1) ≤ ((n + 1 : Nat) : Int) → m_Z oF M_X1_readOnto 107 [some (mR 37), none, none, none] [] h (m_QI (P_X1_readOnto h0 L)) := by
  intro h G R hr
  refine z_aload_n (M := M_X1_readOnto) 107 dX1_readOnto_107 rfl ?_
  refine z_getIV (M := M_X1_readOnto) 108 dX1_readOnto_108 f_X1_15 o_37 (by decide) (fun x1 ex1 => ?_)
  refine z_ok (fun ox1 _ _ => ?_)
  have ox1 := ox1.1; unfold m_ok m_32 at ox1
  refine z_iconst (M := M_X1_readOnto) 111 dX1_readOnto_111 ?_
  refine z_icmp_ne (M := M_X1_readOnto) 112 dX1_readOnto_112 123 rfl (fun c2 => ?_) (fun c2 => ?_)
  · refine z_iconst (M := M_X1_readOnto) 123 dX1_readOnto_123 ?_
    exact z_retI (M := M_X1_readOnto) 124 dX1_readOnto_124 rfl ⟨G, R, by omega, by omega⟩
  · refine z_aload_n (M := M_X1_readOnto) 115 dX1_readOnto_115 rfl ?_
    refine z_aload_n (M := M_X1_readOnto) 116 dX1_readOnto_116 rfl ?_
    refine z_getIG (M := M_X1_readOnto) 117 dX1_readOnto_117 f_X1_43 o_37 (by decide) (g_37_1 G) (fun x3 ex3 ax3 bx3 => ?_)
    refine z_putIH (M := M_X1_readOnto) 120 dX1_readOnto_120 p_X1_15 o_37 rfl (u_37_3 G) (R.up (by simp [fr, csB])) (fun h1 E1 G1 R1 => ?_)
    refine z_iconst (M := M_X1_readOnto) 123 dX1_readOnto_123 ?_
    exact z_retI (M := M_X1_readOnto) 124 dX1_readOnto_124 rfl ⟨G1, R1, by omega, by omega⟩
theorem a_X1_readOnto (h0 : m_H) (L : Nat) (hL : isL L) (G0 : GI h0) : ∀ n, q_X1_readOnto h0 L n := by
  intro n
  induction n with
  | zero => unfold q_X1_readOnto; refine ⟨?_, ?_⟩ <;> (intros; omega)
  | succ n ih => exact ⟨s_X1_readOnto_16 h0 L hL G0 n ih, s_X1_readOnto_107 h0 L hL G0 n ih⟩
set_option maxHeartbeats 4000000 in
set_option maxRecDepth 100000 in
theorem c_X1_readOnto (h0 : m_H) (L : Nat) (hL : isL L) (G0 : GI h0) : m_CI M_X1_readOnto [mR 37, mR L] h0 (P_X1_readOnto h0 L) := by
  refine m_CI_of ⟨by decide, rfl, by simp [m_arg, m_isL, M_X1_readOnto], ⟨rfl, rfl⟩, rfl, rfl⟩ (ls := [some (mR 37), some (mR L), none, none]) rfl ?_
  have ih := a_X1_readOnto h0 L hL G0 809
  refine z_aload_n (M := M_X1_readOnto) 0 dX1_readOnto_0 rfl ?_
  refine z_iconst (M := M_X1_readOnto) 1 dX1_readOnto_1 ?_
  refine z_putIH (M := M_X1_readOnto) 2 dX1_readOnto_2 p_X1_15 o_37 rfl (u_37_3 G0) ((FR.rf (cs := [(L + 1), (L + 2), (L + 3), (L + 4), (L + 5), (L + 6)]) (ss := [(37, 1), (37, 2), (37, 3), (L, 7), (L, 8), (L, 9)]) (h := h0)).up (by simp [fr, csB])) (fun h1 E1 G1 R1 => ?_)
  refine z_aload_n (M := M_X1_readOnto) 5 dX1_readOnto_5 rfl ?_
  refine z_iconst (M := M_X1_readOnto) 6 dX1_readOnto_6 ?_
  refine z_putIH (M := M_X1_readOnto) 7 dX1_readOnto_7 p_X1_19 o_37 rfl (u_37_2 G1 (by omega) (by omega)) (R1.up (by simp [fr, csB])) (fun h2 E2 G2 R2 => ?_)
  refine z_aload_n (M := M_X1_readOnto) 10 dX1_readOnto_10 rfl ?_
  refine z_vV (M := M_X1_readOnto) 11 dX1_readOnto_11 t_X1_advance l_X1_22 (m_rr_of rfl) (rest := []) (c_X1_advance h2 G2) o_37 rfl rfl rfl (Nat.le_of_ble_eq_true rfl) ⟨rfl, rfl⟩ (fun h3 qx1 => ?_)
  obtain ⟨G3, S3⟩ := qx1
  have R3 := R2.call S3 (by simp [fsub, fr, csB])
  refine z_iconst (M := M_X1_readOnto) 14 dX1_readOnto_14 ?_
  refine z_istore_n (M := M_X1_readOnto) 15 dX1_readOnto_15 (ls' := [some (mR 37), some (mR L), some (mI 1), none]) (by decide) rfl ?_
  exact z_mask [true, true, true, false] rfl (ih.1 1 h3 G3 R3 (by omega) (by omega) (by omega))
abbrev P_X11_book (h0 : m_H) : Int → m_H → Prop := fun x h' => GI h' ∧ FR [2, 3, 4, 5, 6, 7, 8, 10, 11, 12, 13, 14, 15, 16, 107] [(0, 14), (0, 16), (1, 7), (1, 8), (1, 9), (9, 7), (9, 8), (9, 9), (35, 1), (37, 1), (37, 2), (37, 3)] h0 h' ∧ (-6) ≤ x ∧ x ≤ 400 ∧ h' 35 1 = 0
set_option maxHeartbeats 4000000 in
set_option maxRecDepth 100000 in
theorem c_X11_book (h0 : m_H) (G0 : GI h0) : m_CI M_X11_book [mR 0] h0 (P_X11_book h0) := by
  refine m_CI_of ⟨by decide, rfl, by simp [m_arg, m_isL, M_X11_book], ⟨rfl, rfl⟩, rfl, rfl⟩ (ls := [some (mR 0), none]) rfl ?_
  obtain ⟨x1, ex1⟩ : ∃ y : Int, h0 35 1 = y := ⟨_, rfl⟩
  have bx1 : 0 ≤ x1 ∧ x1 ≤ 400 := ex1 ▸ g_35_1 G0
  refine z_aload_n (M := M_X11_book) 0 dX11_book_0 rfl ?_
  refine z_getR (M := M_X11_book) 1 dX11_book_1 f_X11_16 o_0 rfl (g_0_1 G0) ?_
  refine z_aload_n (M := M_X11_book) 4 dX11_book_4 rfl ?_
  refine z_getR (M := M_X11_book) 5 dX11_book_5 f_X11_12 o_0 rfl (g_0_0 G0) ?_
  refine z_vV (M := M_X11_book) 8 dX11_book_8 t_X4_copyFrom l_X11_197 (m_rr_of rfl) (rest := []) (c_X4_copyFrom h0 9 1 (Or.inr (Or.inl rfl)) (Or.inl rfl) G0) o_9 rfl rfl rfl (Nat.le_of_ble_eq_true rfl) ⟨rfl, rfl⟩ (fun h1 qx2 => ?_)
  obtain ⟨G1, S1⟩ := qx2
  have R1 := (FR.rf (cs := [2, 3, 4, 5, 6, 7, 8, 10, 11, 12, 13, 14, 15, 16, 107]) (ss := [(0, 14), (0, 16), (1, 7), (1, 8), (1, 9), (9, 7), (9, 8), (9, 9), (35, 1), (37, 1), (37, 2), (37, 3)]) (h := h0)).call S1 (by decide +kernel)
  refine z_aload_n (M := M_X11_book) 11 dX11_book_11 rfl ?_
  refine z_getR (M := M_X11_book) 12 dX11_book_12 f_X11_39 o_0 rfl (g_0_5 G1) ?_
  refine z_aload_n (M := M_X11_book) 15 dX11_book_15 rfl ?_
  refine z_getR (M := M_X11_book) 16 dX11_book_16 f_X11_16 o_0 rfl (g_0_1 G1) ?_
  refine z_vI (M := M_X11_book) 19 dX11_book_19 t_X1_readOnto l_X11_201 (m_rr_of rfl) (rest := []) (c_X1_readOnto h1 9 (Or.inr (Or.inl rfl)) G1) o_37 rfl rfl rfl (Nat.le_of_ble_eq_true rfl) ⟨rfl, rfl⟩ (fun x3 h2 qx3 => ?_)
  obtain ⟨G2, S2, ax3, bx3⟩ := qx3
  have R2 := R1.call S2 (by decide +kernel)
  refine z_istore_n (M := M_X11_book) 22 dX11_book_22 (ls' := [some (mR 0), some (mI x3)]) (by decide) rfl ?_
  refine z_aload_n (M := M_X11_book) 23 dX11_book_23 rfl ?_
  refine z_aload_n (M := M_X11_book) 24 dX11_book_24 rfl ?_
  refine z_getR (M := M_X11_book) 25 dX11_book_25 f_X11_39 o_0 rfl (g_0_5 G2) ?_
  refine z_getIV (M := M_X11_book) 28 dX11_book_28 f_X11_205 o_37 (by decide) (fun x4 ex4 => ?_)
  refine z_ok (fun ox4 _ _ => ?_)
  have ox4 := ox4.1; unfold m_ok m_32 at ox4
  refine z_putIH (M := M_X11_book) 31 dX11_book_31 p_X11_105 o_0 rfl (u_0_16 G2) (R2.up rfl) (fun h3 E3 G3 R3 => ?_)
  refine z_aload_n (M := M_X11_book) 34 dX11_book_34 rfl ?_
  refine z_getR (M := M_X11_book) 35 dX11_book_35 f_X11_30 o_0 rfl (g_0_4 G3) ?_
  refine z_iconst (M := M_X11_book) 38 dX11_book_38 ?_
  refine z_putIH (M := M_X11_book) 39 dX11_book_39 p_X11_187 o_35 rfl (u_35_1 G3 (by omega) (by omega)) (R3.up rfl) (fun h4 E4 G4 R4 => ?_)
  refine z_iload_n (M := M_X11_book) 42 dX11_book_42 rfl ?_
  refine z_iconst (M := M_X11_book) 43 dX11_book_43 ?_
  refine z_icmp_ne (M := M_X11_book) 44 dX11_book_44 54 rfl (fun c5 => ?_) (fun c5 => ?_)
  · refine z_aload_n (M := M_X11_book) 54 dX11_book_54 rfl ?_
    refine z_getR (M := M_X11_book) 55 dX11_book_55 f_X11_12 o_0 rfl (g_0_0 G4) ?_
    refine z_aload_n (M := M_X11_book) 58 dX11_book_58 rfl ?_
    refine z_getR (M := M_X11_book) 59 dX11_book_59 f_X11_16 o_0 rfl (g_0_1 G4) ?_
    refine z_vV (M := M_X11_book) 62 dX11_book_62 t_X4_copyFrom l_X11_197 (m_rr_of rfl) (rest := []) (c_X4_copyFrom h4 1 9 (Or.inl rfl) (Or.inr (Or.inl rfl)) G4) o_1 rfl rfl rfl (Nat.le_of_ble_eq_true rfl) ⟨rfl, rfl⟩ (fun h5 qx6 => ?_)
    obtain ⟨G5, S5⟩ := qx6
    have R5 := R4.call S5 (by decide +kernel)
    refine z_aload_n (M := M_X11_book) 65 dX11_book_65 rfl ?_
    refine z_iload_n (M := M_X11_book) 66 dX11_book_66 rfl ?_
    refine z_vI (M := M_X11_book) 67 dX11_book_67 t_X11_accept l_X11_123 (m_rr_of rfl) (rest := []) (c_X11_accept h5 x3 G5) o_0 rfl rfl rfl (Nat.le_of_ble_eq_true rfl) ⟨rfl, rfl⟩ (fun x7 h6 qx7 => ?_)
    obtain ⟨G6, S6, rfl⟩ := qx7
    have R6 := R5.call S6 (by decide +kernel)
    have z8 : h6 35 1 = 0 := ((S6 35 1 rfl).trans ((S5 35 1 rfl).trans (upE E4)))
    exact z_retI (M := M_X11_book) 70 dX11_book_70 rfl ⟨G6, R6, by omega, by omega, by omega⟩
  · refine z_aload_n (M := M_X11_book) 47 dX11_book_47 rfl ?_
    refine z_bipush (M := M_X11_book) 48 dX11_book_48 ?_
    refine z_vI (M := M_X11_book) 50 dX11_book_50 t_X11_refuse l_X11_116 (m_rr_of rfl) (rest := []) (c_X11_refuse h4 (-6) G4 ⟨by omega, by omega⟩) o_0 rfl rfl rfl (Nat.le_of_ble_eq_true rfl) ⟨rfl, rfl⟩ (fun x8 h7 qx8 => ?_)
    obtain ⟨G7, S7, rfl⟩ := qx8
    have R7 := R4.call S7 (by decide +kernel)
    have z8 : h7 35 1 = 0 := ((S7 35 1 rfl).trans (upE E4))
    exact z_retI (M := M_X11_book) 53 dX11_book_53 rfl ⟨G7, R7, by omega, by omega, by omega⟩
/-! every ENTRY's NUMBER is 1 at least, in the row and in the images that are kept -/
def NP (h : m_H) : Prop := (∀ e : Nat, (e : Int) < h 110 0 → 1 ≤ h 110 (5 * e + 82)) ∧ ∀ k, k < 2 → h 112 k ≠ 0 → ∀ e : Nat, (e : Int) < h 111 (200 * k) → 1 ≤ h 111 (200 * k + (5 * e + 82))
def NQi (h h' : m_H) : Prop := NP h → NP h'
theorem NP.same {h h' : m_H} (n : NP h) (e0 : ∀ j, h' 110 j = h 110 j) (e1 : ∀ j, h' 111 j = h 111 j) (e2 : ∀ j, h' 112 j = h 112 j) : NP h' := by
  refine ⟨fun e he => ?_, fun k hk z e he => ?_⟩
  · rw [e0] at he ⊢; exact n.1 e he
  · rw [e2] at z; rw [e1] at he ⊢; exact n.2 k hk z e he
theorem NQi.rf {h : m_H} : NQi h h := fun n => n
theorem NQi.tr {h0 h h' : m_H} (n : NQi h0 h) (m : NQi h h') : NQi h0 h' := fun q => m (n q)
theorem NQi.call {h0 h h' : m_H} {cs : List Nat} {ss : List (Nat × Nat)} (n : NQi h0 h) (S : FR cs ss h h') (e0 : ∀ j, fr cs ss 110 j = false) (e1 : ∀ j, fr cs ss 111 j = false) (e2 : ∀ j, fr cs ss 112 j = false) : NQi h0 h' := fun q => (n q).same (fun j => S _ _ (e0 j)) (fun j => S _ _ (e1 j)) (fun j => S _ _ (e2 j))
theorem NP.call {h h' : m_H} {cs : List Nat} {ss : List (Nat × Nat)} (n : NP h) (S : FR cs ss h h') (e0 : ∀ j, fr cs ss 110 j = false) (e1 : ∀ j, fr cs ss 111 j = false) (e2 : ∀ j, fr cs ss 112 j = false) : NP h' := n.same (fun j => S _ _ (e0 j)) (fun j => S _ _ (e1 j)) (fun j => S _ _ (e2 j))
theorem NQi.put {h0 h h' : m_H} {k j : Nat} {x : Int} (n : NQi h0 h) (E : h' = m_up h k j x) (hk : k ≠ 110 ∧ k ≠ 111 ∧ k ≠ 112) : NQi h0 h' := fun q => (n q).same (fun j => upN E (fun z => hk.1 z.1.symm)) (fun j => upN E (fun z => hk.2.1 z.1.symm)) (fun j => upN E (fun z => hk.2.2 z.1.symm))
theorem NP.put {h h' : m_H} {k j : Nat} {x : Int} (n : NP h) (E : h' = m_up h k j x) (hk : k ≠ 110 ∧ k ≠ 111 ∧ k ≠ 112) : NP h' := n.same (fun j => upN E (fun z => hk.1 z.1.symm)) (fun j => upN E (fun z => hk.2.1 z.1.symm)) (fun j => upN E (fun z => hk.2.2 z.1.symm))
theorem NQi.change {h0 h h' : m_H} {cs : List Nat} {ss : List (Nat × Nat)} {i : Nat} (n : NQi h0 h) (S : FR cs ss h h') (e1 : ∀ j, fr cs ss 111 j = false) (e2 : ∀ j, fr cs ss 112 j = false) (f : ∀ j, j ≠ i → h' 110 j = h 110 j) (hi : i ≠ 0 ∧ ∀ e : Nat, i ≠ 5 * e + 82) : NQi h0 h' := by
  intro q
  obtain ⟨n1, n2⟩ := n q
  refine ⟨fun e he => ?_, fun k hk z e he => ?_⟩
  · rw [f 0 (Ne.symm hi.1)] at he
    rw [f _ (Ne.symm (hi.2 e))]; exact n1 e he
  · rw [S 112 k (e2 k)] at z
    rw [S 111 _ (e1 _)] at he ⊢
    exact n2 k hk z e he
theorem NQi.st {h0 h h' : m_H} {i : Nat} {x : Int} (n : NQi h0 h) (E : h' = m_up h 110 i x) (hi : i ≠ 0 ∧ ∀ e : Nat, i ≠ 5 * e + 82) : NQi h0 h' := by
  intro q
  obtain ⟨n1, n2⟩ := n q
  refine ⟨fun e he => ?_, fun k hk z e he => ?_⟩
  · rw [upN E (fun z => hi.1 z.2.symm)] at he
    rw [upN E (fun z => hi.2 e z.2.symm)]; exact n1 e he
  · rw [upN E (fun z => absurd z.1 (by decide))] at z he ⊢
    exact n2 k hk z e he
theorem NQi.stN {h0 h h' : m_H} {i : Nat} {x : Int} (n : NQi h0 h) (E : h' = m_up h 110 i x) (hi : i ≠ 0) (hx : 1 ≤ x) : NQi h0 h' := by
  intro q
  obtain ⟨n1, n2⟩ := n q
  refine ⟨fun e he => ?_, fun k hk z e he => ?_⟩
  · rw [upN E (fun z => hi z.2.symm)] at he
    by_cases hj : 5 * e + 82 = i
    · rw [hj, upE E]; exact hx
    · rw [upN E (fun z => hj z.2)]; exact n1 e he
  · rw [upN E (fun z => absurd z.1 (by decide))] at z he ⊢
    exact n2 k hk z e he
/-- one ENTRY more -/
theorem NQi.inc {h0 h h' : m_H} {x : Int} (n : NQi h0 h) (E : h' = m_up h 110 (0 : Int).toNat (x + 1)) (e0 : h 110 (0 : Int).toNat = x) (hx : 0 ≤ x) (hn : 1 ≤ h 110 (80 + (5 * x) + 2).toNat) : NQi h0 h' := by
  intro q
  obtain ⟨n1, n2⟩ := n q
  refine ⟨fun e he => ?_, fun k hk z e he => ?_⟩
  · have e1 : h' 110 0 = x + 1 := upE E
    rw [e1] at he
    have e2 : h' 110 (5 * e + 82) = h 110 (5 * e + 82) := upN E (fun z => by have z2 := z.2; change 5 * e + 82 = 0 at z2; omega)
    rw [e2]
    by_cases hj : (e : Int) = x
    · have e3 : 5 * e + 82 = (80 + (5 * x) + 2).toNat := by omega
      rw [e3]; exact hn
    · exact n1 e (by have e4 : h 110 0 = x := e0; omega)
  · rw [upN E (fun z => absurd z.1 (by decide))] at z he ⊢
    exact n2 k hk z e he
theorem NP_num {h3 h4 h5 : m_H} {h2 : m_H} {x a3 a4 : Int} (hx : 0 ≤ x) (h1 : 1 ≤ a3) (E3 : h3 = m_up h2 110 (80 + (5 * x) + 2).toNat a3) (E4 : h4 = m_up h3 110 (80 + (5 * x) + 3).toNat a4) (E5 : h5 = m_up h4 110 (80 + (5 * x) + 4).toNat 1) : 1 ≤ h5 110 (80 + (5 * x) + 2).toNat := by
  rw [upN E5 (fun z => by have := z.2; omega), upN E4 (fun z => by have := z.2; omega), upE E3]
  exact h1
/-- the told world stays -/
def NW (h h' : m_H) : Prop := ∀ j, 60 ≤ j → j ≤ 75 → h' 110 j = h 110 j
def NPi (h h' : m_H) : Prop := NQi h h' ∧ NW h h'
theorem NPi.rf {h : m_H} : NPi h h := ⟨NQi.rf, fun _ _ _ => rfl⟩
theorem NPi.tr {h0 h h' : m_H} (n : NPi h0 h) (m : NPi h h') : NPi h0 h' := ⟨n.1.tr m.1, fun j a b => (m.2 j a b).trans (n.2 j a b)⟩
theorem NPi.call {h0 h h' : m_H} {cs : List Nat} {ss : List (Nat × Nat)} (n : NPi h0 h) (S : FR cs ss h h') (e0 : ∀ j, fr cs ss 110 j = false) (e1 : ∀ j, fr cs ss 111 j = false) (e2 : ∀ j, fr cs ss 112 j = false) : NPi h0 h' := ⟨n.1.call S e0 e1 e2, fun j a b => (S _ _ (e0 j)).trans (n.2 j a b)⟩
theorem NPi.put {h0 h h' : m_H} {k j : Nat} {x : Int} (n : NPi h0 h) (E : h' = m_up h k j x) (hk : k ≠ 110 ∧ k ≠ 111 ∧ k ≠ 112) : NPi h0 h' := ⟨n.1.put E hk, fun j a b => (upN E (fun z => hk.1 z.1.symm)).trans (n.2 j a b)⟩
theorem NPi.change {h0 h h' : m_H} {cs : List Nat} {ss : List (Nat × Nat)} {i : Nat} (n : NPi h0 h) (S : FR cs ss h h') (e1 : ∀ j, fr cs ss 111 j = false) (e2 : ∀ j, fr cs ss 112 j = false) (f : ∀ j, j ≠ i → h' 110 j = h 110 j) (hi : i ≠ 0 ∧ ∀ e : Nat, i ≠ 5 * e + 82) (hw : i < 60 ∨ 75 < i) : NPi h0 h' := ⟨n.1.change S e1 e2 f hi, fun j a b => (f j (by omega)).trans (n.2 j a b)⟩
theorem NPi.st {h0 h h' : m_H} {i : Nat} {x : Int} (n : NPi h0 h) (E : h' = m_up h 110 i x) (hi : i ≠ 0 ∧ ∀ e : Nat, i ≠ 5 * e + 82) (hw : i < 60 ∨ 75 < i) : NPi h0 h' := ⟨n.1.st E hi, fun j a b => (upN E (fun z => by have := z.2; omega)).trans (n.2 j a b)⟩
theorem NPi.stN {h0 h h' : m_H} {i : Nat} {x : Int} (n : NPi h0 h) (E : h' = m_up h 110 i x) (hi : i ≠ 0) (hx : 1 ≤ x) (hw : i < 60 ∨ 75 < i) : NPi h0 h' := ⟨n.1.stN E hi hx, fun j a b => (upN E (fun z => by have := z.2; omega)).trans (n.2 j a b)⟩
theorem NPi.inc {h0 h h' : m_H} {x : Int} (n : NPi h0 h) (E : h' = m_up h 110 (0 : Int).toNat (x + 1)) (e0 : h 110 (0 : Int).toNat = x) (hx : 0 ≤ x) (hn : 1 ≤ h 110 (80 + (5 * x) + 2).toNat) : NPi h0 h' := ⟨n.1.inc E e0 hx hn, fun j a b => (upN E (fun z => by have z2 := z.2; change j = 0 at z2; omega)).trans (n.2 j a b)⟩
/-- tell, exactly -/
def tlQ (c i : Nat) (a1 a2 x : Int) (h0 h' : m_H) : Prop := ((a1 < 0 ∨ 15 < a1 ∨ a2 < 1 ∨ 9999 < a2) ∧ x = -1 ∧ ∀ j, h' c j = h0 c j) ∨ (0 ≤ a1 ∧ a1 ≤ 15 ∧ 1 ≤ a2 ∧ a2 ≤ 9999 ∧ h0 c i = x ∧ h' c i = a2 ∧ ∀ j, j ≠ i → h' c j = h0 c j)
theorem tl_o {h h' : m_H} {c j : Nat} {v : Int} (E : h' = m_up h c j v) {k : Nat} (hk : k ≠ c) (i : Nat) : h' k i = h k i := by rw [E, m_up_ne1 hk]
/-! image, back -/
def NIm (h0 h : m_H) (a : Nat) (n : Int) : Prop := (∀ j, h 110 j = h0 110 j) ∧ (∀ j, h 112 j = h0 112 j) ∧ (∀ j, j < 200 * a ∨ 200 * a + 200 ≤ j → h 111 j = h0 111 j) ∧ ∀ j : Nat, (j : Int) < n → h 111 (200 * a + j) = h0 110 j
theorem NIm_0 {h0 h : m_H} {a : Nat} {v : Int} (E : h = m_up h0 108 0 v) : NIm h0 h a 0 :=
  ⟨fun j => upN E (fun z => absurd z.1 (by decide)), fun j => upN E (fun z => absurd z.1 (by decide)), fun j _ => upN E (fun z => absurd z.1 (by decide)), fun j hj => by omega⟩
theorem NIm_step {h0 h h' : m_H} {a l x : Int} (ha : 0 ≤ a) (h1 : 0 ≤ l) (h2 : l ≤ 199) (I : NIm h0 h a.toNat l) (E : h' = m_up h 111 (200 * a + l).toNat x) (ex : h 110 l.toNat = x) : NIm h0 h' a.toNat (l + 1) := by
  obtain ⟨i1, i2, i3, i4⟩ := I
  refine ⟨fun j => (upN E (fun z => absurd z.1 (by decide))).trans (i1 j), fun j => (upN E (fun z => absurd z.1 (by decide))).trans (i2 j), fun j hj => (upN E (fun z => by have := z.2; omega)).trans (i3 j hj), fun j hj => ?_⟩
  by_cases q : (j : Int) = l
  · have e1 : 200 * a.toNat + j = (200 * a + l).toNat := by omega
    have e2 : l.toNat = j := by omega
    rw [e1, upE E, ← ex, e2]; exact i1 j
  · rw [upN E (fun z => by have := z.2; omega)]; exact i4 j (by omega)
theorem NIm_end {h0 h h1 h' : m_H} {cs : List Nat} {ss : List (Nat × Nat)} {a l : Int} (G0 : GI h0) (ha : 0 ≤ a) (ha1 : a ≤ 1) (I : NIm h0 h a.toNat l) (hl : 200 ≤ l) (E : h1 = m_up h 112 a.toNat 1) (S : FR cs ss h1 h') (e0 : ∀ j, fr cs ss 110 j = false) (e1 : ∀ j, fr cs ss 111 j = false) (e2 : ∀ j, fr cs ss 112 j = false) : NPi h0 h' := by
  obtain ⟨i1, i2, i3, i4⟩ := I
  have f0 : ∀ j, h' 110 j = h0 110 j := fun j => (S _ _ (e0 j)).trans ((upN E (fun z => absurd z.1 (by decide))).trans (i1 j))
  refine ⟨fun n => ?_, fun j _ _ => f0 j⟩
  have f1 : ∀ j, h' 111 j = h 111 j := fun j => (S _ _ (e1 j)).trans (upN E (fun z => absurd z.1 (by decide)))
  have b0 : h0 110 0 ≤ 24 := (gw_0 G0).2
  refine ⟨fun e he => ?_, fun k hk z e he => ?_⟩
  · rw [f0] at he ⊢; exact n.1 e he
  · rw [f1] at he ⊢
    by_cases q : k = a.toNat
    · subst q
      have g0 := i4 0 (by omega)
      rw [Nat.add_zero] at g0
      rw [g0] at he
      rw [i4 _ (by omega)]
      exact n.1 e he
    · have z2 : h0 112 k ≠ 0 := by
        rw [S _ _ (e2 k), upN E (fun z => q z.2), i2] at z; exact z
      by_cases he2 : e < 24
      · rw [i3 _ (by omega)] at he ⊢
        exact n.2 k hk z2 e he
      · exfalso
        rw [i3 _ (by omega)] at he
        have := (G0.2 k hk z2 0 (by decide)).2
        rw [Nat.add_zero] at this
        have r : r_hi 0 = 24 := by decide
        omega
def NBk (h0 h : m_H) (a : Nat) (n : Int) : Prop := (∀ j, h 111 j = h0 111 j) ∧ (∀ j, h 112 j = h0 112 j) ∧ ∀ j : Nat, (j : Int) < n → h 110 j = h0 111 (200 * a + j)
theorem NBk_0 {h0 h : m_H} {a : Nat} {v : Int} (E : h = m_up h0 108 0 v) : NBk h0 h a 0 :=
  ⟨fun j => upN E (fun z => absurd z.1 (by decide)), fun j => upN E (fun z => absurd z.1 (by decide)), fun j hj => by omega⟩
theorem NBk_step {h0 h h' : m_H} {a l x : Int} (ha : 0 ≤ a) (h1 : 0 ≤ l) (I : NBk h0 h a.toNat l) (E : h' = m_up h 110 l.toNat x) (ex : h 111 (200 * a + l).toNat = x) : NBk h0 h' a.toNat (l + 1) := by
  obtain ⟨i1, i2, i3⟩ := I
  refine ⟨fun j => (upN E (fun z => absurd z.1 (by decide))).trans (i1 j), fun j => (upN E (fun z => absurd z.1 (by decide))).trans (i2 j), fun j hj => ?_⟩
  by_cases q : (j : Int) = l
  · have e1 : (200 * a + l).toNat = 200 * a.toNat + j := by omega
    have e2 : l.toNat = j := by omega
    rw [e2] at E
    rw [upE E, ← ex, e1]; exact i1 _
  · rw [upN E (fun z => by have := z.2; omega)]; exact i3 j (by omega)
theorem NBk_end {h0 h h' : m_H} {cs : List Nat} {ss : List (Nat × Nat)} {a l : Int} (G : GI h) (ha : 0 ≤ a) (ha1 : a ≤ 1) (I : NBk h0 h a.toNat l) (hl : 200 ≤ l) (hk : h 112 a.toNat ≠ 0) (S : FR cs ss h h') (e0 : ∀ j, fr cs ss 110 j = false) (e1 : ∀ j, fr cs ss 111 j = false) (e2 : ∀ j, fr cs ss 112 j = false) : NQi h0 h' := by
  intro n
  obtain ⟨i1, i2, i3⟩ := I
  have b0 : h 110 0 ≤ 24 := (gw_0 G).2
  refine ⟨fun e he => ?_, fun k hk z e he => ?_⟩
  · rw [S _ _ (e0 _)] at he ⊢
    rw [i3 _ (by omega)]
    have g0 := i3 0 (by omega)
    rw [Nat.add_zero] at g0
    rw [g0] at he
    rw [i2] at hk
    exact n.2 _ (by omega) hk e he
  · rw [S _ _ (e2 _), i2] at z
    rw [S _ _ (e1 _), i1] at he ⊢
    exact n.2 k hk z e he
/-! ===== rounds over a graph, pure ===== -/
abbrev gE : Type := (Nat × Nat) × (Int × Int × Int)
abbrev gN : Type := (Int × Int) × (Int × Int)
abbrev gS : Type := Nat → gN
abbrev gBig : Int := 10000000000000000000000000000000000000000
def gc (z : Int) (S : gS) (e : gE) : gN := ((((S e.1.1).1.1 * e.2.1) % gBig, ((S e.1.1).1.2 * e.2.2.1) % gBig), (if z = 1 ∧ ((S e.1.1).2.1 = 1 ∨ e.2.2.2 = 1) then 1 else 0, 1))
abbrev gb (c t : gN) : Prop := t.2.2 ≠ 1 ∨ t.1.1 * c.1.2 < c.1.1 * t.1.2 ∨ (c.1.1 * t.1.2 = t.1.1 * c.1.2 ∧ c.2.1 = 1 ∧ t.2.1 ≠ 1)
def gs (z : Int) (S : gS) (p : gS × Int) (e : gE) : gS × Int := if (S e.1.1).2.2 = 1 ∧ gb (gc z S e) (p.1 e.1.2) then (fun l => if l = e.1.2 then gc z S e else p.1 l, 1) else p
def gi (z : Int) (S : gS) (L : List gE) : Nat → gS × Int
  | 0 => (S, 0)
  | i + 1 => match L[i]? with
    | some e => gs z S (gi z S L i) e
    | none => gi z S L i
theorem fr_tr {a b c x y z : Int} (hx : 0 ≤ x) (hy : 0 < y) (hz : 0 ≤ z) (h1 : a * y ≤ b * x) (h2 : b * z ≤ c * y) : a * z ≤ c * x := by
  have k1 : a * y * z ≤ b * x * z := Int.mul_le_mul_of_nonneg_right h1 hz
  have k2 : b * z * x ≤ c * y * x := Int.mul_le_mul_of_nonneg_right h2 hx
  have e1 : b * x * z = b * z * x := by ac_rfl
  have e2 : a * z * y = a * y * z := by ac_rfl
  have e3 : c * x * y = c * y * x := by ac_rfl
  refine Int.le_of_mul_le_mul_right (a := y) ?_ hy
  rw [e2, e3]
  exact Int.le_trans k1 (by rw [e1]; exact k2)
theorem fr_trl {a b c x y z : Int} (hx : 0 ≤ x) (hy : 0 < y) (hz : 0 < z) (h1 : a * y < b * x) (h2 : b * z ≤ c * y) : a * z < c * x := by
  have k1 : a * y * z < b * x * z := Int.mul_lt_mul_of_pos_right h1 hz
  have k2 : b * z * x ≤ c * y * x := Int.mul_le_mul_of_nonneg_right h2 hx
  have e1 : b * x * z = b * z * x := by ac_rfl
  have e2 : a * z * y = a * y * z := by ac_rfl
  have e3 : c * x * y = c * y * x := by ac_rfl
  refine Int.lt_of_mul_lt_mul_right (a := y) ?_ (by omega)
  rw [e2, e3]
  exact Int.lt_of_lt_of_le k1 (by rw [e1]; exact k2)
theorem fr_ltr {a b c x y z : Int} (hx : 0 < x) (hy : 0 < y) (hz : 0 ≤ z) (h1 : a * y ≤ b * x) (h2 : b * z < c * y) : a * z < c * x := by
  have k1 : a * y * z ≤ b * x * z := Int.mul_le_mul_of_nonneg_right h1 hz
  have k2 : b * z * x < c * y * x := Int.mul_lt_mul_of_pos_right h2 hx
  have e1 : b * x * z = b * z * x := by ac_rfl
  have e2 : a * z * y = a * y * z := by ac_rfl
  have e3 : c * x * y = c * y * x := by ac_rfl
  refine Int.lt_of_mul_lt_mul_right (a := y) ?_ (by omega)
  rw [e2, e3]
  exact Int.lt_of_le_of_lt k1 (by rw [e1]; exact k2)
theorem gb_tr {a b c : gN} (ha : 0 < a.1.2) (hb : 0 < b.1.2) (hc : c.2.2 = 1 → 0 < c.1.2) (tb : b.2.2 = 1) (h1 : gb a b) (h2 : gb b c) : gb a c := by
  by_cases tc : c.2.2 = 1
  · have hc := hc tc
    rcases h1 with q | h1 | ⟨h1, o1, o2⟩
    · exact absurd tb q
    · rcases h2 with q | h2 | ⟨h2, p1, p2⟩
      · exact absurd tc q
      · exact Or.inr (Or.inl (fr_trl (Int.le_of_lt hc) hb ha h2 (Int.le_of_lt h1)))
      · exact Or.inr (Or.inl (fr_ltr hc hb (Int.le_of_lt ha) (Int.le_of_eq h2.symm) h1))
    · rcases h2 with q | h2 | ⟨h2, p1, p2⟩
      · exact absurd tc q
      · exact Or.inr (Or.inl (fr_trl (Int.le_of_lt hc) hb ha h2 (Int.le_of_eq h1.symm)))
      · exact absurd p1 o2
  · exact Or.inl tc
theorem gc_T (z : Int) (S : gS) (e : gE) : (gc z S e).2.2 = 1 := rfl
theorem gb_ir {c : gN} (h : c.2.2 = 1) : ¬ gb c c := by
  rintro (q | q | ⟨-, q1, q2⟩)
  · exact q h
  · exact Int.lt_irrefl _ q
  · exact q2 q1
theorem gi_ok {z : Int} {S : gS} {L : List gE} (hE : ∀ e ∈ L, e.1.1 < 16 ∧ e.1.2 < 16) (hc : ∀ e ∈ L, (S e.1.1).2.2 = 1 → 0 < (gc z S e).1.2) (hS : ∀ l, l < 16 → (S l).2.2 = 1 → 0 < (S l).1.2) : ∀ i,
    (∀ l, (gi z S L i).1 l = S l ∨ ((∃ e ∈ L, e.1.2 = l ∧ (S e.1.1).2.2 = 1 ∧ (gi z S L i).1 l = gc z S e) ∧ gb ((gi z S L i).1 l) (S l))) ∧
    (∀ j e, j < i → L[j]? = some e → (S e.1.1).2.2 = 1 → ¬ gb (gc z S e) ((gi z S L i).1 e.1.2)) ∧
    (((gi z S L i).2 = 0 ∧ ∀ l, (gi z S L i).1 l = S l) ∨ ((gi z S L i).2 = 1 ∧ ∃ l, l < 16 ∧ gb ((gi z S L i).1 l) (S l) ∧ ∃ e ∈ L, e.1.2 = l ∧ (S e.1.1).2.2 = 1 ∧ (gi z S L i).1 l = gc z S e))
  | 0 => ⟨fun _ => Or.inl rfl, fun j e hj => absurd hj (Nat.not_lt_zero _), Or.inl ⟨rfl, fun _ => rfl⟩⟩
  | i + 1 => by
    have ih := gi_ok hE hc hS i
    cases hL : L[i]? with
    | none =>
      have e0 : gi z S L (i + 1) = gi z S L i := by simp only [gi, hL]
      rw [e0]
      refine ⟨ih.1, fun j e hj hje => ?_, ih.2.2⟩
      by_cases hji : j = i
      · subst hji; rw [hL] at hje; cases hje
      · exact ih.2.1 j e (by omega) hje
    | some e =>
      have he : e ∈ L := List.mem_of_getElem? hL
      have e0 : gi z S L (i + 1) = gs z S (gi z S L i) e := by simp only [gi, hL]
      rw [e0]
      generalize gi z S L i = p at ih ⊢
      obtain ⟨i1, i2, i3⟩ := ih
      by_cases hu : (S e.1.1).2.2 = 1 ∧ gb (gc z S e) (p.1 e.1.2)
      · have e1 : gs z S p e = (fun l => if l = e.1.2 then gc z S e else p.1 l, 1) := by unfold gs; rw [if_pos hu]
        rw [e1]
        have cp := hc e he hu.1
        have key : gb (gc z S e) (S e.1.2) := by
          rcases i1 e.1.2 with q | ⟨⟨e2, m2, t2, s2, q2⟩, q3⟩
          · rw [← q]; exact hu.2
          · refine gb_tr cp ?_ (hS _ (hE e he).2) ?_ hu.2 q3
            · rw [q2]; exact hc e2 m2 s2
            · rw [q2]; rfl
        refine ⟨fun l => ?_, fun j e2 hj hje s2 => ?_, Or.inr ⟨rfl, e.1.2, (hE e he).2, ?_, e, he, rfl, hu.1, ?_⟩⟩
        · by_cases hl : l = e.1.2
          · subst hl
            refine Or.inr ⟨⟨e, he, rfl, hu.1, ?_⟩, ?_⟩
            · simp
            · simp only [if_true]; exact key
          · simp only [hl, if_false]; exact i1 l
        · by_cases hl : e2.1.2 = e.1.2
          · simp only [hl, if_true]
            by_cases hji : j = i
            · subst hji; rw [hL] at hje; cases hje
              exact gb_ir rfl
            · intro hg
              have m2 : e2 ∈ L := List.mem_of_getElem? hje
              have h2 := i2 j e2 (by omega) hje s2
              rw [hl] at h2
              refine h2 ?_
              by_cases hT : (p.1 e.1.2).2.2 = 1
              · refine gb_tr (hc e2 m2 s2) cp (fun _ => ?_) rfl hg hu.2
                rcases i1 e.1.2 with q | ⟨⟨e3, m3, t3, s3, q3⟩, q4⟩
                · rw [q]; rw [q] at hT; exact hS _ (hE e he).2 hT
                · rw [q3]; exact hc e3 m3 s3
              · exact Or.inl hT
          · simp only [hl, if_false]
            by_cases hji : j = i
            · subst hji; rw [hL] at hje; cases hje; exact absurd rfl hl
            · exact i2 j e2 (by omega) hje s2
        · simp only [if_true]; exact key
        · simp
      · have e1 : gs z S p e = p := by unfold gs; rw [if_neg hu]
        rw [e1]
        refine ⟨i1, fun j e2 hj hje s2 hg => ?_, i3⟩
        by_cases hji : j = i
        · subst hji; rw [hL] at hje; cases hje; exact hu ⟨s2, hg⟩
        · exact i2 j e2 (by omega) hje s2 hg
def gEo (e : gE) : Prop := (e.1.1 < 16 ∧ e.1.2 < 16) ∧ (1 ≤ e.2.1 ∧ e.2.1 ≤ 199) ∧ (1 ≤ e.2.2.1 ∧ e.2.2.1 ≤ 199) ∧ (12 ≤ e.1.1 → e.1.2 < 12 → e.2.2.1 ≤ 2) ∧ (e.1.1 < 12 → 12 ≤ e.1.2 → e.2.1 ≤ 2) ∧ ((12 ≤ e.1.1 ↔ 12 ≤ e.1.2) → e.2.1 = 1 ∧ e.2.2.1 = 1)
def gti (PU PL : Nat → Int) (e : gE) : Prop := PU e.1.1 * e.2.1 * PL e.1.2 = PU e.1.2 * (PL e.1.1 * e.2.2.1)
def gP (L : List gE) (PU PL : Nat → Int) (TT : Nat → Nat → Prop) : Prop :=
  (∀ l, l < 16 → 0 < PU l ∧ 0 < PL l) ∧ (∀ e ∈ L, PU e.1.1 * e.2.1 * PL e.1.2 ≤ PU e.1.2 * (PL e.1.1 * e.2.2.1)) ∧ (∀ a, a < 16 → TT a a) ∧ (∀ a b c, a < 16 → b < 16 → c < 16 → TT a b → TT b c → TT a c) ∧ (∀ e ∈ L, gti PU PL e → TT e.1.1 e.1.2) ∧ (∀ e ∈ L, e.2.2.2 = 1 → gti PU PL e → ¬ TT e.1.2 e.1.1)
/-- it can be -/
def gG (L : List gE) : Prop := ∃ (PU PL : Nat → Int) (TT : Nat → Nat → Prop), gP L PU PL TT
def nX (PL : Nat → Int) (S : gS) (l : Nat) : Int := (S l).1.1 * PL l
def nY (PU : Nat → Int) (S : gS) (l : Nat) : Int := (S l).1.2 * PU l
def gO (L : List gE) (PU PL : Nat → Int) (TT : Nat → Nat → Prop) (u l : Nat) : Prop := ∃ e ∈ L, e.2.2.2 = 1 ∧ gti PU PL e ∧ TT u e.1.1 ∧ TT e.1.2 l
def gq (L : List gE) (PU PL : Nat → Int) (TT : Nat → Nat → Prop) (S : gS) (u l : Nat) : Prop :=
  (S u).2.2 = 1 ∧ nX PL S l * nY PU S u ≤ nX PL S u * nY PU S l ∧ (nX PL S l * nY PU S u = nX PL S u * nY PU S l → TT u l ∧ ((S l).2.1 = 1 → (S u).2.1 = 1 ∨ gO L PU PL TT u l))
def gk (P : List Nat) : Nat := (P.filter (fun u => decide (12 ≤ u))).length
def gw (P : List Nat) (n : gN) (l : Nat) : Prop := n.1.1 * (if 12 ≤ l then 199 else 1) ≤ 398 ^ gk P ∧ n.1.2 * (if 12 ≤ l then 2 else 1) ≤ 398 ^ gk P
def ga (n : gN) : Prop := (n.2.2 = 0 ∨ n.2.2 = 1) ∧ (n.2.1 = 0 ∨ n.2.1 = 1) ∧ (n.2.2 = 1 → (1 ≤ n.1.1 ∧ n.1.1 ≤ 25091827216) ∧ (1 ≤ n.1.2 ∧ n.1.2 ≤ 25091827216))
def gch (L : List gE) (PU PL : Nat → Int) (TT : Nat → Nat → Prop) (k : Nat) (S : gS) (l : Nat) : Prop :=
  ∃ P : List Nat, P.length = k + 1 ∧ P.Nodup ∧ (∀ u ∈ P, u < 16) ∧ gw P (S l) l ∧ ∀ u ∈ P, gq L PU PL TT S u l
def gJ (L : List gE) (PU PL : Nat → Int) (TT : Nat → Nat → Prop) (k : Nat) (S : gS) (I : Nat → Prop) : Prop :=
  (∀ l, l < 16 → ga (S l)) ∧ (∀ l, l < 16 → I l → (S l).2.2 = 1 ∧ l < 16 ∧ gch L PU PL TT k S l) ∧ (∀ e ∈ L, (S e.1.1).2.2 = 1 → ¬ I e.1.1 → ¬ gb (gc 1 S e) (S e.1.2))
theorem gk_le {P : List Nat} (hn : P.Nodup) (h : ∀ u ∈ P, u < 16) : gk P ≤ 4 := by
  unfold gk
  have h1 : (P.filter (fun u => decide (12 ≤ u))) ⊆ [12, 13, 14, 15] := by
    intro u hu
    obtain ⟨h2, h3⟩ := List.mem_filter.mp hu
    have h4 := h u h2
    have h5 : 12 ≤ u := of_decide_eq_true h3
    have h6 : u = 12 ∨ u = 13 ∨ u = 14 ∨ u = 15 := by omega
    simpa using h6
  exact List.Nodup.length_le_of_subset (hn.sublist List.filter_sublist) h1
theorem gl_le {P : List Nat} (hn : P.Nodup) (h : ∀ u ∈ P, u < 16) : P.length ≤ 16 := by
  have h1 := List.Nodup.length_le_of_subset (l₂ := List.range 16) hn (fun u hu => List.mem_range.mpr (h u hu))
  simpa using h1
theorem gk_pow {P : List Nat} (hn : P.Nodup) (h : ∀ u ∈ P, u < 16) : (398 : Int) ^ gk P ≤ 25091827216 := by
  have h1 := gk_le hn h
  have h2 : gk P = 0 ∨ gk P = 1 ∨ gk P = 2 ∨ gk P = 3 ∨ gk P = 4 := by omega
  rcases h2 with q | q | q | q | q <;> rw [q] <;> decide
/-- no remainder is taken -/
theorem gc_ex {S : gS} {e : gE} {z M : Int} (hM : M * 199 < gBig) (hE : gEo e) (hU : 1 ≤ (S e.1.1).1.1 ∧ (S e.1.1).1.1 ≤ M) (hL : 1 ≤ (S e.1.1).1.2 ∧ (S e.1.1).1.2 ≤ M) :
    ((gc z S e).1.1 = (S e.1.1).1.1 * e.2.1 ∧ (gc z S e).1.2 = (S e.1.1).1.2 * e.2.2.1) ∧ (1 ≤ (gc z S e).1.1 ∧ (gc z S e).1.1 ≤ M * 199) ∧ (1 ≤ (gc z S e).1.2 ∧ (gc z S e).1.2 ≤ M * 199) := by
  obtain ⟨-, hu, hl, -⟩ := hE
  have u1 : (S e.1.1).1.1 * e.2.1 ≤ M * 199 := Int.mul_le_mul hU.2 hu.2 (by omega) (by omega)
  have u0 : 0 < (S e.1.1).1.1 * e.2.1 := Int.mul_pos (by omega) (by omega)
  have l1 : (S e.1.1).1.2 * e.2.2.1 ≤ M * 199 := Int.mul_le_mul hL.2 hl.2 (by omega) (by omega)
  have l0 : 0 < (S e.1.1).1.2 * e.2.2.1 := Int.mul_pos (by omega) (by omega)
  have e1 : (gc z S e).1.1 = (S e.1.1).1.1 * e.2.1 := Int.emod_eq_of_lt (Int.le_of_lt u0) (Int.lt_of_le_of_lt u1 hM)
  have e2 : (gc z S e).1.2 = (S e.1.1).1.2 * e.2.2.1 := Int.emod_eq_of_lt (Int.le_of_lt l0) (Int.lt_of_le_of_lt l1 hM)
  exact ⟨⟨e1, e2⟩, ⟨by rw [e1]; exact u0, by rw [e1]; exact u1⟩, ⟨by rw [e2]; exact l0, by rw [e2]; exact l1⟩⟩
theorem gnorm {a b c d p q : Int} (hp : 0 < p) (hq : 0 < q) : (a * p) * (b * q) ≤ (c * p) * (d * q) ↔ a * b ≤ c * d := by
  have e1 : (a * p) * (b * q) = a * b * (p * q) := by ac_rfl
  have e2 : (c * p) * (d * q) = c * d * (p * q) := by ac_rfl
  have h0 : 0 < p * q := Int.mul_pos hp hq
  rw [e1, e2]
  exact ⟨fun h => Int.le_of_mul_le_mul_right h h0, fun h => Int.mul_le_mul_of_nonneg_right h (Int.le_of_lt h0)⟩
theorem gJ_0 {L : List gE} {PU PL : Nat → Int} {TT : Nat → Nat → Prop} (hP : gP L PU PL TT) (hE : ∀ e ∈ L, gEo e) {s : Nat} (hs : s < 16) {S : gS} (h1 : ∀ l, l < 16 → S l = ((1, 1), (0, if l = s then 1 else 0))) : gJ L PU PL TT 0 S (fun l => l = s) := by
  refine ⟨fun l hl => ?_, fun l hl e => ?_, fun e he t hI => ?_⟩
  · rw [h1 l hl]
    refine ⟨?_, Or.inl rfl, fun _ => ⟨⟨(by decide : (1 : Int) ≤ 1), (by decide : (1 : Int) ≤ 25091827216)⟩, ⟨(by decide : (1 : Int) ≤ 1), (by decide : (1 : Int) ≤ 25091827216)⟩⟩⟩
    by_cases q : l = s
    · right; simp [q]
    · left; simp [q]
  · subst e
    have e1 := h1 l hl
    have e2 : (S l).2.2 = 1 := by rw [e1]; simp
    refine ⟨e2, hl, [l], rfl, by simp, fun u hu => ?_, ?_, fun u hu => ?_⟩
    · rw [List.mem_singleton.mp hu]; exact hl
    · rw [e1]
      unfold gw gk
      by_cases q : 12 ≤ l
      · simp [q]
      · simp [q]
    · rw [List.mem_singleton.mp hu]
      exact ⟨e2, Int.le_refl _, fun _ => ⟨hP.2.2.1 l hl, fun o => Or.inl o⟩⟩
  · have hf := (hE e he).1.1
    rw [h1 _ hf] at t
    by_cases q : e.1.1 = s
    · exact absurd q hI
    · simp [q] at t
theorem gJ_step {L : List gE} {PU PL : Nat → Int} {TT : Nat → Nat → Prop} {k : Nat} {S : gS} {I : Nat → Prop} (hP : gP L PU PL TT) (hE : ∀ e ∈ L, gEo e) (J : gJ L PU PL TT k S I) : gJ L PU PL TT (k + 1) (gi 1 S L L.length).1 (fun l => (gi 1 S L L.length).1 l ≠ S l) := by
  obtain ⟨ja, jb, jc⟩ := J
  have hcx := fun (e : gE) (he : e ∈ L) (t : (S e.1.1).2.2 = 1) => gc_ex (z := 1) (M := 25091827216) (by decide) (hE e he) ((ja _ (hE e he).1.1).2.2 t).1 ((ja _ (hE e he).1.1).2.2 t).2
  have hR := gi_ok (z := 1) (S := S) (L := L) (fun e he => (hE e he).1) (fun e he t => by have := (hcx e he t).2.2.1; omega) (fun l hl t => by have := ((ja l hl).2.2 t).2.1; omega) L.length
  generalize gi 1 S L L.length = p at hR ⊢
  obtain ⟨r1, r2, -⟩ := hR
  have mono : ∀ u, u < 16 → (S u).2.2 = 1 → (p.1 u).2.2 = 1 ∧ (S u).1.1 * (p.1 u).1.2 ≤ (p.1 u).1.1 * (S u).1.2 ∧ 0 < (p.1 u).1.2 ∧ ((S u).1.1 * (p.1 u).1.2 = (p.1 u).1.1 * (S u).1.2 → (S u).2.1 = 1 → (p.1 u).2.1 = 1) := by
    intro u hu tu
    rcases r1 u with q | ⟨⟨e, he, t, s, q⟩, g⟩
    · rw [q]
      exact ⟨tu, Int.le_refl _, by have := ((ja u hu).2.2 tu).2.1; omega, fun _ o => o⟩
    · have h1 := (hcx e he s).2.2.1
      rw [← q] at h1
      refine ⟨by rw [q]; rfl, ?_, by omega, ?_⟩
      · rcases g with w | w | ⟨w, o1, o2⟩
        · exact absurd tu w
        · exact Int.le_of_lt w
        · exact Int.le_of_eq w.symm
      · rcases g with w | w | ⟨w, o1, o2⟩
        · exact absurd tu w
        · exact fun h => absurd h (Int.ne_of_lt w)
        · exact fun _ _ => o1
  have main : ∀ l, l < 16 → p.1 l ≠ S l → (p.1 l).2.2 = 1 ∧ l < 16 ∧ gch L PU PL TT (k + 1) p.1 l := by
    intro l hl hne
    rcases r1 l with q | ⟨⟨e, he, t, s, q⟩, g⟩
    · exact absurd q hne
    · have hf := (hE e he).1.1
      have hI : I e.1.1 := Classical.byContradiction (fun hI => jc e he s hI (by rw [t, ← q]; exact g))
      obtain ⟨tf, -, P, pl, pn, pb, pw, pq⟩ := jb e.1.1 hf hI
      obtain ⟨⟨cu, cl⟩, cu1, cl1⟩ := hcx e he s
      obtain ⟨pul, pll⟩ := hP.1 l hl
      obtain ⟨puf, plf⟩ := hP.1 _ hf
      obtain ⟨fU, fL⟩ := (ja _ hf).2.2 s
      have t1 : (p.1 l).2.2 = 1 := by rw [q]; rfl
      have yl' : 0 < nY PU p.1 l := Int.mul_pos (by rw [q]; omega) pul
      have yf : 0 < nY PU S e.1.1 := Int.mul_pos (by omega) puf
      have uf0 : 0 < (S e.1.1).1.1 * (S e.1.1).1.2 := Int.mul_pos (by omega) (by omega)
      have hed := hP.2.1 e he
      rw [t] at hed
      have x1 : nX PL p.1 l * nY PU S e.1.1 = PU e.1.1 * e.2.1 * PL l * ((S e.1.1).1.1 * (S e.1.1).1.2) := by
        unfold nX nY; rw [q, cu]; ac_rfl
      have x2 : nX PL S e.1.1 * nY PU p.1 l = PU l * (PL e.1.1 * e.2.2.1) * ((S e.1.1).1.1 * (S e.1.1).1.2) := by
        unfold nX nY; rw [q, cl]; ac_rfl
      have A : nX PL p.1 l * nY PU S e.1.1 ≤ nX PL S e.1.1 * nY PU p.1 l := by
        rw [x1, x2]; exact Int.mul_le_mul_of_nonneg_right hed (Int.le_of_lt uf0)
      have Aeq : nX PL S e.1.1 * nY PU p.1 l ≤ nX PL p.1 l * nY PU S e.1.1 → gti PU PL e := by
        intro h'
        rw [x1, x2] at h'
        have h2 := Int.le_of_mul_le_mul_right h' uf0
        unfold gti
        rw [t]
        exact Int.le_antisymm hed h2
      have opn : (p.1 l).2.1 = 1 → (S e.1.1).2.1 = 1 ∨ e.2.2.2 = 1 := by
        rw [q]
        intro h
        by_cases hc : (1 : Int) = 1 ∧ ((S e.1.1).2.1 = 1 ∨ e.2.2.2 = 1)
        · exact hc.2
        · have h2 : (if (1 : Int) = 1 ∧ ((S e.1.1).2.1 = 1 ∨ e.2.2.2 = 1) then (1 : Int) else 0) = 1 := h
          rw [if_neg hc] at h2
          exact absurd h2 (by decide)
      have hnot : l ∉ P := by
        intro hl2
        obtain ⟨tl, le1, eq1⟩ := pq l hl2
        have yl : 0 < nY PU S l := Int.mul_pos (by have := ((ja l hl).2.2 tl).2.1; omega) pul
        have c1 : nX PL p.1 l * nY PU S l ≤ nX PL S l * nY PU p.1 l := fr_tr (Int.le_of_lt yl') yf (Int.le_of_lt yl) A le1
        have c2 : (p.1 l).1.1 * (S l).1.2 ≤ (S l).1.1 * (p.1 l).1.2 := (gnorm pll pul).mp c1
        rcases g with w | w | ⟨w, o1, o2⟩
        · exact absurd tl w
        · exact absurd w (Int.not_lt.mpr c2)
        · have lc : nX PL S l * nY PU p.1 l ≤ nX PL p.1 l * nY PU S l := (gnorm pll pul).mpr (Int.le_of_eq w.symm)
          have lf : nX PL S l * nY PU S e.1.1 ≤ nX PL S e.1.1 * nY PU S l := fr_tr (Int.le_of_lt yl) yl' (Int.le_of_lt yf) lc A
          obtain ⟨tt, oo⟩ := eq1 (Int.le_antisymm le1 lf)
          have fc : nX PL S e.1.1 * nY PU p.1 l ≤ nX PL p.1 l * nY PU S e.1.1 := fr_tr (Int.le_of_lt yf) yl (Int.le_of_lt yl') le1 lc
          have ti := Aeq fc
          have hft := hP.2.2.2.2.1 e he ti
          rw [t] at hft
          rcases opn o1 with o | o
          · rcases oo o with o3 | ⟨e2, m2, q1, q2, q3, q4⟩
            · exact o2 o3
            · have g2 := (hE e2 m2).1
              exact hP.2.2.2.2.2 e2 m2 q1 q2 (hP.2.2.2.1 _ l _ g2.2 hl g2.1 (hP.2.2.2.1 _ _ l g2.2 hf hl q4 hft) q3)
          · exact hP.2.2.2.2.2 e he o ti (by rw [t]; exact tt)
      refine ⟨t1, hl, l :: P, by simp [pl], List.nodup_cons.mpr ⟨hnot, pn⟩, ?_, ?_, ?_⟩
      · intro u hu
        rcases List.mem_cons.mp hu with h1 | h1
        · rw [h1]; exact hl
        · exact pb u h1
      · obtain ⟨-, hu, hlo, ht1, ht2, ht3⟩ := hE e he
        rw [t] at ht1 ht2 ht3
        obtain ⟨w1, w2⟩ := pw
        unfold gw
        rw [q, cu, cl]
        have mu : (S e.1.1).1.1 * e.2.1 ≤ (S e.1.1).1.1 * 199 := Int.mul_le_mul_of_nonneg_left hu.2 (by omega)
        have ml : (S e.1.1).1.2 * e.2.2.1 ≤ (S e.1.1).1.2 * 199 := Int.mul_le_mul_of_nonneg_left hlo.2 (by omega)
        have b0 : (0 : Int) ≤ 398 ^ gk P := Int.le_of_lt (Int.pow_pos (by decide))
        by_cases kl : 12 ≤ l
        · have gk1 : gk (l :: P) = gk P + 1 := by unfold gk; simp [kl]
          rw [gk1, if_pos kl, if_pos kl, Int.pow_succ]
          generalize (398 : Int) ^ gk P = B at *
          by_cases kf : 12 ≤ e.1.1
          · rw [if_pos kf] at w1 w2
            obtain ⟨a1, a2⟩ := ht3 ⟨fun _ => kl, fun _ => kf⟩
            rw [a1, a2]
            constructor <;> omega
          · rw [if_neg kf] at w1 w2
            have a := ht2 (by omega) kl
            have mu2 : (S e.1.1).1.1 * e.2.1 ≤ (S e.1.1).1.1 * 2 := Int.mul_le_mul_of_nonneg_left a (by omega)
            constructor <;> omega
        · have gk1 : gk (l :: P) = gk P := by unfold gk; simp [kl]
          rw [gk1, if_neg kl, if_neg kl]
          generalize (398 : Int) ^ gk P = B at *
          by_cases kf : 12 ≤ e.1.1
          · rw [if_pos kf] at w1 w2
            have a := ht1 kf (by omega)
            have ml2 : (S e.1.1).1.2 * e.2.2.1 ≤ (S e.1.1).1.2 * 2 := Int.mul_le_mul_of_nonneg_left a (by omega)
            constructor <;> omega
          · rw [if_neg kf] at w1 w2
            obtain ⟨a1, a2⟩ := ht3 ⟨fun z => absurd z kf, fun z => absurd z kl⟩
            rw [a1, a2]
            constructor <;> omega
      · intro u hu
        rcases List.mem_cons.mp hu with h1 | h1
        · rw [h1]
          exact ⟨t1, Int.le_refl _, fun _ => ⟨hP.2.2.1 _ hl, fun o => Or.inl o⟩⟩
        · obtain ⟨tu, le1, eq1⟩ := pq u h1
          have hu16 := pb u h1
          obtain ⟨m1, m2, m4, m5⟩ := mono u hu16 tu
          obtain ⟨puu, plu⟩ := hP.1 u hu16
          have uu : nX PL S u * nY PU p.1 u ≤ nX PL p.1 u * nY PU S u := (gnorm plu puu).mpr m2
          have yu : 0 < nY PU S u := Int.mul_pos (by have := ((ja u hu16).2.2 tu).2.1; omega) puu
          have yu' : 0 < nY PU p.1 u := Int.mul_pos m4 puu
          have c1 : nX PL p.1 l * nY PU S u ≤ nX PL S u * nY PU p.1 l := fr_tr (Int.le_of_lt yl') yf (Int.le_of_lt yu) A le1
          have c2 : nX PL p.1 l * nY PU p.1 u ≤ nX PL p.1 u * nY PU p.1 l := fr_tr (Int.le_of_lt yl') yu (Int.le_of_lt yu') c1 uu
          refine ⟨m1, c2, fun eq => ?_⟩
          have back : nX PL p.1 u * nY PU p.1 l ≤ nX PL p.1 l * nY PU p.1 u := Int.le_of_eq eq.symm
          have b1 : nX PL p.1 u * nY PU S e.1.1 ≤ nX PL S e.1.1 * nY PU p.1 u := fr_tr (Int.le_of_lt yu') yl' (Int.le_of_lt yf) back A
          have b2 : nX PL S u * nY PU S e.1.1 ≤ nX PL S e.1.1 * nY PU S u := fr_tr (Int.le_of_lt yu) yu' (Int.le_of_lt yf) uu b1
          obtain ⟨tt, oo⟩ := eq1 (Int.le_antisymm le1 b2)
          have b3 : nX PL S e.1.1 * nY PU p.1 u ≤ nX PL p.1 u * nY PU S e.1.1 := fr_tr (Int.le_of_lt yf) yu (Int.le_of_lt yu') le1 uu
          have b4 : nX PL S e.1.1 * nY PU p.1 l ≤ nX PL p.1 l * nY PU S e.1.1 := fr_tr (Int.le_of_lt yf) yu' (Int.le_of_lt yl') b3 back
          have ti := Aeq b4
          have hft := hP.2.2.2.2.1 e he ti
          rw [t] at hft
          refine ⟨hP.2.2.2.1 u e.1.1 l hu16 hf hl tt hft, fun o => ?_⟩
          rcases opn o with o | o
          · rcases oo o with o3 | ⟨e2, m2', q1, q2, q3, q4⟩
            · refine Or.inl (m5 ?_ o3)
              have b5 : nX PL p.1 u * nY PU S u ≤ nX PL S u * nY PU p.1 u := fr_tr (Int.le_of_lt yu') yf (Int.le_of_lt yu) b1 le1
              exact Int.le_antisymm m2 ((gnorm plu puu).mp b5)
            · exact Or.inr ⟨e2, m2', q1, q2, q3, hP.2.2.2.1 _ _ l (hE e2 m2').1.2 hf hl q4 hft⟩
          · exact Or.inr ⟨e, he, o, ti, tt, by rw [t]; exact hP.2.2.1 _ hl⟩
  refine ⟨fun l hl => ?_, main, fun e he s hI => ?_⟩
  · by_cases hne : p.1 l = S l
    · rw [hne]; exact ja l hl
    · obtain ⟨t1, -, P, pl, pn, pb, pw, -⟩ := main l hl hne
      rcases r1 l with q | ⟨⟨e, he, t, s, q⟩, g⟩
      · exact absurd q hne
      · obtain ⟨-, cu1, cl1⟩ := hcx e he s
        rw [← q] at cu1 cl1
        refine ⟨Or.inr t1, ?_, fun _ => ?_⟩
        · rw [q]
          unfold gc
          dsimp only
          split
          · exact Or.inr rfl
          · exact Or.inl rfl
        · have hb := gk_pow pn pb
          obtain ⟨w1, w2⟩ := pw
          generalize (398 : Int) ^ gk P = B at *
          by_cases kl : 12 ≤ l
          · rw [if_pos kl] at w1 w2
            omega
          · rw [if_neg kl] at w1 w2
            omega
  · have hf : p.1 e.1.1 = S e.1.1 := Classical.byContradiction hI
    have e1 : gc 1 p.1 e = gc 1 S e := by unfold gc; rw [hf]
    rw [e1]
    obtain ⟨j, hj⟩ := List.getElem?_of_mem he
    exact r2 j e (List.getElem?_eq_some_iff.mp hj).1 hj (by rw [← hf]; exact s)
theorem gJ_end {L : List gE} {PU PL : Nat → Int} {TT : Nat → Nat → Prop} {k : Nat} {S : gS} {I : Nat → Prop} (hP : gP L PU PL TT) (hE : ∀ e ∈ L, gEo e) (J : gJ L PU PL TT k S I) (h : (gi 1 S L L.length).2 ≠ 0) : k ≤ 14 := by
  have J' := gJ_step hP hE J
  obtain ⟨ja, jb, jc⟩ := J
  have hcx := fun (e : gE) (he : e ∈ L) (t : (S e.1.1).2.2 = 1) => gc_ex (z := 1) (M := 25091827216) (by decide) (hE e he) ((ja _ (hE e he).1.1).2.2 t).1 ((ja _ (hE e he).1.1).2.2 t).2
  have hR := gi_ok (z := 1) (S := S) (L := L) (fun e he => (hE e he).1) (fun e he t => by have := (hcx e he t).2.2.1; omega) (fun l hl t => by have := ((ja l hl).2.2 t).2.1; omega) L.length
  rcases hR.2.2 with ⟨q, -⟩ | ⟨-, l, hl, g, e, he, t, s, q⟩
  · exact absurd q h
  · have hne : (gi 1 S L L.length).1 l ≠ S l := by
      intro q2
      rw [← q2] at g
      exact gb_ir (by rw [q]; rfl) g
    obtain ⟨-, -, P, pl, pn, pb, -⟩ := J'.2.1 l hl hne
    have := gl_le pn pb
    omega
theorem gJ_01 {L : List gE} {PU PL : Nat → Int} {TT : Nat → Nat → Prop} {k : Nat} {S : gS} {I : Nat → Prop} (J : gJ L PU PL TT k S I) (hE : ∀ e ∈ L, gEo e) : (gi 1 S L L.length).2 = 0 ∨ (gi 1 S L L.length).2 = 1 := by
  obtain ⟨ja, jb, jc⟩ := J
  have hcx := fun (e : gE) (he : e ∈ L) (t : (S e.1.1).2.2 = 1) => gc_ex (z := 1) (M := 25091827216) (by decide) (hE e he) ((ja _ (hE e he).1.1).2.2 t).1 ((ja _ (hE e he).1.1).2.2 t).2
  have hR := gi_ok (z := 1) (S := S) (L := L) (fun e he => (hE e he).1) (fun e he t => by have := (hcx e he t).2.2.1; omega) (fun l hl t => by have := ((ja l hl).2.2 t).2.1; omega) L.length
  rcases hR.2.2 with ⟨q, -⟩ | ⟨q, -⟩
  · exact Or.inl q
  · exact Or.inr q
/-! the search for numbers that fit -/
def gM (M : Int) (S : gS) : Prop := ∀ l, l < 16 → (S l).2.2 = 1 ∧ (1 ≤ (S l).1.1 ∧ (S l).1.1 ≤ M) ∧ (1 ≤ (S l).1.2 ∧ (S l).1.2 ≤ M)
theorem gM_step {L : List gE} {M : Int} {S : gS} (hE : ∀ e ∈ L, gEo e) (hM : M * 199 < gBig) (h : gM M S) : gM (M * 199) (gi 0 S L L.length).1 ∧ ((gi 0 S L L.length).2 = 0 → (∀ l, (gi 0 S L L.length).1 l = S l) ∧ ∀ e ∈ L, (S e.1.1).1.1 * e.2.1 * (S e.1.2).1.2 ≤ (S e.1.2).1.1 * ((S e.1.1).1.2 * e.2.2.1)) := by
  have hcx := fun (e : gE) (he : e ∈ L) => gc_ex (S := S) (z := 0) (M := M) hM (hE e he) (h _ (hE e he).1.1).2.1 (h _ (hE e he).1.1).2.2
  have hR := gi_ok (z := 0) (S := S) (L := L) (fun e he => (hE e he).1) (fun e he t => by have := (hcx e he).2.2.1; omega) (fun l hl t => by have := (h l hl).2.2; omega) L.length
  generalize gi 0 S L L.length = p at hR ⊢
  obtain ⟨r1, r2, r3⟩ := hR
  refine ⟨fun l hl => ?_, fun z => ?_⟩
  · rcases r1 l with q | ⟨⟨e, he, t, s, q⟩, -⟩
    · rw [q]; have := h l hl; omega
    · rw [q]; exact ⟨rfl, (hcx e he).2.1, (hcx e he).2.2⟩
  · rcases r3 with ⟨-, q⟩ | ⟨q, -⟩
    · refine ⟨q, fun e he => ?_⟩
      obtain ⟨j, hj⟩ := List.getElem?_of_mem he
      have h1 := r2 j e (List.getElem?_eq_some_iff.mp hj).1 hj (h _ (hE e he).1.1).1
      rw [q] at h1
      obtain ⟨⟨cu, cl⟩, -⟩ := hcx e he
      have h2 : ¬ (S e.1.2).1.1 * (gc 0 S e).1.2 < (gc 0 S e).1.1 * (S e.1.2).1.2 := fun w => h1 (Or.inr (Or.inl w))
      rw [cu, cl] at h2
      exact Int.not_lt.mp h2
    · omega
abbrev P_X12_in (h0 : m_H) (a0 a1 a2 : Int) : Int → m_H → Prop := fun x h' => h0 = h' ∧ ((x = 1 ∧ (a1 ≤ a0 ∧ a0 ≤ a2)) ∨ (x = 0 ∧ ¬ (a1 ≤ a0 ∧ a0 ≤ a2)))
set_option maxHeartbeats 4000000 in
set_option maxRecDepth 100000 in
theorem c_X12_in (h0 : m_H) (a0 a1 a2 : Int) (G0 : GI h0) : m_CI M_X12_in [mJ a0, mJ a1, mJ a2] h0 (P_X12_in h0 a0 a1 a2) := by
  refine m_CI_of ⟨by decide, rfl, by simp [m_arg, m_isL, M_X12_in], ⟨rfl, rfl⟩, rfl, rfl⟩ (ls := [some (mJ a0), none, some (mJ a1), none, some (mJ a2), none]) rfl ?_
  refine z_lload_n (M := M_X12_in) 0 dX12_in_0 rfl ?_
  refine z_lload_n (M := M_X12_in) 1 dX12_in_1 rfl ?_
  refine z_lcmp (M := M_X12_in) 2 dX12_in_2 ?_
  refine z_if_lt (M := M_X12_in) 3 dX12_in_3 17 rfl (fun c1 => ?_) (fun c1 => ?_)
  · rw [m_cmp_lt] at c1
    refine z_iconst (M := M_X12_in) 17 dX12_in_17 ?_
    exact z_retZ (M := M_X12_in) 18 dX12_in_18 rfl (by omega) ⟨rfl, by omega⟩
  · rw [m_cmp_lt] at c1
    refine z_lload_n (M := M_X12_in) 6 dX12_in_6 rfl ?_
    refine z_lload (M := M_X12_in) 7 dX12_in_7 rfl ?_
    refine z_lcmp (M := M_X12_in) 9 dX12_in_9 ?_
    refine z_if_gt (M := M_X12_in) 10 dX12_in_10 17 rfl (fun c2 => ?_) (fun c2 => ?_)
    · rw [m_cmp_gt] at c2
      refine z_iconst (M := M_X12_in) 17 dX12_in_17 ?_
      exact z_retZ (M := M_X12_in) 18 dX12_in_18 rfl (by omega) ⟨rfl, by omega⟩
    · rw [m_cmp_gt] at c2
      refine z_iconst (M := M_X12_in) 13 dX12_in_13 ?_
      refine z_goto (M := M_X12_in) 14 dX12_in_14 18 rfl ?_
      exact z_retZ (M := M_X12_in) 18 dX12_in_18 rfl (by omega) ⟨rfl, by omega⟩
abbrev P_X12_is (h0 : m_H) (a0 a1 : Int) : Int → m_H → Prop := fun x h' => h0 = h' ∧ ((x = 1 ∧ m_and (m_shr a0 a1) 1 = 1) ∨ (x = 0 ∧ ¬ m_and (m_shr a0 a1) 1 = 1))
set_option maxHeartbeats 4000000 in
set_option maxRecDepth 100000 in
theorem c_X12_is (h0 : m_H) (a0 a1 : Int) (G0 : GI h0) : m_CI M_X12_is [mI a0, mI a1] h0 (P_X12_is h0 a0 a1) := by
  refine m_CI_of ⟨by decide, rfl, by simp [m_arg, m_isL, M_X12_is], ⟨rfl, rfl⟩, rfl, rfl⟩ (ls := [some (mI a0), some (mI a1)]) rfl ?_
  refine z_ok (fun _ _ ok => ?_)
  have oa0 : m_32 a0 := ok 0 _ rfl
  unfold m_32 at oa0
  have oa1 : m_32 a1 := ok 1 _ rfl
  unfold m_32 at oa1
  refine z_iload_n (M := M_X12_is) 0 dX12_is_0 rfl ?_
  refine z_iload_n (M := M_X12_is) 1 dX12_is_1 rfl ?_
  refine z_ishr (M := M_X12_is) 2 dX12_is_2 ?_
  refine z_topm (fun x1 ex1 ox1 => ?_)
  unfold m_32 at ox1
  refine z_iconst (M := M_X12_is) 3 dX12_is_3 ?_
  refine z_iand (M := M_X12_is) 4 dX12_is_4 ?_
  refine z_topBI (m_and_1 _) (fun x2 ex2 ax2 bx2 => ?_)
  refine z_iconst (M := M_X12_is) 5 dX12_is_5 ?_
  refine z_icmp_ne (M := M_X12_is) 6 dX12_is_6 13 rfl (fun c3 => ?_) (fun c3 => ?_)
  · refine z_iconst (M := M_X12_is) 13 dX12_is_13 ?_
    exact z_retZ (M := M_X12_is) 14 dX12_is_14 rfl (by omega) ⟨rfl, by subst_vars; omega⟩
  · refine z_iconst (M := M_X12_is) 9 dX12_is_9 ?_
    refine z_goto (M := M_X12_is) 10 dX12_is_10 14 rfl ?_
    exact z_retZ (M := M_X12_is) 14 dX12_is_14 rfl (by omega) ⟨rfl, by subst_vars; omega⟩
abbrev P_X12_isThing (h0 : m_H) (a0 : Int) : Int → m_H → Prop := fun x h' => h0 = h' ∧ ((x = 1 ∧ (0 ≤ a0 ∧ a0 ≤ 5)) ∨ (x = 0 ∧ ¬ (0 ≤ a0 ∧ a0 ≤ 5)))
set_option maxHeartbeats 4000000 in
set_option maxRecDepth 100000 in
theorem c_X12_isThing (h0 : m_H) (a0 : Int) (G0 : GI h0) : m_CI M_X12_isThing [mI a0] h0 (P_X12_isThing h0 a0) := by
  refine m_CI_of ⟨by decide, rfl, by simp [m_arg, m_isL, M_X12_isThing], ⟨rfl, rfl⟩, rfl, rfl⟩ (ls := [some (mI a0)]) rfl ?_
  refine z_ok (fun _ _ ok => ?_)
  have oa0 : m_32 a0 := ok 0 _ rfl
  unfold m_32 at oa0
  refine z_iload_n (M := M_X12_isThing) 0 dX12_isThing_0 rfl ?_
  refine z_i2l (M := M_X12_isThing) 1 dX12_isThing_1 ?_
  refine z_lconst (M := M_X12_isThing) 2 dX12_isThing_2 (v := 0) ?_
  refine z_ldc2 (M := M_X12_isThing) 3 dX12_isThing_3 k_X12_150 ?_
  refine z_sI (M := M_X12_isThing) 6 dX12_isThing_6 t_X12_in l_X12_143 (m_rr_of rfl) (rest := []) (c_X12_in h0 a0 0 5 G0) rfl rfl (Nat.le_of_ble_eq_true rfl) ⟨rfl, rfl⟩ (fun x1 h1 qx1 => ?_)
  obtain ⟨rfl, ⟨rfl, cx1⟩ | ⟨rfl, cx1⟩⟩ := qx1
  · exact z_retZ (M := M_X12_isThing) 9 dX12_isThing_9 rfl (by omega) ⟨rfl, by omega⟩
  · exact z_retZ (M := M_X12_isThing) 9 dX12_isThing_9 rfl (by omega) ⟨rfl, by omega⟩
abbrev P_X12_isKeeper (h0 : m_H) (a0 : Int) : Int → m_H → Prop := fun x h' => h0 = h' ∧ ((x = 1 ∧ (0 ≤ a0 ∧ a0 ≤ 3)) ∨ (x = 0 ∧ ¬ (0 ≤ a0 ∧ a0 ≤ 3)))
set_option maxHeartbeats 4000000 in
set_option maxRecDepth 100000 in
theorem c_X12_isKeeper (h0 : m_H) (a0 : Int) (G0 : GI h0) : m_CI M_X12_isKeeper [mI a0] h0 (P_X12_isKeeper h0 a0) := by
  refine m_CI_of ⟨by decide, rfl, by simp [m_arg, m_isL, M_X12_isKeeper], ⟨rfl, rfl⟩, rfl, rfl⟩ (ls := [some (mI a0)]) rfl ?_
  refine z_ok (fun _ _ ok => ?_)
  have oa0 : m_32 a0 := ok 0 _ rfl
  unfold m_32 at oa0
  refine z_iload_n (M := M_X12_isKeeper) 0 dX12_isKeeper_0 rfl ?_
  refine z_i2l (M := M_X12_isKeeper) 1 dX12_isKeeper_1 ?_
  refine z_lconst (M := M_X12_isKeeper) 2 dX12_isKeeper_2 (v := 0) ?_
  refine z_ldc2 (M := M_X12_isKeeper) 3 dX12_isKeeper_3 k_X12_152 ?_
  refine z_sI (M := M_X12_isKeeper) 6 dX12_isKeeper_6 t_X12_in l_X12_143 (m_rr_of rfl) (rest := []) (c_X12_in h0 a0 0 3 G0) rfl rfl (Nat.le_of_ble_eq_true rfl) ⟨rfl, rfl⟩ (fun x1 h1 qx1 => ?_)
  obtain ⟨rfl, ⟨rfl, cx1⟩ | ⟨rfl, cx1⟩⟩ := qx1
  · exact z_retZ (M := M_X12_isKeeper) 9 dX12_isKeeper_9 rfl (by omega) ⟨rfl, by omega⟩
  · exact z_retZ (M := M_X12_isKeeper) 9 dX12_isKeeper_9 rfl (by omega) ⟨rfl, by omega⟩
abbrev P_X12_isWeek (h0 : m_H) (a0 : Int) : Int → m_H → Prop := fun x h' => h0 = h' ∧ ((x = 1 ∧ (0 ≤ a0 ∧ a0 ≤ 31)) ∨ (x = 0 ∧ ¬ (0 ≤ a0 ∧ a0 ≤ 31)))
set_option maxHeartbeats 4000000 in
set_option maxRecDepth 100000 in
theorem c_X12_isWeek (h0 : m_H) (a0 : Int) (G0 : GI h0) : m_CI M_X12_isWeek [mI a0] h0 (P_X12_isWeek h0 a0) := by
  refine m_CI_of ⟨by decide, rfl, by simp [m_arg, m_isL, M_X12_isWeek], ⟨rfl, rfl⟩, rfl, rfl⟩ (ls := [some (mI a0)]) rfl ?_
  refine z_ok (fun _ _ ok => ?_)
  have oa0 : m_32 a0 := ok 0 _ rfl
  unfold m_32 at oa0
  refine z_iload_n (M := M_X12_isWeek) 0 dX12_isWeek_0 rfl ?_
  refine z_i2l (M := M_X12_isWeek) 1 dX12_isWeek_1 ?_
  refine z_lconst (M := M_X12_isWeek) 2 dX12_isWeek_2 (v := 0) ?_
  refine z_ldc2 (M := M_X12_isWeek) 3 dX12_isWeek_3 k_X12_154 ?_
  refine z_sI (M := M_X12_isWeek) 6 dX12_isWeek_6 t_X12_in l_X12_143 (m_rr_of rfl) (rest := []) (c_X12_in h0 a0 0 31 G0) rfl rfl (Nat.le_of_ble_eq_true rfl) ⟨rfl, rfl⟩ (fun x1 h1 qx1 => ?_)
  obtain ⟨rfl, ⟨rfl, cx1⟩ | ⟨rfl, cx1⟩⟩ := qx1
  · exact z_retZ (M := M_X12_isWeek) 9 dX12_isWeek_9 rfl (by omega) ⟨rfl, by omega⟩
  · exact z_retZ (M := M_X12_isWeek) 9 dX12_isWeek_9 rfl (by omega) ⟨rfl, by omega⟩
abbrev P_X12_isSmall (h0 : m_H) (a0 : Int) : Int → m_H → Prop := fun x h' => h0 = h' ∧ ((x = 1 ∧ (97 ≤ a0 ∧ a0 ≤ 122)) ∨ (x = 0 ∧ ¬ (97 ≤ a0 ∧ a0 ≤ 122)))
set_option maxHeartbeats 4000000 in
set_option maxRecDepth 100000 in
theorem c_X12_isSmall (h0 : m_H) (a0 : Int) (G0 : GI h0) : m_CI M_X12_isSmall [mI a0] h0 (P_X12_isSmall h0 a0) := by
  refine m_CI_of ⟨by decide, rfl, by simp [m_arg, m_isL, M_X12_isSmall], ⟨rfl, rfl⟩, rfl, rfl⟩ (ls := [some (mI a0)]) rfl ?_
  refine z_ok (fun _ _ ok => ?_)
  have oa0 : m_32 a0 := ok 0 _ rfl
  unfold m_32 at oa0
  refine z_iload_n (M := M_X12_isSmall) 0 dX12_isSmall_0 rfl ?_
  refine z_bipush (M := M_X12_isSmall) 1 dX12_isSmall_1 ?_
  refine z_icmp_lt (M := M_X12_isSmall) 3 dX12_isSmall_3 16 rfl (fun c1 => ?_) (fun c1 => ?_)
  · refine z_iconst (M := M_X12_isSmall) 16 dX12_isSmall_16 ?_
    exact z_retZ (M := M_X12_isSmall) 17 dX12_isSmall_17 rfl (by omega) ⟨rfl, by omega⟩
  · refine z_iload_n (M := M_X12_isSmall) 6 dX12_isSmall_6 rfl ?_
    refine z_bipush (M := M_X12_isSmall) 7 dX12_isSmall_7 ?_
    refine z_icmp_gt (M := M_X12_isSmall) 9 dX12_isSmall_9 16 rfl (fun c2 => ?_) (fun c2 => ?_)
    · refine z_iconst (M := M_X12_isSmall) 16 dX12_isSmall_16 ?_
      exact z_retZ (M := M_X12_isSmall) 17 dX12_isSmall_17 rfl (by omega) ⟨rfl, by omega⟩
    · refine z_iconst (M := M_X12_isSmall) 12 dX12_isSmall_12 ?_
      refine z_goto (M := M_X12_isSmall) 13 dX12_isSmall_13 17 rfl ?_
      exact z_retZ (M := M_X12_isSmall) 17 dX12_isSmall_17 rfl (by omega) ⟨rfl, by omega⟩
abbrev P_X12_isDigit (h0 : m_H) (a0 : Int) : Int → m_H → Prop := fun x h' => h0 = h' ∧ ((x = 1 ∧ (48 ≤ a0 ∧ a0 ≤ 57)) ∨ (x = 0 ∧ ¬ (48 ≤ a0 ∧ a0 ≤ 57)))
set_option maxHeartbeats 4000000 in
set_option maxRecDepth 100000 in
theorem c_X12_isDigit (h0 : m_H) (a0 : Int) (G0 : GI h0) : m_CI M_X12_isDigit [mI a0] h0 (P_X12_isDigit h0 a0) := by
  refine m_CI_of ⟨by decide, rfl, by simp [m_arg, m_isL, M_X12_isDigit], ⟨rfl, rfl⟩, rfl, rfl⟩ (ls := [some (mI a0)]) rfl ?_
  refine z_ok (fun _ _ ok => ?_)
  have oa0 : m_32 a0 := ok 0 _ rfl
  unfold m_32 at oa0
  refine z_iload_n (M := M_X12_isDigit) 0 dX12_isDigit_0 rfl ?_
  refine z_bipush (M := M_X12_isDigit) 1 dX12_isDigit_1 ?_
  refine z_icmp_lt (M := M_X12_isDigit) 3 dX12_isDigit_3 16 rfl (fun c1 => ?_) (fun c1 => ?_)
  · refine z_iconst (M := M_X12_isDigit) 16 dX12_isDigit_16 ?_
    exact z_retZ (M := M_X12_isDigit) 17 dX12_isDigit_17 rfl (by omega) ⟨rfl, by omega⟩
  · refine z_iload_n (M := M_X12_isDigit) 6 dX12_isDigit_6 rfl ?_
    refine z_bipush (M := M_X12_isDigit) 7 dX12_isDigit_7 ?_
    refine z_icmp_gt (M := M_X12_isDigit) 9 dX12_isDigit_9 16 rfl (fun c2 => ?_) (fun c2 => ?_)
    · refine z_iconst (M := M_X12_isDigit) 16 dX12_isDigit_16 ?_
      exact z_retZ (M := M_X12_isDigit) 17 dX12_isDigit_17 rfl (by omega) ⟨rfl, by omega⟩
    · refine z_iconst (M := M_X12_isDigit) 12 dX12_isDigit_12 ?_
      refine z_goto (M := M_X12_isDigit) 13 dX12_isDigit_13 17 rfl ?_
      exact z_retZ (M := M_X12_isDigit) 17 dX12_isDigit_17 rfl (by omega) ⟨rfl, by omega⟩
abbrev P_X12_isGround (h0 : m_H) (a0 : Int) : Int → m_H → Prop := fun x h' => h0 = h' ∧ ((x = 1 ∧ (0 ≤ a0 ∧ a0 ≤ 11)) ∨ (x = 0 ∧ ¬ (0 ≤ a0 ∧ a0 ≤ 11)))
set_option maxHeartbeats 4000000 in
set_option maxRecDepth 100000 in
theorem c_X12_isGround (h0 : m_H) (a0 : Int) (G0 : GI h0) : m_CI M_X12_isGround [mI a0] h0 (P_X12_isGround h0 a0) := by
  refine m_CI_of ⟨by decide, rfl, by simp [m_arg, m_isL, M_X12_isGround], ⟨rfl, rfl⟩, rfl, rfl⟩ (ls := [some (mI a0)]) rfl ?_
  refine z_ok (fun _ _ ok => ?_)
  have oa0 : m_32 a0 := ok 0 _ rfl
  unfold m_32 at oa0
  refine z_iload_n (M := M_X12_isGround) 0 dX12_isGround_0 rfl ?_
  refine z_i2l (M := M_X12_isGround) 1 dX12_isGround_1 ?_
  refine z_lconst (M := M_X12_isGround) 2 dX12_isGround_2 (v := 0) ?_
  refine z_ldc2 (M := M_X12_isGround) 3 dX12_isGround_3 k_X12_385 ?_
  refine z_sI (M := M_X12_isGround) 6 dX12_isGround_6 t_X12_in l_X12_143 (m_rr_of rfl) (rest := []) (c_X12_in h0 a0 0 11 G0) rfl rfl (Nat.le_of_ble_eq_true rfl) ⟨rfl, rfl⟩ (fun x1 h1 qx1 => ?_)
  obtain ⟨rfl, ⟨rfl, cx1⟩ | ⟨rfl, cx1⟩⟩ := qx1
  · exact z_retZ (M := M_X12_isGround) 9 dX12_isGround_9 rfl (by omega) ⟨rfl, by omega⟩
  · exact z_retZ (M := M_X12_isGround) 9 dX12_isGround_9 rfl (by omega) ⟨rfl, by omega⟩
abbrev P_X12_canEnter (h0 : m_H) (a0 a1 a2 a3 : Int) : Int → m_H → Prop := fun x h' => h0 = h' ∧ ((x = 1 ∧ ((0 ≤ a0 ∧ a0 ≤ 5) ∧ (0 ≤ a1 ∧ a1 ≤ 31) ∧ (1 ≤ a2 ∧ a2 ≤ 99) ∧ (0 ≤ a3 ∧ a3 ≤ 2))) ∨ (x = 0 ∧ ¬ ((0 ≤ a0 ∧ a0 ≤ 5) ∧ (0 ≤ a1 ∧ a1 ≤ 31) ∧ (1 ≤ a2 ∧ a2 ≤ 99) ∧ (0 ≤ a3 ∧ a3 ≤ 2))))
set_option maxHeartbeats 4000000 in
set_option maxRecDepth 100000 in
theorem c_X12_canEnter (h0 : m_H) (a0 a1 a2 a3 : Int) (G0 : GI h0) : m_CI M_X12_canEnter [mI a0, mI a1, mI a2, mI a3] h0 (P_X12_canEnter h0 a0 a1 a2 a3) := by
  refine m_CI_of ⟨by decide, rfl, by simp [m_arg, m_isL, M_X12_canEnter], ⟨rfl, rfl⟩, rfl, rfl⟩ (ls := [some (mI a0), some (mI a1), some (mI a2), some (mI a3)]) rfl ?_
  refine z_ok (fun _ _ ok => ?_)
  have oa0 : m_32 a0 := ok 0 _ rfl
  unfold m_32 at oa0
  have oa1 : m_32 a1 := ok 1 _ rfl
  unfold m_32 at oa1
  have oa2 : m_32 a2 := ok 2 _ rfl
  unfold m_32 at oa2
  have oa3 : m_32 a3 := ok 3 _ rfl
  unfold m_32 at oa3
  refine z_iload_n (M := M_X12_canEnter) 0 dX12_canEnter_0 rfl ?_
  refine z_sI (M := M_X12_canEnter) 1 dX12_canEnter_1 t_X12_isThing l_X12_166 (m_rr_of rfl) (rest := []) (c_X12_isThing h0 a0 G0) rfl rfl (Nat.le_of_ble_eq_true rfl) ⟨rfl, rfl⟩ (fun x1 h1 qx1 => ?_)
  obtain ⟨rfl, ⟨rfl, cx1⟩ | ⟨rfl, cx1⟩⟩ := qx1
  · refine z_if_eq_F (M := M_X12_canEnter) 4 dX12_canEnter_4 42 rfl (by omega) ?_
    refine z_iload_n (M := M_X12_canEnter) 7 dX12_canEnter_7 rfl ?_
    refine z_sI (M := M_X12_canEnter) 8 dX12_canEnter_8 t_X12_isWeek l_X12_156 (m_rr_of rfl) (rest := []) (c_X12_isWeek h0 a1 G0) rfl rfl (Nat.le_of_ble_eq_true rfl) ⟨rfl, rfl⟩ (fun x2 h2 qx2 => ?_)
    obtain ⟨rfl, ⟨rfl, cx2⟩ | ⟨rfl, cx2⟩⟩ := qx2
    · refine z_if_eq_F (M := M_X12_canEnter) 11 dX12_canEnter_11 42 rfl (by omega) ?_
      refine z_iload_n (M := M_X12_canEnter) 14 dX12_canEnter_14 rfl ?_
      refine z_i2l (M := M_X12_canEnter) 15 dX12_canEnter_15 ?_
      refine z_lconst (M := M_X12_canEnter) 16 dX12_canEnter_16 (v := 1) ?_
      refine z_ldc2 (M := M_X12_canEnter) 17 dX12_canEnter_17 k_X12_180 ?_
      refine z_sI (M := M_X12_canEnter) 20 dX12_canEnter_20 t_X12_in l_X12_143 (m_rr_of rfl) (rest := []) (c_X12_in h0 a2 1 99 G0) rfl rfl (Nat.le_of_ble_eq_true rfl) ⟨rfl, rfl⟩ (fun x3 h3 qx3 => ?_)
      obtain ⟨rfl, ⟨rfl, cx3⟩ | ⟨rfl, cx3⟩⟩ := qx3
      · refine z_if_eq_F (M := M_X12_canEnter) 23 dX12_canEnter_23 42 rfl (by omega) ?_
        refine z_iload_n (M := M_X12_canEnter) 26 dX12_canEnter_26 rfl ?_
        refine z_i2l (M := M_X12_canEnter) 27 dX12_canEnter_27 ?_
        refine z_lconst (M := M_X12_canEnter) 28 dX12_canEnter_28 (v := 0) ?_
        refine z_ldc2 (M := M_X12_canEnter) 29 dX12_canEnter_29 k_X12_182 ?_
        refine z_sI (M := M_X12_canEnter) 32 dX12_canEnter_32 t_X12_in l_X12_143 (m_rr_of rfl) (rest := []) (c_X12_in h0 a3 0 2 G0) rfl rfl (Nat.le_of_ble_eq_true rfl) ⟨rfl, rfl⟩ (fun x4 h4 qx4 => ?_)
        obtain ⟨rfl, ⟨rfl, cx4⟩ | ⟨rfl, cx4⟩⟩ := qx4
        · refine z_if_eq_F (M := M_X12_canEnter) 35 dX12_canEnter_35 42 rfl (by omega) ?_
          refine z_iconst (M := M_X12_canEnter) 38 dX12_canEnter_38 ?_
          refine z_goto (M := M_X12_canEnter) 39 dX12_canEnter_39 43 rfl ?_
          exact z_retZ (M := M_X12_canEnter) 43 dX12_canEnter_43 rfl (by omega) ⟨rfl, by omega⟩
        · refine z_if_eq_T (M := M_X12_canEnter) 35 dX12_canEnter_35 42 rfl (by omega) ?_
          refine z_iconst (M := M_X12_canEnter) 42 dX12_canEnter_42 ?_
          exact z_retZ (M := M_X12_canEnter) 43 dX12_canEnter_43 rfl (by omega) ⟨rfl, by omega⟩
      · refine z_if_eq_T (M := M_X12_canEnter) 23 dX12_canEnter_23 42 rfl (by omega) ?_
        refine z_iconst (M := M_X12_canEnter) 42 dX12_canEnter_42 ?_
        exact z_retZ (M := M_X12_canEnter) 43 dX12_canEnter_43 rfl (by omega) ⟨rfl, by omega⟩
    · refine z_if_eq_T (M := M_X12_canEnter) 11 dX12_canEnter_11 42 rfl (by omega) ?_
      refine z_iconst (M := M_X12_canEnter) 42 dX12_canEnter_42 ?_
      exact z_retZ (M := M_X12_canEnter) 43 dX12_canEnter_43 rfl (by omega) ⟨rfl, by omega⟩
  · refine z_if_eq_T (M := M_X12_canEnter) 4 dX12_canEnter_4 42 rfl (by omega) ?_
    refine z_iconst (M := M_X12_canEnter) 42 dX12_canEnter_42 ?_
    exact z_retZ (M := M_X12_canEnter) 43 dX12_canEnter_43 rfl (by omega) ⟨rfl, by omega⟩
abbrev P_X12_answer (h0 : m_H) (a1 : Int) : Int → m_H → Prop := fun x h' => GI h' ∧ FR [109] [(108, 1)] h0 h' ∧ a1 = x
set_option maxHeartbeats 4000000 in
set_option maxRecDepth 100000 in
theorem c_X12_answer (h0 : m_H) (a1 : Int) (G0 : GI h0) (pa1 : (-6) ≤ a1 ∧ a1 ≤ 2147483647) : m_CI M_X12_answer [mR 108, mI a1] h0 (P_X12_answer h0 a1) := by
  refine m_CI_of ⟨by decide, rfl, by simp [m_arg, m_isL, M_X12_answer], ⟨rfl, rfl⟩, rfl, rfl⟩ (ls := [some (mR 108), some (mI a1)]) rfl ?_
  refine z_aload_n (M := M_X12_answer) 0 dX12_answer_0 rfl ?_
  refine z_iload_n (M := M_X12_answer) 1 dX12_answer_1 rfl ?_
  refine z_if_ge (M := M_X12_answer) 2 dX12_answer_2 9 rfl (fun c1 => ?_) (fun c1 => ?_)
  · refine z_iconst (M := M_X12_answer) 9 dX12_answer_9 ?_
    refine z_putIH (M := M_X12_answer) 10 dX12_answer_10 p_X12_136 o_108 rfl (u_108_1 G0) ((FR.rf (cs := [109]) (ss := [(108, 1)]) (h := h0)).up rfl) (fun h1 E1 G1 R1 => ?_)
    refine z_iload_n (M := M_X12_answer) 13 dX12_answer_13 rfl ?_
    refine z_if_ge_T (M := M_X12_answer) 14 dX12_answer_14 28 rfl (by omega) ?_
    refine z_iload_n (M := M_X12_answer) 28 dX12_answer_28 rfl ?_
    exact z_retI (M := M_X12_answer) 29 dX12_answer_29 rfl ⟨G1, R1, rfl⟩
  · refine z_iload_n (M := M_X12_answer) 5 dX12_answer_5 rfl ?_
    refine z_goto (M := M_X12_answer) 6 dX12_answer_6 10 rfl ?_
    refine z_putIH (M := M_X12_answer) 10 dX12_answer_10 p_X12_136 o_108 rfl (u_108_1 G0) ((FR.rf (cs := [109]) (ss := [(108, 1)]) (h := h0)).up rfl) (fun h2 E2 G2 R2 => ?_)
    refine z_iload_n (M := M_X12_answer) 13 dX12_answer_13 rfl ?_
    refine z_if_ge_F (M := M_X12_answer) 14 dX12_answer_14 28 rfl (by omega) ?_
    refine z_aload_n (M := M_X12_answer) 17 dX12_answer_17 rfl ?_
    refine z_getR (M := M_X12_answer) 18 dX12_answer_18 f_X12_7 o_108 rfl (g_108_2 G2) ?_
    refine z_iload_n (M := M_X12_answer) 21 dX12_answer_21 rfl ?_
    refine z_inegN (M := M_X12_answer) 22 dX12_answer_22 (by omega) (by omega) ?_
    refine z_dup2 (M := M_X12_answer) 23 dX12_answer_23 rfl rfl ?_
    refine z_ialdV (M := M_X12_answer) 24 dX12_answer_24 o_109 (by omega) (by omega) (fun x2 ex2 => ?_)
    refine z_ok (fun ox2 _ _ => ?_)
    have ox2 := ox2.1; unfold m_ok m_32 at ox2
    refine z_iconst (M := M_X12_answer) 25 dX12_answer_25 ?_
    refine z_iadd (M := M_X12_answer) 26 dX12_answer_26 ?_
    refine z_topm (fun x3 ex3 ox3 => ?_)
    unfold m_32 at ox3
    refine z_iastH (M := M_X12_answer) 27 dX12_answer_27 o_109 (by omega) (by omega) (u_109 G2) (R2.up rfl) (fun h3 E3 G3 R3 => ?_)
    refine z_iload_n (M := M_X12_answer) 28 dX12_answer_28 rfl ?_
    exact z_retI (M := M_X12_answer) 29 dX12_answer_29 rfl ⟨G3, R3, rfl⟩
abbrev P_X12_was (h0 : m_H) (a1 : Int) : Int → m_H → Prop := fun x h' => GI h' ∧ FR [] [(108, 1)] h0 h' ∧ a1 = x
set_option maxHeartbeats 4000000 in
set_option maxRecDepth 100000 in
theorem c_X12_was (h0 : m_H) (a1 : Int) (G0 : GI h0) : m_CI M_X12_was [mR 108, mI a1] h0 (P_X12_was h0 a1) := by
  refine m_CI_of ⟨by decide, rfl, by simp [m_arg, m_isL, M_X12_was], ⟨rfl, rfl⟩, rfl, rfl⟩ (ls := [some (mR 108), some (mI a1)]) rfl ?_
  refine z_ok (fun _ _ ok => ?_)
  have oa1 : m_32 a1 := ok 1 _ rfl
  unfold m_32 at oa1
  refine z_aload_n (M := M_X12_was) 0 dX12_was_0 rfl ?_
  refine z_iconst (M := M_X12_was) 1 dX12_was_1 ?_
  refine z_putIH (M := M_X12_was) 2 dX12_was_2 p_X12_136 o_108 rfl (u_108_1 G0) ((FR.rf (cs := []) (ss := [(108, 1)]) (h := h0)).up rfl) (fun h1 E1 G1 R1 => ?_)
  refine z_iload_n (M := M_X12_was) 5 dX12_was_5 rfl ?_
  exact z_retI (M := M_X12_was) 6 dX12_was_6 rfl ⟨G1, R1, rfl⟩
abbrev P_X12_change (h0 : m_H) (a1 a2 : Int) : Int → m_H → Prop := fun x h' => GI h' ∧ FR [110] [(108, 1)] h0 h' ∧ h0 110 a1.toNat = x ∧ (∀ j : Nat, j ≠ a1.toNat → h' 110 j = h0 110 j) ∧ h' 110 a1.toNat = a2
set_option maxHeartbeats 4000000 in
set_option maxRecDepth 100000 in
theorem c_X12_change (h0 : m_H) (a1 a2 : Int) (G0 : GI h0) (pa1 : 0 ≤ a1 ∧ a1 ≤ 199) (hv : r_lo a1.toNat ≤ a2 ∧ a2 ≤ r_hi a1.toNat) : m_CI M_X12_change [mR 108, mI a1, mI a2] h0 (P_X12_change h0 a1 a2) := by
  refine m_CI_of ⟨by decide, rfl, by simp [m_arg, m_isL, M_X12_change], ⟨rfl, rfl⟩, rfl, rfl⟩ (ls := [some (mR 108), some (mI a1), some (mI a2), none]) rfl ?_
  refine z_ok (fun _ _ ok => ?_)
  have oa2 : m_32 a2 := ok 2 _ rfl
  unfold m_32 at oa2
  refine z_aload_n (M := M_X12_change) 0 dX12_change_0 rfl ?_
  refine z_getR (M := M_X12_change) 1 dX12_change_1 f_X12_13 o_108 rfl (g_108_3 G0) ?_
  refine z_iload_n (M := M_X12_change) 4 dX12_change_4 rfl ?_
  refine z_ialdV (M := M_X12_change) 5 dX12_change_5 o_110 (by omega) (by omega) (fun x1 ex1 => ?_)
  refine z_ok (fun ox1 _ _ => ?_)
  have ox1 := ox1.1; unfold m_ok m_32 at ox1
  refine z_istore_n (M := M_X12_change) 6 dX12_change_6 (ls' := [some (mR 108), some (mI a1), some (mI a2), some (mI x1)]) (by decide) rfl ?_
  refine z_aload_n (M := M_X12_change) 7 dX12_change_7 rfl ?_
  refine z_getR (M := M_X12_change) 8 dX12_change_8 f_X12_13 o_108 rfl (g_108_3 G0) ?_
  refine z_iload_n (M := M_X12_change) 11 dX12_change_11 rfl ?_
  refine z_iload_n (M := M_X12_change) 12 dX12_change_12 rfl ?_
  refine z_iastH (M := M_X12_change) 13 dX12_change_13 o_110 (by omega) (by omega) (u_110 G0 hv.1 hv.2) ((FR.rf (cs := [110]) (ss := [(108, 1)]) (h := h0)).up rfl) (fun h1 E1 G1 R1 => ?_)
  refine z_aload_n (M := M_X12_change) 14 dX12_change_14 rfl ?_
  refine z_iload_n (M := M_X12_change) 15 dX12_change_15 rfl ?_
  refine z_vI (M := M_X12_change) 16 dX12_change_16 t_X12_was l_X12_139 (m_rr_of rfl) (rest := []) (c_X12_was h1 x1 G1) o_108 rfl rfl rfl (Nat.le_of_ble_eq_true rfl) ⟨rfl, rfl⟩ (fun x2 h2 qx2 => ?_)
  obtain ⟨G2, S2, rfl⟩ := qx2
  have R2 := R1.call S2 (by decide +kernel)
  exact z_retI (M := M_X12_change) 19 dX12_change_19 rfl ⟨G2, R2, ex1, fun j hj => (S2 110 j rfl).trans (upN E1 (fun q => hj q.2)), (S2 110 _ rfl).trans (upE E1)⟩
abbrev P_X12_image (h0 : m_H) (a1 : Int) : Int → m_H → Prop := fun x h' => GI h' ∧ FR [109, 111, 112] [(108, 0), (108, 1)] h0 h' ∧ (-1) ≤ x ∧ x ≤ 0 ∧ NPi h0 h'
def q_X12_image (h0 : m_H) (a1 : Int) (n : Nat) : Prop := (∀ (l2 : Int) (h : m_H), GI h → FR [109, 111, 112] [(108, 0), (108, 1)] h0 h → 0 ≤ l2 → l2 ≤ 200 → 0 ≤ a1 → a1 ≤ 1 → (∀ j : Nat, (j : Int) < l2 → r_lo j ≤ h 111 (200 * a1.toNat + j) ∧ h 111 (200 * a1.toNat + j) ≤ r_hi j) → (NIm h0 h a1.toNat l2) → 2 * (200 - l2) + (1) ≤ (n : Int) → m_Z oF M_X12_image 23 [some (mR 108), some (mI a1), some (mI l2)] [] h (m_QI (P_X12_image h0 a1)))
set_option maxHeartbeats 4000000 in
set_option maxRecDepth 100000 in
theorem s_X12_image_23 (h0 : m_H) (a1 : Int) (G0 : GI h0) (n : Nat) (ih : q_X12_image h0 a1 n) : ∀ (l2 : Int) (h : m_H), GI h → FR [109, 111, 112] [(108, 0), (108, 1)] h0 h → 0 ≤ l2 → l2 ≤ 200 → 0 ≤ a1 → a1 ≤ 1 → (∀ j : Nat, (j : Int) < l2 → r_lo j ≤ h 111 (200 * a1.toNat + j) ∧ h 111 (200 * a1.toNat + j) ≤ r_hi j) → (NIm h0 h a1.toNat l2) → 2 * (200 - l2) + (1) ≤ ((n + 1 : Nat) : Int) → m_Z oF M_X12_image 23 [some (mR 108), some (mI a1), some (mI l2)] [] h (m_QI (P_X12_image h0 a1)) := by
  intro l2 h G R v0 v1 v2 v3 i0 i1 hr
  refine z_iload_n (M := M_X12_image) 23 dX12_image_23 rfl ?_
  refine z_sipush (M := M_X12_image) 24 dX12_image_24 ?_
  refine z_icmp_ge (M := M_X12_image) 27 dX12_image_27 54 rfl (fun c1 => ?_) (fun c1 => ?_)
  · refine z_aload_n (M := M_X12_image) 54 dX12_image_54 rfl ?_
    refine z_getR (M := M_X12_image) 55 dX12_image_55 f_X12_19 o_108 rfl (g_108_5 G) ?_
    refine z_iload_n (M := M_X12_image) 58 dX12_image_58 rfl ?_
    refine z_iconst (M := M_X12_image) 59 dX12_image_59 ?_
    refine z_zastH (M := M_X12_image) 60 dX12_image_60 o_112 (by omega) (by omega) (by omega) (ux_112 G (by omega) (by omega) (fun i hi => i0 i (by omega))) (R.up rfl) (fun h1 E1 G1 R1 => ?_)
    refine z_aload_n (M := M_X12_image) 61 dX12_image_61 rfl ?_
    refine z_iconst (M := M_X12_image) 62 dX12_image_62 ?_
    refine z_vI (M := M_X12_image) 63 dX12_image_63 t_X12_answer l_X12_147 (m_rr_of rfl) (rest := []) (c_X12_answer h1 0 G1 ⟨by omega, by omega⟩) o_108 rfl rfl rfl (Nat.le_of_ble_eq_true rfl) ⟨rfl, rfl⟩ (fun x2 h2 qx2 => ?_)
    obtain ⟨G2, S2, rfl⟩ := qx2
    have R2 := R1.call S2 (by decide +kernel)
    exact z_retI (M := M_X12_image) 66 dX12_image_66 rfl ⟨G2, R2, by omega, by omega, (NIm_end G0 (by omega) (by omega) i1 (by omega) E1 S2 (fun _ => rfl) (fun _ => rfl) (fun _ => rfl))⟩
  · refine z_aload_n (M := M_X12_image) 30 dX12_image_30 rfl ?_
    refine z_getR (M := M_X12_image) 31 dX12_image_31 f_X12_16 o_108 rfl (g_108_4 G) ?_
    refine z_sipush (M := M_X12_image) 34 dX12_image_34 ?_
    refine z_iload_n (M := M_X12_image) 37 dX12_image_37 rfl ?_
    refine z_imulN (M := M_X12_image) 38 dX12_image_38 (by omega) (by omega) ?_
    refine z_iload_n (M := M_X12_image) 39 dX12_image_39 rfl ?_
    refine z_iaddN (M := M_X12_image) 40 dX12_image_40 (by omega) (by omega) ?_
    refine z_aload_n (M := M_X12_image) 41 dX12_image_41 rfl ?_
    refine z_getR (M := M_X12_image) 42 dX12_image_42 f_X12_13 o_108 rfl (g_108_3 G) ?_
    refine z_iload_n (M := M_X12_image) 45 dX12_image_45 rfl ?_
    refine z_ialdV (M := M_X12_image) 46 dX12_image_46 o_110 (by omega) (by omega) (fun x3 ex3 => ?_)
    refine z_ok (fun ox3 _ _ => ?_)
    have ox3 := ox3.1; unfold m_ok m_32 at ox3
    refine z_iastH (M := M_X12_image) 47 dX12_image_47 o_111 (by omega) (by omega) (ux_111 G (by rw [show (200 * a1 + l2).toNat % 200 = l2.toNat by omega]; exact ex3 ▸ g_110 G (by omega))) (R.up rfl) (fun h3 E3 G3 R3 => ?_)
    refine z_iincN (M := M_X12_image) 48 dX12_image_48 (ls' := [some (mR 108), some (mI a1), some (mI (l2 + 1))]) (by decide) rfl (by (unfold m_32; decide)) (by omega) (by omega) rfl ?_
    refine z_goto (M := M_X12_image) 51 dX12_image_51 23 rfl ?_
    exact z_mask [true, true, true] rfl (ih (l2 + 1) h3 G3 R3 (by omega) (by omega) (by omega) (by omega) (im_step (by omega) (by omega) (by omega) E3 (ex3 ▸ g_110 G (by omega)) i0) (NIm_step (by omega) (by omega) (by omega) i1 E3 ex3) (by omega))
theorem a_X12_image (h0 : m_H) (a1 : Int) (G0 : GI h0) : ∀ n, q_X12_image h0 a1 n := by
  intro n
  induction n with
  | zero => unfold q_X12_image; intros; omega
  | succ n ih => exact s_X12_image_23 h0 a1 G0 n ih
set_option maxHeartbeats 4000000 in
set_option maxRecDepth 100000 in
theorem c_X12_image (h0 : m_H) (a1 : Int) (G0 : GI h0) : m_CI M_X12_image [mR 108, mI a1] h0 (P_X12_image h0 a1) := by
  refine m_CI_of ⟨by decide, rfl, by simp [m_arg, m_isL, M_X12_image], ⟨rfl, rfl⟩, rfl, rfl⟩ (ls := [some (mR 108), some (mI a1), none]) rfl ?_
  have ih := a_X12_image h0 a1 G0 408
  refine z_ok (fun _ _ ok => ?_)
  have oa1 : m_32 a1 := ok 1 _ rfl
  unfold m_32 at oa1
  refine z_aload_n (M := M_X12_image) 0 dX12_image_0 rfl ?_
  refine z_iconst (M := M_X12_image) 1 dX12_image_1 ?_
  refine z_putIH (M := M_X12_image) 2 dX12_image_2 p_X12_133 o_108 rfl (u_108_0 G0) ((FR.rf (cs := [109, 111, 112]) (ss := [(108, 0), (108, 1)]) (h := h0)).up rfl) (fun h1 E1 G1 R1 => ?_)
  refine z_iload_n (M := M_X12_image) 5 dX12_image_5 rfl ?_
  refine z_i2l (M := M_X12_image) 6 dX12_image_6 ?_
  refine z_lconst (M := M_X12_image) 7 dX12_image_7 (v := 0) ?_
  refine z_lconst (M := M_X12_image) 8 dX12_image_8 (v := 1) ?_
  refine z_sI (M := M_X12_image) 9 dX12_image_9 t_X12_in l_X12_143 (m_rr_of rfl) (rest := []) (c_X12_in h1 a1 0 1 G1) rfl rfl (Nat.le_of_ble_eq_true rfl) ⟨rfl, rfl⟩ (fun x1 h2 qx1 => ?_)
  obtain ⟨rfl, ⟨rfl, cx1⟩ | ⟨rfl, cx1⟩⟩ := qx1
  · refine z_if_ne_T (M := M_X12_image) 12 dX12_image_12 21 rfl (by omega) ?_
    refine z_iconst (M := M_X12_image) 21 dX12_image_21 ?_
    refine z_istore_n (M := M_X12_image) 22 dX12_image_22 (ls' := [some (mR 108), some (mI a1), some (mI 0)]) (by decide) rfl ?_
    exact z_mask [true, true, true] rfl (ih 0 h1 G1 R1 (by omega) (by omega) (by omega) (by omega) (fun j hj => by omega) (NIm_0 E1) (by omega))
  · refine z_if_ne_F (M := M_X12_image) 12 dX12_image_12 21 rfl (by omega) ?_
    refine z_aload_n (M := M_X12_image) 15 dX12_image_15 rfl ?_
    refine z_iconst (M := M_X12_image) 16 dX12_image_16 ?_
    refine z_vI (M := M_X12_image) 17 dX12_image_17 t_X12_answer l_X12_147 (m_rr_of rfl) (rest := []) (c_X12_answer h1 (-1) G1 ⟨by omega, by omega⟩) o_108 rfl rfl rfl (Nat.le_of_ble_eq_true rfl) ⟨rfl, rfl⟩ (fun x2 h3 qx2 => ?_)
    obtain ⟨G3, S3, rfl⟩ := qx2
    have R3 := R1.call S3 (by decide +kernel)
    exact z_retI (M := M_X12_image) 20 dX12_image_20 rfl ⟨G3, R3, by omega, by omega, (NPi.call (NPi.put NPi.rf E1 (by decide)) S3 (fun _ => rfl) (fun _ => rfl) (fun _ => rfl))⟩
abbrev P_X12_back (h0 : m_H) (a1 : Int) : Int → m_H → Prop := fun x h' => GI h' ∧ FR [109, 110] [(108, 0), (108, 1)] h0 h' ∧ (-2) ≤ x ∧ x ≤ 0 ∧ NQi h0 h'
def q_X12_back (h0 : m_H) (a1 : Int) (n : Nat) : Prop := (∀ (l2 : Int) (h : m_H), GI h → FR [109, 110] [(108, 0), (108, 1)] h0 h → 0 ≤ l2 → l2 ≤ 200 → 0 ≤ a1 → a1 ≤ 1 → (h 112 a1.toNat ≠ 0) → (NBk h0 h a1.toNat l2) → 2 * (200 - l2) + (1) ≤ (n : Int) → m_Z oF M_X12_back 39 [some (mR 108), some (mI a1), some (mI l2)] [] h (m_QI (P_X12_back h0 a1)))
set_option maxHeartbeats 4000000 in
set_option maxRecDepth 100000 in
theorem s_X12_back_39 (h0 : m_H) (a1 : Int) (G0 : GI h0) (n : Nat) (ih : q_X12_back h0 a1 n) : ∀ (l2 : Int) (h : m_H), GI h → FR [109, 110] [(108, 0), (108, 1)] h0 h → 0 ≤ l2 → l2 ≤ 200 → 0 ≤ a1 → a1 ≤ 1 → (h 112 a1.toNat ≠ 0) → (NBk h0 h a1.toNat l2) → 2 * (200 - l2) + (1) ≤ ((n + 1 : Nat) : Int) → m_Z oF M_X12_back 39 [some (mR 108), some (mI a1), some (mI l2)] [] h (m_QI (P_X12_back h0 a1)) := by
  intro l2 h G R v0 v1 v2 v3 i0 i1 hr
  refine z_iload_n (M := M_X12_back) 39 dX12_back_39 rfl ?_
  refine z_sipush (M := M_X12_back) 40 dX12_back_40 ?_
  refine z_icmp_ge (M := M_X12_back) 43 dX12_back_43 70 rfl (fun c1 => ?_) (fun c1 => ?_)
  · refine z_aload_n (M := M_X12_back) 70 dX12_back_70 rfl ?_
    refine z_iconst (M := M_X12_back) 71 dX12_back_71 ?_
    refine z_vI (M := M_X12_back) 72 dX12_back_72 t_X12_answer l_X12_147 (m_rr_of rfl) (rest := []) (c_X12_answer h 0 G ⟨by omega, by omega⟩) o_108 rfl rfl rfl (Nat.le_of_ble_eq_true rfl) ⟨rfl, rfl⟩ (fun x2 h1 qx2 => ?_)
    obtain ⟨G1, S1, rfl⟩ := qx2
    have R1 := R.call S1 (by decide +kernel)
    exact z_retI (M := M_X12_back) 75 dX12_back_75 rfl ⟨G1, R1, by omega, by omega, (NBk_end G (by omega) (by omega) i1 (by omega) i0 S1 (fun _ => rfl) (fun _ => rfl) (fun _ => rfl))⟩
  · refine z_aload_n (M := M_X12_back) 46 dX12_back_46 rfl ?_
    refine z_getR (M := M_X12_back) 47 dX12_back_47 f_X12_13 o_108 rfl (g_108_3 G) ?_
    refine z_iload_n (M := M_X12_back) 50 dX12_back_50 rfl ?_
    refine z_aload_n (M := M_X12_back) 51 dX12_back_51 rfl ?_
    refine z_getR (M := M_X12_back) 52 dX12_back_52 f_X12_16 o_108 rfl (g_108_4 G) ?_
    refine z_sipush (M := M_X12_back) 55 dX12_back_55 ?_
    refine z_iload_n (M := M_X12_back) 58 dX12_back_58 rfl ?_
    refine z_imulN (M := M_X12_back) 59 dX12_back_59 (by omega) (by omega) ?_
    refine z_iload_n (M := M_X12_back) 60 dX12_back_60 rfl ?_
    refine z_iaddN (M := M_X12_back) 61 dX12_back_61 (by omega) (by omega) ?_
    refine z_ialdV (M := M_X12_back) 62 dX12_back_62 o_111 (by omega) (by omega) (fun x3 ex3 => ?_)
    refine z_ok (fun ox3 _ _ => ?_)
    have ox3 := ox3.1; unfold m_ok m_32 at ox3
    refine z_iastH (M := M_X12_back) 63 dX12_back_63 o_110 (by omega) (by omega) (u_110 G (ex3 ▸ (bk_b G (by omega) (by omega) (by omega) (by omega) i0).1) (ex3 ▸ (bk_b G (by omega) (by omega) (by omega) (by omega) i0).2)) (R.up rfl) (fun h2 E2 G2 R2 => ?_)
    refine z_iincN (M := M_X12_back) 64 dX12_back_64 (ls' := [some (mR 108), some (mI a1), some (mI (l2 + 1))]) (by decide) rfl (by (unfold m_32; decide)) (by omega) (by omega) rfl ?_
    refine z_goto (M := M_X12_back) 67 dX12_back_67 39 rfl ?_
    exact z_mask [true, true, true] rfl (ih (l2 + 1) h2 G2 R2 (by omega) (by omega) (by omega) (by omega) (by rw [E2, m_up_ne1 (by decide)]; exact i0) (NBk_step (by omega) (by omega) i1 E2 ex3) (by omega))
theorem a_X12_back (h0 : m_H) (a1 : Int) (G0 : GI h0) : ∀ n, q_X12_back h0 a1 n := by
  intro n
  induction n with
  | zero => unfold q_X12_back; intros; omega
  | succ n ih => exact s_X12_back_39 h0 a1 G0 n ih
set_option maxHeartbeats 4000000 in
set_option maxRecDepth 100000 in
theorem c_X12_back (h0 : m_H) (a1 : Int) (G0 : GI h0) : m_CI M_X12_back [mR 108, mI a1] h0 (P_X12_back h0 a1) := by
  refine m_CI_of ⟨by decide, rfl, by simp [m_arg, m_isL, M_X12_back], ⟨rfl, rfl⟩, rfl, rfl⟩ (ls := [some (mR 108), some (mI a1), none]) rfl ?_
  have ih := a_X12_back h0 a1 G0 408
  refine z_ok (fun _ _ ok => ?_)
  have oa1 : m_32 a1 := ok 1 _ rfl
  unfold m_32 at oa1
  refine z_aload_n (M := M_X12_back) 0 dX12_back_0 rfl ?_
  refine z_iconst (M := M_X12_back) 1 dX12_back_1 ?_
  refine z_putIH (M := M_X12_back) 2 dX12_back_2 p_X12_133 o_108 rfl (u_108_0 G0) ((FR.rf (cs := [109, 110]) (ss := [(108, 0), (108, 1)]) (h := h0)).up rfl) (fun h1 E1 G1 R1 => ?_)
  refine z_iload_n (M := M_X12_back) 5 dX12_back_5 rfl ?_
  refine z_i2l (M := M_X12_back) 6 dX12_back_6 ?_
  refine z_lconst (M := M_X12_back) 7 dX12_back_7 (v := 0) ?_
  refine z_lconst (M := M_X12_back) 8 dX12_back_8 (v := 1) ?_
  refine z_sI (M := M_X12_back) 9 dX12_back_9 t_X12_in l_X12_143 (m_rr_of rfl) (rest := []) (c_X12_in h1 a1 0 1 G1) rfl rfl (Nat.le_of_ble_eq_true rfl) ⟨rfl, rfl⟩ (fun x1 h2 qx1 => ?_)
  obtain ⟨rfl, ⟨rfl, cx1⟩ | ⟨rfl, cx1⟩⟩ := qx1
  · refine z_if_ne_T (M := M_X12_back) 12 dX12_back_12 21 rfl (by omega) ?_
    refine z_aload_n (M := M_X12_back) 21 dX12_back_21 rfl ?_
    refine z_getR (M := M_X12_back) 22 dX12_back_22 f_X12_19 o_108 rfl (g_108_5 G1) ?_
    refine z_iload_n (M := M_X12_back) 25 dX12_back_25 rfl ?_
    refine z_zaldG (M := M_X12_back) 26 dX12_back_26 o_112 (by omega) (by omega) (g_112 G1 (by omega)) (fun x2 ex2 ax2 bx2 => ?_)
    refine z_if_ne (M := M_X12_back) 27 dX12_back_27 37 rfl (fun c3 => ?_) (fun c3 => ?_)
    · refine z_iconst (M := M_X12_back) 37 dX12_back_37 ?_
      refine z_istore_n (M := M_X12_back) 38 dX12_back_38 (ls' := [some (mR 108), some (mI a1), some (mI 0)]) (by decide) rfl ?_
      exact z_mask [true, true, true] rfl (ih 0 h1 G1 R1 (by omega) (by omega) (by omega) (by omega) (fun q => by omega) (NBk_0 E1) (by omega))
    · refine z_aload_n (M := M_X12_back) 30 dX12_back_30 rfl ?_
      refine z_bipush (M := M_X12_back) 31 dX12_back_31 ?_
      refine z_vI (M := M_X12_back) 33 dX12_back_33 t_X12_answer l_X12_147 (m_rr_of rfl) (rest := []) (c_X12_answer h1 (-2) G1 ⟨by omega, by omega⟩) o_108 rfl rfl rfl (Nat.le_of_ble_eq_true rfl) ⟨rfl, rfl⟩ (fun x4 h3 qx4 => ?_)
      obtain ⟨G3, S3, rfl⟩ := qx4
      have R3 := R1.call S3 (by decide +kernel)
      exact z_retI (M := M_X12_back) 36 dX12_back_36 rfl ⟨G3, R3, by omega, by omega, (NQi.call (NQi.put NQi.rf E1 (by decide)) S3 (fun _ => rfl) (fun _ => rfl) (fun _ => rfl))⟩
  · refine z_if_ne_F (M := M_X12_back) 12 dX12_back_12 21 rfl (by omega) ?_
    refine z_aload_n (M := M_X12_back) 15 dX12_back_15 rfl ?_
    refine z_iconst (M := M_X12_back) 16 dX12_back_16 ?_
    refine z_vI (M := M_X12_back) 17 dX12_back_17 t_X12_answer l_X12_147 (m_rr_of rfl) (rest := []) (c_X12_answer h1 (-1) G1 ⟨by omega, by omega⟩) o_108 rfl rfl rfl (Nat.le_of_ble_eq_true rfl) ⟨rfl, rfl⟩ (fun x5 h4 qx5 => ?_)
    obtain ⟨G4, S4, rfl⟩ := qx5
    have R4 := R1.call S4 (by decide +kernel)
    exact z_retI (M := M_X12_back) 20 dX12_back_20 rfl ⟨G4, R4, by omega, by omega, (NQi.call (NQi.put NQi.rf E1 (by decide)) S4 (fun _ => rfl) (fun _ => rfl) (fun _ => rfl))⟩
abbrev P_X12_week (h0 : m_H) (a1 a2 : Int) : Int → m_H → Prop := fun x h' => GI h' ∧ FR [109, 110] [(108, 0), (108, 1)] h0 h' ∧ NPi h0 h'
set_option maxHeartbeats 4000000 in
set_option maxRecDepth 100000 in
theorem c_X12_week (h0 : m_H) (a1 a2 : Int) (G0 : GI h0) : m_CI M_X12_week [mR 108, mI a1, mI a2] h0 (P_X12_week h0 a1 a2) := by
  refine m_CI_of ⟨by decide, rfl, by simp [m_arg, m_isL, M_X12_week], ⟨rfl, rfl⟩, rfl, rfl⟩ (ls := [some (mR 108), some (mI a1), some (mI a2)]) rfl ?_
  refine z_ok (fun _ _ ok => ?_)
  have oa1 : m_32 a1 := ok 1 _ rfl
  unfold m_32 at oa1
  have oa2 : m_32 a2 := ok 2 _ rfl
  unfold m_32 at oa2
  refine z_aload_n (M := M_X12_week) 0 dX12_week_0 rfl ?_
  refine z_iconst (M := M_X12_week) 1 dX12_week_1 ?_
  refine z_putIH (M := M_X12_week) 2 dX12_week_2 p_X12_133 o_108 rfl (u_108_0 G0) ((FR.rf (cs := [109, 110]) (ss := [(108, 0), (108, 1)]) (h := h0)).up rfl) (fun h1 E1 G1 R1 => ?_)
  refine z_iload_n (M := M_X12_week) 5 dX12_week_5 rfl ?_
  refine z_sI (M := M_X12_week) 6 dX12_week_6 t_X12_isWeek l_X12_156 (m_rr_of rfl) (rest := []) (c_X12_isWeek h1 a1 G1) rfl rfl (Nat.le_of_ble_eq_true rfl) ⟨rfl, rfl⟩ (fun x1 h2 qx1 => ?_)
  obtain ⟨rfl, ⟨rfl, cx1⟩ | ⟨rfl, cx1⟩⟩ := qx1
  · refine z_if_eq_F (M := M_X12_week) 9 dX12_week_9 38 rfl (by omega) ?_
    refine z_iload_n (M := M_X12_week) 12 dX12_week_12 rfl ?_
    refine z_i2l (M := M_X12_week) 13 dX12_week_13 ?_
    refine z_ldc2 (M := M_X12_week) 14 dX12_week_14 k_X12_160 ?_
    refine z_ldc2 (M := M_X12_week) 17 dX12_week_17 k_X12_152 ?_
    refine z_sI (M := M_X12_week) 20 dX12_week_20 t_X12_in l_X12_143 (m_rr_of rfl) (rest := []) (c_X12_in h1 a2 (-1) 3 G1) rfl rfl (Nat.le_of_ble_eq_true rfl) ⟨rfl, rfl⟩ (fun x2 h3 qx2 => ?_)
    obtain ⟨rfl, ⟨rfl, cx2⟩ | ⟨rfl, cx2⟩⟩ := qx2
    · refine z_if_eq_F (M := M_X12_week) 23 dX12_week_23 38 rfl (by omega) ?_
      refine z_aload_n (M := M_X12_week) 26 dX12_week_26 rfl ?_
      refine z_bipush (M := M_X12_week) 27 dX12_week_27 ?_
      refine z_iload_n (M := M_X12_week) 29 dX12_week_29 rfl ?_
      refine z_iaddN (M := M_X12_week) 30 dX12_week_30 (by omega) (by omega) ?_
      refine z_iload_n (M := M_X12_week) 31 dX12_week_31 rfl ?_
      refine z_vI (M := M_X12_week) 32 dX12_week_32 t_X12_change l_X12_162 (m_rr_of rfl) (rest := []) (c_X12_change h1 (10 + a1) a2 G1 ⟨by omega, by omega⟩ (rb_w (by omega) (by omega) (by omega) (by omega))) o_108 rfl rfl rfl (Nat.le_of_ble_eq_true rfl) ⟨rfl, rfl⟩ (fun x3 h4 qx3 => ?_)
      obtain ⟨G4, S4, fx3_0, fx3_1, fx3_2⟩ := qx3
      have R4 := R1.call S4 (by decide +kernel)
      refine z_ok (fun ox3 _ _ => ?_)
      have ox3 := ox3.1; unfold m_ok m_32 at ox3
      refine z_goto (M := M_X12_week) 35 dX12_week_35 43 rfl ?_
      exact z_retI (M := M_X12_week) 43 dX12_week_43 rfl ⟨G4, R4, (NPi.change (NPi.put NPi.rf E1 (by decide)) S4 (fun _ => rfl) (fun _ => rfl) fx3_1 ⟨by omega, fun e => by omega⟩ (by omega))⟩
    · refine z_if_eq_T (M := M_X12_week) 23 dX12_week_23 38 rfl (by omega) ?_
      refine z_aload_n (M := M_X12_week) 38 dX12_week_38 rfl ?_
      refine z_iconst (M := M_X12_week) 39 dX12_week_39 ?_
      refine z_vI (M := M_X12_week) 40 dX12_week_40 t_X12_answer l_X12_147 (m_rr_of rfl) (rest := []) (c_X12_answer h1 (-1) G1 ⟨by omega, by omega⟩) o_108 rfl rfl rfl (Nat.le_of_ble_eq_true rfl) ⟨rfl, rfl⟩ (fun x4 h5 qx4 => ?_)
      obtain ⟨G5, S5, rfl⟩ := qx4
      have R5 := R1.call S5 (by decide +kernel)
      exact z_retI (M := M_X12_week) 43 dX12_week_43 rfl ⟨G5, R5, (NPi.call (NPi.put NPi.rf E1 (by decide)) S5 (fun _ => rfl) (fun _ => rfl) (fun _ => rfl))⟩
  · refine z_if_eq_T (M := M_X12_week) 9 dX12_week_9 38 rfl (by omega) ?_
    refine z_aload_n (M := M_X12_week) 38 dX12_week_38 rfl ?_
    refine z_iconst (M := M_X12_week) 39 dX12_week_39 ?_
    refine z_vI (M := M_X12_week) 40 dX12_week_40 t_X12_answer l_X12_147 (m_rr_of rfl) (rest := []) (c_X12_answer h1 (-1) G1 ⟨by omega, by omega⟩) o_108 rfl rfl rfl (Nat.le_of_ble_eq_true rfl) ⟨rfl, rfl⟩ (fun x5 h6 qx5 => ?_)
    obtain ⟨G6, S6, rfl⟩ := qx5
    have R6 := R1.call S6 (by decide +kernel)
    exact z_retI (M := M_X12_week) 43 dX12_week_43 rfl ⟨G6, R6, (NPi.call (NPi.put NPi.rf E1 (by decide)) S6 (fun _ => rfl) (fun _ => rfl) (fun _ => rfl))⟩
abbrev P_X12_cut (h0 : m_H) (a1 a2 : Int) : Int → m_H → Prop := fun x h' => GI h' ∧ FR [109, 110] [(108, 0), (108, 1)] h0 h' ∧ NPi h0 h'
set_option maxHeartbeats 4000000 in
set_option maxRecDepth 100000 in
theorem c_X12_cut (h0 : m_H) (a1 a2 : Int) (G0 : GI h0) : m_CI M_X12_cut [mR 108, mI a1, mI a2] h0 (P_X12_cut h0 a1 a2) := by
  refine m_CI_of ⟨by decide, rfl, by simp [m_arg, m_isL, M_X12_cut], ⟨rfl, rfl⟩, rfl, rfl⟩ (ls := [some (mR 108), some (mI a1), some (mI a2)]) rfl ?_
  refine z_ok (fun _ _ ok => ?_)
  have oa1 : m_32 a1 := ok 1 _ rfl
  unfold m_32 at oa1
  have oa2 : m_32 a2 := ok 2 _ rfl
  unfold m_32 at oa2
  refine z_aload_n (M := M_X12_cut) 0 dX12_cut_0 rfl ?_
  refine z_iconst (M := M_X12_cut) 1 dX12_cut_1 ?_
  refine z_putIH (M := M_X12_cut) 2 dX12_cut_2 p_X12_133 o_108 rfl (u_108_0 G0) ((FR.rf (cs := [109, 110]) (ss := [(108, 0), (108, 1)]) (h := h0)).up rfl) (fun h1 E1 G1 R1 => ?_)
  refine z_iload_n (M := M_X12_cut) 5 dX12_cut_5 rfl ?_
  refine z_sI (M := M_X12_cut) 6 dX12_cut_6 t_X12_isThing l_X12_166 (m_rr_of rfl) (rest := []) (c_X12_isThing h1 a1 G1) rfl rfl (Nat.le_of_ble_eq_true rfl) ⟨rfl, rfl⟩ (fun x1 h2 qx1 => ?_)
  obtain ⟨rfl, ⟨rfl, cx1⟩ | ⟨rfl, cx1⟩⟩ := qx1
  · refine z_if_eq_F (M := M_X12_cut) 9 dX12_cut_9 41 rfl (by omega) ?_
    refine z_iload_n (M := M_X12_cut) 12 dX12_cut_12 rfl ?_
    refine z_iconst (M := M_X12_cut) 13 dX12_cut_13 ?_
    refine z_icmp_eq (M := M_X12_cut) 14 dX12_cut_14 29 rfl (fun c2 => ?_) (fun c2 => ?_)
    · refine z_aload_n (M := M_X12_cut) 29 dX12_cut_29 rfl ?_
      refine z_bipush (M := M_X12_cut) 30 dX12_cut_30 ?_
      refine z_iload_n (M := M_X12_cut) 32 dX12_cut_32 rfl ?_
      refine z_iaddN (M := M_X12_cut) 33 dX12_cut_33 (by omega) (by omega) ?_
      refine z_iload_n (M := M_X12_cut) 34 dX12_cut_34 rfl ?_
      refine z_vI (M := M_X12_cut) 35 dX12_cut_35 t_X12_change l_X12_162 (m_rr_of rfl) (rest := []) (c_X12_change h1 (42 + a1) a2 G1 ⟨by omega, by omega⟩ (rb_c (by omega) (by omega) (by omega) (by omega))) o_108 rfl rfl rfl (Nat.le_of_ble_eq_true rfl) ⟨rfl, rfl⟩ (fun x3 h3 qx3 => ?_)
      obtain ⟨G3, S3, fx3_0, fx3_1, fx3_2⟩ := qx3
      have R3 := R1.call S3 (by decide +kernel)
      refine z_ok (fun ox3 _ _ => ?_)
      have ox3 := ox3.1; unfold m_ok m_32 at ox3
      refine z_goto (M := M_X12_cut) 38 dX12_cut_38 46 rfl ?_
      exact z_retI (M := M_X12_cut) 46 dX12_cut_46 rfl ⟨G3, R3, (NPi.change (NPi.put NPi.rf E1 (by decide)) S3 (fun _ => rfl) (fun _ => rfl) fx3_1 ⟨by omega, fun e => by omega⟩ (by omega))⟩
    · refine z_iload_n (M := M_X12_cut) 17 dX12_cut_17 rfl ?_
      refine z_i2l (M := M_X12_cut) 18 dX12_cut_18 ?_
      refine z_lconst (M := M_X12_cut) 19 dX12_cut_19 (v := 1) ?_
      refine z_ldc2 (M := M_X12_cut) 20 dX12_cut_20 k_X12_154 ?_
      refine z_sI (M := M_X12_cut) 23 dX12_cut_23 t_X12_in l_X12_143 (m_rr_of rfl) (rest := []) (c_X12_in h1 a2 1 31 G1) rfl rfl (Nat.le_of_ble_eq_true rfl) ⟨rfl, rfl⟩ (fun x4 h4 qx4 => ?_)
      obtain ⟨rfl, ⟨rfl, cx4⟩ | ⟨rfl, cx4⟩⟩ := qx4
      · refine z_if_eq_F (M := M_X12_cut) 26 dX12_cut_26 41 rfl (by omega) ?_
        refine z_aload_n (M := M_X12_cut) 29 dX12_cut_29 rfl ?_
        refine z_bipush (M := M_X12_cut) 30 dX12_cut_30 ?_
        refine z_iload_n (M := M_X12_cut) 32 dX12_cut_32 rfl ?_
        refine z_iaddN (M := M_X12_cut) 33 dX12_cut_33 (by omega) (by omega) ?_
        refine z_iload_n (M := M_X12_cut) 34 dX12_cut_34 rfl ?_
        refine z_vI (M := M_X12_cut) 35 dX12_cut_35 t_X12_change l_X12_162 (m_rr_of rfl) (rest := []) (c_X12_change h1 (42 + a1) a2 G1 ⟨by omega, by omega⟩ (rb_c (by omega) (by omega) (by omega) (by omega))) o_108 rfl rfl rfl (Nat.le_of_ble_eq_true rfl) ⟨rfl, rfl⟩ (fun x5 h5 qx5 => ?_)
        obtain ⟨G5, S5, fx5_0, fx5_1, fx5_2⟩ := qx5
        have R5 := R1.call S5 (by decide +kernel)
        refine z_ok (fun ox5 _ _ => ?_)
        have ox5 := ox5.1; unfold m_ok m_32 at ox5
        refine z_goto (M := M_X12_cut) 38 dX12_cut_38 46 rfl ?_
        exact z_retI (M := M_X12_cut) 46 dX12_cut_46 rfl ⟨G5, R5, (NPi.change (NPi.put NPi.rf E1 (by decide)) S5 (fun _ => rfl) (fun _ => rfl) fx5_1 ⟨by omega, fun e => by omega⟩ (by omega))⟩
      · refine z_if_eq_T (M := M_X12_cut) 26 dX12_cut_26 41 rfl (by omega) ?_
        refine z_aload_n (M := M_X12_cut) 41 dX12_cut_41 rfl ?_
        refine z_iconst (M := M_X12_cut) 42 dX12_cut_42 ?_
        refine z_vI (M := M_X12_cut) 43 dX12_cut_43 t_X12_answer l_X12_147 (m_rr_of rfl) (rest := []) (c_X12_answer h1 (-1) G1 ⟨by omega, by omega⟩) o_108 rfl rfl rfl (Nat.le_of_ble_eq_true rfl) ⟨rfl, rfl⟩ (fun x6 h6 qx6 => ?_)
        obtain ⟨G6, S6, rfl⟩ := qx6
        have R6 := R1.call S6 (by decide +kernel)
        exact z_retI (M := M_X12_cut) 46 dX12_cut_46 rfl ⟨G6, R6, (NPi.call (NPi.put NPi.rf E1 (by decide)) S6 (fun _ => rfl) (fun _ => rfl) (fun _ => rfl))⟩
  · refine z_if_eq_T (M := M_X12_cut) 9 dX12_cut_9 41 rfl (by omega) ?_
    refine z_aload_n (M := M_X12_cut) 41 dX12_cut_41 rfl ?_
    refine z_iconst (M := M_X12_cut) 42 dX12_cut_42 ?_
    refine z_vI (M := M_X12_cut) 43 dX12_cut_43 t_X12_answer l_X12_147 (m_rr_of rfl) (rest := []) (c_X12_answer h1 (-1) G1 ⟨by omega, by omega⟩) o_108 rfl rfl rfl (Nat.le_of_ble_eq_true rfl) ⟨rfl, rfl⟩ (fun x7 h7 qx7 => ?_)
    obtain ⟨G7, S7, rfl⟩ := qx7
    have R7 := R1.call S7 (by decide +kernel)
    exact z_retI (M := M_X12_cut) 46 dX12_cut_46 rfl ⟨G7, R7, (NPi.call (NPi.put NPi.rf E1 (by decide)) S7 (fun _ => rfl) (fun _ => rfl) (fun _ => rfl))⟩
abbrev P_X12_tell (h0 : m_H) (a1 a2 : Int) : Int → m_H → Prop := fun x h' => GI h' ∧ FR [109, 110] [(108, 0), (108, 1)] h0 h' ∧ tlQ 110 (60 + a1).toNat a1 a2 x h0 h' ∧ NQi h0 h'
set_option maxHeartbeats 4000000 in
set_option maxRecDepth 100000 in
theorem c_X12_tell (h0 : m_H) (a1 a2 : Int) (G0 : GI h0) : m_CI M_X12_tell [mR 108, mI a1, mI a2] h0 (P_X12_tell h0 a1 a2) := by
  refine m_CI_of ⟨by decide, rfl, by simp [m_arg, m_isL, M_X12_tell], ⟨rfl, rfl⟩, rfl, rfl⟩ (ls := [some (mR 108), some (mI a1), some (mI a2)]) rfl ?_
  refine z_ok (fun _ _ ok => ?_)
  have oa1 : m_32 a1 := ok 1 _ rfl
  unfold m_32 at oa1
  have oa2 : m_32 a2 := ok 2 _ rfl
  unfold m_32 at oa2
  refine z_aload_n (M := M_X12_tell) 0 dX12_tell_0 rfl ?_
  refine z_iconst (M := M_X12_tell) 1 dX12_tell_1 ?_
  refine z_putIH (M := M_X12_tell) 2 dX12_tell_2 p_X12_133 o_108 rfl (u_108_0 G0) ((FR.rf (cs := [109, 110]) (ss := [(108, 0), (108, 1)]) (h := h0)).up rfl) (fun h1 E1 G1 R1 => ?_)
  refine z_iload_n (M := M_X12_tell) 5 dX12_tell_5 rfl ?_
  refine z_i2l (M := M_X12_tell) 6 dX12_tell_6 ?_
  refine z_lconst (M := M_X12_tell) 7 dX12_tell_7 (v := 0) ?_
  refine z_ldc2 (M := M_X12_tell) 8 dX12_tell_8 k_X12_381 ?_
  refine z_sI (M := M_X12_tell) 11 dX12_tell_11 t_X12_in l_X12_143 (m_rr_of rfl) (rest := []) (c_X12_in h1 a1 0 15 G1) rfl rfl (Nat.le_of_ble_eq_true rfl) ⟨rfl, rfl⟩ (fun x1 h2 qx1 => ?_)
  obtain ⟨rfl, ⟨rfl, cx1⟩ | ⟨rfl, cx1⟩⟩ := qx1
  · refine z_if_eq_F (M := M_X12_tell) 14 dX12_tell_14 41 rfl (by omega) ?_
    refine z_iload_n (M := M_X12_tell) 17 dX12_tell_17 rfl ?_
    refine z_i2l (M := M_X12_tell) 18 dX12_tell_18 ?_
    refine z_lconst (M := M_X12_tell) 19 dX12_tell_19 (v := 1) ?_
    refine z_ldc2 (M := M_X12_tell) 20 dX12_tell_20 k_X12_499 ?_
    refine z_sI (M := M_X12_tell) 23 dX12_tell_23 t_X12_in l_X12_143 (m_rr_of rfl) (rest := []) (c_X12_in h1 a2 1 9999 G1) rfl rfl (Nat.le_of_ble_eq_true rfl) ⟨rfl, rfl⟩ (fun x2 h3 qx2 => ?_)
    obtain ⟨rfl, ⟨rfl, cx2⟩ | ⟨rfl, cx2⟩⟩ := qx2
    · refine z_if_eq_F (M := M_X12_tell) 26 dX12_tell_26 41 rfl (by omega) ?_
      refine z_aload_n (M := M_X12_tell) 29 dX12_tell_29 rfl ?_
      refine z_bipush (M := M_X12_tell) 30 dX12_tell_30 ?_
      refine z_iload_n (M := M_X12_tell) 32 dX12_tell_32 rfl ?_
      refine z_iaddN (M := M_X12_tell) 33 dX12_tell_33 (by omega) (by omega) ?_
      refine z_iload_n (M := M_X12_tell) 34 dX12_tell_34 rfl ?_
      refine z_vI (M := M_X12_tell) 35 dX12_tell_35 t_X12_change l_X12_162 (m_rr_of rfl) (rest := []) (c_X12_change h1 (60 + a1) a2 G1 ⟨by omega, by omega⟩ (rb_l (by omega) (by omega) (by omega) (by omega))) o_108 rfl rfl rfl (Nat.le_of_ble_eq_true rfl) ⟨rfl, rfl⟩ (fun x3 h4 qx3 => ?_)
      obtain ⟨G4, S4, fx3_0, fx3_1, fx3_2⟩ := qx3
      have R4 := R1.call S4 (by decide +kernel)
      refine z_ok (fun ox3 _ _ => ?_)
      have ox3 := ox3.1; unfold m_ok m_32 at ox3
      refine z_goto (M := M_X12_tell) 38 dX12_tell_38 46 rfl ?_
      exact z_retI (M := M_X12_tell) 46 dX12_tell_46 rfl ⟨G4, R4, Or.inr ⟨by omega, by omega, by omega, by omega, (tl_o E1 (by decide) _).symm.trans fx3_0, fx3_2, fun j hj => (fx3_1 j hj).trans (tl_o E1 (by decide) j)⟩, (NQi.change (NQi.put NQi.rf E1 (by decide)) S4 (fun _ => rfl) (fun _ => rfl) fx3_1 ⟨by omega, fun e => by omega⟩)⟩
    · refine z_if_eq_T (M := M_X12_tell) 26 dX12_tell_26 41 rfl (by omega) ?_
      refine z_aload_n (M := M_X12_tell) 41 dX12_tell_41 rfl ?_
      refine z_iconst (M := M_X12_tell) 42 dX12_tell_42 ?_
      refine z_vI (M := M_X12_tell) 43 dX12_tell_43 t_X12_answer l_X12_147 (m_rr_of rfl) (rest := []) (c_X12_answer h1 (-1) G1 ⟨by omega, by omega⟩) o_108 rfl rfl rfl (Nat.le_of_ble_eq_true rfl) ⟨rfl, rfl⟩ (fun x4 h5 qx4 => ?_)
      obtain ⟨G5, S5, rfl⟩ := qx4
      have R5 := R1.call S5 (by decide +kernel)
      exact z_retI (M := M_X12_tell) 46 dX12_tell_46 rfl ⟨G5, R5, Or.inl ⟨by omega, rfl, fun j => (S5 110 j rfl).trans (tl_o E1 (by decide) j)⟩, (NQi.call (NQi.put NQi.rf E1 (by decide)) S5 (fun _ => rfl) (fun _ => rfl) (fun _ => rfl))⟩
  · refine z_if_eq_T (M := M_X12_tell) 14 dX12_tell_14 41 rfl (by omega) ?_
    refine z_aload_n (M := M_X12_tell) 41 dX12_tell_41 rfl ?_
    refine z_iconst (M := M_X12_tell) 42 dX12_tell_42 ?_
    refine z_vI (M := M_X12_tell) 43 dX12_tell_43 t_X12_answer l_X12_147 (m_rr_of rfl) (rest := []) (c_X12_answer h1 (-1) G1 ⟨by omega, by omega⟩) o_108 rfl rfl rfl (Nat.le_of_ble_eq_true rfl) ⟨rfl, rfl⟩ (fun x5 h6 qx5 => ?_)
    obtain ⟨G6, S6, rfl⟩ := qx5
    have R6 := R1.call S6 (by decide +kernel)
    exact z_retI (M := M_X12_tell) 46 dX12_tell_46 rfl ⟨G6, R6, Or.inl ⟨by omega, rfl, fun j => (S6 110 j rfl).trans (tl_o E1 (by decide) j)⟩, (NQi.call (NQi.put NQi.rf E1 (by decide)) S6 (fun _ => rfl) (fun _ => rfl) (fun _ => rfl))⟩
