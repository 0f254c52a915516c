theorem tp4_up {h0 h1 h2 h3 h4 h5 : m_H} {L : Nat} {n v v1 v2 v3 v4 w : Int} (h0n : 0 ≤ n) (hL : ¬ L = 35) (E1 : h1 = m_up h0 L n.toNat v1) (E2 : h2 = m_up h1 L (n + 1).toNat v2) (E3 : h3 = m_up h2 L (n + 2).toNat v3) (E4 : h4 = m_up h3 L (n + 3).toNat v4) (E5 : h5 = m_up h4 35 1 w) (b1 : v1 = byt v 24) (b2 : v2 = byt v 16) (b3 : v3 = byt v 8) (b4 : v4 = byt v 0) : h5 L = tp4 (h0 L) n v := by
  funext j
  rw [upN E5 (fun q => hL q.1)]
  unfold tp4
  by_cases c0 : j = n.toNat
  · rw [if_pos c0, upN E4 (fun q => by omega), upN E3 (fun q => by omega), upN E2 (fun q => by omega), c0, upE E1, b1]
  rw [if_neg c0]
  by_cases c1 : j = (n + 1).toNat
  · rw [if_pos c1, upN E4 (fun q => by omega), upN E3 (fun q => by omega), c1, upE E2, b2]
  rw [if_neg c1]
  by_cases c2 : j = (n + 2).toNat
  · rw [if_pos c2, upN E4 (fun q => by omega), c2, upE E3, b3]
  rw [if_neg c2]
  by_cases c3 : j = (n + 3).toNat
  · rw [if_pos c3, c3, upE E4, b4]
  rw [if_neg c3, upN E4 (fun q => c3 q.2), upN E3 (fun q => c2 q.2), upN E2 (fun q => c1 q.2), upN E1 (fun q => c0 q.2)]
def tq (b : Nat → Int) (n v y : Int) : Nat → Int := fun j => if n ≤ (j : Int) ∧ (j : Int) < y then byt v (24 - 8 * ((j : Int) - n)) else b j
theorem tq_0 {b : Nat → Int} {n v : Int} : b = tq b n v n := by
  funext j; unfold tq; rw [if_neg (by omega)]
theorem tq_s {h h1 h2 : m_H} {b : Nat → Int} {n v y l x : Int} {w : Int} (hn : 0 ≤ n) (hy : n ≤ y) (k : h 113 = tq b n v y) (e : l = 24 - 8 * (y - n)) (ex : byt v l = x) (E1 : h1 = m_up h 113 y.toNat x) (E2 : h2 = m_up h1 108 8 w) : h2 113 = tq b n v (y + 1) := by
  funext j
  rw [upN E2 (fun q => absurd q.1 (by decide))]
  by_cases c : j = y.toNat
  · rw [c, upE E1, ← ex, e]
    unfold tq
    rw [if_pos (by omega), Int.toNat_of_nonneg (by omega)]
  · rw [upN E1 (fun q => c q.2), k]
    unfold tq
    by_cases d : n ≤ (j : Int) ∧ (j : Int) < y
    · rw [if_pos d, if_pos (by omega)]
    · rw [if_neg d, if_neg (by omega)]
theorem tq_4 {b : Nat → Int} {n v y : Int} (hn : 0 ≤ n) (e : y = n + 4) : tq b n v y = tp4 b n v := by
  subst e
  funext j
  unfold tq tp4
  by_cases c0 : j = n.toNat
  · rw [if_pos (by omega), if_pos c0, show 24 - 8 * ((j : Int) - n) = 24 by omega]
  by_cases c1 : j = (n + 1).toNat
  · rw [if_pos (by omega), if_neg c0, if_pos c1, show 24 - 8 * ((j : Int) - n) = 16 by omega]
  by_cases c2 : j = (n + 2).toNat
  · rw [if_pos (by omega), if_neg c0, if_neg c1, if_pos c2, show 24 - 8 * ((j : Int) - n) = 8 by omega]
  by_cases c3 : j = (n + 3).toNat
  · rw [if_pos (by omega), if_neg c0, if_neg c1, if_neg c2, if_pos c3, show 24 - 8 * ((j : Int) - n) = 0 by omega]
  · rw [if_neg (by omega), if_neg c0, if_neg c1, if_neg c2, if_neg c3]
theorem tp20_ch {b0 b1 b2 b3 b4 b5 : Nat → Int} {n0 n1 n2 n3 n4 v1 v2 v3 v4 v5 : Int} (k1 : b1 = tp4 b0 n0 v1) (e1 : n1 = n0 + 4) (k2 : b2 = tp4 b1 n1 v2) (e2 : n2 = n1 + 4) (k3 : b3 = tp4 b2 n2 v3) (e3 : n3 = n2 + 4) (k4 : b4 = tp4 b3 n3 v4) (e4 : n4 = n3 + 4) (k5 : b5 = tp4 b4 n4 v5) : b5 = tp20 b0 n0 v1 v2 v3 v4 v5 := by
  have f2 : n2 = n0 + 8 := by omega
  have f3 : n3 = n0 + 12 := by omega
  have f4 : n4 = n0 + 16 := by omega
  rw [k5, k4, k3, k2, k1, f4, f3, f2, e1]; rfl
abbrev P_X8_append3 (h0 : m_H) (a1 : Int) : m_H → Prop := fun h' => GI h' ∧ FR [36] [(35, 1)] h0 h' ∧ h' 35 1 = h0 35 1 + 4 ∧ h' 36 = tp4 (h0 36) (h0 35 1) a1
set_option maxHeartbeats 4000000 in
set_option maxRecDepth 100000 in
theorem c_X8_append3 (h0 : m_H) (a1 : Int) (G0 : GI h0) (ht : h0 35 1 ≤ 396) : m_CV M_X8_append [mR 35, mI a1] h0 (P_X8_append3 h0 a1) := by
  refine m_CV_of ⟨by decide, rfl, by simp [m_arg, m_isL, M_X8_append], ⟨rfl, rfl⟩, rfl, rfl⟩ (ls := [some (mR 35), some (mI a1)]) rfl ?_
  refine z_ok (fun _ _ ok => ?_)
  have oa1 : m_32 a1 := ok 1 _ rfl
  unfold m_32 at oa1
  obtain ⟨x1, ex1⟩ : ∃ y : Int, h0 35 1 = y := ⟨_, rfl⟩
  have bx1 : 0 ≤ x1 ∧ x1 ≤ 400 := ex1 ▸ g_35_1 G0
  refine z_aload_n (M := M_X8_append) 0 dX8_append_0 rfl ?_
  refine z_getIE (M := M_X8_append) 1 dX8_append_1 f_X8_15 o_35 (by decide) ex1 ?_
  refine z_iconst (M := M_X8_append) 4 dX8_append_4 ?_
  refine z_iaddN (M := M_X8_append) 5 dX8_append_5 (by omega) (by omega) ?_
  refine z_sipush (M := M_X8_append) 6 dX8_append_6 ?_
  refine z_icmp_le (M := M_X8_append) 9 dX8_append_9 13 rfl (fun c2 => ?_) (fun c2 => ?_)
  · refine z_aload_n (M := M_X8_append) 13 dX8_append_13 rfl ?_
    refine z_getR (M := M_X8_append) 14 dX8_append_14 f_X8_9 o_35 rfl (g_35_0 G0) ?_
    refine z_aload_n (M := M_X8_append) 17 dX8_append_17 rfl ?_
    refine z_getIE (M := M_X8_append) 18 dX8_append_18 f_X8_15 o_35 (by decide) ex1 ?_
    refine z_iload_n (M := M_X8_append) 21 dX8_append_21 rfl ?_
    refine z_bipush (M := M_X8_append) 22 dX8_append_22 ?_
    refine z_iushr (M := M_X8_append) 24 dX8_append_24 ?_
    refine z_topBI (m_ushr_24 _) (fun x3 ex3 ax3 bx3 => ?_)
    refine z_iastH (M := M_X8_append) 25 dX8_append_25 o_36 (by omega) (by omega) (u_36 G0 (by omega) (by omega)) ((FR.rf (cs := [36]) (ss := [(35, 1)]) (h := h0)).up rfl) (fun h1 E1 G1 R1 => ?_)
    refine z_aload_n (M := M_X8_append) 26 dX8_append_26 rfl ?_
    refine z_getR (M := M_X8_append) 27 dX8_append_27 f_X8_9 o_35 rfl (g_35_0 G1) ?_
    refine z_aload_n (M := M_X8_append) 30 dX8_append_30 rfl ?_
    refine z_getIE (M := M_X8_append) 31 dX8_append_31 f_X8_15 o_35 (by decide) ((upN E1 (fun q => absurd q.1 (by decide))).trans ex1) ?_
    refine z_iconst (M := M_X8_append) 34 dX8_append_34 ?_
    refine z_iaddN (M := M_X8_append) 35 dX8_append_35 (by omega) (by omega) ?_
    refine z_iload_n (M := M_X8_append) 36 dX8_append_36 rfl ?_
    refine z_bipush (M := M_X8_append) 37 dX8_append_37 ?_
    refine z_iushr (M := M_X8_append) 39 dX8_append_39 ?_
    refine z_topm (fun x4 ex4 ox4 => ?_)
    unfold m_32 at ox4
    refine z_sipush (M := M_X8_append) 40 dX8_append_40 ?_
    refine z_iand (M := M_X8_append) 43 dX8_append_43 ?_
    refine z_topBI (m_and_255 _) (fun x5 ex5 ax5 bx5 => ?_)
    refine z_iastH (M := M_X8_append) 44 dX8_append_44 o_36 (by omega) (by omega) (u_36 G1 (by omega) (by omega)) (R1.up rfl) (fun h2 E2 G2 R2 => ?_)
    refine z_aload_n (M := M_X8_append) 45 dX8_append_45 rfl ?_
    refine z_getR (M := M_X8_append) 46 dX8_append_46 f_X8_9 o_35 rfl (g_35_0 G2) ?_
    refine z_aload_n (M := M_X8_append) 49 dX8_append_49 rfl ?_
    refine z_getIE (M := M_X8_append) 50 dX8_append_50 f_X8_15 o_35 (by decide) ((upN E2 (fun q => absurd q.1 (by decide))).trans ((upN E1 (fun q => absurd q.1 (by decide))).trans ex1)) ?_
    refine z_iconst (M := M_X8_append) 53 dX8_append_53 ?_
    refine z_iaddN (M := M_X8_append) 54 dX8_append_54 (by omega) (by omega) ?_
    refine z_iload_n (M := M_X8_append) 55 dX8_append_55 rfl ?_
    refine z_bipush (M := M_X8_append) 56 dX8_append_56 ?_
    refine z_iushr (M := M_X8_append) 58 dX8_append_58 ?_
    refine z_topm (fun x6 ex6 ox6 => ?_)
    unfold m_32 at ox6
    refine z_sipush (M := M_X8_append) 59 dX8_append_59 ?_
    refine z_iand (M := M_X8_append) 62 dX8_append_62 ?_
    refine z_topBI (m_and_255 _) (fun x7 ex7 ax7 bx7 => ?_)
    refine z_iastH (M := M_X8_append) 63 dX8_append_63 o_36 (by omega) (by omega) (u_36 G2 (by omega) (by omega)) (R2.up rfl) (fun h3 E3 G3 R3 => ?_)
    refine z_aload_n (M := M_X8_append) 64 dX8_append_64 rfl ?_
    refine z_getR (M := M_X8_append) 65 dX8_append_65 f_X8_9 o_35 rfl (g_35_0 G3) ?_
    refine z_aload_n (M := M_X8_append) 68 dX8_append_68 rfl ?_
    refine z_getIE (M := M_X8_append) 69 dX8_append_69 f_X8_15 o_35 (by decide) ((upN E3 (fun q => absurd q.1 (by decide))).trans ((upN E2 (fun q => absurd q.1 (by decide))).trans ((upN E1 (fun q => absurd q.1 (by decide))).trans ex1))) ?_
    refine z_iconst (M := M_X8_append) 72 dX8_append_72 ?_
    refine z_iaddN (M := M_X8_append) 73 dX8_append_73 (by omega) (by omega) ?_
    refine z_iload_n (M := M_X8_append) 74 dX8_append_74 rfl ?_
    refine z_sipush (M := M_X8_append) 75 dX8_append_75 ?_
    refine z_iand (M := M_X8_append) 78 dX8_append_78 ?_
    refine z_topBI (m_and_255 _) (fun x8 ex8 ax8 bx8 => ?_)
    refine z_iastH (M := M_X8_append) 79 dX8_append_79 o_36 (by omega) (by omega) (u_36 G3 (by omega) (by omega)) (R3.up rfl) (fun h4 E4 G4 R4 => ?_)
    refine z_aload_n (M := M_X8_append) 80 dX8_append_80 rfl ?_
    refine z_dup (M := M_X8_append) 81 dX8_append_81 rfl ?_
    refine z_getIE (M := M_X8_append) 82 dX8_append_82 f_X8_15 o_35 (by decide) ((upN E4 (fun q => absurd q.1 (by decide))).trans ((upN E3 (fun q => absurd q.1 (by decide))).trans ((upN E2 (fun q => absurd q.1 (by decide))).trans ((upN E1 (fun q => absurd q.1 (by decide))).trans ex1)))) ?_
    refine z_iconst (M := M_X8_append) 85 dX8_append_85 ?_
    refine z_iaddN (M := M_X8_append) 86 dX8_append_86 (by omega) (by omega) ?_
    refine z_putIH (M := M_X8_append) 87 dX8_append_87 p_X8_15 o_35 rfl (u_35_1 G4 (by omega) (by omega)) (R4.up rfl) (fun h5 E5 G5 R5 => ?_)
    have z8 : h5 35 1 = (x1 + 4) := (upE E5)
    exact z_retV (M := M_X8_append) 90 dX8_append_90 rfl ⟨G5, R5, by omega, by rw [ex1]; exact tp4_up (by omega) (by decide) E1 E2 E3 E4 E5 (ex3.symm.trans byt_24) (by rw [← ex5, ← ex4]; exact byt_k (k := 16) (by decide)) (by rw [← ex7, ← ex6]; exact byt_k (k := 8) (by decide)) (ex8.symm.trans (byt_0 (by omega) (by omega)))⟩
  · have z8 : h0 35 1 = x1 := ex1
    exact z_retV (M := M_X8_append) 12 dX8_append_12 rfl ⟨G0, (FR.rf (cs := [36]) (ss := [(35, 1)]) (h := h0)), by omega, by exfalso; omega⟩
abbrev P_X11_feed3 (h0 : m_H) (a1 a2 a3 a4 a5 : Int) : Int → m_H → Prop := fun x h' => GI h' ∧ FR [36] [(35, 1)] h0 h' ∧ ((380 < h0 35 1 ∧ x = -1 ∧ h' 35 1 = h0 35 1) ∨ (h0 35 1 ≤ 380 ∧ x = h0 35 1 + 20 ∧ h' 35 1 = h0 35 1 + 20)) ∧ h' 36 = (if h0 35 1 ≤ 380 then tp20 (h0 36) (h0 35 1) a1 a2 a3 a4 a5 else h0 36)
set_option maxHeartbeats 4000000 in
set_option maxRecDepth 100000 in
theorem c_X11_feed3 (h0 : m_H) (a1 a2 a3 a4 a5 : Int) (G0 : GI h0) : m_CI M_X11_feed [mR 0, mI a1, mI a2, mI a3, mI a4, mI a5] h0 (P_X11_feed3 h0 a1 a2 a3 a4 a5) := by
  refine m_CI_of ⟨by decide, rfl, by simp [m_arg, m_isL, M_X11_feed], ⟨rfl, rfl⟩, rfl, rfl⟩ (ls := [some (mR 0), some (mI a1), some (mI a2), some (mI a3), some (mI a4), some (mI a5)]) rfl ?_
  refine z_ok (fun _ _ ok => ?_)
  have oa1 : m_32 a1 := ok 1 _ rfl
  unfold m_32 at oa1
  have oa2 : m_32 a2 := ok 2 _ rfl
  unfold m_32 at oa2
  have oa3 : m_32 a3 := ok 3 _ rfl
  unfold m_32 at oa3
  have oa4 : m_32 a4 := ok 4 _ rfl
  unfold m_32 at oa4
  have oa5 : m_32 a5 := ok 5 _ rfl
  unfold m_32 at oa5
  obtain ⟨x1, ex1⟩ : ∃ y : Int, h0 35 1 = y := ⟨_, rfl⟩
  have bx1 : 0 ≤ x1 ∧ x1 ≤ 400 := ex1 ▸ g_35_1 G0
  refine z_aload_n (M := M_X11_feed) 0 dX11_feed_0 rfl ?_
  refine z_getR (M := M_X11_feed) 1 dX11_feed_1 f_X11_30 o_0 rfl (g_0_4 G0) ?_
  refine z_getIE (M := M_X11_feed) 4 dX11_feed_4 f_X11_187 o_35 (by decide) ex1 ?_
  refine z_bipush (M := M_X11_feed) 7 dX11_feed_7 ?_
  refine z_iaddN (M := M_X11_feed) 9 dX11_feed_9 (by omega) (by omega) ?_
  refine z_sipush (M := M_X11_feed) 10 dX11_feed_10 ?_
  refine z_icmp_le (M := M_X11_feed) 13 dX11_feed_13 18 rfl (fun c2 => ?_) (fun c2 => ?_)
  · refine z_aload_n (M := M_X11_feed) 18 dX11_feed_18 rfl ?_
    refine z_getR (M := M_X11_feed) 19 dX11_feed_19 f_X11_30 o_0 rfl (g_0_4 G0) ?_
    refine z_iload_n (M := M_X11_feed) 22 dX11_feed_22 rfl ?_
    refine z_vV (M := M_X11_feed) 23 dX11_feed_23 t_X8_append l_X11_190 (m_rr_of rfl) (rest := []) (c_X8_append3 h0 a1 G0 (le_e ex1 (by omega))) o_35 rfl rfl rfl (Nat.le_of_ble_eq_true rfl) ⟨rfl, rfl⟩ (fun h1 qx3 => ?_)
    obtain ⟨G1, S1, fx3_0, K3⟩ := qx3
    have R1 := (FR.rf (cs := [36]) (ss := [(35, 1)]) (h := h0)).call S1 (by decide +kernel)
    refine z_aload_n (M := M_X11_feed) 26 dX11_feed_26 rfl ?_
    refine z_getR (M := M_X11_feed) 27 dX11_feed_27 f_X11_30 o_0 rfl (g_0_4 G1) ?_
    refine z_iload_n (M := M_X11_feed) 30 dX11_feed_30 rfl ?_
    refine z_vV (M := M_X11_feed) 31 dX11_feed_31 t_X8_append l_X11_190 (m_rr_of rfl) (rest := []) (c_X8_append3 h1 a2 G1 (le_e (eq_ad fx3_0 ex1) (by omega))) o_35 rfl rfl rfl (Nat.le_of_ble_eq_true rfl) ⟨rfl, rfl⟩ (fun h2 qx4 => ?_)
    obtain ⟨G2, S2, fx4_0, K4⟩ := qx4
    have R2 := R1.call S2 (by decide +kernel)
    refine z_aload_n (M := M_X11_feed) 34 dX11_feed_34 rfl ?_
    refine z_getR (M := M_X11_feed) 35 dX11_feed_35 f_X11_30 o_0 rfl (g_0_4 G2) ?_
    refine z_iload_n (M := M_X11_feed) 38 dX11_feed_38 rfl ?_
    refine z_vV (M := M_X11_feed) 39 dX11_feed_39 t_X8_append l_X11_190 (m_rr_of rfl) (rest := []) (c_X8_append3 h2 a3 G2 (le_e (eq_ad fx4_0 (eq_ad fx3_0 ex1)) (by omega))) o_35 rfl rfl rfl (Nat.le_of_ble_eq_true rfl) ⟨rfl, rfl⟩ (fun h3 qx5 => ?_)
    obtain ⟨G3, S3, fx5_0, K5⟩ := qx5
    have R3 := R2.call S3 (by decide +kernel)
    refine z_aload_n (M := M_X11_feed) 42 dX11_feed_42 rfl ?_
    refine z_getR (M := M_X11_feed) 43 dX11_feed_43 f_X11_30 o_0 rfl (g_0_4 G3) ?_
    refine z_iload (M := M_X11_feed) 46 dX11_feed_46 rfl ?_
    refine z_vV (M := M_X11_feed) 48 dX11_feed_48 t_X8_append l_X11_190 (m_rr_of rfl) (rest := []) (c_X8_append3 h3 a4 G3 (le_e (eq_ad fx5_0 (eq_ad fx4_0 (eq_ad fx3_0 ex1))) (by omega))) o_35 rfl rfl rfl (Nat.le_of_ble_eq_true rfl) ⟨rfl, rfl⟩ (fun h4 qx6 => ?_)
    obtain ⟨G4, S4, fx6_0, K6⟩ := qx6
    have R4 := R3.call S4 (by decide +kernel)
    refine z_aload_n (M := M_X11_feed) 51 dX11_feed_51 rfl ?_
    refine z_getR (M := M_X11_feed) 52 dX11_feed_52 f_X11_30 o_0 rfl (g_0_4 G4) ?_
    refine z_iload (M := M_X11_feed) 55 dX11_feed_55 rfl ?_
    refine z_vV (M := M_X11_feed) 57 dX11_feed_57 t_X8_append l_X11_190 (m_rr_of rfl) (rest := []) (c_X8_append3 h4 a5 G4 (le_e (eq_ad fx6_0 (eq_ad fx5_0 (eq_ad fx4_0 (eq_ad fx3_0 ex1)))) (by omega))) o_35 rfl rfl rfl (Nat.le_of_ble_eq_true rfl) ⟨rfl, rfl⟩ (fun h5 qx7 => ?_)
    obtain ⟨G5, S5, fx7_0, K7⟩ := qx7
    have R5 := R4.call S5 (by decide +kernel)
    refine z_aload_n (M := M_X11_feed) 60 dX11_feed_60 rfl ?_
    refine z_getR (M := M_X11_feed) 61 dX11_feed_61 f_X11_30 o_0 rfl (g_0_4 G5) ?_
    refine z_getIE (M := M_X11_feed) 64 dX11_feed_64 f_X11_187 o_35 (by decide) (eq_ad fx7_0 (eq_ad fx6_0 (eq_ad fx5_0 (eq_ad fx4_0 (eq_ad fx3_0 ex1))))) ?_
    have z8 : h5 35 1 = (((((x1 + 4) + 4) + 4) + 4) + 4) := (eq_ad fx7_0 (eq_ad fx6_0 (eq_ad fx5_0 (eq_ad fx4_0 (eq_ad fx3_0 ex1)))))
    exact z_retI (M := M_X11_feed) 67 dX11_feed_67 rfl ⟨G5, R5, by omega, by rw [if_pos (by omega)]; exact tp20_ch K3 fx3_0 K4 fx4_0 K5 fx5_0 K6 fx6_0 K7⟩
  · refine z_iconst (M := M_X11_feed) 16 dX11_feed_16 ?_
    have z8 : h0 35 1 = x1 := ex1
    exact z_retI (M := M_X11_feed) 17 dX11_feed_17 rfl ⟨G0, (FR.rf (cs := [36]) (ss := [(35, 1)]) (h := h0)), by omega, by rw [if_neg (by omega)]⟩
abbrev P_X12_four3 (h0 : m_H) (a1 : Int) : m_H → Prop := fun h' => GI h' ∧ FR [113] [(108, 8)] h0 h' ∧ h' 108 8 = h0 108 8 + 4 ∧ h' 113 = tp4 (h0 113) (h0 108 8) a1
def q_X12_four3 (h0 : m_H) (a1 : Int) (n : Nat) : Prop := (∀ (l2 y_108_8 : Int) (h : m_H), GI h → FR [113] [(108, 8)] h0 h → (-8) ≤ l2 → l2 ≤ 24 → 0 ≤ y_108_8 → y_108_8 ≤ 400 → (-2147483648) ≤ a1 → a1 ≤ 2147483647 → (h 108 8 = y_108_8) → (8 * y_108_8 = 8 * h0 108 8 + 24 - l2) → (h 113 = tq (h0 113) (h0 108 8) a1 y_108_8) → 2 * (l2 - (-8)) + (1) ≤ (n : Int) → m_Z oF M_X12_four 3 [some (mR 108), some (mI a1), some (mI l2)] [] h (m_QV (P_X12_four3 h0 a1)))
set_option maxHeartbeats 4000000 in
set_option maxRecDepth 100000 in
theorem s_X12_four3_3 (h0 : m_H) (a1 : Int) (G0 : GI h0) (ht : h0 108 8 ≤ 396) (n : Nat) (ih : q_X12_four3 h0 a1 n) : ∀ (l2 y_108_8 : Int) (h : m_H), GI h → FR [113] [(108, 8)] h0 h → (-8) ≤ l2 → l2 ≤ 24 → 0 ≤ y_108_8 → y_108_8 ≤ 400 → (-2147483648) ≤ a1 → a1 ≤ 2147483647 → (h 108 8 = y_108_8) → (8 * y_108_8 = 8 * h0 108 8 + 24 - l2) → (h 113 = tq (h0 113) (h0 108 8) a1 y_108_8) → 2 * (l2 - (-8)) + (1) ≤ ((n + 1 : Nat) : Int) → m_Z oF M_X12_four 3 [some (mR 108), some (mI a1), some (mI l2)] [] h (m_QV (P_X12_four3 h0 a1)) := by
  intro l2 y_108_8 h G R v0 v1 v2 v3 v4 v5 t_108_8 i0 i1 hr
  refine z_iload_n (M := M_X12_four) 3 dX12_four_3 rfl ?_
  refine z_if_lt (M := M_X12_four) 4 dX12_four_4 39 rfl (fun c1 => ?_) (fun c1 => ?_)
  · exact z_retV (M := M_X12_four) 39 dX12_four_39 rfl ⟨G, R, by omega, by have := (g_108_8 G0); rw [i1]; exact tq_4 (by omega) (by omega)⟩
  · refine z_aload_n (M := M_X12_four) 7 dX12_four_7 rfl ?_
    refine z_getR (M := M_X12_four) 8 dX12_four_8 f_X12_23 o_108 rfl (g_108_7 G) ?_
    refine z_aload_n (M := M_X12_four) 11 dX12_four_11 rfl ?_
    refine z_getIE (M := M_X12_four) 12 dX12_four_12 f_X12_201 o_108 (by decide) t_108_8 ?_
    refine z_iload_n (M := M_X12_four) 15 dX12_four_15 rfl ?_
    refine z_iload_n (M := M_X12_four) 16 dX12_four_16 rfl ?_
    refine z_ishr (M := M_X12_four) 17 dX12_four_17 ?_
    refine z_topm (fun x2 ex2 ox2 => ?_)
    unfold m_32 at ox2
    refine z_sipush (M := M_X12_four) 18 dX12_four_18 ?_
    refine z_iand (M := M_X12_four) 21 dX12_four_21 ?_
    refine z_topBI (m_and_255 _) (fun x3 ex3 ax3 bx3 => ?_)
    refine z_iastH (M := M_X12_four) 22 dX12_four_22 o_113 (by omega) (by omega) (u_113 G (by omega) (by omega)) (R.up rfl) (fun h1 E1 G1 R1 => ?_)
    refine z_aload_n (M := M_X12_four) 23 dX12_four_23 rfl ?_
    refine z_dup (M := M_X12_four) 24 dX12_four_24 rfl ?_
    refine z_getIE (M := M_X12_four) 25 dX12_four_25 f_X12_201 o_108 (by decide) ((upN E1 (fun q => absurd q.1 (by decide))).trans t_108_8) ?_
    refine z_iconst (M := M_X12_four) 28 dX12_four_28 ?_
    refine z_iaddN (M := M_X12_four) 29 dX12_four_29 (by omega) (by omega) ?_
    refine z_putIH (M := M_X12_four) 30 dX12_four_30 p_X12_201 o_108 rfl (u_108_8 G1 (by omega) (by omega)) (R1.up rfl) (fun h2 E2 G2 R2 => ?_)
    refine z_iincN (M := M_X12_four) 33 dX12_four_33 (ls' := [some (mR 108), some (mI a1), some (mI (l2 + (-8)))]) (by decide) rfl (by (unfold m_32; decide)) (by omega) (by omega) rfl ?_
    refine z_goto (M := M_X12_four) 36 dX12_four_36 3 rfl ?_
    exact z_mask [true, true, true] rfl (ih (l2 + (-8)) (y_108_8 + 1) h2 G2 R2 (by omega) (by omega) (by omega) (by omega) (by omega) (by omega) (upE E2) (by omega) (by have := (g_108_8 G0); exact tq_s (l := l2) (by omega) (by omega) i1 (by omega) (by rw [← ex3, ← ex2]; rfl) E1 E2) (by omega))
theorem a_X12_four3 (h0 : m_H) (a1 : Int) (G0 : GI h0) (ht : h0 108 8 ≤ 396) : ∀ n, q_X12_four3 h0 a1 n := by
  intro n
  induction n with
  | zero => unfold q_X12_four3; intros; omega
  | succ n ih => exact s_X12_four3_3 h0 a1 G0 ht n ih
set_option maxHeartbeats 4000000 in
set_option maxRecDepth 100000 in
theorem c_X12_four3 (h0 : m_H) (a1 : Int) (G0 : GI h0) (ht : h0 108 8 ≤ 396) : m_CV M_X12_four [mR 108, mI a1] h0 (P_X12_four3 h0 a1) := by
  refine m_CV_of ⟨by decide, rfl, by simp [m_arg, m_isL, M_X12_four], ⟨rfl, rfl⟩, rfl, rfl⟩ (ls := [some (mR 108), some (mI a1), none]) rfl ?_
  have ih := a_X12_four3 h0 a1 G0 ht 72
  refine z_ok (fun _ _ ok => ?_)
  have oa1 : m_32 a1 := ok 1 _ rfl
  unfold m_32 at oa1
  obtain ⟨x1, ex1⟩ : ∃ y : Int, h0 108 8 = y := ⟨_, rfl⟩
  have bx1 : 0 ≤ x1 ∧ x1 ≤ 400 := ex1 ▸ g_108_8 G0
  refine z_bipush (M := M_X12_four) 0 dX12_four_0 ?_
  refine z_istore_n (M := M_X12_four) 2 dX12_four_2 (ls' := [some (mR 108), some (mI a1), some (mI 24)]) (by decide) rfl ?_
  exact z_mask [true, true, true] rfl (ih 24 x1 h0 G0 (FR.rf (cs := [113]) (ss := [(108, 8)]) (h := h0)) (by omega) (by omega) (by omega) (by omega) (by omega) (by omega) ex1 (by omega) (by rw [← ex1]; exact tq_0) (by omega))
abbrev P_X12_feed3 (h0 : m_H) (a1 a2 a3 a4 a5 : Int) : Int → m_H → Prop := fun x h' => GI h' ∧ FR [113] [(108, 0), (108, 8)] h0 h' ∧ ((380 < h0 108 8 ∧ x = -1 ∧ h' 108 8 = h0 108 8) ∨ (h0 108 8 ≤ 380 ∧ x = h0 108 8 + 20 ∧ h' 108 8 = h0 108 8 + 20)) ∧ h' 113 = (if h0 108 8 ≤ 380 then tp20 (h0 113) (h0 108 8) a1 a2 a3 a4 a5 else h0 113)
set_option maxHeartbeats 4000000 in
set_option maxRecDepth 100000 in
theorem c_X12_feed3 (h0 : m_H) (a1 a2 a3 a4 a5 : Int) (G0 : GI h0) : m_CI M_X12_feed [mR 108, mI a1, mI a2, mI a3, mI a4, mI a5] h0 (P_X12_feed3 h0 a1 a2 a3 a4 a5) := by
  refine m_CI_of ⟨by decide, rfl, by simp [m_arg, m_isL, M_X12_feed], ⟨rfl, rfl⟩, rfl, rfl⟩ (ls := [some (mR 108), some (mI a1), some (mI a2), some (mI a3), some (mI a4), some (mI a5)]) rfl ?_
  refine z_ok (fun _ _ ok => ?_)
  have oa1 : m_32 a1 := ok 1 _ rfl
  unfold m_32 at oa1
  have oa2 : m_32 a2 := ok 2 _ rfl
  unfold m_32 at oa2
  have oa3 : m_32 a3 := ok 3 _ rfl
  unfold m_32 at oa3
  have oa4 : m_32 a4 := ok 4 _ rfl
  unfold m_32 at oa4
  have oa5 : m_32 a5 := ok 5 _ rfl
  unfold m_32 at oa5
  obtain ⟨x1, ex1⟩ : ∃ y : Int, h0 108 8 = y := ⟨_, rfl⟩
  have bx1 : 0 ≤ x1 ∧ x1 ≤ 400 := ex1 ▸ g_108_8 G0
  refine z_aload_n (M := M_X12_feed) 0 dX12_feed_0 rfl ?_
  refine z_iconst (M := M_X12_feed) 1 dX12_feed_1 ?_
  refine z_putIH (M := M_X12_feed) 2 dX12_feed_2 p_X12_133 o_108 rfl (u_108_0 G0) ((FR.rf (cs := [113]) (ss := [(108, 0), (108, 8)]) (h := h0)).up rfl) (fun h1 E1 G1 R1 => ?_)
  refine z_aload_n (M := M_X12_feed) 5 dX12_feed_5 rfl ?_
  refine z_getIE (M := M_X12_feed) 6 dX12_feed_6 f_X12_201 o_108 (by decide) ((upN E1 (fun q => absurd q.2 (by decide))).trans ex1) ?_
  refine z_bipush (M := M_X12_feed) 9 dX12_feed_9 ?_
  refine z_iaddN (M := M_X12_feed) 11 dX12_feed_11 (by omega) (by omega) ?_
  refine z_sipush (M := M_X12_feed) 12 dX12_feed_12 ?_
  refine z_icmp_le (M := M_X12_feed) 15 dX12_feed_15 20 rfl (fun c2 => ?_) (fun c2 => ?_)
  · refine z_aload_n (M := M_X12_feed) 20 dX12_feed_20 rfl ?_
    refine z_iload_n (M := M_X12_feed) 21 dX12_feed_21 rfl ?_
    refine z_vV (M := M_X12_feed) 22 dX12_feed_22 t_X12_four l_X12_207 (m_rr_of rfl) (rest := []) (c_X12_four3 h1 a1 G1 (le_e ((upN E1 (fun q => absurd q.2 (by decide))).trans ex1) (by omega))) o_108 rfl rfl rfl (Nat.le_of_ble_eq_true rfl) ⟨rfl, rfl⟩ (fun h2 qx3 => ?_)
    obtain ⟨G2, S2, fx3_0, K3⟩ := qx3
    have R2 := R1.call S2 (by decide +kernel)
    refine z_aload_n (M := M_X12_feed) 25 dX12_feed_25 rfl ?_
    refine z_iload_n (M := M_X12_feed) 26 dX12_feed_26 rfl ?_
    refine z_vV (M := M_X12_feed) 27 dX12_feed_27 t_X12_four l_X12_207 (m_rr_of rfl) (rest := []) (c_X12_four3 h2 a2 G2 (le_e (eq_ad fx3_0 ((upN E1 (fun q => absurd q.2 (by decide))).trans ex1)) (by omega))) o_108 rfl rfl rfl (Nat.le_of_ble_eq_true rfl) ⟨rfl, rfl⟩ (fun h3 qx4 => ?_)
    obtain ⟨G3, S3, fx4_0, K4⟩ := qx4
    have R3 := R2.call S3 (by decide +kernel)
    refine z_aload_n (M := M_X12_feed) 30 dX12_feed_30 rfl ?_
    refine z_iload_n (M := M_X12_feed) 31 dX12_feed_31 rfl ?_
    refine z_vV (M := M_X12_feed) 32 dX12_feed_32 t_X12_four l_X12_207 (m_rr_of rfl) (rest := []) (c_X12_four3 h3 a3 G3 (le_e (eq_ad fx4_0 (eq_ad fx3_0 ((upN E1 (fun q => absurd q.2 (by decide))).trans ex1))) (by omega))) o_108 rfl rfl rfl (Nat.le_of_ble_eq_true rfl) ⟨rfl, rfl⟩ (fun h4 qx5 => ?_)
    obtain ⟨G4, S4, fx5_0, K5⟩ := qx5
    have R4 := R3.call S4 (by decide +kernel)
    refine z_aload_n (M := M_X12_feed) 35 dX12_feed_35 rfl ?_
    refine z_iload (M := M_X12_feed) 36 dX12_feed_36 rfl ?_
    refine z_vV (M := M_X12_feed) 38 dX12_feed_38 t_X12_four l_X12_207 (m_rr_of rfl) (rest := []) (c_X12_four3 h4 a4 G4 (le_e (eq_ad fx5_0 (eq_ad fx4_0 (eq_ad fx3_0 ((upN E1 (fun q => absurd q.2 (by decide))).trans ex1)))) (by omega))) o_108 rfl rfl rfl (Nat.le_of_ble_eq_true rfl) ⟨rfl, rfl⟩ (fun h5 qx6 => ?_)
    obtain ⟨G5, S5, fx6_0, K6⟩ := qx6
    have R5 := R4.call S5 (by decide +kernel)
    refine z_aload_n (M := M_X12_feed) 41 dX12_feed_41 rfl ?_
    refine z_iload (M := M_X12_feed) 42 dX12_feed_42 rfl ?_
    refine z_vV (M := M_X12_feed) 44 dX12_feed_44 t_X12_four l_X12_207 (m_rr_of rfl) (rest := []) (c_X12_four3 h5 a5 G5 (le_e (eq_ad fx6_0 (eq_ad fx5_0 (eq_ad fx4_0 (eq_ad fx3_0 ((upN E1 (fun q => absurd q.2 (by decide))).trans ex1))))) (by omega))) o_108 rfl rfl rfl (Nat.le_of_ble_eq_true rfl) ⟨rfl, rfl⟩ (fun h6 qx7 => ?_)
    obtain ⟨G6, S6, fx7_0, K7⟩ := qx7
    have R6 := R5.call S6 (by decide +kernel)
    refine z_aload_n (M := M_X12_feed) 47 dX12_feed_47 rfl ?_
    refine z_getIE (M := M_X12_feed) 48 dX12_feed_48 f_X12_201 o_108 (by decide) (eq_ad fx7_0 (eq_ad fx6_0 (eq_ad fx5_0 (eq_ad fx4_0 (eq_ad fx3_0 ((upN E1 (fun q => absurd q.2 (by decide))).trans ex1)))))) ?_
    have z8 : h6 108 8 = (((((x1 + 4) + 4) + 4) + 4) + 4) := (eq_ad fx7_0 (eq_ad fx6_0 (eq_ad fx5_0 (eq_ad fx4_0 (eq_ad fx3_0 ((upN E1 (fun q => absurd q.2 (by decide))).trans ex1))))))
    exact z_retI (M := M_X12_feed) 51 dX12_feed_51 rfl ⟨G6, R6, by omega, by rw [if_pos (by omega), show h0 113 = h1 113 from (funext fun j => (upN E1 (fun q => absurd q.1 (by decide))).symm), show h0 108 8 = h1 108 8 from (upN E1 (fun q => absurd q.2 (by decide))).symm]; exact tp20_ch K3 fx3_0 K4 fx4_0 K5 fx5_0 K6 fx6_0 K7⟩
  · refine z_iconst (M := M_X12_feed) 18 dX12_feed_18 ?_
    have z8 : h1 108 8 = x1 := ((upN E1 (fun q => absurd q.2 (by decide))).trans ex1)
    exact z_retI (M := M_X12_feed) 19 dX12_feed_19 rfl ⟨G1, R1, by omega, by rw [if_neg (by omega)]; exact (funext fun j => upN E1 (fun q => absurd q.1 (by decide)))⟩
