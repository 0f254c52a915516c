theorem num_c {h : m_H} {b : Nat → Int} {n lo hi t v : Int} {q : Int × Int} (eb : h 113 = b) (en : h 108 8 = n) (eq : Qm h = q) (k : (nOk (h 113) (h 108 8) (h 108 9, h 108 10) lo hi ↔ (t = 2 ∧ lo ≤ v ∧ v ≤ hi)) ∧ ((t = 2 ∧ lo ≤ v ∧ v ≤ hi) → v = num (h 113) (h 108 9, h 108 10))) : (nOk b n q lo hi ↔ (t = 2 ∧ lo ≤ v ∧ v ≤ hi)) ∧ ((t = 2 ∧ lo ≤ v ∧ v ≤ hi) → v = num b q) := by
  subst eb en eq; exact k
theorem iS_v {x a b : Int} {r r' : Nat → Int} (e : r = r') (i : x = 1 ↔ iS r a b) : x = 1 ↔ iS r' a b := e ▸ i
theorem fst_m {h : m_H} {q : Int × Int} (e : Qm h = q) : h 108 9 = q.1 := congrArg Prod.fst e
theorem nx_mm {h h' : m_H} {b : Nat → Int} {n : Int} {q : Int × Int} (eb : h 113 = b) (en : h 108 8 = n) (eq : Qm h = q) (K : Qm h' = nx (h 113) (h 108 8) (h 108 10)) : Qm h' = nxt b n q := by
  subst eb en eq; exact K
def nmQ (lo hi x : Int) (h0 h' : m_H) : Prop := (nOk (h0 113) (h0 108 8) (Qm h0) lo hi ∧ x = num (h0 113) (Qm h0) ∧ h' 108 14 = 0 ∧ MTk h' ∧ Qm h' = nx (h0 113) (h0 108 8) (h0 108 10) ∧ h0 108 10 ≤ h' 108 9 ∧ h0 108 9 < h0 108 10 ∧ h' 108 13 = h0 108 13) ∨ (¬ nOk (h0 113) (h0 108 8) (Qm h0) lo hi ∧ h' 108 14 = 1 ∧ h' 108 13 = h0 108 9 ∧ h' 108 9 = h0 108 9)
theorem nm_c {lo hi x : Int} {b : Nat → Int} {n : Int} {q : Int × Int} {h h' : m_H} (eb : h 113 = b) (en : h 108 8 = n) (eq : Qm h = q) (D : nmQ lo hi x h h') : (nOk b n q lo hi ∧ x = num b q ∧ h' 108 14 = 0 ∧ MTk h' ∧ Qm h' = nxt b n q ∧ h 108 10 ≤ h' 108 9 ∧ h 108 9 < h 108 10 ∧ h' 108 13 = h 108 13) ∨ (¬ nOk b n q lo hi ∧ h' 108 14 = 1 ∧ h' 108 13 = h 108 9 ∧ h' 108 9 = h 108 9) := by
  subst eb en eq; exact D
theorem fr_j {j : Nat} (h : j ≠ 16) : fr [114] [(108, 16)] 108 j = false := by
  unfold fr
  have e : ((16 : Nat) == j) = false := by rw [beq_eq_false_iff_ne]; exact Ne.symm h
  simp [e]
theorem Qm_S {cs : List Nat} {ss : List (Nat × Nat)} {h h' : m_H} (S : FR cs ss h h') (e1 : fr cs ss 108 9 = false) (e2 : fr cs ss 108 10 = false) : Qm h' = Qm h := by unfold Qm; rw [S _ _ e1, S _ _ e2]
theorem Qm_up {h h' : m_H} {j : Nat} {v : Int} (E : h' = m_up h 108 j v) (hj : 12 < j) : Qm h' = Qm h := by unfold Qm; rw [upN E (fun z => by have := z.2; omega), upN E (fun z => by have := z.2; omega)]
theorem MTk.up {h h' : m_H} {j : Nat} {v : Int} (M : MTk h) (E : h' = m_up h 108 j v) (hj : 12 < j) : MTk h' := M.same (tl_r E (by decide)) (fun k u w => upN E (fun z => by have := z.2; omega))
def mdQ (z : Except Int ((Int × Int) × (Nat → Int))) (h0 h' : m_H) : Prop := match z with
  | .ok p => h' 108 14 = 0 ∧ MTk h' ∧ AI h' ∧ 2 * h' 108 16 ≤ h' 108 9 ∧ Qm h' = p.1 ∧ vr h' = p.2 ∧ h' 108 13 = h0 108 13
  | .error e => h' 108 14 = 1 ∧ h' 108 13 = e
theorem md_ok {z : Except Int ((Int × Int) × (Nat → Int))} {p : (Int × Int) × (Nat → Int)} {h0 h' : m_H} (e : z = .ok p) (hb : h' 108 14 = 0) (M : MTk h') (A : AI h') (N : 2 * h' 108 16 ≤ h' 108 9) (q : Qm h' = p.1) (v : vr h' = p.2) (u : h' 108 13 = h0 108 13) : mdQ z h0 h' := by rw [e]; exact ⟨hb, M, A, N, q, v, u⟩
theorem md_er {z : Except Int ((Int × Int) × (Nat → Int))} {e : Int} {h0 h' : m_H} (ez : z = .error e) (hb : h' 108 14 = 1) (f : h' 108 13 = e) : mdQ z h0 h' := by rw [ez]; exact ⟨hb, f⟩
theorem md_c {F : (Nat → Int) → Int → Int × Int → (Nat → Int) → Except Int ((Int × Int) × (Nat → Int))} {b : Nat → Int} {n : Int} {q : Int × Int} {r : Nat → Int} {h h' : m_H} (eb : h 113 = b) (en : h 108 8 = n) (eq : Qm h = q) (er : vr h = r) (K : mdQ (F (h 113) (h 108 8) (Qm h) (vr h)) h h') : mdQ (F b n q r) h h' := by subst eb en eq er; exact K
theorem md_cs {z : Except Int ((Int × Int) × (Nat → Int))} {h0 h' : m_H} (K : mdQ z h0 h') : (∃ p, z = .ok p ∧ h' 108 14 = 0 ∧ MTk h' ∧ AI h' ∧ 2 * h' 108 16 ≤ h' 108 9 ∧ Qm h' = p.1 ∧ vr h' = p.2 ∧ h' 108 13 = h0 108 13) ∨ (∃ e, z = .error e ∧ h' 108 14 = 1 ∧ h' 108 13 = e) := by
  unfold mdQ at K
  cases z with
  | ok p => exact Or.inl ⟨p, rfl, K⟩
  | error e => exact Or.inr ⟨e, rfl, K⟩
theorem act1_k0 {a b c d : Int} {r : Nat → Int} : act1 0 a b c d r = rW r a b c := if_pos rfl
theorem act1_k1 {a b c d : Int} {r : Nat → Int} : act1 1 a b c d r = rS r a b := (if_neg (by decide)).trans (if_pos rfl)
theorem act1_k2 {a b c d : Int} {r : Nat → Int} : act1 2 a b c d r = rU r (42 + a).toNat b := (if_neg (by decide)).trans ((if_neg (by decide)).trans (if_pos rfl))
theorem act1_k3 {a b c d : Int} {r : Nat → Int} : act1 3 a b c d r = rE r a b c d := (if_neg (by decide)).trans ((if_neg (by decide)).trans (if_neg (by decide)))
abbrev P_X12_must_1 (h0 : m_H) (a1 : Int) : m_H → Prop := fun h' => GI h' ∧ FR [] [(108, 9), (108, 10), (108, 11), (108, 12)] h0 h' ∧ MTk h' ∧ Qm h' = nx (h0 113) (h0 108 8) (h0 108 10) ∧ h0 108 10 ≤ h' 108 9
set_option maxHeartbeats 4000000 in
set_option maxRecDepth 100000 in
theorem c_X12_must_1 (h0 : m_H) (a1 : Int) (G0 : GI h0) (pa1 : 1 ≤ a1 ∧ a1 ≤ 1) (hb : h0 108 14 = 0) (M0 : MTk h0) (hs : h0 108 11 ≠ 0) : m_CV M_X12_must [mR 108, mI a1] h0 (P_X12_must_1 h0 a1) := by
  refine m_CV_of ⟨by decide, rfl, by simp [m_arg, m_isL, M_X12_must], ⟨rfl, rfl⟩, rfl, rfl⟩ (ls := [some (mR 108), some (mI a1)]) rfl ?_
  refine z_aload_n (M := M_X12_must) 0 dX12_must_0 rfl ?_
  refine z_getIE (M := M_X12_must) 1 dX12_must_1 f_X12_214 o_108 (by decide) hb ?_
  refine z_if_ne_F (M := M_X12_must) 4 dX12_must_4 24 rfl (by omega) ?_
  refine z_iload_n (M := M_X12_must) 7 dX12_must_7 rfl ?_
  refine z_if_ne_T (M := M_X12_must) 8 dX12_must_8 24 rfl (by omega) ?_
  refine z_aload_n (M := M_X12_must) 24 dX12_must_24 rfl ?_
  refine z_getIE (M := M_X12_must) 25 dX12_must_25 f_X12_214 o_108 (by decide) hb ?_
  refine z_if_ne_F (M := M_X12_must) 28 dX12_must_28 35 rfl (by omega) ?_
  refine z_aload_n (M := M_X12_must) 31 dX12_must_31 rfl ?_
  refine z_vV (M := M_X12_must) 32 dX12_must_32 t_X12_next l_X12_218 (m_rr_of rfl) (rest := []) (c_X12_next2 h0 G0 M0.2.2.2) o_108 rfl rfl rfl (Nat.le_of_ble_eq_true rfl) ⟨rfl, rfl⟩ (fun h1 qx1 => ?_)
  obtain ⟨G1, S1, Tx1, Mx1⟩ := qx1
  have R1 := (FR.rf (cs := []) (ss := [(108, 9), (108, 10), (108, 11), (108, 12)]) (h := h0)).call S1 (by decide +kernel)
  have Qx1 : Qm h1 = (nxt (h0 113) (h0 108 8) (Qm h0)) := nx_m (rowz (FR.rf (cs := []) (ss := [(108, 9), (108, 10), (108, 11), (108, 12)]) (h := h0)) (fun _ => rfl)) ((FR.rf (cs := []) (ss := [(108, 9), (108, 10), (108, 11), (108, 12)]) (h := h0)) 108 8 rfl) rfl (g_108_10 G0).1 Tx1
  have Px1 : h0 108 10 ≤ h1 108 9 := Tx1.1.1
  have Lx1 : h0 108 9 < h0 108 10 := M0.lt (by omega)
  have na1 : h1 108 16 = h0 108 16 := S1 108 16 rfl
  have V1 : vr h1 = (vr h0) := (vr_S S1 (fun _ => rfl) rfl (fun _ => rfl)).trans rfl
  exact z_retV (M := M_X12_must) 35 dX12_must_35 rfl ⟨G1, R1, Mx1, Qx1, Px1⟩
abbrev P_X12_must_0 (h0 : m_H) (a1 : Int) : m_H → Prop := fun h' => GI h' ∧ FR [] [(108, 13), (108, 14)] h0 h' ∧ h' 108 14 = 1 ∧ h' 108 13 = h0 108 9
set_option maxHeartbeats 4000000 in
set_option maxRecDepth 100000 in
theorem c_X12_must_0 (h0 : m_H) (a1 : Int) (G0 : GI h0) (pa1 : 0 ≤ a1 ∧ a1 ≤ 0) (hb : h0 108 14 = 0) : m_CV M_X12_must [mR 108, mI a1] h0 (P_X12_must_0 h0 a1) := by
  refine m_CV_of ⟨by decide, rfl, by simp [m_arg, m_isL, M_X12_must], ⟨rfl, rfl⟩, rfl, rfl⟩ (ls := [some (mR 108), some (mI a1)]) rfl ?_
  obtain ⟨x1, ex1⟩ : ∃ y : Int, h0 108 9 = y := ⟨_, rfl⟩
  have bx1 : 0 ≤ x1 ∧ x1 ≤ 400 := ex1 ▸ g_108_9 G0
  refine z_aload_n (M := M_X12_must) 0 dX12_must_0 rfl ?_
  refine z_getIE (M := M_X12_must) 1 dX12_must_1 f_X12_214 o_108 (by decide) hb ?_
  refine z_if_ne_F (M := M_X12_must) 4 dX12_must_4 24 rfl (by omega) ?_
  refine z_iload_n (M := M_X12_must) 7 dX12_must_7 rfl ?_
  refine z_if_ne_F (M := M_X12_must) 8 dX12_must_8 24 rfl (by omega) ?_
  refine z_aload_n (M := M_X12_must) 11 dX12_must_11 rfl ?_
  refine z_iconst (M := M_X12_must) 12 dX12_must_12 ?_
  refine z_putZH (M := M_X12_must) 13 dX12_must_13 p_X12_214 o_108 rfl (by omega) (u_108_14 G0 (by omega) (by omega)) ((FR.rf (cs := []) (ss := [(108, 13), (108, 14)]) (h := h0)).up rfl) (fun h1 E1 G1 R1 => ?_)
  refine z_aload_n (M := M_X12_must) 16 dX12_must_16 rfl ?_
  refine z_aload_n (M := M_X12_must) 17 dX12_must_17 rfl ?_
  refine z_getIE (M := M_X12_must) 18 dX12_must_18 f_X12_221 o_108 (by decide) ((upN E1 (fun q => absurd q.2 (by decide))).trans ex1) ?_
  refine z_putIH (M := M_X12_must) 21 dX12_must_21 p_X12_26 o_108 rfl (u_108_13 G1) (R1.up rfl) (fun h2 E2 G2 R2 => ?_)
  refine z_aload_n (M := M_X12_must) 24 dX12_must_24 rfl ?_
  refine z_getIE (M := M_X12_must) 25 dX12_must_25 f_X12_214 o_108 (by decide) ((upN E2 (fun q => absurd q.2 (by decide))).trans (upE E1)) ?_
  refine z_if_ne_T (M := M_X12_must) 28 dX12_must_28 35 rfl (by omega) ?_
  exact z_retV (M := M_X12_must) 35 dX12_must_35 rfl ⟨G2, R2, ((upN E2 (fun q => absurd q.2 (by decide))).trans (upE E1)), (upE E2).trans ex1.symm⟩
abbrev P_X12_must_b (h0 : m_H) (a1 : Int) : m_H → Prop := fun h' => GI h' ∧ FR [] [] h0 h'
set_option maxHeartbeats 4000000 in
set_option maxRecDepth 100000 in
theorem c_X12_must_b (h0 : m_H) (a1 : Int) (G0 : GI h0) (pa1 : 0 ≤ a1 ∧ a1 ≤ 1) (hb1 : h0 108 14 = 1) : m_CV M_X12_must [mR 108, mI a1] h0 (P_X12_must_b h0 a1) := by
  refine m_CV_of ⟨by decide, rfl, by simp [m_arg, m_isL, M_X12_must], ⟨rfl, rfl⟩, rfl, rfl⟩ (ls := [some (mR 108), some (mI a1)]) rfl ?_
  refine z_aload_n (M := M_X12_must) 0 dX12_must_0 rfl ?_
  refine z_getIE (M := M_X12_must) 1 dX12_must_1 f_X12_214 o_108 (by decide) hb1 ?_
  refine z_if_ne_T (M := M_X12_must) 4 dX12_must_4 24 rfl (by omega) ?_
  refine z_aload_n (M := M_X12_must) 24 dX12_must_24 rfl ?_
  refine z_getIE (M := M_X12_must) 25 dX12_must_25 f_X12_214 o_108 (by decide) hb1 ?_
  refine z_if_ne_T (M := M_X12_must) 28 dX12_must_28 35 rfl (by omega) ?_
  exact z_retV (M := M_X12_must) 35 dX12_must_35 rfl ⟨G0, (FR.rf (cs := []) (ss := []) (h := h0))⟩
abbrev P_X12_number_g (h0 : m_H) (a1 a2 : Int) : Int → m_H → Prop := fun x h' => GI h' ∧ FR [] [(108, 9), (108, 10), (108, 11), (108, 12), (108, 13), (108, 14)] h0 h' ∧ nmQ a1 a2 x h0 h'
set_option maxHeartbeats 4000000 in
set_option maxRecDepth 100000 in
theorem c_X12_number_g (h0 : m_H) (a1 a2 : Int) (G0 : GI h0) (pa1 : 0 ≤ a1 ∧ a1 ≤ 1000) (pa2 : 0 ≤ a2 ∧ a2 ≤ 999) (hb : h0 108 14 = 0) (M0 : MTk h0) : m_CI M_X12_number [mR 108, mJ a1, mJ a2] h0 (P_X12_number_g h0 a1 a2) := by
  refine m_CI_of ⟨by decide, rfl, by simp [m_arg, m_isL, M_X12_number], ⟨rfl, rfl⟩, rfl, rfl⟩ (ls := [some (mR 108), some (mJ a1), none, some (mJ a2), none, none]) rfl ?_
  refine z_aload_n (M := M_X12_number) 0 dX12_number_0 rfl ?_
  refine z_getJV (M := M_X12_number) 1 dX12_number_1 f_X12_224 o_108 rfl (fun x1 ex1 => ?_)
  refine z_l2i (M := M_X12_number) 4 dX12_number_4 ?_
  refine z_topm (fun x2 ex2 ox2 => ?_)
  unfold m_32 at ox2
  refine z_istore (M := M_X12_number) 5 dX12_number_5 (ls' := [some (mR 108), some (mJ a1), none, some (mJ a2), none, some (mI x2)]) (by decide) rfl ?_
  refine z_aload_n (M := M_X12_number) 7 dX12_number_7 rfl ?_
  refine z_aload_n (M := M_X12_number) 8 dX12_number_8 rfl ?_
  refine z_getIG (M := M_X12_number) 9 dX12_number_9 f_X12_234 o_108 (by decide) (g_108_11 G0) (fun x3 ex3 ax3 bx3 => ?_)
  refine z_iconst (M := M_X12_number) 12 dX12_number_12 ?_
  refine z_icmp_ne (M := M_X12_number) 13 dX12_number_13 32 rfl (fun c4 => ?_) (fun c4 => ?_)
  · refine z_iconst (M := M_X12_number) 32 dX12_number_32 ?_
    refine z_vV (M := M_X12_number) 33 dX12_number_33 t_X12_must l_X12_247 (m_rr_of rfl) (rest := []) (c_X12_must_0 h0 0 G0 ⟨by omega, by omega⟩ hb) o_108 rfl rfl rfl (Nat.le_of_ble_eq_true rfl) ⟨rfl, rfl⟩ (fun h1 qx5 => ?_)
    obtain ⟨G1, S1, bx5, fx5⟩ := qx5
    have R1 := (FR.rf (cs := []) (ss := [(108, 9), (108, 10), (108, 11), (108, 12), (108, 13), (108, 14)]) (h := h0)).call S1 (by decide +kernel)
    have Px5 : h1 108 9 = h0 108 9 := S1 108 9 rfl
    have fpx5 : h1 108 13 = (Qm h0).1 := fx5.trans (fst_m rfl)
    refine z_iload (M := M_X12_number) 36 dX12_number_36 rfl ?_
    exact z_retI (M := M_X12_number) 38 dX12_number_38 rfl ⟨G1, R1, Or.inr ⟨fun z => by have q := (nk (lo := a1) (hi := a2) (g_108_9 G0).1 M0.1 M0.2.1 (by omega) (by omega)).1.mp z; omega, bx5, fpx5, S1 108 9 rfl⟩⟩
  · refine z_aload_n (M := M_X12_number) 16 dX12_number_16 rfl ?_
    refine z_getJE (M := M_X12_number) 17 dX12_number_17 f_X12_224 o_108 rfl ex1 ?_
    refine z_lload_n (M := M_X12_number) 20 dX12_number_20 rfl ?_
    refine z_lload_n (M := M_X12_number) 21 dX12_number_21 rfl ?_
    refine z_sI (M := M_X12_number) 22 dX12_number_22 t_X12_in l_X12_143 (m_rr_of rfl) (rest := [mR 108]) (c_X12_in h0 x1 a1 a2 G0) rfl rfl (Nat.le_of_ble_eq_true rfl) ⟨rfl, rfl⟩ (fun x6 h2 qx6 => ?_)
    obtain ⟨rfl, ⟨rfl, cx6⟩ | ⟨rfl, cx6⟩⟩ := qx6
    · refine z_if_eq_F (M := M_X12_number) 25 dX12_number_25 32 rfl (by omega) ?_
      refine z_iconst (M := M_X12_number) 28 dX12_number_28 ?_
      refine z_goto (M := M_X12_number) 29 dX12_number_29 33 rfl ?_
      have mwid : x2 = x1 := by have z := m_w_or ex2; omega
      refine z_vV (M := M_X12_number) 33 dX12_number_33 t_X12_must l_X12_247 (m_rr_of rfl) (rest := []) (c_X12_must_1 h0 1 G0 ⟨by omega, by omega⟩ hb M0 (by omega)) o_108 rfl rfl rfl (Nat.le_of_ble_eq_true rfl) ⟨rfl, rfl⟩ (fun h3 qx7 => ?_)
      obtain ⟨G3, S3, Mx7, Kx7, Px7⟩ := qx7
      have R3 := (FR.rf (cs := []) (ss := [(108, 9), (108, 10), (108, 11), (108, 12), (108, 13), (108, 14)]) (h := h0)).call S3 (by decide +kernel)
      have Qx7 : Qm h3 = (nxt (h0 113) (h0 108 8) (Qm h0)) := nx_mm (rowz (FR.rf (cs := []) (ss := [(108, 9), (108, 10), (108, 11), (108, 12), (108, 13), (108, 14)]) (h := h0)) (fun _ => rfl)) ((FR.rf (cs := []) (ss := [(108, 9), (108, 10), (108, 11), (108, 12), (108, 13), (108, 14)]) (h := h0)) 108 8 rfl) rfl Kx7
      have Lx7 : h0 108 9 < h0 108 10 := M0.lt (by omega)
      have na3 : h3 108 16 = h0 108 16 := S3 108 16 rfl
      have V3 : vr h3 = (vr h0) := (vr_S S3 (fun _ => rfl) rfl (fun _ => rfl)).trans rfl
      refine z_iload (M := M_X12_number) 36 dX12_number_36 rfl ?_
      exact z_retI (M := M_X12_number) 38 dX12_number_38 rfl ⟨G3, R3, Or.inl ⟨(nk (lo := a1) (hi := a2) (g_108_9 G0).1 M0.1 M0.2.1 (by omega) (by omega)).1.mpr ⟨by omega, by omega, by omega⟩, (mwid.trans (ex1.symm.trans ((nk (lo := a1) (hi := a2) (g_108_9 G0).1 M0.1 M0.2.1 (by omega) (by omega)).2 ⟨by omega, by omega, by omega⟩))), ((S3 108 14 rfl).trans hb), Mx7, Kx7, Px7, Lx7, S3 108 13 rfl⟩⟩
    · refine z_if_eq_T (M := M_X12_number) 25 dX12_number_25 32 rfl (by omega) ?_
      refine z_iconst (M := M_X12_number) 32 dX12_number_32 ?_
      refine z_vV (M := M_X12_number) 33 dX12_number_33 t_X12_must l_X12_247 (m_rr_of rfl) (rest := []) (c_X12_must_0 h0 0 G0 ⟨by omega, by omega⟩ hb) o_108 rfl rfl rfl (Nat.le_of_ble_eq_true rfl) ⟨rfl, rfl⟩ (fun h4 qx8 => ?_)
      obtain ⟨G4, S4, bx8, fx8⟩ := qx8
      have R4 := (FR.rf (cs := []) (ss := [(108, 9), (108, 10), (108, 11), (108, 12), (108, 13), (108, 14)]) (h := h0)).call S4 (by decide +kernel)
      have Px8 : h4 108 9 = h0 108 9 := S4 108 9 rfl
      have fpx8 : h4 108 13 = (Qm h0).1 := fx8.trans (fst_m rfl)
      refine z_iload (M := M_X12_number) 36 dX12_number_36 rfl ?_
      exact z_retI (M := M_X12_number) 38 dX12_number_38 rfl ⟨G4, R4, Or.inr ⟨fun z => by have q := (nk (lo := a1) (hi := a2) (g_108_9 G0).1 M0.1 M0.2.1 (by omega) (by omega)).1.mp z; omega, bx8, fpx8, S4 108 9 rfl⟩⟩
abbrev P_X12_number_b (h0 : m_H) (a1 a2 : Int) : Int → m_H → Prop := fun x h' => GI h' ∧ FR [] [] h0 h'
set_option maxHeartbeats 4000000 in
set_option maxRecDepth 100000 in
theorem c_X12_number_b (h0 : m_H) (a1 a2 : Int) (G0 : GI h0) (pa1 : 0 ≤ a1 ∧ a1 ≤ 1000) (pa2 : 0 ≤ a2 ∧ a2 ≤ 999) (hb1 : h0 108 14 = 1) : m_CI M_X12_number [mR 108, mJ a1, mJ a2] h0 (P_X12_number_b h0 a1 a2) := by
  refine m_CI_of ⟨by decide, rfl, by simp [m_arg, m_isL, M_X12_number], ⟨rfl, rfl⟩, rfl, rfl⟩ (ls := [some (mR 108), some (mJ a1), none, some (mJ a2), none, none]) rfl ?_
  refine z_aload_n (M := M_X12_number) 0 dX12_number_0 rfl ?_
  refine z_getJV (M := M_X12_number) 1 dX12_number_1 f_X12_224 o_108 rfl (fun x1 ex1 => ?_)
  refine z_l2i (M := M_X12_number) 4 dX12_number_4 ?_
  refine z_topm (fun x2 ex2 ox2 => ?_)
  unfold m_32 at ox2
  refine z_istore (M := M_X12_number) 5 dX12_number_5 (ls' := [some (mR 108), some (mJ a1), none, some (mJ a2), none, some (mI x2)]) (by decide) rfl ?_
  refine z_aload_n (M := M_X12_number) 7 dX12_number_7 rfl ?_
  refine z_aload_n (M := M_X12_number) 8 dX12_number_8 rfl ?_
  refine z_getIG (M := M_X12_number) 9 dX12_number_9 f_X12_234 o_108 (by decide) (g_108_11 G0) (fun x3 ex3 ax3 bx3 => ?_)
  refine z_iconst (M := M_X12_number) 12 dX12_number_12 ?_
  refine z_icmp_ne (M := M_X12_number) 13 dX12_number_13 32 rfl (fun c4 => ?_) (fun c4 => ?_)
  · refine z_iconst (M := M_X12_number) 32 dX12_number_32 ?_
    refine z_vV (M := M_X12_number) 33 dX12_number_33 t_X12_must l_X12_247 (m_rr_of rfl) (rest := []) (c_X12_must_b h0 0 G0 ⟨by omega, by omega⟩ hb1) o_108 rfl rfl rfl (Nat.le_of_ble_eq_true rfl) ⟨rfl, rfl⟩ (fun h1 qx5 => ?_)
    obtain ⟨G1, S1⟩ := qx5
    have R1 := (FR.rf (cs := []) (ss := []) (h := h0)).call S1 (by decide +kernel)
    have P1_ : h1 108 9 = h0 108 9 := S1 108 9 rfl
    refine z_iload (M := M_X12_number) 36 dX12_number_36 rfl ?_
    exact z_retI (M := M_X12_number) 38 dX12_number_38 rfl ⟨G1, R1⟩
  · refine z_aload_n (M := M_X12_number) 16 dX12_number_16 rfl ?_
    refine z_getJE (M := M_X12_number) 17 dX12_number_17 f_X12_224 o_108 rfl ex1 ?_
    refine z_lload_n (M := M_X12_number) 20 dX12_number_20 rfl ?_
    refine z_lload_n (M := M_X12_number) 21 dX12_number_21 rfl ?_
    refine z_sI (M := M_X12_number) 22 dX12_number_22 t_X12_in l_X12_143 (m_rr_of rfl) (rest := [mR 108]) (c_X12_in h0 x1 a1 a2 G0) rfl rfl (Nat.le_of_ble_eq_true rfl) ⟨rfl, rfl⟩ (fun x6 h2 qx6 => ?_)
    obtain ⟨rfl, ⟨rfl, cx6⟩ | ⟨rfl, cx6⟩⟩ := qx6
    · refine z_if_eq_F (M := M_X12_number) 25 dX12_number_25 32 rfl (by omega) ?_
      refine z_iconst (M := M_X12_number) 28 dX12_number_28 ?_
      refine z_goto (M := M_X12_number) 29 dX12_number_29 33 rfl ?_
      refine z_vV (M := M_X12_number) 33 dX12_number_33 t_X12_must l_X12_247 (m_rr_of rfl) (rest := []) (c_X12_must_b h0 1 G0 ⟨by omega, by omega⟩ hb1) o_108 rfl rfl rfl (Nat.le_of_ble_eq_true rfl) ⟨rfl, rfl⟩ (fun h3 qx7 => ?_)
      obtain ⟨G3, S3⟩ := qx7
      have R3 := (FR.rf (cs := []) (ss := []) (h := h0)).call S3 (by decide +kernel)
      have P3_ : h3 108 9 = h0 108 9 := S3 108 9 rfl
      refine z_iload (M := M_X12_number) 36 dX12_number_36 rfl ?_
      exact z_retI (M := M_X12_number) 38 dX12_number_38 rfl ⟨G3, R3⟩
    · refine z_if_eq_T (M := M_X12_number) 25 dX12_number_25 32 rfl (by omega) ?_
      refine z_iconst (M := M_X12_number) 32 dX12_number_32 ?_
      refine z_vV (M := M_X12_number) 33 dX12_number_33 t_X12_must l_X12_247 (m_rr_of rfl) (rest := []) (c_X12_must_b h0 0 G0 ⟨by omega, by omega⟩ hb1) o_108 rfl rfl rfl (Nat.le_of_ble_eq_true rfl) ⟨rfl, rfl⟩ (fun h4 qx8 => ?_)
      obtain ⟨G4, S4⟩ := qx8
      have R4 := (FR.rf (cs := []) (ss := []) (h := h0)).call S4 (by decide +kernel)
      have P4_ : h4 108 9 = h0 108 9 := S4 108 9 rfl
      refine z_iload (M := M_X12_number) 36 dX12_number_36 rfl ?_
      exact z_retI (M := M_X12_number) 38 dX12_number_38 rfl ⟨G4, R4⟩
abbrev P_X12_act_b (h0 : m_H) (a1 a2 a3 a4 a5 : Int) : m_H → Prop := fun h' => GI h' ∧ FR [] [] h0 h'
set_option maxHeartbeats 4000000 in
set_option maxRecDepth 100000 in
theorem c_X12_act_b (h0 : m_H) (a1 a2 a3 a4 a5 : Int) (G0 : GI h0) (hb1 : h0 108 14 = 1) : m_CV M_X12_act [mR 108, mI a1, mI a2, mI a3, mI a4, mI a5] h0 (P_X12_act_b h0 a1 a2 a3 a4 a5) := by
  refine m_CV_of ⟨by decide, rfl, by simp [m_arg, m_isL, M_X12_act], ⟨rfl, rfl⟩, rfl, rfl⟩ (ls := [some (mR 108), some (mI a1), some (mI a2), some (mI a3), some (mI a4), some (mI a5), none]) rfl ?_
  refine z_ok (fun _ _ ok => ?_)
  have oa1 : m_32 a1 := ok 1 _ rfl
  unfold m_32 at oa1
  have oa2 : m_32 a2 := ok 2 _ rfl
  unfold m_32 at oa2
  have oa3 : m_32 a3 := ok 3 _ rfl
  unfold m_32 at oa3
  have oa4 : m_32 a4 := ok 4 _ rfl
  unfold m_32 at oa4
  have oa5 : m_32 a5 := ok 5 _ rfl
  unfold m_32 at oa5
  refine z_aload_n (M := M_X12_act) 0 dX12_act_0 rfl ?_
  refine z_getIE (M := M_X12_act) 1 dX12_act_1 f_X12_214 o_108 (by decide) hb1 ?_
  refine z_if_eq_F (M := M_X12_act) 4 dX12_act_4 8 rfl (by omega) ?_
  exact z_retV (M := M_X12_act) 7 dX12_act_7 rfl ⟨G0, (FR.rf (cs := []) (ss := []) (h := h0))⟩
theorem sh_st {r : Nat → Int} {l a b : Int} (i : ∀ j : Nat, (j : Int) < l → ¬ (r (2 * j + 48) = a ∧ r (2 * j + 49) = b)) (h0 : 0 ≤ l) (h : ¬ (r (48 + (2 * l)).toNat = a ∧ r ((48 + (2 * l)) + 1).toNat = b)) : ∀ j : Nat, (j : Int) < l + 1 → ¬ (r (2 * j + 48) = a ∧ r (2 * j + 49) = b) := by
  intro j hj
  by_cases g : (j : Int) = l
  · have e1 : (48 + (2 * l)).toNat = 2 * j + 48 := by omega
    have e2 : ((48 + (2 * l)) + 1).toNat = 2 * j + 49 := by omega
    rw [e1, e2] at h; exact h
  · exact i j (by omega)
theorem sh_no {r : Nat → Int} {l a b x : Int} (i : ∀ j : Nat, (j : Int) < l → ¬ (r (2 * j + 48) = a ∧ r (2 * j + 49) = b)) (hl : r 1 = x) (h : x ≤ l) : (0 : Int) = 1 ↔ iS r a b := by
  constructor
  · intro z; omega
  · rintro ⟨k, u, v, w⟩; exact absurd ⟨v, w⟩ (i k (by omega))
theorem sh_yes {r : Nat → Int} {l a b x : Int} (h0 : 0 ≤ l) (hl : r 1 = x) (h : l < x) (e1 : r (48 + (2 * l)).toNat = a) (e2 : r ((48 + (2 * l)) + 1).toNat = b) : (1 : Int) = 1 ↔ iS r a b := by
  have z1 : (48 + (2 * l)).toNat = 2 * l.toNat + 48 := by omega
  have z2 : ((48 + (2 * l)) + 1).toNat = 2 * l.toNat + 49 := by omega
  rw [z1] at e1; rw [z2] at e2
  exact ⟨fun _ => ⟨l.toNat, by omega, e1, e2⟩, fun _ => rfl⟩
theorem iS_act {k a b c d u v : Int} {r : Nat → Int} (ok : okA k a b c d) (h0 : 0 ≤ r 1) (h1 : k = 1 → r 1 ≤ 5) (h6 : r 1 ≤ 6) (h00 : 0 ≤ r 0) : iS (act1 k a b c d r) u v ↔ (iS r u v ∨ (k = 1 ∧ u = a ∧ v = b)) := by
  have gen : ∀ r' : Nat → Int, (∀ j : Nat, j = 1 ∨ (48 ≤ j ∧ j ≤ 59) → r' j = r j) → (iS r' u v ↔ iS r u v) := by
    intro r' e
    unfold iS
    rw [e 1 (Or.inl rfl)]
    constructor
    · rintro ⟨j, x, y, z⟩
      rw [e _ (Or.inr (by omega))] at y z
      exact ⟨j, x, y, z⟩
    · rintro ⟨j, x, y, z⟩
      exact ⟨j, x, by rw [e _ (Or.inr (by omega))]; exact y, by rw [e _ (Or.inr (by omega))]; exact z⟩
  unfold okA at ok
  rcases ok with ⟨e, u1, u2, u3⟩ | ⟨e, u1, u2⟩ | ⟨e, u1, u2⟩ | ⟨e, _⟩
  · subst e
    rw [act1_k0, gen _ (fun j hj => by unfold rW; rw [if_neg (by omega)])]
    exact ⟨Or.inl, fun z => z.elim id (fun z => absurd z.1 (by decide))⟩
  · subst e
    rw [act1_k1, iS_add h0 (h1 rfl)]
    exact ⟨fun z => z.elim Or.inl (fun z => Or.inr ⟨rfl, z⟩), fun z => z.elim Or.inl (fun z => Or.inr z.2)⟩
  · subst e
    rw [act1_k2, gen _ (fun j hj => by unfold rU; rw [if_neg (by omega)])]
    exact ⟨Or.inl, fun z => z.elim id (fun z => absurd z.1 (by decide))⟩
  · subst e
    rw [act1_k3, gen _ (fun j hj => by unfold rE; rw [if_neg (by omega), if_neg (by omega), if_neg (by omega), if_neg (by omega), if_neg (by omega), if_neg (by omega)])]
    exact ⟨Or.inl, fun z => z.elim id (fun z => absurd z.1 (by decide))⟩
theorem iS_ap {h : m_H} {u v k : Int} (G : GI h) (A : AI h) (h0 : 0 ≤ k) (hk : k < h 108 16) : iS (apA (h 114) (k + 1).toNat (h 110)) u v ↔ (iS (apA (h 114) k.toNat (h 110)) u v ∨ (h 114 (5 * k).toNat = 1 ∧ h 114 (5 * k + 1).toNat = u ∧ h 114 (5 * k + 2).toNat = v)) := by
  have z := apA_01 (h := h) (r := h 110) k.toNat (fun j hj => A.1 j (by omega))
  have m1 := cN_mono (kd := 1) (h := h) (show k.toNat + 1 ≤ (h 108 16).toNat by omega)
  have m0 := cN_mono (kd := 1) (h := h) (show 0 ≤ k.toNat by omega)
  have m3 := cN_mono (kd := 3) (h := h) (show 0 ≤ k.toNat by omega)
  have t1 := A.2.2.1
  have r1 := A.rooms.2
  have b1 := gw_1 G
  have b0 := gw_0 G
  have mm := cN_mono (kd := 1) (h := h) (show k.toNat ≤ (h 108 16).toNat by omega)
  have c0 : cN 1 h 0 = 0 := rfl
  have c3 : cN 3 h 0 = 0 := rfl
  have b1' : 0 ≤ h 110 1 := b1.1
  have b0' : 0 ≤ h 110 0 := b0.1
  rw [show (k + 1).toNat = k.toNat + 1 by omega, show (5 * k).toNat = 5 * k.toNat by omega, show (5 * k + 1).toNat = 5 * k.toNat + 1 by omega, show (5 * k + 2).toNat = 5 * k.toNat + 2 by omega]
  show iS (act1 _ _ _ _ _ (apA (h 114) k.toNat (h 110))) u v ↔ _
  rw [iS_act (A.1 k.toNat (by omega)) (by rw [z.2]; omega) (fun e => by
    simp only [cN] at m1; rw [if_pos e] at m1; rw [z.2]; omega) (by rw [z.2]; omega) (by rw [z.1]; omega)]
  constructor
  · rintro (x | ⟨x, y, w⟩)
    · exact Or.inl x
    · exact Or.inr ⟨x, y.symm, w.symm⟩
  · rintro (x | ⟨x, y, w⟩)
    · exact Or.inl x
    · exact Or.inr ⟨x, y.symm, w.symm⟩
abbrev P_X12_isShorter2 (h0 : m_H) (a1 a2 : Int) : Int → m_H → Prop := fun x h' => GI h' ∧ FR [] [] h0 h' ∧ 0 ≤ x ∧ x ≤ 1 ∧ (x = 1 ↔ iS (h0 110) a1 a2)
def q_X12_isShorter2 (h0 : m_H) (a1 a2 : Int) (n : Nat) : Prop := (∀ (l3 : Int) (h : m_H), GI h → FR [] [] h0 h → 0 ≤ l3 → l3 ≤ 6 → (-2147483648) ≤ a1 → a1 ≤ 2147483647 → (-2147483648) ≤ a2 → a2 ≤ 2147483647 → (∀ j : Nat, (j : Int) < l3 → ¬ (h0 110 (2 * j + 48) = a1 ∧ h0 110 (2 * j + 49) = a2)) → 2 * (6 - l3) + (1) ≤ (n : Int) → m_Z oF M_X12_isShorter 2 [some (mR 108), some (mI a1), some (mI a2), some (mI l3)] [] h (m_QI (P_X12_isShorter2 h0 a1 a2)))
set_option maxHeartbeats 4000000 in
set_option maxRecDepth 100000 in
theorem s_X12_isShorter2_2 (h0 : m_H) (a1 a2 : Int) (G0 : GI h0) (n : Nat) (ih : q_X12_isShorter2 h0 a1 a2 n) : ∀ (l3 : Int) (h : m_H), GI h → FR [] [] h0 h → 0 ≤ l3 → l3 ≤ 6 → (-2147483648) ≤ a1 → a1 ≤ 2147483647 → (-2147483648) ≤ a2 → a2 ≤ 2147483647 → (∀ j : Nat, (j : Int) < l3 → ¬ (h0 110 (2 * j + 48) = a1 ∧ h0 110 (2 * j + 49) = a2)) → 2 * (6 - l3) + (1) ≤ ((n + 1 : Nat) : Int) → m_Z oF M_X12_isShorter 2 [some (mR 108), some (mI a1), some (mI a2), some (mI l3)] [] h (m_QI (P_X12_isShorter2 h0 a1 a2)) := by
  intro l3 h G R v0 v1 v2 v3 v4 v5 i0 hr
  refine z_iload_n (M := M_X12_isShorter) 2 dX12_isShorter_2 rfl ?_
  refine z_aload_n (M := M_X12_isShorter) 3 dX12_isShorter_3 rfl ?_
  refine z_getR (M := M_X12_isShorter) 4 dX12_isShorter_4 f_X12_13 o_108 rfl (g_108_3 G) ?_
  refine z_iconst (M := M_X12_isShorter) 7 dX12_isShorter_7 ?_
  refine z_ialdG (M := M_X12_isShorter) 8 dX12_isShorter_8 o_110 (by omega) (by omega) (gw_1 G) (fun x1 ex1 ax1 bx1 => ?_)
  refine z_icmp_ge (M := M_X12_isShorter) 9 dX12_isShorter_9 52 rfl (fun c2 => ?_) (fun c2 => ?_)
  · refine z_iconst (M := M_X12_isShorter) 52 dX12_isShorter_52 ?_
    exact z_retZ (M := M_X12_isShorter) 53 dX12_isShorter_53 rfl (by omega) ⟨G, R, by omega, by omega, sh_no i0 ((R 110 1 rfl).symm.trans ex1) (by omega)⟩
  · refine z_aload_n (M := M_X12_isShorter) 12 dX12_isShorter_12 rfl ?_
    refine z_getR (M := M_X12_isShorter) 13 dX12_isShorter_13 f_X12_13 o_108 rfl (g_108_3 G) ?_
    refine z_bipush (M := M_X12_isShorter) 16 dX12_isShorter_16 ?_
    refine z_iconst (M := M_X12_isShorter) 18 dX12_isShorter_18 ?_
    refine z_iload_n (M := M_X12_isShorter) 19 dX12_isShorter_19 rfl ?_
    refine z_imulN (M := M_X12_isShorter) 20 dX12_isShorter_20 (by omega) (by omega) ?_
    refine z_iaddN (M := M_X12_isShorter) 21 dX12_isShorter_21 (by omega) (by omega) ?_
    refine z_ialdG (M := M_X12_isShorter) 22 dX12_isShorter_22 o_110 (by omega) (by omega) (gw_s G (by omega) (by omega)) (fun x3 ex3 ax3 bx3 => ?_)
    refine z_iload_n (M := M_X12_isShorter) 23 dX12_isShorter_23 rfl ?_
    refine z_icmp_ne (M := M_X12_isShorter) 24 dX12_isShorter_24 46 rfl (fun c4 => ?_) (fun c4 => ?_)
    · refine z_iincN (M := M_X12_isShorter) 46 dX12_isShorter_46 (ls' := [some (mR 108), some (mI a1), some (mI a2), some (mI (l3 + 1))]) (by decide) rfl (by (unfold m_32; decide)) (by omega) (by omega) rfl ?_
      refine z_goto (M := M_X12_isShorter) 49 dX12_isShorter_49 2 rfl ?_
      exact z_mask [true, true, true, true] rfl (ih (l3 + 1) h G R (by omega) (by omega) (by omega) (by omega) (by omega) (by omega) (sh_st i0 (by omega) (fun z => absurd z.1 (by rw [← R 110 _ rfl, ex3]; omega))) (by omega))
    · refine z_aload_n (M := M_X12_isShorter) 27 dX12_isShorter_27 rfl ?_
      refine z_getR (M := M_X12_isShorter) 28 dX12_isShorter_28 f_X12_13 o_108 rfl (g_108_3 G) ?_
      refine z_bipush (M := M_X12_isShorter) 31 dX12_isShorter_31 ?_
      refine z_iconst (M := M_X12_isShorter) 33 dX12_isShorter_33 ?_
      refine z_iload_n (M := M_X12_isShorter) 34 dX12_isShorter_34 rfl ?_
      refine z_imulN (M := M_X12_isShorter) 35 dX12_isShorter_35 (by omega) (by omega) ?_
      refine z_iaddN (M := M_X12_isShorter) 36 dX12_isShorter_36 (by omega) (by omega) ?_
      refine z_iconst (M := M_X12_isShorter) 37 dX12_isShorter_37 ?_
      refine z_iaddN (M := M_X12_isShorter) 38 dX12_isShorter_38 (by omega) (by omega) ?_
      refine z_ialdG (M := M_X12_isShorter) 39 dX12_isShorter_39 o_110 (by omega) (by omega) (gw_s G (by omega) (by omega)) (fun x5 ex5 ax5 bx5 => ?_)
      refine z_iload_n (M := M_X12_isShorter) 40 dX12_isShorter_40 rfl ?_
      refine z_icmp_ne (M := M_X12_isShorter) 41 dX12_isShorter_41 46 rfl (fun c6 => ?_) (fun c6 => ?_)
      · refine z_iincN (M := M_X12_isShorter) 46 dX12_isShorter_46 (ls' := [some (mR 108), some (mI a1), some (mI a2), some (mI (l3 + 1))]) (by decide) rfl (by (unfold m_32; decide)) (by omega) (by omega) rfl ?_
        refine z_goto (M := M_X12_isShorter) 49 dX12_isShorter_49 2 rfl ?_
        exact z_mask [true, true, true, true] rfl (ih (l3 + 1) h G R (by omega) (by omega) (by omega) (by omega) (by omega) (by omega) (sh_st i0 (by omega) (fun z => absurd z.2 (by rw [← R 110 _ rfl, ex5]; omega))) (by omega))
      · refine z_iconst (M := M_X12_isShorter) 44 dX12_isShorter_44 ?_
        exact z_retZ (M := M_X12_isShorter) 45 dX12_isShorter_45 rfl (by omega) ⟨G, R, by omega, by omega, sh_yes (by omega) ((R 110 1 rfl).symm.trans ex1) (by omega) ((R 110 _ rfl).symm.trans (ex3.trans (by omega))) ((R 110 _ rfl).symm.trans (ex5.trans (by omega)))⟩
theorem a_X12_isShorter2 (h0 : m_H) (a1 a2 : Int) (G0 : GI h0) : ∀ n, q_X12_isShorter2 h0 a1 a2 n := by
  intro n
  induction n with
  | zero => unfold q_X12_isShorter2; intros; omega
  | succ n ih => exact s_X12_isShorter2_2 h0 a1 a2 G0 n ih
set_option maxHeartbeats 4000000 in
set_option maxRecDepth 100000 in
theorem c_X12_isShorter2 (h0 : m_H) (a1 a2 : Int) (G0 : GI h0) : m_CI M_X12_isShorter [mR 108, mI a1, mI a2] h0 (P_X12_isShorter2 h0 a1 a2) := by
  refine m_CI_of ⟨by decide, rfl, by simp [m_arg, m_isL, M_X12_isShorter], ⟨rfl, rfl⟩, rfl, rfl⟩ (ls := [some (mR 108), some (mI a1), some (mI a2), none]) rfl ?_
  have ih := a_X12_isShorter2 h0 a1 a2 G0 20
  refine z_ok (fun _ _ ok => ?_)
  have oa1 : m_32 a1 := ok 1 _ rfl
  unfold m_32 at oa1
  have oa2 : m_32 a2 := ok 2 _ rfl
  unfold m_32 at oa2
  refine z_iconst (M := M_X12_isShorter) 0 dX12_isShorter_0 ?_
  refine z_istore_n (M := M_X12_isShorter) 1 dX12_isShorter_1 (ls' := [some (mR 108), some (mI a1), some (mI a2), some (mI 0)]) (by decide) rfl ?_
  exact z_mask [true, true, true, true] rfl (ih 0 h0 G0 (FR.rf (cs := []) (ss := []) (h := h0)) (by omega) (by omega) (by omega) (by omega) (by omega) (by omega) (fun j hj => by omega) (by omega))
abbrev P_X12_isDrafted2 (h0 : m_H) (a1 a2 : Int) : Int → m_H → Prop := fun x h' => GI h' ∧ FR [] [] h0 h' ∧ 0 ≤ x ∧ x ≤ 1 ∧ (x = 1 ↔ iS (vr h0) a1 a2)
def q_X12_isDrafted2 (h0 : m_H) (a1 a2 : Int) (n : Nat) : Prop := (∀ (l3 l4 y_108_16 : Int) (h : m_H), GI h → FR [] [] h0 h → 0 ≤ l3 → l3 ≤ 1 → 0 ≤ l4 → l4 ≤ 200 → 0 ≤ y_108_16 → y_108_16 ≤ 200 → (-2147483648) ≤ a1 → a1 ≤ 2147483647 → (-2147483648) ≤ a2 → a2 ≤ 2147483647 → (h 108 16 = y_108_16) → ((l3 = 1 ↔ iS (apA (h0 114) l4.toNat (h0 110)) a1 a2)) → (l4 ≤ y_108_16) → 2 * (200 - l4) + (1) ≤ (n : Int) → m_Z oF M_X12_isDrafted 10 [some (mR 108), some (mI a1), some (mI a2), some (mI l3), some (mI l4)] [] h (m_QI (P_X12_isDrafted2 h0 a1 a2)))
set_option maxHeartbeats 4000000 in
set_option maxRecDepth 100000 in
theorem s_X12_isDrafted2_10 (h0 : m_H) (a1 a2 : Int) (G0 : GI h0) (A0 : AI h0) (n : Nat) (ih : q_X12_isDrafted2 h0 a1 a2 n) : ∀ (l3 l4 y_108_16 : Int) (h : m_H), GI h → FR [] [] h0 h → 0 ≤ l3 → l3 ≤ 1 → 0 ≤ l4 → l4 ≤ 200 → 0 ≤ y_108_16 → y_108_16 ≤ 200 → (-2147483648) ≤ a1 → a1 ≤ 2147483647 → (-2147483648) ≤ a2 → a2 ≤ 2147483647 → (h 108 16 = y_108_16) → ((l3 = 1 ↔ iS (apA (h0 114) l4.toNat (h0 110)) a1 a2)) → (l4 ≤ y_108_16) → 2 * (200 - l4) + (1) ≤ ((n + 1 : Nat) : Int) → m_Z oF M_X12_isDrafted 10 [some (mR 108), some (mI a1), some (mI a2), some (mI l3), some (mI l4)] [] h (m_QI (P_X12_isDrafted2 h0 a1 a2)) := by
  intro l3 l4 y_108_16 h G R v0 v1 v2 v3 v4 v5 v6 v7 v8 v9 t_108_16 i0 i1 hr
  refine z_iload (M := M_X12_isDrafted) 10 dX12_isDrafted_10 rfl ?_
  refine z_aload_n (M := M_X12_isDrafted) 12 dX12_isDrafted_12 rfl ?_
  refine z_getIE (M := M_X12_isDrafted) 13 dX12_isDrafted_13 f_X12_251 o_108 (by decide) t_108_16 ?_
  refine z_icmp_ge (M := M_X12_isDrafted) 16 dX12_isDrafted_16 78 rfl (fun c1 => ?_) (fun c1 => ?_)
  · refine z_iload_n (M := M_X12_isDrafted) 78 dX12_isDrafted_78 rfl ?_
    exact z_retZ (M := M_X12_isDrafted) 79 dX12_isDrafted_79 rfl (by omega) ⟨G, R, by omega, by omega, by unfold vr; rw [show (h0 108 16).toNat = l4.toNat by have := R 108 16 rfl; omega]; exact i0⟩
  · refine z_iload_n (M := M_X12_isDrafted) 19 dX12_isDrafted_19 rfl ?_
    refine z_if_ne (M := M_X12_isDrafted) 20 dX12_isDrafted_20 66 rfl (fun c2 => ?_) (fun c2 => ?_)
    · refine z_iconst (M := M_X12_isDrafted) 66 dX12_isDrafted_66 ?_
      refine z_goto (M := M_X12_isDrafted) 67 dX12_isDrafted_67 71 rfl ?_
      refine z_istore_n (M := M_X12_isDrafted) 71 dX12_isDrafted_71 (ls' := [some (mR 108), some (mI a1), some (mI a2), some (mI 1), some (mI l4)]) (by decide) rfl ?_
      refine z_iincN (M := M_X12_isDrafted) 72 dX12_isDrafted_72 (ls' := [some (mR 108), some (mI a1), some (mI a2), some (mI 1), some (mI (l4 + 1))]) (by decide) rfl (by (unfold m_32; decide)) (by omega) (by omega) rfl ?_
      refine z_goto (M := M_X12_isDrafted) 75 dX12_isDrafted_75 10 rfl ?_
      have ia := iS_ap (u := a1) (v := a2) (k := l4) G0 A0 (by omega) (by have := R 108 16 rfl; omega)
      exact z_mask [true, true, true, true, true] rfl (ih 1 (l4 + 1) y_108_16 h G R (by omega) (by omega) (by omega) (by omega) (by omega) (by omega) (by omega) (by omega) (by omega) (by omega) t_108_16 (by rw [ia]; exact ⟨fun _ => Or.inl (i0.mp (by omega)), fun _ => rfl⟩) (by omega) (by omega))
    · refine z_aload_n (M := M_X12_isDrafted) 23 dX12_isDrafted_23 rfl ?_
      refine z_getR (M := M_X12_isDrafted) 24 dX12_isDrafted_24 f_X12_30 o_108 rfl (g_108_15 G) ?_
      refine z_iconst (M := M_X12_isDrafted) 27 dX12_isDrafted_27 ?_
      refine z_iload (M := M_X12_isDrafted) 28 dX12_isDrafted_28 rfl ?_
      refine z_imulN (M := M_X12_isDrafted) 30 dX12_isDrafted_30 (by omega) (by omega) ?_
      refine z_ialdV (M := M_X12_isDrafted) 31 dX12_isDrafted_31 o_114 (by omega) (by omega) (fun x3 ex3 => ?_)
      refine z_ok (fun ox3 _ _ => ?_)
      have ox3 := ox3.1; unfold m_ok m_32 at ox3
      refine z_iconst (M := M_X12_isDrafted) 32 dX12_isDrafted_32 ?_
      refine z_icmp_ne (M := M_X12_isDrafted) 33 dX12_isDrafted_33 70 rfl (fun c4 => ?_) (fun c4 => ?_)
      · refine z_iconst (M := M_X12_isDrafted) 70 dX12_isDrafted_70 ?_
        refine z_istore_n (M := M_X12_isDrafted) 71 dX12_isDrafted_71 (ls' := [some (mR 108), some (mI a1), some (mI a2), some (mI 0), some (mI l4)]) (by decide) rfl ?_
        refine z_iincN (M := M_X12_isDrafted) 72 dX12_isDrafted_72 (ls' := [some (mR 108), some (mI a1), some (mI a2), some (mI 0), some (mI (l4 + 1))]) (by decide) rfl (by (unfold m_32; decide)) (by omega) (by omega) rfl ?_
        refine z_goto (M := M_X12_isDrafted) 75 dX12_isDrafted_75 10 rfl ?_
        have ia := iS_ap (u := a1) (v := a2) (k := l4) G0 A0 (by omega) (by have := R 108 16 rfl; omega)
        have r31_ : h0 114 (5 * l4).toNat = x3 := (R 114 _ rfl).symm.trans ex3
        exact z_mask [true, true, true, true, true] rfl (ih 0 (l4 + 1) y_108_16 h G R (by omega) (by omega) (by omega) (by omega) (by omega) (by omega) (by omega) (by omega) (by omega) (by omega) t_108_16 (by rw [ia]; exact ⟨fun z => by omega, fun z => z.elim (fun z => by have := i0.mpr z; omega) (fun z => by omega)⟩) (by omega) (by omega))
      · refine z_aload_n (M := M_X12_isDrafted) 36 dX12_isDrafted_36 rfl ?_
        refine z_getR (M := M_X12_isDrafted) 37 dX12_isDrafted_37 f_X12_30 o_108 rfl (g_108_15 G) ?_
        refine z_iconst (M := M_X12_isDrafted) 40 dX12_isDrafted_40 ?_
        refine z_iload (M := M_X12_isDrafted) 41 dX12_isDrafted_41 rfl ?_
        refine z_imulN (M := M_X12_isDrafted) 43 dX12_isDrafted_43 (by omega) (by omega) ?_
        refine z_iconst (M := M_X12_isDrafted) 44 dX12_isDrafted_44 ?_
        refine z_iaddN (M := M_X12_isDrafted) 45 dX12_isDrafted_45 (by omega) (by omega) ?_
        refine z_ialdV (M := M_X12_isDrafted) 46 dX12_isDrafted_46 o_114 (by omega) (by omega) (fun x5 ex5 => ?_)
        refine z_ok (fun ox5 _ _ => ?_)
        have ox5 := ox5.1; unfold m_ok m_32 at ox5
        refine z_iload_n (M := M_X12_isDrafted) 47 dX12_isDrafted_47 rfl ?_
        refine z_icmp_ne (M := M_X12_isDrafted) 48 dX12_isDrafted_48 70 rfl (fun c6 => ?_) (fun c6 => ?_)
        · refine z_iconst (M := M_X12_isDrafted) 70 dX12_isDrafted_70 ?_
          refine z_istore_n (M := M_X12_isDrafted) 71 dX12_isDrafted_71 (ls' := [some (mR 108), some (mI a1), some (mI a2), some (mI 0), some (mI l4)]) (by decide) rfl ?_
          refine z_iincN (M := M_X12_isDrafted) 72 dX12_isDrafted_72 (ls' := [some (mR 108), some (mI a1), some (mI a2), some (mI 0), some (mI (l4 + 1))]) (by decide) rfl (by (unfold m_32; decide)) (by omega) (by omega) rfl ?_
          refine z_goto (M := M_X12_isDrafted) 75 dX12_isDrafted_75 10 rfl ?_
          have ia := iS_ap (u := a1) (v := a2) (k := l4) G0 A0 (by omega) (by have := R 108 16 rfl; omega)
          have r31_ : h0 114 (5 * l4).toNat = x3 := (R 114 _ rfl).symm.trans ex3
          have r46_ : h0 114 (5 * l4 + 1).toNat = x5 := (R 114 _ rfl).symm.trans ex5
          exact z_mask [true, true, true, true, true] rfl (ih 0 (l4 + 1) y_108_16 h G R (by omega) (by omega) (by omega) (by omega) (by omega) (by omega) (by omega) (by omega) (by omega) (by omega) t_108_16 (by rw [ia]; exact ⟨fun z => by omega, fun z => z.elim (fun z => by have := i0.mpr z; omega) (fun z => by omega)⟩) (by omega) (by omega))
        · refine z_aload_n (M := M_X12_isDrafted) 51 dX12_isDrafted_51 rfl ?_
          refine z_getR (M := M_X12_isDrafted) 52 dX12_isDrafted_52 f_X12_30 o_108 rfl (g_108_15 G) ?_
          refine z_iconst (M := M_X12_isDrafted) 55 dX12_isDrafted_55 ?_
          refine z_iload (M := M_X12_isDrafted) 56 dX12_isDrafted_56 rfl ?_
          refine z_imulN (M := M_X12_isDrafted) 58 dX12_isDrafted_58 (by omega) (by omega) ?_
          refine z_iconst (M := M_X12_isDrafted) 59 dX12_isDrafted_59 ?_
          refine z_iaddN (M := M_X12_isDrafted) 60 dX12_isDrafted_60 (by omega) (by omega) ?_
          refine z_ialdV (M := M_X12_isDrafted) 61 dX12_isDrafted_61 o_114 (by omega) (by omega) (fun x7 ex7 => ?_)
          refine z_ok (fun ox7 _ _ => ?_)
          have ox7 := ox7.1; unfold m_ok m_32 at ox7
          refine z_iload_n (M := M_X12_isDrafted) 62 dX12_isDrafted_62 rfl ?_
          refine z_icmp_ne (M := M_X12_isDrafted) 63 dX12_isDrafted_63 70 rfl (fun c8 => ?_) (fun c8 => ?_)
          · refine z_iconst (M := M_X12_isDrafted) 70 dX12_isDrafted_70 ?_
            refine z_istore_n (M := M_X12_isDrafted) 71 dX12_isDrafted_71 (ls' := [some (mR 108), some (mI a1), some (mI a2), some (mI 0), some (mI l4)]) (by decide) rfl ?_
            refine z_iincN (M := M_X12_isDrafted) 72 dX12_isDrafted_72 (ls' := [some (mR 108), some (mI a1), some (mI a2), some (mI 0), some (mI (l4 + 1))]) (by decide) rfl (by (unfold m_32; decide)) (by omega) (by omega) rfl ?_
            refine z_goto (M := M_X12_isDrafted) 75 dX12_isDrafted_75 10 rfl ?_
            have ia := iS_ap (u := a1) (v := a2) (k := l4) G0 A0 (by omega) (by have := R 108 16 rfl; omega)
            have r31_ : h0 114 (5 * l4).toNat = x3 := (R 114 _ rfl).symm.trans ex3
            have r46_ : h0 114 (5 * l4 + 1).toNat = x5 := (R 114 _ rfl).symm.trans ex5
            have r61_ : h0 114 (5 * l4 + 2).toNat = x7 := (R 114 _ rfl).symm.trans ex7
            exact z_mask [true, true, true, true, true] rfl (ih 0 (l4 + 1) y_108_16 h G R (by omega) (by omega) (by omega) (by omega) (by omega) (by omega) (by omega) (by omega) (by omega) (by omega) t_108_16 (by rw [ia]; exact ⟨fun z => by omega, fun z => z.elim (fun z => by have := i0.mpr z; omega) (fun z => by omega)⟩) (by omega) (by omega))
          · refine z_iconst (M := M_X12_isDrafted) 66 dX12_isDrafted_66 ?_
            refine z_goto (M := M_X12_isDrafted) 67 dX12_isDrafted_67 71 rfl ?_
            refine z_istore_n (M := M_X12_isDrafted) 71 dX12_isDrafted_71 (ls' := [some (mR 108), some (mI a1), some (mI a2), some (mI 1), some (mI l4)]) (by decide) rfl ?_
            refine z_iincN (M := M_X12_isDrafted) 72 dX12_isDrafted_72 (ls' := [some (mR 108), some (mI a1), some (mI a2), some (mI 1), some (mI (l4 + 1))]) (by decide) rfl (by (unfold m_32; decide)) (by omega) (by omega) rfl ?_
            refine z_goto (M := M_X12_isDrafted) 75 dX12_isDrafted_75 10 rfl ?_
            have ia := iS_ap (u := a1) (v := a2) (k := l4) G0 A0 (by omega) (by have := R 108 16 rfl; omega)
            have r31_ : h0 114 (5 * l4).toNat = x3 := (R 114 _ rfl).symm.trans ex3
            have r46_ : h0 114 (5 * l4 + 1).toNat = x5 := (R 114 _ rfl).symm.trans ex5
            have r61_ : h0 114 (5 * l4 + 2).toNat = x7 := (R 114 _ rfl).symm.trans ex7
            exact z_mask [true, true, true, true, true] rfl (ih 1 (l4 + 1) y_108_16 h G R (by omega) (by omega) (by omega) (by omega) (by omega) (by omega) (by omega) (by omega) (by omega) (by omega) t_108_16 (by rw [ia]; exact ⟨fun _ => Or.inr ⟨by omega, by omega, by omega⟩, fun _ => rfl⟩) (by omega) (by omega))
theorem a_X12_isDrafted2 (h0 : m_H) (a1 a2 : Int) (G0 : GI h0) (A0 : AI h0) : ∀ n, q_X12_isDrafted2 h0 a1 a2 n := by
  intro n
  induction n with
  | zero => unfold q_X12_isDrafted2; intros; omega
  | succ n ih => exact s_X12_isDrafted2_10 h0 a1 a2 G0 A0 n ih
set_option maxHeartbeats 4000000 in
set_option maxRecDepth 100000 in
theorem c_X12_isDrafted2 (h0 : m_H) (a1 a2 : Int) (G0 : GI h0) (A0 : AI h0) : m_CI M_X12_isDrafted [mR 108, mI a1, mI a2] h0 (P_X12_isDrafted2 h0 a1 a2) := by
  refine m_CI_of ⟨by decide, rfl, by simp [m_arg, m_isL, M_X12_isDrafted], ⟨rfl, rfl⟩, rfl, rfl⟩ (ls := [some (mR 108), some (mI a1), some (mI a2), none, none]) rfl ?_
  have ih := a_X12_isDrafted2 h0 a1 a2 G0 A0 408
  refine z_ok (fun _ _ ok => ?_)
  have oa1 : m_32 a1 := ok 1 _ rfl
  unfold m_32 at oa1
  have oa2 : m_32 a2 := ok 2 _ rfl
  unfold m_32 at oa2
  obtain ⟨x1, ex1⟩ : ∃ y : Int, h0 108 16 = y := ⟨_, rfl⟩
  have bx1 : 0 ≤ x1 ∧ x1 ≤ 200 := ex1 ▸ g_108_16 G0
  refine z_aload_n (M := M_X12_isDrafted) 0 dX12_isDrafted_0 rfl ?_
  refine z_iload_n (M := M_X12_isDrafted) 1 dX12_isDrafted_1 rfl ?_
  refine z_iload_n (M := M_X12_isDrafted) 2 dX12_isDrafted_2 rfl ?_
  refine z_vI (M := M_X12_isDrafted) 3 dX12_isDrafted_3 t_X12_isShorter l_X12_172 (m_rr_of rfl) (rest := []) (c_X12_isShorter2 h0 a1 a2 G0) o_108 rfl rfl rfl (Nat.le_of_ble_eq_true rfl) ⟨rfl, rfl⟩ (fun x2 h1 qx2 => ?_)
  obtain ⟨G1, S1, ax2, bx2, fx2_0⟩ := qx2
  have R1 := (FR.rf (cs := []) (ss := []) (h := h0)).call S1 (by decide +kernel)
  refine z_istore_n (M := M_X12_isDrafted) 6 dX12_isDrafted_6 (ls' := [some (mR 108), some (mI a1), some (mI a2), some (mI x2), none]) (by decide) rfl ?_
  refine z_iconst (M := M_X12_isDrafted) 7 dX12_isDrafted_7 ?_
  refine z_istore (M := M_X12_isDrafted) 8 dX12_isDrafted_8 (ls' := [some (mR 108), some (mI a1), some (mI a2), some (mI x2), some (mI 0)]) (by decide) rfl ?_
  exact z_mask [true, true, true, true, true] rfl (ih x2 0 x1 h1 G1 R1 (by omega) (by omega) (by omega) (by omega) (by omega) (by omega) (by omega) (by omega) (by omega) (by omega) ((S1 108 16 rfl).trans ex1) fx2_0 (by omega) (by omega))
