def PIp (h : m_H) : Prop := h 108 9 ≤ h 108 10 ∧ h 108 10 ≤ h 108 8 ∧ (h 108 11 = 0 ∨ h 108 9 < h 108 10)
theorem PIp.mk {h : m_H} (a : h 108 9 ≤ h 108 10) (b : h 108 10 ≤ h 108 8) (c : h 108 11 = 0 ∨ h 108 9 < h 108 10) : PIp h := ⟨a, b, c⟩
theorem PIp.le {h : m_H} (p : PIp h) : h 108 9 ≤ h 108 10 ∧ h 108 10 ≤ h 108 8 := ⟨p.1, p.2.1⟩
theorem PIp.lt {h : m_H} (p : PIp h) (q : h 108 11 ≠ 0) : h 108 9 < h 108 10 := p.2.2.resolve_left q
theorem PIp.same {h h' : m_H} (p : PIp h) (e1 : h' 108 9 = h 108 9) (e2 : h' 108 10 = h 108 10) (e3 : h' 108 11 = h 108 11) (e4 : h' 108 8 = h 108 8) : PIp h' := by unfold PIp at p ⊢; rw [e1, e2, e3, e4]; exact p
theorem PIp.fr {h h' : m_H} {cs : List Nat} {ss : List (Nat × Nat)} (p : PIp h) (S : FR cs ss h h') (e1 : fr cs ss 108 9 = false) (e2 : fr cs ss 108 10 = false) (e3 : fr cs ss 108 11 = false) (e4 : fr cs ss 108 8 = false) : PIp h' := p.same (S _ _ e1) (S _ _ e2) (S _ _ e3) (S _ _ e4)
def Im (p q : Prop) : Prop := p → q
abbrev P_X12_next (h0 : m_H) : m_H → Prop := fun h' => GI h' ∧ FR [] [(108, 9), (108, 10), (108, 11), (108, 12)] h0 h' ∧ h0 108 10 ≤ h' 108 9 ∧ PIp h'
def q_X12_next (h0 : m_H) (n : Nat) : Prop := (∀ (y_108_8 y_108_9 : Int) (h : m_H), GI h → FR [] [(108, 9), (108, 10), (108, 11), (108, 12)] h0 h → 0 ≤ y_108_8 → y_108_8 ≤ 400 → 0 ≤ y_108_9 → y_108_9 ≤ 400 → (h 108 8 = y_108_8) → (h 108 9 = y_108_9) → (h0 108 10 ≤ y_108_9 ∧ y_108_9 ≤ y_108_8) → 2 * (400 - y_108_9) + (1609) ≤ (n : Int) → m_Z oF M_X12_next 8 [some (mR 108)] [] h (m_QV (P_X12_next h0))) ∧ (∀ (y_108_8 y_108_9 : Int) (h : m_H), GI h → FR [] [(108, 9), (108, 10), (108, 11), (108, 12)] h0 h → 0 ≤ y_108_8 → y_108_8 ≤ 400 → 0 ≤ y_108_9 → y_108_9 ≤ 400 → (h 108 8 = y_108_8) → (h 108 9 = y_108_9) → (h0 108 10 ≤ y_108_9 ∧ y_108_9 ≤ y_108_8) → (1608) ≤ (n : Int) → m_Z oF M_X12_next 46 [some (mR 108)] [] h (m_QV (P_X12_next h0))) ∧ (∀ (y_108_8 y_108_9 y_108_10 y_108_11 : Int) (h : m_H), GI h → FR [] [(108, 9), (108, 10), (108, 11), (108, 12)] h0 h → 0 ≤ y_108_8 → y_108_8 ≤ 400 → 0 ≤ y_108_9 → y_108_9 ≤ 400 → 0 ≤ y_108_10 → y_108_10 ≤ 400 → 0 ≤ y_108_11 → y_108_11 ≤ 3 → (h 108 8 = y_108_8) → (h 108 9 = y_108_9) → (h 108 10 = y_108_10) → (h 108 11 = y_108_11) → (h0 108 10 ≤ y_108_9 ∧ y_108_9 = y_108_10 ∧ y_108_10 ≤ y_108_8 ∧ (y_108_11 = 0 ∨ y_108_10 < y_108_8) ∧ (y_108_11 ≠ 1 ∨ (97 ≤ h0 113 y_108_10.toNat ∧ h0 113 y_108_10.toNat ≤ 122)) ∧ (y_108_11 ≠ 2 ∨ (48 ≤ h0 113 y_108_10.toNat ∧ h0 113 y_108_10.toNat ≤ 57))) → (1607) ≤ (n : Int) → m_Z oF M_X12_next 117 [some (mR 108)] [] h (m_QV (P_X12_next h0))) ∧ (∀ (y_108_8 y_108_9 y_108_10 y_108_11 : Int) (h : m_H), GI h → FR [] [(108, 9), (108, 10), (108, 11), (108, 12)] h0 h → 0 ≤ y_108_8 → y_108_8 ≤ 400 → 0 ≤ y_108_9 → y_108_9 ≤ 400 → 0 ≤ y_108_10 → y_108_10 ≤ 400 → 0 ≤ y_108_11 → y_108_11 ≤ 3 → (h 108 8 = y_108_8) → (h 108 9 = y_108_9) → (h 108 10 = y_108_10) → (h 108 11 = y_108_11) → (h0 108 10 ≤ y_108_9 ∧ y_108_9 ≤ y_108_10 ∧ y_108_10 ≤ y_108_8 ∧ (y_108_11 ≠ 3 ∨ y_108_9 < y_108_10) ∧ (y_108_11 ≠ 1 ∨ y_108_9 < y_108_10 ∨ (y_108_10 < y_108_8 ∧ 97 ≤ h0 113 y_108_10.toNat ∧ h0 113 y_108_10.toNat ≤ 122)) ∧ (y_108_11 ≠ 2 ∨ (y_108_10 < y_108_8 ∧ 48 ≤ h0 113 y_108_10.toNat ∧ h0 113 y_108_10.toNat ≤ 57))) → 2 * (400 - y_108_10) + (804) ≤ (n : Int) → m_Z oF M_X12_next 149 [some (mR 108)] [] h (m_QV (P_X12_next h0))) ∧ (∀ (y_108_8 y_108_9 y_108_10 y_108_11 : Int) (h : m_H), GI h → FR [] [(108, 9), (108, 10), (108, 11), (108, 12)] h0 h → 0 ≤ y_108_8 → y_108_8 ≤ 400 → 0 ≤ y_108_9 → y_108_9 ≤ 400 → 0 ≤ y_108_10 → y_108_10 ≤ 400 → 0 ≤ y_108_11 → y_108_11 ≤ 3 → (h 108 8 = y_108_8) → (h 108 9 = y_108_9) → (h 108 10 = y_108_10) → (h 108 11 = y_108_11) → (h0 108 10 ≤ y_108_9 ∧ y_108_9 ≤ y_108_10 ∧ y_108_10 ≤ y_108_8 ∧ (y_108_11 ≠ 3 ∨ y_108_9 < y_108_10) ∧ (y_108_11 ≠ 1 ∨ y_108_9 < y_108_10) ∧ (y_108_11 ≠ 2 ∨ y_108_9 < y_108_10 ∨ (y_108_10 < y_108_8 ∧ 48 ≤ h0 113 y_108_10.toNat ∧ h0 113 y_108_10.toNat ≤ 57))) → 2 * (400 - y_108_10) + (1) ≤ (n : Int) → m_Z oF M_X12_next 243 [some (mR 108)] [] h (m_QV (P_X12_next h0)))
set_option maxHeartbeats 4000000 in
set_option maxRecDepth 100000 in
theorem s_X12_next_8 (h0 : m_H) (G0 : GI h0) (ht : h0 108 10 ≤ h0 108 8) (n : Nat) (ih : q_X12_next h0 n) : ∀ (y_108_8 y_108_9 : Int) (h : m_H), GI h → FR [] [(108, 9), (108, 10), (108, 11), (108, 12)] h0 h → 0 ≤ y_108_8 → y_108_8 ≤ 400 → 0 ≤ y_108_9 → y_108_9 ≤ 400 → (h 108 8 = y_108_8) → (h 108 9 = y_108_9) → (h0 108 10 ≤ y_108_9 ∧ y_108_9 ≤ y_108_8) → 2 * (400 - y_108_9) + (1609) ≤ ((n + 1 : Nat) : Int) → m_Z oF M_X12_next 8 [some (mR 108)] [] h (m_QV (P_X12_next h0)) := by
  intro y_108_8 y_108_9 h G R v0 v1 v2 v3 t_108_8 t_108_9 i0 hr
  refine z_aload_n (M := M_X12_next) 8 dX12_next_8 rfl ?_
  refine z_getIE (M := M_X12_next) 9 dX12_next_9 f_X12_221 o_108 (by decide) t_108_9 ?_
  refine z_aload_n (M := M_X12_next) 12 dX12_next_12 rfl ?_
  refine z_getIE (M := M_X12_next) 13 dX12_next_13 f_X12_201 o_108 (by decide) t_108_8 ?_
  refine z_icmp_ge (M := M_X12_next) 16 dX12_next_16 46 rfl (fun c1 => ?_) (fun c1 => ?_)
  · exact z_mask [true] rfl (ih.2.1 y_108_8 y_108_9 h G R (by omega) (by omega) (by omega) (by omega) t_108_8 t_108_9 (by omega) (by omega))
  · refine z_aload_n (M := M_X12_next) 19 dX12_next_19 rfl ?_
    refine z_getR (M := M_X12_next) 20 dX12_next_20 f_X12_23 o_108 rfl (g_108_7 G) ?_
    refine z_aload_n (M := M_X12_next) 23 dX12_next_23 rfl ?_
    refine z_getIE (M := M_X12_next) 24 dX12_next_24 f_X12_221 o_108 (by decide) t_108_9 ?_
    refine z_ialdG (M := M_X12_next) 27 dX12_next_27 o_113 (by omega) (by omega) (g_113 G (by omega)) (fun x2 ex2 ax2 bx2 => ?_)
    have rx2 := R 113 (y_108_9).toNat rfl
    refine z_bipush (M := M_X12_next) 28 dX12_next_28 ?_
    refine z_icmp_ne (M := M_X12_next) 30 dX12_next_30 46 rfl (fun c3 => ?_) (fun c3 => ?_)
    · exact z_mask [true] rfl (ih.2.1 y_108_8 y_108_9 h G R (by omega) (by omega) (by omega) (by omega) t_108_8 t_108_9 (by omega) (by omega))
    · refine z_aload_n (M := M_X12_next) 33 dX12_next_33 rfl ?_
      refine z_dup (M := M_X12_next) 34 dX12_next_34 rfl ?_
      refine z_getIE (M := M_X12_next) 35 dX12_next_35 f_X12_221 o_108 (by decide) t_108_9 ?_
      refine z_iconst (M := M_X12_next) 38 dX12_next_38 ?_
      refine z_iaddN (M := M_X12_next) 39 dX12_next_39 (by omega) (by omega) ?_
      refine z_putIH (M := M_X12_next) 40 dX12_next_40 p_X12_221 o_108 rfl (u_108_9 G (by omega) (by omega)) (R.up rfl) (fun h1 E1 G1 R1 => ?_)
      refine z_goto (M := M_X12_next) 43 dX12_next_43 8 rfl ?_
      exact z_mask [true] rfl (ih.1 y_108_8 (y_108_9 + 1) h1 G1 R1 (by omega) (by omega) (by omega) (by omega) ((upN E1 (fun q => absurd q.2 (by decide))).trans t_108_8) (upE E1) (by omega) (by omega))
set_option maxHeartbeats 4000000 in
set_option maxRecDepth 100000 in
theorem s_X12_next_46 (h0 : m_H) (G0 : GI h0) (ht : h0 108 10 ≤ h0 108 8) (n : Nat) (ih : q_X12_next h0 n) : ∀ (y_108_8 y_108_9 : Int) (h : m_H), GI h → FR [] [(108, 9), (108, 10), (108, 11), (108, 12)] h0 h → 0 ≤ y_108_8 → y_108_8 ≤ 400 → 0 ≤ y_108_9 → y_108_9 ≤ 400 → (h 108 8 = y_108_8) → (h 108 9 = y_108_9) → (h0 108 10 ≤ y_108_9 ∧ y_108_9 ≤ y_108_8) → (1608) ≤ ((n + 1 : Nat) : Int) → m_Z oF M_X12_next 46 [some (mR 108)] [] h (m_QV (P_X12_next h0)) := by
  intro y_108_8 y_108_9 h G R v0 v1 v2 v3 t_108_8 t_108_9 i0 hr
  refine z_aload_n (M := M_X12_next) 46 dX12_next_46 rfl ?_
  refine z_aload_n (M := M_X12_next) 47 dX12_next_47 rfl ?_
  refine z_getIE (M := M_X12_next) 48 dX12_next_48 f_X12_221 o_108 (by decide) t_108_9 ?_
  refine z_putIH (M := M_X12_next) 51 dX12_next_51 p_X12_211 o_108 rfl (u_108_10 G (by omega) (by omega)) (R.up rfl) (fun h1 E1 G1 R1 => ?_)
  refine z_aload_n (M := M_X12_next) 54 dX12_next_54 rfl ?_
  refine z_lconst (M := M_X12_next) 55 dX12_next_55 (v := 0) ?_
  refine z_putJH (M := M_X12_next) 56 dX12_next_56 p_X12_224 o_108 rfl (u_108_12 G1) (R1.up rfl) (fun h2 E2 G2 R2 => ?_)
  refine z_aload_n (M := M_X12_next) 59 dX12_next_59 rfl ?_
  refine z_aload_n (M := M_X12_next) 60 dX12_next_60 rfl ?_
  refine z_getIE (M := M_X12_next) 61 dX12_next_61 f_X12_221 o_108 (by decide) ((upN E2 (fun q => absurd q.2 (by decide))).trans ((upN E1 (fun q => absurd q.2 (by decide))).trans t_108_9)) ?_
  refine z_aload_n (M := M_X12_next) 64 dX12_next_64 rfl ?_
  refine z_getIE (M := M_X12_next) 65 dX12_next_65 f_X12_201 o_108 (by decide) ((upN E2 (fun q => absurd q.2 (by decide))).trans ((upN E1 (fun q => absurd q.2 (by decide))).trans t_108_8)) ?_
  refine z_icmp_ne (M := M_X12_next) 68 dX12_next_68 75 rfl (fun c1 => ?_) (fun c1 => ?_)
  · refine z_aload_n (M := M_X12_next) 75 dX12_next_75 rfl ?_
    refine z_getR (M := M_X12_next) 76 dX12_next_76 f_X12_23 o_108 rfl (g_108_7 G2) ?_
    refine z_aload_n (M := M_X12_next) 79 dX12_next_79 rfl ?_
    refine z_getIE (M := M_X12_next) 80 dX12_next_80 f_X12_221 o_108 (by decide) ((upN E2 (fun q => absurd q.2 (by decide))).trans ((upN E1 (fun q => absurd q.2 (by decide))).trans t_108_9)) ?_
    refine z_ialdG (M := M_X12_next) 83 dX12_next_83 o_113 (by omega) (by omega) (g_113 G2 (by omega)) (fun x2 ex2 ax2 bx2 => ?_)
    have rx2 := R2 113 (y_108_9).toNat rfl
    refine z_sI (M := M_X12_next) 84 dX12_next_84 t_X12_isSmall l_X12_228 (m_rr_of rfl) (rest := [mR 108]) (c_X12_isSmall h2 x2 G2) rfl rfl (Nat.le_of_ble_eq_true rfl) ⟨rfl, rfl⟩ (fun x3 h3 qx3 => ?_)
    obtain ⟨rfl, ⟨rfl, cx3⟩ | ⟨rfl, cx3⟩⟩ := qx3
    · refine z_if_eq_F (M := M_X12_next) 87 dX12_next_87 94 rfl (by omega) ?_
      refine z_iconst (M := M_X12_next) 90 dX12_next_90 ?_
      refine z_goto (M := M_X12_next) 91 dX12_next_91 114 rfl ?_
      refine z_putIH (M := M_X12_next) 114 dX12_next_114 p_X12_234 o_108 rfl (u_108_11 G2 (by omega) (by omega)) (R2.up rfl) (fun h4 E4 G4 R4 => ?_)
      exact z_mask [true] rfl (ih.2.2.1 y_108_8 y_108_9 y_108_9 1 h4 G4 R4 (by omega) (by omega) (by omega) (by omega) (by omega) (by omega) (by omega) (by omega) ((upN E4 (fun q => absurd q.2 (by decide))).trans ((upN E2 (fun q => absurd q.2 (by decide))).trans ((upN E1 (fun q => absurd q.2 (by decide))).trans t_108_8))) ((upN E4 (fun q => absurd q.2 (by decide))).trans ((upN E2 (fun q => absurd q.2 (by decide))).trans ((upN E1 (fun q => absurd q.2 (by decide))).trans t_108_9))) ((upN E4 (fun q => absurd q.2 (by decide))).trans ((upN E2 (fun q => absurd q.2 (by decide))).trans (upE E1))) (upE E4) (by omega) (by omega))
    · refine z_if_eq_T (M := M_X12_next) 87 dX12_next_87 94 rfl (by omega) ?_
      refine z_aload_n (M := M_X12_next) 94 dX12_next_94 rfl ?_
      refine z_getR (M := M_X12_next) 95 dX12_next_95 f_X12_23 o_108 rfl (g_108_7 G2) ?_
      refine z_aload_n (M := M_X12_next) 98 dX12_next_98 rfl ?_
      refine z_getIE (M := M_X12_next) 99 dX12_next_99 f_X12_221 o_108 (by decide) ((upN E2 (fun q => absurd q.2 (by decide))).trans ((upN E1 (fun q => absurd q.2 (by decide))).trans t_108_9)) ?_
      refine z_ialdE (M := M_X12_next) 102 dX12_next_102 o_113 (by omega) (by omega) ex2 ?_
      refine z_sI (M := M_X12_next) 103 dX12_next_103 t_X12_isDigit l_X12_231 (m_rr_of rfl) (rest := [mR 108]) (c_X12_isDigit h2 x2 G2) rfl rfl (Nat.le_of_ble_eq_true rfl) ⟨rfl, rfl⟩ (fun x4 h5 qx4 => ?_)
      obtain ⟨rfl, ⟨rfl, cx4⟩ | ⟨rfl, cx4⟩⟩ := qx4
      · refine z_if_eq_F (M := M_X12_next) 106 dX12_next_106 113 rfl (by omega) ?_
        refine z_iconst (M := M_X12_next) 109 dX12_next_109 ?_
        refine z_goto (M := M_X12_next) 110 dX12_next_110 114 rfl ?_
        refine z_putIH (M := M_X12_next) 114 dX12_next_114 p_X12_234 o_108 rfl (u_108_11 G2 (by omega) (by omega)) (R2.up rfl) (fun h6 E6 G6 R6 => ?_)
        exact z_mask [true] rfl (ih.2.2.1 y_108_8 y_108_9 y_108_9 2 h6 G6 R6 (by omega) (by omega) (by omega) (by omega) (by omega) (by omega) (by omega) (by omega) ((upN E6 (fun q => absurd q.2 (by decide))).trans ((upN E2 (fun q => absurd q.2 (by decide))).trans ((upN E1 (fun q => absurd q.2 (by decide))).trans t_108_8))) ((upN E6 (fun q => absurd q.2 (by decide))).trans ((upN E2 (fun q => absurd q.2 (by decide))).trans ((upN E1 (fun q => absurd q.2 (by decide))).trans t_108_9))) ((upN E6 (fun q => absurd q.2 (by decide))).trans ((upN E2 (fun q => absurd q.2 (by decide))).trans (upE E1))) (upE E6) (by omega) (by omega))
      · refine z_if_eq_T (M := M_X12_next) 106 dX12_next_106 113 rfl (by omega) ?_
        refine z_iconst (M := M_X12_next) 113 dX12_next_113 ?_
        refine z_putIH (M := M_X12_next) 114 dX12_next_114 p_X12_234 o_108 rfl (u_108_11 G2 (by omega) (by omega)) (R2.up rfl) (fun h7 E7 G7 R7 => ?_)
        exact z_mask [true] rfl (ih.2.2.1 y_108_8 y_108_9 y_108_9 3 h7 G7 R7 (by omega) (by omega) (by omega) (by omega) (by omega) (by omega) (by omega) (by omega) ((upN E7 (fun q => absurd q.2 (by decide))).trans ((upN E2 (fun q => absurd q.2 (by decide))).trans ((upN E1 (fun q => absurd q.2 (by decide))).trans t_108_8))) ((upN E7 (fun q => absurd q.2 (by decide))).trans ((upN E2 (fun q => absurd q.2 (by decide))).trans ((upN E1 (fun q => absurd q.2 (by decide))).trans t_108_9))) ((upN E7 (fun q => absurd q.2 (by decide))).trans ((upN E2 (fun q => absurd q.2 (by decide))).trans (upE E1))) (upE E7) (by omega) (by omega))
  · refine z_iconst (M := M_X12_next) 71 dX12_next_71 ?_
    refine z_goto (M := M_X12_next) 72 dX12_next_72 114 rfl ?_
    refine z_putIH (M := M_X12_next) 114 dX12_next_114 p_X12_234 o_108 rfl (u_108_11 G2 (by omega) (by omega)) (R2.up rfl) (fun h8 E8 G8 R8 => ?_)
    exact z_mask [true] rfl (ih.2.2.1 y_108_8 y_108_9 y_108_9 0 h8 G8 R8 (by omega) (by omega) (by omega) (by omega) (by omega) (by omega) (by omega) (by omega) ((upN E8 (fun q => absurd q.2 (by decide))).trans ((upN E2 (fun q => absurd q.2 (by decide))).trans ((upN E1 (fun q => absurd q.2 (by decide))).trans t_108_8))) ((upN E8 (fun q => absurd q.2 (by decide))).trans ((upN E2 (fun q => absurd q.2 (by decide))).trans ((upN E1 (fun q => absurd q.2 (by decide))).trans t_108_9))) ((upN E8 (fun q => absurd q.2 (by decide))).trans ((upN E2 (fun q => absurd q.2 (by decide))).trans (upE E1))) (upE E8) (by omega) (by omega))
set_option maxHeartbeats 4000000 in
set_option maxRecDepth 100000 in
theorem s_X12_next_117 (h0 : m_H) (G0 : GI h0) (ht : h0 108 10 ≤ h0 108 8) (n : Nat) (ih : q_X12_next h0 n) : ∀ (y_108_8 y_108_9 y_108_10 y_108_11 : Int) (h : m_H), GI h → FR [] [(108, 9), (108, 10), (108, 11), (108, 12)] h0 h → 0 ≤ y_108_8 → y_108_8 ≤ 400 → 0 ≤ y_108_9 → y_108_9 ≤ 400 → 0 ≤ y_108_10 → y_108_10 ≤ 400 → 0 ≤ y_108_11 → y_108_11 ≤ 3 → (h 108 8 = y_108_8) → (h 108 9 = y_108_9) → (h 108 10 = y_108_10) → (h 108 11 = y_108_11) → (h0 108 10 ≤ y_108_9 ∧ y_108_9 = y_108_10 ∧ y_108_10 ≤ y_108_8 ∧ (y_108_11 = 0 ∨ y_108_10 < y_108_8) ∧ (y_108_11 ≠ 1 ∨ (97 ≤ h0 113 y_108_10.toNat ∧ h0 113 y_108_10.toNat ≤ 122)) ∧ (y_108_11 ≠ 2 ∨ (48 ≤ h0 113 y_108_10.toNat ∧ h0 113 y_108_10.toNat ≤ 57))) → (1607) ≤ ((n + 1 : Nat) : Int) → m_Z oF M_X12_next 117 [some (mR 108)] [] h (m_QV (P_X12_next h0)) := by
  intro y_108_8 y_108_9 y_108_10 y_108_11 h G R v0 v1 v2 v3 v4 v5 v6 v7 t_108_8 t_108_9 t_108_10 t_108_11 i0 hr
  refine z_aload_n (M := M_X12_next) 117 dX12_next_117 rfl ?_
  refine z_getIE (M := M_X12_next) 118 dX12_next_118 f_X12_234 o_108 (by decide) t_108_11 ?_
  refine z_iconst (M := M_X12_next) 121 dX12_next_121 ?_
  refine z_icmp_ne (M := M_X12_next) 122 dX12_next_122 149 rfl (fun c1 => ?_) (fun c1 => ?_)
  · exact z_mask [true] rfl (ih.2.2.2.1 y_108_8 y_108_9 y_108_10 y_108_11 h G R (by omega) (by omega) (by omega) (by omega) (by omega) (by omega) (by omega) (by omega) t_108_8 t_108_9 t_108_10 t_108_11 (by omega) (by omega))
  · refine z_aload_n (M := M_X12_next) 125 dX12_next_125 rfl ?_
    refine z_aload_n (M := M_X12_next) 126 dX12_next_126 rfl ?_
    refine z_getR (M := M_X12_next) 127 dX12_next_127 f_X12_23 o_108 rfl (g_108_7 G) ?_
    refine z_aload_n (M := M_X12_next) 130 dX12_next_130 rfl ?_
    refine z_getIE (M := M_X12_next) 131 dX12_next_131 f_X12_221 o_108 (by decide) t_108_9 ?_
    refine z_ialdG (M := M_X12_next) 134 dX12_next_134 o_113 (by omega) (by omega) (g_113 G (by omega)) (fun x2 ex2 ax2 bx2 => ?_)
    have rx2 := R 113 (y_108_9).toNat rfl
    refine z_i2l (M := M_X12_next) 135 dX12_next_135 ?_
    refine z_putJH (M := M_X12_next) 136 dX12_next_136 p_X12_224 o_108 rfl (u_108_12 G) (R.up rfl) (fun h1 E1 G1 R1 => ?_)
    refine z_aload_n (M := M_X12_next) 139 dX12_next_139 rfl ?_
    refine z_dup (M := M_X12_next) 140 dX12_next_140 rfl ?_
    refine z_getIE (M := M_X12_next) 141 dX12_next_141 f_X12_211 o_108 (by decide) ((upN E1 (fun q => absurd q.2 (by decide))).trans t_108_10) ?_
    refine z_iconst (M := M_X12_next) 144 dX12_next_144 ?_
    refine z_iaddN (M := M_X12_next) 145 dX12_next_145 (by omega) (by omega) ?_
    refine z_putIH (M := M_X12_next) 146 dX12_next_146 p_X12_211 o_108 rfl (u_108_10 G1 (by omega) (by omega)) (R1.up rfl) (fun h2 E2 G2 R2 => ?_)
    exact z_mask [true] rfl (ih.2.2.2.1 y_108_8 y_108_9 (y_108_10 + 1) y_108_11 h2 G2 R2 (by omega) (by omega) (by omega) (by omega) (by omega) (by omega) (by omega) (by omega) ((upN E2 (fun q => absurd q.2 (by decide))).trans ((upN E1 (fun q => absurd q.2 (by decide))).trans t_108_8)) ((upN E2 (fun q => absurd q.2 (by decide))).trans ((upN E1 (fun q => absurd q.2 (by decide))).trans t_108_9)) (upE E2) ((upN E2 (fun q => absurd q.2 (by decide))).trans ((upN E1 (fun q => absurd q.2 (by decide))).trans t_108_11)) (by omega) (by omega))
set_option maxHeartbeats 4000000 in
set_option maxRecDepth 100000 in
theorem s_X12_next_149 (h0 : m_H) (G0 : GI h0) (ht : h0 108 10 ≤ h0 108 8) (n : Nat) (ih : q_X12_next h0 n) : ∀ (y_108_8 y_108_9 y_108_10 y_108_11 : Int) (h : m_H), GI h → FR [] [(108, 9), (108, 10), (108, 11), (108, 12)] h0 h → 0 ≤ y_108_8 → y_108_8 ≤ 400 → 0 ≤ y_108_9 → y_108_9 ≤ 400 → 0 ≤ y_108_10 → y_108_10 ≤ 400 → 0 ≤ y_108_11 → y_108_11 ≤ 3 → (h 108 8 = y_108_8) → (h 108 9 = y_108_9) → (h 108 10 = y_108_10) → (h 108 11 = y_108_11) → (h0 108 10 ≤ y_108_9 ∧ y_108_9 ≤ y_108_10 ∧ y_108_10 ≤ y_108_8 ∧ (y_108_11 ≠ 3 ∨ y_108_9 < y_108_10) ∧ (y_108_11 ≠ 1 ∨ y_108_9 < y_108_10 ∨ (y_108_10 < y_108_8 ∧ 97 ≤ h0 113 y_108_10.toNat ∧ h0 113 y_108_10.toNat ≤ 122)) ∧ (y_108_11 ≠ 2 ∨ (y_108_10 < y_108_8 ∧ 48 ≤ h0 113 y_108_10.toNat ∧ h0 113 y_108_10.toNat ≤ 57))) → 2 * (400 - y_108_10) + (804) ≤ ((n + 1 : Nat) : Int) → m_Z oF M_X12_next 149 [some (mR 108)] [] h (m_QV (P_X12_next h0)) := by
  intro y_108_8 y_108_9 y_108_10 y_108_11 h G R v0 v1 v2 v3 v4 v5 v6 v7 t_108_8 t_108_9 t_108_10 t_108_11 i0 hr
  refine z_aload_n (M := M_X12_next) 149 dX12_next_149 rfl ?_
  refine z_getIE (M := M_X12_next) 150 dX12_next_150 f_X12_234 o_108 (by decide) t_108_11 ?_
  refine z_iconst (M := M_X12_next) 153 dX12_next_153 ?_
  refine z_icmp_ne (M := M_X12_next) 154 dX12_next_154 243 rfl (fun c1 => ?_) (fun c1 => ?_)
  · exact z_mask [true] rfl (ih.2.2.2.2 y_108_8 y_108_9 y_108_10 y_108_11 h G R (by omega) (by omega) (by omega) (by omega) (by omega) (by omega) (by omega) (by omega) t_108_8 t_108_9 t_108_10 t_108_11 (by omega) (by omega))
  · refine z_aload_n (M := M_X12_next) 157 dX12_next_157 rfl ?_
    refine z_getIE (M := M_X12_next) 158 dX12_next_158 f_X12_211 o_108 (by decide) t_108_10 ?_
    refine z_aload_n (M := M_X12_next) 161 dX12_next_161 rfl ?_
    refine z_getIE (M := M_X12_next) 162 dX12_next_162 f_X12_201 o_108 (by decide) t_108_8 ?_
    refine z_icmp_ge (M := M_X12_next) 165 dX12_next_165 243 rfl (fun c2 => ?_) (fun c2 => ?_)
    · exact z_mask [true] rfl (ih.2.2.2.2 y_108_8 y_108_9 y_108_10 y_108_11 h G R (by omega) (by omega) (by omega) (by omega) (by omega) (by omega) (by omega) (by omega) t_108_8 t_108_9 t_108_10 t_108_11 (by omega) (by omega))
    · refine z_aload_n (M := M_X12_next) 168 dX12_next_168 rfl ?_
      refine z_getR (M := M_X12_next) 169 dX12_next_169 f_X12_23 o_108 rfl (g_108_7 G) ?_
      refine z_aload_n (M := M_X12_next) 172 dX12_next_172 rfl ?_
      refine z_getIE (M := M_X12_next) 173 dX12_next_173 f_X12_211 o_108 (by decide) t_108_10 ?_
      refine z_ialdG (M := M_X12_next) 176 dX12_next_176 o_113 (by omega) (by omega) (g_113 G (by omega)) (fun x3 ex3 ax3 bx3 => ?_)
      have rx3 := R 113 (y_108_10).toNat rfl
      refine z_sI (M := M_X12_next) 177 dX12_next_177 t_X12_isSmall l_X12_228 (m_rr_of rfl) (rest := []) (c_X12_isSmall h x3 G) rfl rfl (Nat.le_of_ble_eq_true rfl) ⟨rfl, rfl⟩ (fun x4 h1 qx4 => ?_)
      obtain ⟨rfl, ⟨rfl, cx4⟩ | ⟨rfl, cx4⟩⟩ := qx4
      · refine z_if_eq_F (M := M_X12_next) 180 dX12_next_180 243 rfl (by omega) ?_
        refine z_aload_n (M := M_X12_next) 183 dX12_next_183 rfl ?_
        refine z_aload_n (M := M_X12_next) 184 dX12_next_184 rfl ?_
        refine z_getIE (M := M_X12_next) 185 dX12_next_185 f_X12_211 o_108 (by decide) t_108_10 ?_
        refine z_aload_n (M := M_X12_next) 188 dX12_next_188 rfl ?_
        refine z_getIE (M := M_X12_next) 189 dX12_next_189 f_X12_221 o_108 (by decide) t_108_9 ?_
        refine z_isubN (M := M_X12_next) 192 dX12_next_192 (by omega) (by omega) ?_
        refine z_bipush (M := M_X12_next) 193 dX12_next_193 ?_
        refine z_icmp_ge (M := M_X12_next) 195 dX12_next_195 224 rfl (fun c5 => ?_) (fun c5 => ?_)
        · refine z_ldc2 (M := M_X12_next) 224 dX12_next_224 k_X12_160 ?_
          refine z_putJH (M := M_X12_next) 227 dX12_next_227 p_X12_224 o_108 rfl (u_108_12 G) (R.up rfl) (fun h2 E2 G2 R2 => ?_)
          refine z_aload_n (M := M_X12_next) 230 dX12_next_230 rfl ?_
          refine z_dup (M := M_X12_next) 231 dX12_next_231 rfl ?_
          refine z_getIE (M := M_X12_next) 232 dX12_next_232 f_X12_211 o_108 (by decide) ((upN E2 (fun q => absurd q.2 (by decide))).trans t_108_10) ?_
          refine z_iconst (M := M_X12_next) 235 dX12_next_235 ?_
          refine z_iaddN (M := M_X12_next) 236 dX12_next_236 (by omega) (by omega) ?_
          refine z_putIH (M := M_X12_next) 237 dX12_next_237 p_X12_211 o_108 rfl (u_108_10 G2 (by omega) (by omega)) (R2.up rfl) (fun h3 E3 G3 R3 => ?_)
          refine z_goto (M := M_X12_next) 240 dX12_next_240 149 rfl ?_
          exact z_mask [true] rfl (ih.2.2.2.1 y_108_8 y_108_9 (y_108_10 + 1) y_108_11 h3 G3 R3 (by omega) (by omega) (by omega) (by omega) (by omega) (by omega) (by omega) (by omega) ((upN E3 (fun q => absurd q.2 (by decide))).trans ((upN E2 (fun q => absurd q.2 (by decide))).trans t_108_8)) ((upN E3 (fun q => absurd q.2 (by decide))).trans ((upN E2 (fun q => absurd q.2 (by decide))).trans t_108_9)) (upE E3) ((upN E3 (fun q => absurd q.2 (by decide))).trans ((upN E2 (fun q => absurd q.2 (by decide))).trans t_108_11)) (by omega) (by omega))
        · refine z_aload_n (M := M_X12_next) 198 dX12_next_198 rfl ?_
          refine z_getJV (M := M_X12_next) 199 dX12_next_199 f_X12_224 o_108 rfl (fun x6 ex6 => ?_)
          refine z_ldc2 (M := M_X12_next) 202 dX12_next_202 k_X12_237 ?_
          refine z_lmul (M := M_X12_next) 205 dX12_next_205 ?_
          refine z_topJ (fun x7 ex7 => ?_)
          refine z_aload_n (M := M_X12_next) 206 dX12_next_206 rfl ?_
          refine z_getR (M := M_X12_next) 207 dX12_next_207 f_X12_23 o_108 rfl (g_108_7 G) ?_
          refine z_aload_n (M := M_X12_next) 210 dX12_next_210 rfl ?_
          refine z_getIE (M := M_X12_next) 211 dX12_next_211 f_X12_211 o_108 (by decide) t_108_10 ?_
          refine z_ialdE (M := M_X12_next) 214 dX12_next_214 o_113 (by omega) (by omega) ex3 ?_
          refine z_i2l (M := M_X12_next) 215 dX12_next_215 ?_
          refine z_ladd (M := M_X12_next) 216 dX12_next_216 ?_
          refine z_topJ (fun x8 ex8 => ?_)
          refine z_ldc2 (M := M_X12_next) 217 dX12_next_217 k_X12_239 ?_
          refine z_lsub (M := M_X12_next) 220 dX12_next_220 ?_
          refine z_topJ (fun x9 ex9 => ?_)
          refine z_goto (M := M_X12_next) 221 dX12_next_221 227 rfl ?_
          refine z_putJH (M := M_X12_next) 227 dX12_next_227 p_X12_224 o_108 rfl (u_108_12 G) (R.up rfl) (fun h4 E4 G4 R4 => ?_)
          refine z_aload_n (M := M_X12_next) 230 dX12_next_230 rfl ?_
          refine z_dup (M := M_X12_next) 231 dX12_next_231 rfl ?_
          refine z_getIE (M := M_X12_next) 232 dX12_next_232 f_X12_211 o_108 (by decide) ((upN E4 (fun q => absurd q.2 (by decide))).trans t_108_10) ?_
          refine z_iconst (M := M_X12_next) 235 dX12_next_235 ?_
          refine z_iaddN (M := M_X12_next) 236 dX12_next_236 (by omega) (by omega) ?_
          refine z_putIH (M := M_X12_next) 237 dX12_next_237 p_X12_211 o_108 rfl (u_108_10 G4 (by omega) (by omega)) (R4.up rfl) (fun h5 E5 G5 R5 => ?_)
          refine z_goto (M := M_X12_next) 240 dX12_next_240 149 rfl ?_
          exact z_mask [true] rfl (ih.2.2.2.1 y_108_8 y_108_9 (y_108_10 + 1) y_108_11 h5 G5 R5 (by omega) (by omega) (by omega) (by omega) (by omega) (by omega) (by omega) (by omega) ((upN E5 (fun q => absurd q.2 (by decide))).trans ((upN E4 (fun q => absurd q.2 (by decide))).trans t_108_8)) ((upN E5 (fun q => absurd q.2 (by decide))).trans ((upN E4 (fun q => absurd q.2 (by decide))).trans t_108_9)) (upE E5) ((upN E5 (fun q => absurd q.2 (by decide))).trans ((upN E4 (fun q => absurd q.2 (by decide))).trans t_108_11)) (by omega) (by omega))
      · refine z_if_eq_T (M := M_X12_next) 180 dX12_next_180 243 rfl (by omega) ?_
        exact z_mask [true] rfl (ih.2.2.2.2 y_108_8 y_108_9 y_108_10 y_108_11 h G R (by omega) (by omega) (by omega) (by omega) (by omega) (by omega) (by omega) (by omega) t_108_8 t_108_9 t_108_10 t_108_11 (by omega) (by omega))
set_option maxHeartbeats 4000000 in
set_option maxRecDepth 100000 in
theorem s_X12_next_243 (h0 : m_H) (G0 : GI h0) (ht : h0 108 10 ≤ h0 108 8) (n : Nat) (ih : q_X12_next h0 n) : ∀ (y_108_8 y_108_9 y_108_10 y_108_11 : Int) (h : m_H), GI h → FR [] [(108, 9), (108, 10), (108, 11), (108, 12)] h0 h → 0 ≤ y_108_8 → y_108_8 ≤ 400 → 0 ≤ y_108_9 → y_108_9 ≤ 400 → 0 ≤ y_108_10 → y_108_10 ≤ 400 → 0 ≤ y_108_11 → y_108_11 ≤ 3 → (h 108 8 = y_108_8) → (h 108 9 = y_108_9) → (h 108 10 = y_108_10) → (h 108 11 = y_108_11) → (h0 108 10 ≤ y_108_9 ∧ y_108_9 ≤ y_108_10 ∧ y_108_10 ≤ y_108_8 ∧ (y_108_11 ≠ 3 ∨ y_108_9 < y_108_10) ∧ (y_108_11 ≠ 1 ∨ y_108_9 < y_108_10) ∧ (y_108_11 ≠ 2 ∨ y_108_9 < y_108_10 ∨ (y_108_10 < y_108_8 ∧ 48 ≤ h0 113 y_108_10.toNat ∧ h0 113 y_108_10.toNat ≤ 57))) → 2 * (400 - y_108_10) + (1) ≤ ((n + 1 : Nat) : Int) → m_Z oF M_X12_next 243 [some (mR 108)] [] h (m_QV (P_X12_next h0)) := by
  intro y_108_8 y_108_9 y_108_10 y_108_11 h G R v0 v1 v2 v3 v4 v5 v6 v7 t_108_8 t_108_9 t_108_10 t_108_11 i0 hr
  refine z_aload_n (M := M_X12_next) 243 dX12_next_243 rfl ?_
  refine z_getIE (M := M_X12_next) 244 dX12_next_244 f_X12_234 o_108 (by decide) t_108_11 ?_
  refine z_iconst (M := M_X12_next) 247 dX12_next_247 ?_
  refine z_icmp_ne (M := M_X12_next) 248 dX12_next_248 335 rfl (fun c1 => ?_) (fun c1 => ?_)
  · have w2 : h 108 9 = y_108_9 := t_108_9
    have w3 : h 108 10 = y_108_10 := t_108_10
    have w4 : h 108 11 = y_108_11 := t_108_11
    have w5 : h 108 8 = y_108_8 := t_108_8
    exact z_retV (M := M_X12_next) 335 dX12_next_335 rfl ⟨G, R, by omega, PIp.mk (by omega) (by omega) (by omega)⟩
  · refine z_aload_n (M := M_X12_next) 251 dX12_next_251 rfl ?_
    refine z_getIE (M := M_X12_next) 252 dX12_next_252 f_X12_211 o_108 (by decide) t_108_10 ?_
    refine z_aload_n (M := M_X12_next) 255 dX12_next_255 rfl ?_
    refine z_getIE (M := M_X12_next) 256 dX12_next_256 f_X12_201 o_108 (by decide) t_108_8 ?_
    refine z_icmp_ge (M := M_X12_next) 259 dX12_next_259 335 rfl (fun c6 => ?_) (fun c6 => ?_)
    · have w7 : h 108 9 = y_108_9 := t_108_9
      have w8 : h 108 10 = y_108_10 := t_108_10
      have w9 : h 108 11 = y_108_11 := t_108_11
      have w10 : h 108 8 = y_108_8 := t_108_8
      exact z_retV (M := M_X12_next) 335 dX12_next_335 rfl ⟨G, R, by omega, PIp.mk (by omega) (by omega) (by omega)⟩
    · refine z_aload_n (M := M_X12_next) 262 dX12_next_262 rfl ?_
      refine z_getR (M := M_X12_next) 263 dX12_next_263 f_X12_23 o_108 rfl (g_108_7 G) ?_
      refine z_aload_n (M := M_X12_next) 266 dX12_next_266 rfl ?_
      refine z_getIE (M := M_X12_next) 267 dX12_next_267 f_X12_211 o_108 (by decide) t_108_10 ?_
      refine z_ialdG (M := M_X12_next) 270 dX12_next_270 o_113 (by omega) (by omega) (g_113 G (by omega)) (fun x11 ex11 ax11 bx11 => ?_)
      have rx11 := R 113 (y_108_10).toNat rfl
      refine z_sI (M := M_X12_next) 271 dX12_next_271 t_X12_isDigit l_X12_231 (m_rr_of rfl) (rest := []) (c_X12_isDigit h x11 G) rfl rfl (Nat.le_of_ble_eq_true rfl) ⟨rfl, rfl⟩ (fun x12 h1 qx12 => ?_)
      obtain ⟨rfl, ⟨rfl, cx12⟩ | ⟨rfl, cx12⟩⟩ := qx12
      · refine z_if_eq_F (M := M_X12_next) 274 dX12_next_274 335 rfl (by omega) ?_
        refine z_aload_n (M := M_X12_next) 277 dX12_next_277 rfl ?_
        refine z_aload_n (M := M_X12_next) 278 dX12_next_278 rfl ?_
        refine z_getJV (M := M_X12_next) 279 dX12_next_279 f_X12_224 o_108 rfl (fun x13 ex13 => ?_)
        refine z_ldc2 (M := M_X12_next) 282 dX12_next_282 k_X12_241 ?_
        refine z_lcmp (M := M_X12_next) 285 dX12_next_285 ?_
        refine z_if_le (M := M_X12_next) 286 dX12_next_286 296 rfl (fun c14 => ?_) (fun c14 => ?_)
        · rw [m_cmp_le] at c14
          refine z_aload_n (M := M_X12_next) 296 dX12_next_296 rfl ?_
          refine z_getJE (M := M_X12_next) 297 dX12_next_297 f_X12_224 o_108 rfl ex13 ?_
          refine z_ldc2 (M := M_X12_next) 300 dX12_next_300 k_X12_243 ?_
          refine z_lmul (M := M_X12_next) 303 dX12_next_303 ?_
          refine z_topJ (fun x15 ex15 => ?_)
          refine z_aload_n (M := M_X12_next) 304 dX12_next_304 rfl ?_
          refine z_getR (M := M_X12_next) 305 dX12_next_305 f_X12_23 o_108 rfl (g_108_7 G) ?_
          refine z_aload_n (M := M_X12_next) 308 dX12_next_308 rfl ?_
          refine z_getIE (M := M_X12_next) 309 dX12_next_309 f_X12_211 o_108 (by decide) t_108_10 ?_
          refine z_ialdE (M := M_X12_next) 312 dX12_next_312 o_113 (by omega) (by omega) ex11 ?_
          refine z_i2l (M := M_X12_next) 313 dX12_next_313 ?_
          refine z_ladd (M := M_X12_next) 314 dX12_next_314 ?_
          refine z_topJ (fun x16 ex16 => ?_)
          refine z_ldc2 (M := M_X12_next) 315 dX12_next_315 k_X12_245 ?_
          refine z_lsub (M := M_X12_next) 318 dX12_next_318 ?_
          refine z_topJ (fun x17 ex17 => ?_)
          refine z_putJH (M := M_X12_next) 319 dX12_next_319 p_X12_224 o_108 rfl (u_108_12 G) (R.up rfl) (fun h2 E2 G2 R2 => ?_)
          refine z_aload_n (M := M_X12_next) 322 dX12_next_322 rfl ?_
          refine z_dup (M := M_X12_next) 323 dX12_next_323 rfl ?_
          refine z_getIE (M := M_X12_next) 324 dX12_next_324 f_X12_211 o_108 (by decide) ((upN E2 (fun q => absurd q.2 (by decide))).trans t_108_10) ?_
          refine z_iconst (M := M_X12_next) 327 dX12_next_327 ?_
          refine z_iaddN (M := M_X12_next) 328 dX12_next_328 (by omega) (by omega) ?_
          refine z_putIH (M := M_X12_next) 329 dX12_next_329 p_X12_211 o_108 rfl (u_108_10 G2 (by omega) (by omega)) (R2.up rfl) (fun h3 E3 G3 R3 => ?_)
          refine z_goto (M := M_X12_next) 332 dX12_next_332 243 rfl ?_
          exact z_mask [true] rfl (ih.2.2.2.2 y_108_8 y_108_9 (y_108_10 + 1) y_108_11 h3 G3 R3 (by omega) (by omega) (by omega) (by omega) (by omega) (by omega) (by omega) (by omega) ((upN E3 (fun q => absurd q.2 (by decide))).trans ((upN E2 (fun q => absurd q.2 (by decide))).trans t_108_8)) ((upN E3 (fun q => absurd q.2 (by decide))).trans ((upN E2 (fun q => absurd q.2 (by decide))).trans t_108_9)) (upE E3) ((upN E3 (fun q => absurd q.2 (by decide))).trans ((upN E2 (fun q => absurd q.2 (by decide))).trans t_108_11)) (by omega) (by omega))
        · rw [m_cmp_le] at c14
          refine z_aload_n (M := M_X12_next) 289 dX12_next_289 rfl ?_
          refine z_getJE (M := M_X12_next) 290 dX12_next_290 f_X12_224 o_108 rfl ex13 ?_
          refine z_goto (M := M_X12_next) 293 dX12_next_293 319 rfl ?_
          refine z_putJH (M := M_X12_next) 319 dX12_next_319 p_X12_224 o_108 rfl (u_108_12 G) (R.up rfl) (fun h4 E4 G4 R4 => ?_)
          refine z_aload_n (M := M_X12_next) 322 dX12_next_322 rfl ?_
          refine z_dup (M := M_X12_next) 323 dX12_next_323 rfl ?_
          refine z_getIE (M := M_X12_next) 324 dX12_next_324 f_X12_211 o_108 (by decide) ((upN E4 (fun q => absurd q.2 (by decide))).trans t_108_10) ?_
          refine z_iconst (M := M_X12_next) 327 dX12_next_327 ?_
          refine z_iaddN (M := M_X12_next) 328 dX12_next_328 (by omega) (by omega) ?_
          refine z_putIH (M := M_X12_next) 329 dX12_next_329 p_X12_211 o_108 rfl (u_108_10 G4 (by omega) (by omega)) (R4.up rfl) (fun h5 E5 G5 R5 => ?_)
          refine z_goto (M := M_X12_next) 332 dX12_next_332 243 rfl ?_
          exact z_mask [true] rfl (ih.2.2.2.2 y_108_8 y_108_9 (y_108_10 + 1) y_108_11 h5 G5 R5 (by omega) (by omega) (by omega) (by omega) (by omega) (by omega) (by omega) (by omega) ((upN E5 (fun q => absurd q.2 (by decide))).trans ((upN E4 (fun q => absurd q.2 (by decide))).trans t_108_8)) ((upN E5 (fun q => absurd q.2 (by decide))).trans ((upN E4 (fun q => absurd q.2 (by decide))).trans t_108_9)) (upE E5) ((upN E5 (fun q => absurd q.2 (by decide))).trans ((upN E4 (fun q => absurd q.2 (by decide))).trans t_108_11)) (by omega) (by omega))
      · refine z_if_eq_T (M := M_X12_next) 274 dX12_next_274 335 rfl (by omega) ?_
        have w18 : h 108 9 = y_108_9 := t_108_9
        have w19 : h 108 10 = y_108_10 := t_108_10
        have w20 : h 108 11 = y_108_11 := t_108_11
        have w21 : h 108 8 = y_108_8 := t_108_8
        exact z_retV (M := M_X12_next) 335 dX12_next_335 rfl ⟨G, R, by omega, PIp.mk (by omega) (by omega) (by omega)⟩
theorem a_X12_next (h0 : m_H) (G0 : GI h0) (ht : h0 108 10 ≤ h0 108 8) : ∀ n, q_X12_next h0 n := by
  intro n
  induction n with
  | zero => unfold q_X12_next; refine ⟨?_, ?_, ?_, ?_, ?_⟩ <;> (intros; omega)
  | succ n ih => exact ⟨s_X12_next_8 h0 G0 ht n ih, s_X12_next_46 h0 G0 ht n ih, s_X12_next_117 h0 G0 ht n ih, s_X12_next_149 h0 G0 ht n ih, s_X12_next_243 h0 G0 ht n ih⟩
set_option maxHeartbeats 4000000 in
set_option maxRecDepth 100000 in
theorem c_X12_next (h0 : m_H) (G0 : GI h0) (ht : h0 108 10 ≤ h0 108 8) : m_CV M_X12_next [mR 108] h0 (P_X12_next h0) := by
  refine m_CV_of ⟨by decide, rfl, by simp [m_arg, m_isL, M_X12_next], ⟨rfl, rfl⟩, rfl, rfl⟩ (ls := [some (mR 108)]) rfl ?_
  have ih := a_X12_next h0 G0 ht 2416
  obtain ⟨x1, ex1⟩ : ∃ y : Int, h0 108 10 = y := ⟨_, rfl⟩
  have bx1 : 0 ≤ x1 ∧ x1 ≤ 400 := ex1 ▸ g_108_10 G0
  obtain ⟨x2, ex2⟩ : ∃ y : Int, h0 108 8 = y := ⟨_, rfl⟩
  have bx2 : 0 ≤ x2 ∧ x2 ≤ 400 := ex2 ▸ g_108_8 G0
  refine z_aload_n (M := M_X12_next) 0 dX12_next_0 rfl ?_
  refine z_aload_n (M := M_X12_next) 1 dX12_next_1 rfl ?_
  refine z_getIE (M := M_X12_next) 2 dX12_next_2 f_X12_211 o_108 (by decide) ex1 ?_
  refine z_putIH (M := M_X12_next) 5 dX12_next_5 p_X12_221 o_108 rfl (u_108_9 G0 (by omega) (by omega)) ((FR.rf (cs := []) (ss := [(108, 9), (108, 10), (108, 11), (108, 12)]) (h := h0)).up rfl) (fun h1 E1 G1 R1 => ?_)
  exact z_mask [true] rfl (ih.1 x2 x1 h1 G1 R1 (by omega) (by omega) (by omega) (by omega) ((upN E1 (fun q => absurd q.2 (by decide))).trans ex2) (upE E1) (by omega) (by omega))
abbrev P_X12_isWord (h0 : m_H) (a1 : Int) : Int → m_H → Prop := fun x h' => h0 = h' ∧ ((x = 1 ∧ (h0 108 11 = 1 ∧ h0 108 12 = a1)) ∨ (x = 0 ∧ ¬ (h0 108 11 = 1 ∧ h0 108 12 = a1)))
set_option maxHeartbeats 4000000 in
set_option maxRecDepth 100000 in
theorem c_X12_isWord (h0 : m_H) (a1 : Int) (G0 : GI h0) : m_CI M_X12_isWord [mR 108, mJ a1] h0 (P_X12_isWord h0 a1) := by
  refine m_CI_of ⟨by decide, rfl, by simp [m_arg, m_isL, M_X12_isWord], ⟨rfl, rfl⟩, rfl, rfl⟩ (ls := [some (mR 108), some (mJ a1), none]) rfl ?_
  refine z_aload_n (M := M_X12_isWord) 0 dX12_isWord_0 rfl ?_
  refine z_getIG (M := M_X12_isWord) 1 dX12_isWord_1 f_X12_234 o_108 (by decide) (g_108_11 G0) (fun x1 ex1 ax1 bx1 => ?_)
  refine z_iconst (M := M_X12_isWord) 4 dX12_isWord_4 ?_
  refine z_icmp_ne (M := M_X12_isWord) 5 dX12_isWord_5 21 rfl (fun c2 => ?_) (fun c2 => ?_)
  · refine z_iconst (M := M_X12_isWord) 21 dX12_isWord_21 ?_
    exact z_retZ (M := M_X12_isWord) 22 dX12_isWord_22 rfl (by omega) ⟨rfl, by omega⟩
  · refine z_aload_n (M := M_X12_isWord) 8 dX12_isWord_8 rfl ?_
    refine z_getJV (M := M_X12_isWord) 9 dX12_isWord_9 f_X12_224 o_108 rfl (fun x3 ex3 => ?_)
    refine z_lload_n (M := M_X12_isWord) 12 dX12_isWord_12 rfl ?_
    refine z_lcmp (M := M_X12_isWord) 13 dX12_isWord_13 ?_
    refine z_if_ne (M := M_X12_isWord) 14 dX12_isWord_14 21 rfl (fun c4 => ?_) (fun c4 => ?_)
    · rw [m_cmp_eq] at c4
      refine z_iconst (M := M_X12_isWord) 21 dX12_isWord_21 ?_
      exact z_retZ (M := M_X12_isWord) 22 dX12_isWord_22 rfl (by omega) ⟨rfl, by omega⟩
    · rw [m_cmp_eq] at c4
      refine z_iconst (M := M_X12_isWord) 17 dX12_isWord_17 ?_
      refine z_goto (M := M_X12_isWord) 18 dX12_isWord_18 22 rfl ?_
      exact z_retZ (M := M_X12_isWord) 22 dX12_isWord_22 rfl (by omega) ⟨rfl, by omega⟩
abbrev P_X12_isSign (h0 : m_H) (a1 : Int) : Int → m_H → Prop := fun x h' => h0 = h' ∧ ((x = 1 ∧ (h0 108 11 = 3 ∧ h0 108 12 = a1)) ∨ (x = 0 ∧ ¬ (h0 108 11 = 3 ∧ h0 108 12 = a1)))
set_option maxHeartbeats 4000000 in
set_option maxRecDepth 100000 in
theorem c_X12_isSign (h0 : m_H) (a1 : Int) (G0 : GI h0) : m_CI M_X12_isSign [mR 108, mI a1] h0 (P_X12_isSign h0 a1) := by
  refine m_CI_of ⟨by decide, rfl, by simp [m_arg, m_isL, M_X12_isSign], ⟨rfl, rfl⟩, rfl, rfl⟩ (ls := [some (mR 108), some (mI a1)]) rfl ?_
  refine z_ok (fun _ _ ok => ?_)
  have oa1 : m_32 a1 := ok 1 _ rfl
  unfold m_32 at oa1
  refine z_aload_n (M := M_X12_isSign) 0 dX12_isSign_0 rfl ?_
  refine z_getIG (M := M_X12_isSign) 1 dX12_isSign_1 f_X12_234 o_108 (by decide) (g_108_11 G0) (fun x1 ex1 ax1 bx1 => ?_)
  refine z_iconst (M := M_X12_isSign) 4 dX12_isSign_4 ?_
  refine z_icmp_ne (M := M_X12_isSign) 5 dX12_isSign_5 22 rfl (fun c2 => ?_) (fun c2 => ?_)
  · refine z_iconst (M := M_X12_isSign) 22 dX12_isSign_22 ?_
    exact z_retZ (M := M_X12_isSign) 23 dX12_isSign_23 rfl (by omega) ⟨rfl, by omega⟩
  · refine z_aload_n (M := M_X12_isSign) 8 dX12_isSign_8 rfl ?_
    refine z_getJV (M := M_X12_isSign) 9 dX12_isSign_9 f_X12_224 o_108 rfl (fun x3 ex3 => ?_)
    refine z_iload_n (M := M_X12_isSign) 12 dX12_isSign_12 rfl ?_
    refine z_i2l (M := M_X12_isSign) 13 dX12_isSign_13 ?_
    refine z_lcmp (M := M_X12_isSign) 14 dX12_isSign_14 ?_
    refine z_if_ne (M := M_X12_isSign) 15 dX12_isSign_15 22 rfl (fun c4 => ?_) (fun c4 => ?_)
    · rw [m_cmp_eq] at c4
      refine z_iconst (M := M_X12_isSign) 22 dX12_isSign_22 ?_
      exact z_retZ (M := M_X12_isSign) 23 dX12_isSign_23 rfl (by omega) ⟨rfl, by omega⟩
    · rw [m_cmp_eq] at c4
      refine z_iconst (M := M_X12_isSign) 18 dX12_isSign_18 ?_
      refine z_goto (M := M_X12_isSign) 19 dX12_isSign_19 23 rfl ?_
      exact z_retZ (M := M_X12_isSign) 23 dX12_isSign_23 rfl (by omega) ⟨rfl, by omega⟩
abbrev P_X12_must (h0 : m_H) (a1 : Int) : m_H → Prop := fun h' => GI h' ∧ FR [] [(108, 9), (108, 10), (108, 11), (108, 12), (108, 13), (108, 14)] h0 h' ∧ h0 108 9 ≤ h' 108 9 ∧ PIp h' ∧ Im (h' 108 14 = 0) (h0 108 14 = 0 ∧ a1 = 1 ∧ h0 108 10 ≤ h' 108 9)
set_option maxHeartbeats 4000000 in
set_option maxRecDepth 100000 in
theorem c_X12_must (h0 : m_H) (a1 : Int) (G0 : GI h0) (pa1 : 0 ≤ a1 ∧ a1 ≤ 1) (hp : PIp h0) : m_CV M_X12_must [mR 108, mI a1] h0 (P_X12_must h0 a1) := by
  refine m_CV_of ⟨by decide, rfl, by simp [m_arg, m_isL, M_X12_must], ⟨rfl, rfl⟩, rfl, rfl⟩ (ls := [some (mR 108), some (mI a1)]) rfl ?_
  have hl := hp.le
  obtain ⟨x1, ex1⟩ : ∃ y : Int, h0 108 9 = y := ⟨_, rfl⟩
  have bx1 : 0 ≤ x1 ∧ x1 ≤ 400 := ex1 ▸ g_108_9 G0
  obtain ⟨x2, ex2⟩ : ∃ y : Int, h0 108 10 = y := ⟨_, rfl⟩
  have bx2 : 0 ≤ x2 ∧ x2 ≤ 400 := ex2 ▸ g_108_10 G0
  obtain ⟨x3, ex3⟩ : ∃ y : Int, h0 108 11 = y := ⟨_, rfl⟩
  have bx3 : 0 ≤ x3 ∧ x3 ≤ 3 := ex3 ▸ g_108_11 G0
  obtain ⟨x4, ex4⟩ : ∃ y : Int, h0 108 8 = y := ⟨_, rfl⟩
  have bx4 : 0 ≤ x4 ∧ x4 ≤ 400 := ex4 ▸ g_108_8 G0
  obtain ⟨x5, ex5⟩ : ∃ y : Int, h0 108 14 = y := ⟨_, rfl⟩
  have bx5 : 0 ≤ x5 ∧ x5 ≤ 1 := ex5 ▸ g_108_14 G0
  refine z_aload_n (M := M_X12_must) 0 dX12_must_0 rfl ?_
  refine z_getIE (M := M_X12_must) 1 dX12_must_1 f_X12_214 o_108 (by decide) ex5 ?_
  refine z_if_ne (M := M_X12_must) 4 dX12_must_4 24 rfl (fun c6 => ?_) (fun c6 => ?_)
  · refine z_aload_n (M := M_X12_must) 24 dX12_must_24 rfl ?_
    refine z_getIE (M := M_X12_must) 25 dX12_must_25 f_X12_214 o_108 (by decide) ex5 ?_
    refine z_if_ne_T (M := M_X12_must) 28 dX12_must_28 35 rfl (by omega) ?_
    have w7 : h0 108 9 = x1 := ex1
    have w8 : h0 108 10 = x2 := ex2
    have w9 : h0 108 11 = x3 := ex3
    have w10 : h0 108 8 = x4 := ex4
    have w11 : h0 108 14 = x5 := ex5
    exact z_retV (M := M_X12_must) 35 dX12_must_35 rfl ⟨G0, (FR.rf (cs := []) (ss := [(108, 9), (108, 10), (108, 11), (108, 12), (108, 13), (108, 14)]) (h := h0)), by omega, hp, fun q => by omega⟩
  · refine z_iload_n (M := M_X12_must) 7 dX12_must_7 rfl ?_
    refine z_if_ne (M := M_X12_must) 8 dX12_must_8 24 rfl (fun c12 => ?_) (fun c12 => ?_)
    · refine z_aload_n (M := M_X12_must) 24 dX12_must_24 rfl ?_
      refine z_getIE (M := M_X12_must) 25 dX12_must_25 f_X12_214 o_108 (by decide) ex5 ?_
      refine z_if_ne_F (M := M_X12_must) 28 dX12_must_28 35 rfl (by omega) ?_
      refine z_aload_n (M := M_X12_must) 31 dX12_must_31 rfl ?_
      have w13 : h0 108 10 = x2 := ex2
      have w14 : h0 108 8 = x4 := ex4
      refine z_vV (M := M_X12_must) 32 dX12_must_32 t_X12_next l_X12_218 (m_rr_of rfl) (rest := []) (c_X12_next h0 G0 (by omega)) o_108 rfl rfl rfl (Nat.le_of_ble_eq_true rfl) ⟨rfl, rfl⟩ (fun h1 qx15 => ?_)
      obtain ⟨G1, S1, fx15_0, fx15_1⟩ := qx15
      have R1 := (FR.rf (cs := []) (ss := [(108, 9), (108, 10), (108, 11), (108, 12), (108, 13), (108, 14)]) (h := h0)).call S1 (by decide +kernel)
      obtain ⟨x16, ex16⟩ : ∃ y : Int, h1 108 9 = y := ⟨_, rfl⟩
      have bx16 : 0 ≤ x16 ∧ x16 ≤ 400 := ex16 ▸ g_108_9 G1
      obtain ⟨x17, ex17⟩ : ∃ y : Int, h1 108 10 = y := ⟨_, rfl⟩
      have bx17 : 0 ≤ x17 ∧ x17 ≤ 400 := ex17 ▸ g_108_10 G1
      obtain ⟨x18, ex18⟩ : ∃ y : Int, h1 108 11 = y := ⟨_, rfl⟩
      have bx18 : 0 ≤ x18 ∧ x18 ≤ 3 := ex18 ▸ g_108_11 G1
      have w19 : h1 108 9 = x16 := ex16
      have w20 : h1 108 10 = x17 := ex17
      have w21 : h1 108 11 = x18 := ex18
      have w22 : h1 108 8 = x4 := ((S1 108 8 rfl).trans ex4)
      have l23 := fx15_1.le
      have w24 : h1 108 9 = x16 := ex16
      have w25 : h1 108 10 = x17 := ex17
      have w26 : h1 108 11 = x18 := ex18
      have w27 : h1 108 8 = x4 := ((S1 108 8 rfl).trans ex4)
      have w28 : h1 108 14 = x5 := ((S1 108 14 rfl).trans ex5)
      exact z_retV (M := M_X12_must) 35 dX12_must_35 rfl ⟨G1, R1, by omega, fx15_1, fun q => by omega⟩
    · refine z_aload_n (M := M_X12_must) 11 dX12_must_11 rfl ?_
      refine z_iconst (M := M_X12_must) 12 dX12_must_12 ?_
      refine z_putZH (M := M_X12_must) 13 dX12_must_13 p_X12_214 o_108 rfl (by omega) (u_108_14 G0 (by omega) (by omega)) ((FR.rf (cs := []) (ss := [(108, 9), (108, 10), (108, 11), (108, 12), (108, 13), (108, 14)]) (h := h0)).up rfl) (fun h2 E2 G2 R2 => ?_)
      have P2 := hp.same (upN E2 (by decide)) (upN E2 (by decide)) (upN E2 (by decide)) (upN E2 (by decide))
      refine z_aload_n (M := M_X12_must) 16 dX12_must_16 rfl ?_
      refine z_aload_n (M := M_X12_must) 17 dX12_must_17 rfl ?_
      refine z_getIE (M := M_X12_must) 18 dX12_must_18 f_X12_221 o_108 (by decide) ((upN E2 (fun q => absurd q.2 (by decide))).trans ex1) ?_
      refine z_putIH (M := M_X12_must) 21 dX12_must_21 p_X12_26 o_108 rfl (u_108_13 G2) (R2.up rfl) (fun h3 E3 G3 R3 => ?_)
      have P3 := P2.same (upN E3 (by decide)) (upN E3 (by decide)) (upN E3 (by decide)) (upN E3 (by decide))
      refine z_aload_n (M := M_X12_must) 24 dX12_must_24 rfl ?_
      refine z_getIE (M := M_X12_must) 25 dX12_must_25 f_X12_214 o_108 (by decide) ((upN E3 (fun q => absurd q.2 (by decide))).trans (upE E2)) ?_
      refine z_if_ne_T (M := M_X12_must) 28 dX12_must_28 35 rfl (by omega) ?_
      have w29 : h3 108 9 = x1 := ((upN E3 (fun q => absurd q.2 (by decide))).trans ((upN E2 (fun q => absurd q.2 (by decide))).trans ex1))
      have w30 : h3 108 10 = x2 := ((upN E3 (fun q => absurd q.2 (by decide))).trans ((upN E2 (fun q => absurd q.2 (by decide))).trans ex2))
      have w31 : h3 108 11 = x3 := ((upN E3 (fun q => absurd q.2 (by decide))).trans ((upN E2 (fun q => absurd q.2 (by decide))).trans ex3))
      have w32 : h3 108 8 = x4 := ((upN E3 (fun q => absurd q.2 (by decide))).trans ((upN E2 (fun q => absurd q.2 (by decide))).trans ex4))
      have w33 : h3 108 14 = 1 := ((upN E3 (fun q => absurd q.2 (by decide))).trans (upE E2))
      exact z_retV (M := M_X12_must) 35 dX12_must_35 rfl ⟨G3, R3, by omega, P3, fun q => by omega⟩
