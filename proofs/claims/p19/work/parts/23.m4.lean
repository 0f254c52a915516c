theorem oC_135_136 {t : Nat} (i : t = 135 ∨ t = 136) : oF[t]? = some (1, 10) := by rcases i with rfl | rfl <;> rfl
theorem uC_135_136 {h : m_H} {t : Nat} (i : t = 135 ∨ t = 136) (G : GI h) {j : Nat} {v : Int} : GI (m_up h t j v) := by rcases i with rfl | rfl <;> first | exact u_135 G | exact u_136 G
theorem oC_124_125 {t : Nat} (i : t = 124 ∨ t = 125) : oF[t]? = some (1, 80) := by rcases i with rfl | rfl <;> rfl
theorem gC_124_125 {h : m_H} {t : Nat} (i : t = 124 ∨ t = 125) (G : GI h) {j : Nat} (hj : j < 80) : (0 : Int) ≤ h t j ∧ h t j ≤ 99999999 := by rcases i with rfl | rfl <;> first | exact g_124 G hj | exact g_125 G hj
theorem uC_124_125 {h : m_H} {t : Nat} (i : t = 124 ∨ t = 125) (G : GI h) {j : Nat} {v : Int} (h1 : (0 : Int) ≤ v) (h2 : v ≤ 99999999) : GI (m_up h t j v) := by rcases i with rfl | rfl <;> first | exact u_124 G h1 h2 | exact u_125 G h1 h2
theorem oC_138 {t : Nat} (i : t = 138) : oF[t]? = some (1, 20) := by rcases i with rfl <;> rfl
theorem gC_138 {h : m_H} {t : Nat} (i : t = 138) (G : GI h) {j : Nat} (hj : j < 20) : (0 : Int) ≤ h t j ∧ h t j ≤ 99999999 := by rcases i with rfl <;> first | exact g_138 G hj
theorem uC_138 {h : m_H} {t : Nat} (i : t = 138) (G : GI h) {j : Nat} {v : Int} (h1 : (0 : Int) ≤ v) (h2 : v ≤ 99999999) : GI (m_up h t j v) := by rcases i with rfl <;> first | exact u_138 G h1 h2
theorem oC_139_140_141 {t : Nat} (i : t = 139 ∨ t = 140 ∨ t = 141) : oF[t]? = some (1, 10) := by rcases i with rfl | rfl | rfl <;> rfl
theorem uC_139_140_141 {h : m_H} {t : Nat} (i : t = 139 ∨ t = 140 ∨ t = 141) (G : GI h) {j : Nat} {v : Int} : GI (m_up h t j v) := by rcases i with rfl | rfl | rfl <;> first | exact u_139 G | exact u_140 G | exact u_141 G
abbrev P_X12_wide80 (h0 : m_H) (t : Nat) (f : Nat) (a2 a3 : Int) : m_H → Prop := fun h' => GI h' ∧ FR [t] [] h0 h'
def q_X12_wide80 (h0 : m_H) (t : Nat) (f : Nat) (a2 a3 : Int) (n : Nat) : Prop := (∀ (l5 l7 : Int) (h : m_H), GI h → FR [t] [] h0 h → 0 ≤ l7 → l7 ≤ 10 → 2 * (10 - l7) + (1) ≤ (n : Int) → m_Z oF M_X12_wide 6 [some (mR t), some (mR f), some (mI a2), some (mJ a3), none, some (mJ l5), none, some (mI l7), none, none] [] h (m_QV (P_X12_wide80 h0 t f a2 a3)))
set_option maxHeartbeats 4000000 in
set_option maxRecDepth 100000 in
theorem s_X12_wide80_6 (h0 : m_H) (t : Nat) (f : Nat) (a2 a3 : Int) (w_t : t = 135 ∨ t = 136) (w_f : f = 124 ∨ f = 125) (G0 : GI h0) (pa2 : 0 ≤ a2 ∧ a2 ≤ 75) (n : Nat) (ih : q_X12_wide80 h0 t f a2 a3 n) : ∀ (l5 l7 : Int) (h : m_H), GI h → FR [t] [] h0 h → 0 ≤ l7 → l7 ≤ 10 → 2 * (10 - l7) + (1) ≤ ((n + 1 : Nat) : Int) → m_Z oF M_X12_wide 6 [some (mR t), some (mR f), some (mI a2), some (mJ a3), none, some (mJ l5), none, some (mI l7), none, none] [] h (m_QV (P_X12_wide80 h0 t f a2 a3)) := by
  intro l5 l7 h G R v0 v1 hr
  refine z_iload (M := M_X12_wide) 6 dX12_wide_6 rfl ?_
  refine z_bipush (M := M_X12_wide) 8 dX12_wide_8 ?_
  refine z_icmp_ge (M := M_X12_wide) 10 dX12_wide_10 60 rfl (fun c1 => ?_) (fun c1 => ?_)
  · exact z_retV (M := M_X12_wide) 60 dX12_wide_60 rfl ⟨G, R⟩
  · refine z_iload (M := M_X12_wide) 13 dX12_wide_13 rfl ?_
    refine z_iconst (M := M_X12_wide) 15 dX12_wide_15 ?_
    refine z_icmp_ge (M := M_X12_wide) 16 dX12_wide_16 30 rfl (fun c2 => ?_) (fun c2 => ?_)
    · refine z_lconst (M := M_X12_wide) 30 dX12_wide_30 (v := 0) ?_
      refine z_lload (M := M_X12_wide) 31 dX12_wide_31 rfl ?_
      refine z_ladd (M := M_X12_wide) 33 dX12_wide_33 ?_
      refine z_topJ (fun x3 ex3 => ?_)
      refine z_lstore (M := M_X12_wide) 34 dX12_wide_34 (ls' := [some (mR t), some (mR f), some (mI a2), some (mJ a3), none, some (mJ l5), none, some (mI l7), some (mJ x3), none]) (by decide) rfl ?_
      refine z_aload_n (M := M_X12_wide) 36 dX12_wide_36 rfl ?_
      refine z_iload (M := M_X12_wide) 37 dX12_wide_37 rfl ?_
      refine z_lload (M := M_X12_wide) 39 dX12_wide_39 rfl ?_
      refine z_ldc2 (M := M_X12_wide) 41 dX12_wide_41 k_X12_327 ?_
      refine z_lrem (M := M_X12_wide) 44 dX12_wide_44 (by omega) ?_
      refine z_topJ (fun x4 ex4 => ?_)
      refine z_lastH (M := M_X12_wide) 45 dX12_wide_45 (oC_135_136 w_t) (by omega) (by omega) (uC_135_136 w_t G) (R.up (by simp [fr])) (fun h1 E1 G1 R1 => ?_)
      refine z_lload (M := M_X12_wide) 46 dX12_wide_46 rfl ?_
      refine z_ldc2 (M := M_X12_wide) 48 dX12_wide_48 k_X12_327 ?_
      refine z_ldiv (M := M_X12_wide) 51 dX12_wide_51 (by omega) ?_
      refine z_topJ (fun x5 ex5 => ?_)
      refine z_lstore (M := M_X12_wide) 52 dX12_wide_52 (ls' := [some (mR t), some (mR f), some (mI a2), some (mJ a3), none, some (mJ x5), none, some (mI l7), some (mJ x3), none]) (by decide) rfl ?_
      refine z_iincN (M := M_X12_wide) 54 dX12_wide_54 (ls' := [some (mR t), some (mR f), some (mI a2), some (mJ a3), none, some (mJ x5), none, some (mI (l7 + 1)), some (mJ x3), none]) (by decide) rfl (by (unfold m_32; decide)) (by omega) (by omega) rfl ?_
      refine z_goto (M := M_X12_wide) 57 dX12_wide_57 6 rfl ?_
      exact z_mask [true, true, true, true, false, true, false, true, false, false] rfl (ih x5 (l7 + 1) h1 G1 R1 (by omega) (by omega) (by omega))
    · refine z_aload_n (M := M_X12_wide) 19 dX12_wide_19 rfl ?_
      refine z_iload_n (M := M_X12_wide) 20 dX12_wide_20 rfl ?_
      refine z_iload (M := M_X12_wide) 21 dX12_wide_21 rfl ?_
      refine z_iaddN (M := M_X12_wide) 23 dX12_wide_23 (by omega) (by omega) ?_
      refine z_laldG (M := M_X12_wide) 24 dX12_wide_24 (oC_124_125 w_f) (by omega) (by omega) (gC_124_125 w_f G (by omega)) (fun x6 ex6 ax6 bx6 => ?_)
      refine z_lload_n (M := M_X12_wide) 25 dX12_wide_25 rfl ?_
      refine z_lmul (M := M_X12_wide) 26 dX12_wide_26 ?_
      refine z_topJ (fun x7 ex7 => ?_)
      refine z_goto (M := M_X12_wide) 27 dX12_wide_27 31 rfl ?_
      refine z_lload (M := M_X12_wide) 31 dX12_wide_31 rfl ?_
      refine z_ladd (M := M_X12_wide) 33 dX12_wide_33 ?_
      refine z_topJ (fun x8 ex8 => ?_)
      refine z_lstore (M := M_X12_wide) 34 dX12_wide_34 (ls' := [some (mR t), some (mR f), some (mI a2), some (mJ a3), none, some (mJ l5), none, some (mI l7), some (mJ x8), none]) (by decide) rfl ?_
      refine z_aload_n (M := M_X12_wide) 36 dX12_wide_36 rfl ?_
      refine z_iload (M := M_X12_wide) 37 dX12_wide_37 rfl ?_
      refine z_lload (M := M_X12_wide) 39 dX12_wide_39 rfl ?_
      refine z_ldc2 (M := M_X12_wide) 41 dX12_wide_41 k_X12_327 ?_
      refine z_lrem (M := M_X12_wide) 44 dX12_wide_44 (by omega) ?_
      refine z_topJ (fun x9 ex9 => ?_)
      refine z_lastH (M := M_X12_wide) 45 dX12_wide_45 (oC_135_136 w_t) (by omega) (by omega) (uC_135_136 w_t G) (R.up (by simp [fr])) (fun h2 E2 G2 R2 => ?_)
      refine z_lload (M := M_X12_wide) 46 dX12_wide_46 rfl ?_
      refine z_ldc2 (M := M_X12_wide) 48 dX12_wide_48 k_X12_327 ?_
      refine z_ldiv (M := M_X12_wide) 51 dX12_wide_51 (by omega) ?_
      refine z_topJ (fun x10 ex10 => ?_)
      refine z_lstore (M := M_X12_wide) 52 dX12_wide_52 (ls' := [some (mR t), some (mR f), some (mI a2), some (mJ a3), none, some (mJ x10), none, some (mI l7), some (mJ x8), none]) (by decide) rfl ?_
      refine z_iincN (M := M_X12_wide) 54 dX12_wide_54 (ls' := [some (mR t), some (mR f), some (mI a2), some (mJ a3), none, some (mJ x10), none, some (mI (l7 + 1)), some (mJ x8), none]) (by decide) rfl (by (unfold m_32; decide)) (by omega) (by omega) rfl ?_
      refine z_goto (M := M_X12_wide) 57 dX12_wide_57 6 rfl ?_
      exact z_mask [true, true, true, true, false, true, false, true, false, false] rfl (ih x10 (l7 + 1) h2 G2 R2 (by omega) (by omega) (by omega))
theorem a_X12_wide80 (h0 : m_H) (t : Nat) (f : Nat) (a2 a3 : Int) (w_t : t = 135 ∨ t = 136) (w_f : f = 124 ∨ f = 125) (G0 : GI h0) (pa2 : 0 ≤ a2 ∧ a2 ≤ 75) : ∀ n, q_X12_wide80 h0 t f a2 a3 n := by
  intro n
  induction n with
  | zero => unfold q_X12_wide80; intros; omega
  | succ n ih => exact s_X12_wide80_6 h0 t f a2 a3 w_t w_f G0 pa2 n ih
set_option maxHeartbeats 4000000 in
set_option maxRecDepth 100000 in
theorem c_X12_wide80 (h0 : m_H) (t : Nat) (f : Nat) (a2 a3 : Int) (w_t : t = 135 ∨ t = 136) (w_f : f = 124 ∨ f = 125) (G0 : GI h0) (pa2 : 0 ≤ a2 ∧ a2 ≤ 75) : m_CV M_X12_wide [mR t, mR f, mI a2, mJ a3] h0 (P_X12_wide80 h0 t f a2 a3) := by
  refine m_CV_of ⟨by decide, rfl, by simp [m_arg, m_isL, M_X12_wide], ⟨rfl, rfl⟩, rfl, rfl⟩ (ls := [some (mR t), some (mR f), some (mI a2), some (mJ a3), none, none, none, none, none, none]) rfl ?_
  have ih := a_X12_wide80 h0 t f a2 a3 w_t w_f G0 pa2 28
  refine z_lconst (M := M_X12_wide) 0 dX12_wide_0 (v := 0) ?_
  refine z_lstore (M := M_X12_wide) 1 dX12_wide_1 (ls' := [some (mR t), some (mR f), some (mI a2), some (mJ a3), none, some (mJ 0), none, none, none, none]) (by decide) rfl ?_
  refine z_iconst (M := M_X12_wide) 3 dX12_wide_3 ?_
  refine z_istore (M := M_X12_wide) 4 dX12_wide_4 (ls' := [some (mR t), some (mR f), some (mI a2), some (mJ a3), none, some (mJ 0), none, some (mI 0), none, none]) (by decide) rfl ?_
  exact z_mask [true, true, true, true, false, true, false, true, false, false] rfl (ih 0 0 h0 G0 (FR.rf (cs := [t]) (ss := []) (h := h0)) (by omega) (by omega) (by omega))
abbrev P_X12_wide20 (h0 : m_H) (t : Nat) (f : Nat) (a2 a3 : Int) : m_H → Prop := fun h' => GI h' ∧ FR [t] [] h0 h'
def q_X12_wide20 (h0 : m_H) (t : Nat) (f : Nat) (a2 a3 : Int) (n : Nat) : Prop := (∀ (l5 l7 : Int) (h : m_H), GI h → FR [t] [] h0 h → 0 ≤ l7 → l7 ≤ 10 → 2 * (10 - l7) + (1) ≤ (n : Int) → m_Z oF M_X12_wide 6 [some (mR t), some (mR f), some (mI a2), some (mJ a3), none, some (mJ l5), none, some (mI l7), none, none] [] h (m_QV (P_X12_wide20 h0 t f a2 a3)))
set_option maxHeartbeats 4000000 in
set_option maxRecDepth 100000 in
theorem s_X12_wide20_6 (h0 : m_H) (t : Nat) (f : Nat) (a2 a3 : Int) (w_t : t = 135 ∨ t = 136) (w_f : f = 138) (G0 : GI h0) (pa2 : 0 ≤ a2 ∧ a2 ≤ 15) (n : Nat) (ih : q_X12_wide20 h0 t f a2 a3 n) : ∀ (l5 l7 : Int) (h : m_H), GI h → FR [t] [] h0 h → 0 ≤ l7 → l7 ≤ 10 → 2 * (10 - l7) + (1) ≤ ((n + 1 : Nat) : Int) → m_Z oF M_X12_wide 6 [some (mR t), some (mR f), some (mI a2), some (mJ a3), none, some (mJ l5), none, some (mI l7), none, none] [] h (m_QV (P_X12_wide20 h0 t f a2 a3)) := by
  intro l5 l7 h G R v0 v1 hr
  refine z_iload (M := M_X12_wide) 6 dX12_wide_6 rfl ?_
  refine z_bipush (M := M_X12_wide) 8 dX12_wide_8 ?_
  refine z_icmp_ge (M := M_X12_wide) 10 dX12_wide_10 60 rfl (fun c1 => ?_) (fun c1 => ?_)
  · exact z_retV (M := M_X12_wide) 60 dX12_wide_60 rfl ⟨G, R⟩
  · refine z_iload (M := M_X12_wide) 13 dX12_wide_13 rfl ?_
    refine z_iconst (M := M_X12_wide) 15 dX12_wide_15 ?_
    refine z_icmp_ge (M := M_X12_wide) 16 dX12_wide_16 30 rfl (fun c2 => ?_) (fun c2 => ?_)
    · refine z_lconst (M := M_X12_wide) 30 dX12_wide_30 (v := 0) ?_
      refine z_lload (M := M_X12_wide) 31 dX12_wide_31 rfl ?_
      refine z_ladd (M := M_X12_wide) 33 dX12_wide_33 ?_
      refine z_topJ (fun x3 ex3 => ?_)
      refine z_lstore (M := M_X12_wide) 34 dX12_wide_34 (ls' := [some (mR t), some (mR f), some (mI a2), some (mJ a3), none, some (mJ l5), none, some (mI l7), some (mJ x3), none]) (by decide) rfl ?_
      refine z_aload_n (M := M_X12_wide) 36 dX12_wide_36 rfl ?_
      refine z_iload (M := M_X12_wide) 37 dX12_wide_37 rfl ?_
      refine z_lload (M := M_X12_wide) 39 dX12_wide_39 rfl ?_
      refine z_ldc2 (M := M_X12_wide) 41 dX12_wide_41 k_X12_327 ?_
      refine z_lrem (M := M_X12_wide) 44 dX12_wide_44 (by omega) ?_
      refine z_topJ (fun x4 ex4 => ?_)
      refine z_lastH (M := M_X12_wide) 45 dX12_wide_45 (oC_135_136 w_t) (by omega) (by omega) (uC_135_136 w_t G) (R.up (by simp [fr])) (fun h1 E1 G1 R1 => ?_)
      refine z_lload (M := M_X12_wide) 46 dX12_wide_46 rfl ?_
      refine z_ldc2 (M := M_X12_wide) 48 dX12_wide_48 k_X12_327 ?_
      refine z_ldiv (M := M_X12_wide) 51 dX12_wide_51 (by omega) ?_
      refine z_topJ (fun x5 ex5 => ?_)
      refine z_lstore (M := M_X12_wide) 52 dX12_wide_52 (ls' := [some (mR t), some (mR f), some (mI a2), some (mJ a3), none, some (mJ x5), none, some (mI l7), some (mJ x3), none]) (by decide) rfl ?_
      refine z_iincN (M := M_X12_wide) 54 dX12_wide_54 (ls' := [some (mR t), some (mR f), some (mI a2), some (mJ a3), none, some (mJ x5), none, some (mI (l7 + 1)), some (mJ x3), none]) (by decide) rfl (by (unfold m_32; decide)) (by omega) (by omega) rfl ?_
      refine z_goto (M := M_X12_wide) 57 dX12_wide_57 6 rfl ?_
      exact z_mask [true, true, true, true, false, true, false, true, false, false] rfl (ih x5 (l7 + 1) h1 G1 R1 (by omega) (by omega) (by omega))
    · refine z_aload_n (M := M_X12_wide) 19 dX12_wide_19 rfl ?_
      refine z_iload_n (M := M_X12_wide) 20 dX12_wide_20 rfl ?_
      refine z_iload (M := M_X12_wide) 21 dX12_wide_21 rfl ?_
      refine z_iaddN (M := M_X12_wide) 23 dX12_wide_23 (by omega) (by omega) ?_
      refine z_laldG (M := M_X12_wide) 24 dX12_wide_24 (oC_138 w_f) (by omega) (by omega) (gC_138 w_f G (by omega)) (fun x6 ex6 ax6 bx6 => ?_)
      refine z_lload_n (M := M_X12_wide) 25 dX12_wide_25 rfl ?_
      refine z_lmul (M := M_X12_wide) 26 dX12_wide_26 ?_
      refine z_topJ (fun x7 ex7 => ?_)
      refine z_goto (M := M_X12_wide) 27 dX12_wide_27 31 rfl ?_
      refine z_lload (M := M_X12_wide) 31 dX12_wide_31 rfl ?_
      refine z_ladd (M := M_X12_wide) 33 dX12_wide_33 ?_
      refine z_topJ (fun x8 ex8 => ?_)
      refine z_lstore (M := M_X12_wide) 34 dX12_wide_34 (ls' := [some (mR t), some (mR f), some (mI a2), some (mJ a3), none, some (mJ l5), none, some (mI l7), some (mJ x8), none]) (by decide) rfl ?_
      refine z_aload_n (M := M_X12_wide) 36 dX12_wide_36 rfl ?_
      refine z_iload (M := M_X12_wide) 37 dX12_wide_37 rfl ?_
      refine z_lload (M := M_X12_wide) 39 dX12_wide_39 rfl ?_
      refine z_ldc2 (M := M_X12_wide) 41 dX12_wide_41 k_X12_327 ?_
      refine z_lrem (M := M_X12_wide) 44 dX12_wide_44 (by omega) ?_
      refine z_topJ (fun x9 ex9 => ?_)
      refine z_lastH (M := M_X12_wide) 45 dX12_wide_45 (oC_135_136 w_t) (by omega) (by omega) (uC_135_136 w_t G) (R.up (by simp [fr])) (fun h2 E2 G2 R2 => ?_)
      refine z_lload (M := M_X12_wide) 46 dX12_wide_46 rfl ?_
      refine z_ldc2 (M := M_X12_wide) 48 dX12_wide_48 k_X12_327 ?_
      refine z_ldiv (M := M_X12_wide) 51 dX12_wide_51 (by omega) ?_
      refine z_topJ (fun x10 ex10 => ?_)
      refine z_lstore (M := M_X12_wide) 52 dX12_wide_52 (ls' := [some (mR t), some (mR f), some (mI a2), some (mJ a3), none, some (mJ x10), none, some (mI l7), some (mJ x8), none]) (by decide) rfl ?_
      refine z_iincN (M := M_X12_wide) 54 dX12_wide_54 (ls' := [some (mR t), some (mR f), some (mI a2), some (mJ a3), none, some (mJ x10), none, some (mI (l7 + 1)), some (mJ x8), none]) (by decide) rfl (by (unfold m_32; decide)) (by omega) (by omega) rfl ?_
      refine z_goto (M := M_X12_wide) 57 dX12_wide_57 6 rfl ?_
      exact z_mask [true, true, true, true, false, true, false, true, false, false] rfl (ih x10 (l7 + 1) h2 G2 R2 (by omega) (by omega) (by omega))
theorem a_X12_wide20 (h0 : m_H) (t : Nat) (f : Nat) (a2 a3 : Int) (w_t : t = 135 ∨ t = 136) (w_f : f = 138) (G0 : GI h0) (pa2 : 0 ≤ a2 ∧ a2 ≤ 15) : ∀ n, q_X12_wide20 h0 t f a2 a3 n := by
  intro n
  induction n with
  | zero => unfold q_X12_wide20; intros; omega
  | succ n ih => exact s_X12_wide20_6 h0 t f a2 a3 w_t w_f G0 pa2 n ih
set_option maxHeartbeats 4000000 in
set_option maxRecDepth 100000 in
theorem c_X12_wide20 (h0 : m_H) (t : Nat) (f : Nat) (a2 a3 : Int) (w_t : t = 135 ∨ t = 136) (w_f : f = 138) (G0 : GI h0) (pa2 : 0 ≤ a2 ∧ a2 ≤ 15) : m_CV M_X12_wide [mR t, mR f, mI a2, mJ a3] h0 (P_X12_wide20 h0 t f a2 a3) := by
  refine m_CV_of ⟨by decide, rfl, by simp [m_arg, m_isL, M_X12_wide], ⟨rfl, rfl⟩, rfl, rfl⟩ (ls := [some (mR t), some (mR f), some (mI a2), some (mJ a3), none, none, none, none, none, none]) rfl ?_
  have ih := a_X12_wide20 h0 t f a2 a3 w_t w_f G0 pa2 28
  refine z_lconst (M := M_X12_wide) 0 dX12_wide_0 (v := 0) ?_
  refine z_lstore (M := M_X12_wide) 1 dX12_wide_1 (ls' := [some (mR t), some (mR f), some (mI a2), some (mJ a3), none, some (mJ 0), none, none, none, none]) (by decide) rfl ?_
  refine z_iconst (M := M_X12_wide) 3 dX12_wide_3 ?_
  refine z_istore (M := M_X12_wide) 4 dX12_wide_4 (ls' := [some (mR t), some (mR f), some (mI a2), some (mJ a3), none, some (mJ 0), none, some (mI 0), none, none]) (by decide) rfl ?_
  exact z_mask [true, true, true, true, false, true, false, true, false, false] rfl (ih 0 0 h0 G0 (FR.rf (cs := [t]) (ss := []) (h := h0)) (by omega) (by omega) (by omega))
abbrev P_X12_share (h0 : m_H) (f : Nat) (f2 : Nat) (a2 a4 a5 a6 : Int) : Int → m_H → Prop := fun x h' => GI h' ∧ FR [135, 136] [] h0 h' ∧ 0 ≤ x ∧ x ≤ 2000000000
def q_X12_share (h0 : m_H) (f : Nat) (f2 : Nat) (a2 a4 a5 a6 : Int) (n : Nat) : Prop := (∀ (l7 l8 : Int) (h : m_H), GI h → FR [135, 136] [] h0 h → 0 ≤ l7 → l7 ≤ 2000000000 → 0 ≤ l8 → l8 ≤ 2000000000 → (-2147483648) ≤ a5 → a5 ≤ 2147483647 → (l7 ≤ l8) → 25 * (l8 - l7) + (24) ≤ (n : Int) → m_Z oF M_X12_share 19 [some (mR 108), none, none, some (mR f2), some (mI a4), none, none, some (mI l7), some (mI l8), none, none, none, none] [] h (m_QI (P_X12_share h0 f f2 a2 a4 a5 a6))) ∧ (∀ (l7 l8 l9 l10 l11 l12 : Int) (h : m_H), GI h → FR [135, 136] [] h0 h → 0 ≤ l7 → l7 ≤ 1999999999 → 1 ≤ l8 → l8 ≤ 2000000000 → 0 ≤ l9 → l9 ≤ 2000000000 → 0 ≤ l10 → l10 ≤ 1 → 0 ≤ l11 → l11 ≤ 1 → (-1) ≤ l12 → l12 ≤ 9 → (-2147483648) ≤ a5 → a5 ≤ 2147483647 → (l7 ≤ l9 - 1 ∧ l9 ≤ l8) → 25 * (l8 - l7) + 2 * (l12 - (-1)) + (1) ≤ (n : Int) → m_Z oF M_X12_share 63 [some (mR 108), none, none, some (mR f2), some (mI a4), none, none, some (mI l7), some (mI l8), some (mI l9), some (mI l10), some (mI l11), some (mI l12)] [] h (m_QI (P_X12_share h0 f f2 a2 a4 a5 a6)))
set_option maxHeartbeats 4000000 in
set_option maxRecDepth 100000 in
theorem s_X12_share_19 (h0 : m_H) (f : Nat) (f2 : Nat) (a2 a4 a5 a6 : Int) (w_f : f = 124 ∨ f = 125) (w_f2 : f2 = 124 ∨ f2 = 125) (G0 : GI h0) (pa2 : 0 ≤ a2 ∧ a2 ≤ 75) (pa4 : 0 ≤ a4 ∧ a4 ≤ 75) (pa6 : 0 ≤ a6 ∧ a6 ≤ 2000000000) (n : Nat) (ih : q_X12_share h0 f f2 a2 a4 a5 a6 n) : ∀ (l7 l8 : Int) (h : m_H), GI h → FR [135, 136] [] h0 h → 0 ≤ l7 → l7 ≤ 2000000000 → 0 ≤ l8 → l8 ≤ 2000000000 → (-2147483648) ≤ a5 → a5 ≤ 2147483647 → (l7 ≤ l8) → 25 * (l8 - l7) + (24) ≤ ((n + 1 : Nat) : Int) → m_Z oF M_X12_share 19 [some (mR 108), none, none, some (mR f2), some (mI a4), none, none, some (mI l7), some (mI l8), none, none, none, none] [] h (m_QI (P_X12_share h0 f f2 a2 a4 a5 a6)) := by
  intro l7 l8 h G R v0 v1 v2 v3 v4 v5 i0 hr
  refine z_iload (M := M_X12_share) 19 dX12_share_19 rfl ?_
  refine z_iload (M := M_X12_share) 21 dX12_share_21 rfl ?_
  refine z_icmp_ge (M := M_X12_share) 23 dX12_share_23 150 rfl (fun c1 => ?_) (fun c1 => ?_)
  · refine z_iload (M := M_X12_share) 150 dX12_share_150 rfl ?_
    exact z_retI (M := M_X12_share) 152 dX12_share_152 rfl ⟨G, R, by omega, by omega⟩
  · refine z_iload (M := M_X12_share) 26 dX12_share_26 rfl ?_
    refine z_iload (M := M_X12_share) 28 dX12_share_28 rfl ?_
    refine z_iload (M := M_X12_share) 30 dX12_share_30 rfl ?_
    refine z_isubN (M := M_X12_share) 32 dX12_share_32 (by omega) (by omega) ?_
    refine z_iconst (M := M_X12_share) 33 dX12_share_33 ?_
    refine z_iaddN (M := M_X12_share) 34 dX12_share_34 (by omega) (by omega) ?_
    refine z_iconst (M := M_X12_share) 35 dX12_share_35 ?_
    refine z_idivN (M := M_X12_share) 36 dX12_share_36 (by omega) (by omega) ?_
    refine z_topBI (lo := 0) (hi := 1000000000) ⟨by omega, by omega⟩ (fun x2 ex2 ax2 bx2 => ?_)
    refine z_iaddN (M := M_X12_share) 37 dX12_share_37 (by omega) (by omega) ?_
    refine z_topBI (lo := 0) (hi := 2000000000) ⟨by omega, by omega⟩ (fun x3 ex3 ax3 bx3 => ?_)
    refine z_istore (M := M_X12_share) 38 dX12_share_38 (ls' := [some (mR 108), none, none, some (mR f2), some (mI a4), none, none, some (mI l7), some (mI l8), some (mI x3), none, none, none]) (by decide) rfl ?_
    refine z_aload_n (M := M_X12_share) 40 dX12_share_40 rfl ?_
    refine z_getR (M := M_X12_share) 41 dX12_share_41 f_X12_97 o_108 rfl (g_108_41 G) ?_
    refine z_aload_n (M := M_X12_share) 44 dX12_share_44 rfl ?_
    refine z_iload (M := M_X12_share) 45 dX12_share_45 rfl ?_
    refine z_iload (M := M_X12_share) 47 dX12_share_47 rfl ?_
    refine z_i2l (M := M_X12_share) 49 dX12_share_49 ?_
    refine z_sV (M := M_X12_share) 50 dX12_share_50 t_X12_wide l_X12_387 (m_rr_of rfl) (rest := []) (c_X12_wide80 h 136 f2 a4 x3 (Or.inr rfl) w_f2 G ⟨by omega, by omega⟩) rfl rfl (Nat.le_of_ble_eq_true rfl) ⟨rfl, rfl⟩ (fun h1 qx4 => ?_)
    obtain ⟨G1, S1⟩ := qx4
    have R1 := R.call S1 (by decide +kernel)
    refine z_iconst (M := M_X12_share) 53 dX12_share_53 ?_
    refine z_istore (M := M_X12_share) 54 dX12_share_54 (ls' := [some (mR 108), none, none, some (mR f2), some (mI a4), none, none, some (mI l7), some (mI l8), some (mI x3), some (mI 1), none, none]) (by decide) rfl ?_
    refine z_iconst (M := M_X12_share) 56 dX12_share_56 ?_
    refine z_istore (M := M_X12_share) 57 dX12_share_57 (ls' := [some (mR 108), none, none, some (mR f2), some (mI a4), none, none, some (mI l7), some (mI l8), some (mI x3), some (mI 1), some (mI 1), none]) (by decide) rfl ?_
    refine z_bipush (M := M_X12_share) 59 dX12_share_59 ?_
    refine z_istore (M := M_X12_share) 61 dX12_share_61 (ls' := [some (mR 108), none, none, some (mR f2), some (mI a4), none, none, some (mI l7), some (mI l8), some (mI x3), some (mI 1), some (mI 1), some (mI 9)]) (by decide) rfl ?_
    exact z_mask [true, false, false, true, true, false, false, true, true, true, true, true, true] rfl (ih.2 l7 l8 x3 1 1 9 h1 G1 R1 (by omega) (by omega) (by omega) (by omega) (by omega) (by omega) (by omega) (by omega) (by omega) (by omega) (by omega) (by omega) (by omega) (by omega) (by omega) (by omega))
set_option maxHeartbeats 4000000 in
set_option maxRecDepth 100000 in
theorem s_X12_share_63 (h0 : m_H) (f : Nat) (f2 : Nat) (a2 a4 a5 a6 : Int) (w_f : f = 124 ∨ f = 125) (w_f2 : f2 = 124 ∨ f2 = 125) (G0 : GI h0) (pa2 : 0 ≤ a2 ∧ a2 ≤ 75) (pa4 : 0 ≤ a4 ∧ a4 ≤ 75) (pa6 : 0 ≤ a6 ∧ a6 ≤ 2000000000) (n : Nat) (ih : q_X12_share h0 f f2 a2 a4 a5 a6 n) : ∀ (l7 l8 l9 l10 l11 l12 : Int) (h : m_H), GI h → FR [135, 136] [] h0 h → 0 ≤ l7 → l7 ≤ 1999999999 → 1 ≤ l8 → l8 ≤ 2000000000 → 0 ≤ l9 → l9 ≤ 2000000000 → 0 ≤ l10 → l10 ≤ 1 → 0 ≤ l11 → l11 ≤ 1 → (-1) ≤ l12 → l12 ≤ 9 → (-2147483648) ≤ a5 → a5 ≤ 2147483647 → (l7 ≤ l9 - 1 ∧ l9 ≤ l8) → 25 * (l8 - l7) + 2 * (l12 - (-1)) + (1) ≤ ((n + 1 : Nat) : Int) → m_Z oF M_X12_share 63 [some (mR 108), none, none, some (mR f2), some (mI a4), none, none, some (mI l7), some (mI l8), some (mI l9), some (mI l10), some (mI l11), some (mI l12)] [] h (m_QI (P_X12_share h0 f f2 a2 a4 a5 a6)) := by
  intro l7 l8 l9 l10 l11 l12 h G R v0 v1 v2 v3 v4 v5 v6 v7 v8 v9 v10 v11 v12 v13 i0 hr
  refine z_iload (M := M_X12_share) 63 dX12_share_63 rfl ?_
  refine z_if_lt (M := M_X12_share) 65 dX12_share_65 129 rfl (fun c1 => ?_) (fun c1 => ?_)
  · refine z_iload (M := M_X12_share) 129 dX12_share_129 rfl ?_
    refine z_if_eq (M := M_X12_share) 131 dX12_share_131 141 rfl (fun c2 => ?_) (fun c2 => ?_)
    · refine z_iload (M := M_X12_share) 141 dX12_share_141 rfl ?_
      refine z_iconst (M := M_X12_share) 143 dX12_share_143 ?_
      refine z_isubN (M := M_X12_share) 144 dX12_share_144 (by omega) (by omega) ?_
      refine z_istore (M := M_X12_share) 145 dX12_share_145 (ls' := [some (mR 108), none, none, some (mR f2), some (mI a4), none, none, some (mI l7), some (mI (l9 - 1)), some (mI l9), some (mI l10), some (mI l11), some (mI l12)]) (by decide) rfl ?_
      refine z_goto (M := M_X12_share) 147 dX12_share_147 19 rfl ?_
      exact z_mask [true, false, false, true, true, false, false, true, true, false, false, false, false] rfl (ih.1 l7 (l9 - 1) h G R (by omega) (by omega) (by omega) (by omega) (by omega) (by omega) (by omega) (by omega))
    · refine z_iload (M := M_X12_share) 134 dX12_share_134 rfl ?_
      refine z_istore (M := M_X12_share) 136 dX12_share_136 (ls' := [some (mR 108), none, none, some (mR f2), some (mI a4), none, none, some (mI l9), some (mI l8), some (mI l9), some (mI l10), some (mI l11), some (mI l12)]) (by decide) rfl ?_
      refine z_goto (M := M_X12_share) 138 dX12_share_138 147 rfl ?_
      refine z_goto (M := M_X12_share) 147 dX12_share_147 19 rfl ?_
      exact z_mask [true, false, false, true, true, false, false, true, true, false, false, false, false] rfl (ih.1 l9 l8 h G R (by omega) (by omega) (by omega) (by omega) (by omega) (by omega) (by omega) (by omega))
  · refine z_iload (M := M_X12_share) 68 dX12_share_68 rfl ?_
    refine z_if_eq (M := M_X12_share) 70 dX12_share_70 129 rfl (fun c3 => ?_) (fun c3 => ?_)
    · refine z_iload (M := M_X12_share) 129 dX12_share_129 rfl ?_
      refine z_if_eq (M := M_X12_share) 131 dX12_share_131 141 rfl (fun c4 => ?_) (fun c4 => ?_)
      · refine z_iload (M := M_X12_share) 141 dX12_share_141 rfl ?_
        refine z_iconst (M := M_X12_share) 143 dX12_share_143 ?_
        refine z_isubN (M := M_X12_share) 144 dX12_share_144 (by omega) (by omega) ?_
        refine z_istore (M := M_X12_share) 145 dX12_share_145 (ls' := [some (mR 108), none, none, some (mR f2), some (mI a4), none, none, some (mI l7), some (mI (l9 - 1)), some (mI l9), some (mI l10), some (mI l11), some (mI l12)]) (by decide) rfl ?_
        refine z_goto (M := M_X12_share) 147 dX12_share_147 19 rfl ?_
        exact z_mask [true, false, false, true, true, false, false, true, true, false, false, false, false] rfl (ih.1 l7 (l9 - 1) h G R (by omega) (by omega) (by omega) (by omega) (by omega) (by omega) (by omega) (by omega))
      · refine z_iload (M := M_X12_share) 134 dX12_share_134 rfl ?_
        refine z_istore (M := M_X12_share) 136 dX12_share_136 (ls' := [some (mR 108), none, none, some (mR f2), some (mI a4), none, none, some (mI l9), some (mI l8), some (mI l9), some (mI l10), some (mI l11), some (mI l12)]) (by decide) rfl ?_
        refine z_goto (M := M_X12_share) 138 dX12_share_138 147 rfl ?_
        refine z_goto (M := M_X12_share) 147 dX12_share_147 19 rfl ?_
        exact z_mask [true, false, false, true, true, false, false, true, true, false, false, false, false] rfl (ih.1 l9 l8 h G R (by omega) (by omega) (by omega) (by omega) (by omega) (by omega) (by omega) (by omega))
    · refine z_aload_n (M := M_X12_share) 73 dX12_share_73 rfl ?_
      refine z_getR (M := M_X12_share) 74 dX12_share_74 f_X12_97 o_108 rfl (g_108_41 G) ?_
      refine z_iload (M := M_X12_share) 77 dX12_share_77 rfl ?_
      refine z_laldV (M := M_X12_share) 79 dX12_share_79 o_136 (by omega) (by omega) (fun x5 ex5 => ?_)
      refine z_aload_n (M := M_X12_share) 80 dX12_share_80 rfl ?_
      refine z_getR (M := M_X12_share) 81 dX12_share_81 f_X12_94 o_108 rfl (g_108_40 G) ?_
      refine z_iload (M := M_X12_share) 84 dX12_share_84 rfl ?_
      refine z_laldV (M := M_X12_share) 86 dX12_share_86 o_135 (by omega) (by omega) (fun x6 ex6 => ?_)
      refine z_lcmp (M := M_X12_share) 87 dX12_share_87 ?_
      refine z_if_ne (M := M_X12_share) 88 dX12_share_88 95 rfl (fun c7 => ?_) (fun c7 => ?_)
      · rw [m_cmp_eq] at c7
        refine z_iconst (M := M_X12_share) 95 dX12_share_95 ?_
        refine z_istore (M := M_X12_share) 96 dX12_share_96 (ls' := [some (mR 108), none, none, some (mR f2), some (mI a4), none, none, some (mI l7), some (mI l8), some (mI l9), some (mI l10), some (mI 0), some (mI l12)]) (by decide) rfl ?_
        refine z_aload_n (M := M_X12_share) 98 dX12_share_98 rfl ?_
        refine z_getR (M := M_X12_share) 99 dX12_share_99 f_X12_97 o_108 rfl (g_108_41 G) ?_
        refine z_iload (M := M_X12_share) 102 dX12_share_102 rfl ?_
        refine z_laldE (M := M_X12_share) 104 dX12_share_104 o_136 (by omega) (by omega) ex5 ?_
        refine z_aload_n (M := M_X12_share) 105 dX12_share_105 rfl ?_
        refine z_getR (M := M_X12_share) 106 dX12_share_106 f_X12_94 o_108 rfl (g_108_40 G) ?_
        refine z_iload (M := M_X12_share) 109 dX12_share_109 rfl ?_
        refine z_laldE (M := M_X12_share) 111 dX12_share_111 o_135 (by omega) (by omega) ex6 ?_
        refine z_lcmp (M := M_X12_share) 112 dX12_share_112 ?_
        refine z_if_gt (M := M_X12_share) 113 dX12_share_113 120 rfl (fun c8 => ?_) (fun c8 => ?_)
        · rw [m_cmp_gt] at c8
          refine z_iconst (M := M_X12_share) 120 dX12_share_120 ?_
          refine z_istore (M := M_X12_share) 121 dX12_share_121 (ls' := [some (mR 108), none, none, some (mR f2), some (mI a4), none, none, some (mI l7), some (mI l8), some (mI l9), some (mI 0), some (mI 0), some (mI l12)]) (by decide) rfl ?_
          refine z_iincN (M := M_X12_share) 123 dX12_share_123 (ls' := [some (mR 108), none, none, some (mR f2), some (mI a4), none, none, some (mI l7), some (mI l8), some (mI l9), some (mI 0), some (mI 0), some (mI (l12 + (-1)))]) (by decide) rfl (by (unfold m_32; decide)) (by omega) (by omega) rfl ?_
          refine z_goto (M := M_X12_share) 126 dX12_share_126 63 rfl ?_
          exact z_mask [true, false, false, true, true, false, false, true, true, true, true, true, true] rfl (ih.2 l7 l8 l9 0 0 (l12 + (-1)) h G R (by omega) (by omega) (by omega) (by omega) (by omega) (by omega) (by omega) (by omega) (by omega) (by omega) (by omega) (by omega) (by omega) (by omega) (by omega) (by omega))
        · rw [m_cmp_gt] at c8
          refine z_iconst (M := M_X12_share) 116 dX12_share_116 ?_
          refine z_goto (M := M_X12_share) 117 dX12_share_117 121 rfl ?_
          refine z_istore (M := M_X12_share) 121 dX12_share_121 (ls' := [some (mR 108), none, none, some (mR f2), some (mI a4), none, none, some (mI l7), some (mI l8), some (mI l9), some (mI 1), some (mI 0), some (mI l12)]) (by decide) rfl ?_
          refine z_iincN (M := M_X12_share) 123 dX12_share_123 (ls' := [some (mR 108), none, none, some (mR f2), some (mI a4), none, none, some (mI l7), some (mI l8), some (mI l9), some (mI 1), some (mI 0), some (mI (l12 + (-1)))]) (by decide) rfl (by (unfold m_32; decide)) (by omega) (by omega) rfl ?_
          refine z_goto (M := M_X12_share) 126 dX12_share_126 63 rfl ?_
          exact z_mask [true, false, false, true, true, false, false, true, true, true, true, true, true] rfl (ih.2 l7 l8 l9 1 0 (l12 + (-1)) h G R (by omega) (by omega) (by omega) (by omega) (by omega) (by omega) (by omega) (by omega) (by omega) (by omega) (by omega) (by omega) (by omega) (by omega) (by omega) (by omega))
      · rw [m_cmp_eq] at c7
        refine z_iconst (M := M_X12_share) 91 dX12_share_91 ?_
        refine z_goto (M := M_X12_share) 92 dX12_share_92 96 rfl ?_
        refine z_istore (M := M_X12_share) 96 dX12_share_96 (ls' := [some (mR 108), none, none, some (mR f2), some (mI a4), none, none, some (mI l7), some (mI l8), some (mI l9), some (mI l10), some (mI 1), some (mI l12)]) (by decide) rfl ?_
        refine z_aload_n (M := M_X12_share) 98 dX12_share_98 rfl ?_
        refine z_getR (M := M_X12_share) 99 dX12_share_99 f_X12_97 o_108 rfl (g_108_41 G) ?_
        refine z_iload (M := M_X12_share) 102 dX12_share_102 rfl ?_
        refine z_laldE (M := M_X12_share) 104 dX12_share_104 o_136 (by omega) (by omega) ex5 ?_
        refine z_aload_n (M := M_X12_share) 105 dX12_share_105 rfl ?_
        refine z_getR (M := M_X12_share) 106 dX12_share_106 f_X12_94 o_108 rfl (g_108_40 G) ?_
        refine z_iload (M := M_X12_share) 109 dX12_share_109 rfl ?_
        refine z_laldE (M := M_X12_share) 111 dX12_share_111 o_135 (by omega) (by omega) ex6 ?_
        refine z_lcmp (M := M_X12_share) 112 dX12_share_112 ?_
        refine z_if_gt (M := M_X12_share) 113 dX12_share_113 120 rfl (fun c9 => ?_) (fun c9 => ?_)
        · rw [m_cmp_gt] at c9
          refine z_iconst (M := M_X12_share) 120 dX12_share_120 ?_
          refine z_istore (M := M_X12_share) 121 dX12_share_121 (ls' := [some (mR 108), none, none, some (mR f2), some (mI a4), none, none, some (mI l7), some (mI l8), some (mI l9), some (mI 0), some (mI 1), some (mI l12)]) (by decide) rfl ?_
          refine z_iincN (M := M_X12_share) 123 dX12_share_123 (ls' := [some (mR 108), none, none, some (mR f2), some (mI a4), none, none, some (mI l7), some (mI l8), some (mI l9), some (mI 0), some (mI 1), some (mI (l12 + (-1)))]) (by decide) rfl (by (unfold m_32; decide)) (by omega) (by omega) rfl ?_
          refine z_goto (M := M_X12_share) 126 dX12_share_126 63 rfl ?_
          exact z_mask [true, false, false, true, true, false, false, true, true, true, true, true, true] rfl (ih.2 l7 l8 l9 0 1 (l12 + (-1)) h G R (by omega) (by omega) (by omega) (by omega) (by omega) (by omega) (by omega) (by omega) (by omega) (by omega) (by omega) (by omega) (by omega) (by omega) (by omega) (by omega))
        · rw [m_cmp_gt] at c9
          refine z_iconst (M := M_X12_share) 116 dX12_share_116 ?_
          refine z_goto (M := M_X12_share) 117 dX12_share_117 121 rfl ?_
          refine z_istore (M := M_X12_share) 121 dX12_share_121 (ls' := [some (mR 108), none, none, some (mR f2), some (mI a4), none, none, some (mI l7), some (mI l8), some (mI l9), some (mI 1), some (mI 1), some (mI l12)]) (by decide) rfl ?_
          refine z_iincN (M := M_X12_share) 123 dX12_share_123 (ls' := [some (mR 108), none, none, some (mR f2), some (mI a4), none, none, some (mI l7), some (mI l8), some (mI l9), some (mI 1), some (mI 1), some (mI (l12 + (-1)))]) (by decide) rfl (by (unfold m_32; decide)) (by omega) (by omega) rfl ?_
          refine z_goto (M := M_X12_share) 126 dX12_share_126 63 rfl ?_
          exact z_mask [true, false, false, true, true, false, false, true, true, true, true, true, true] rfl (ih.2 l7 l8 l9 1 1 (l12 + (-1)) h G R (by omega) (by omega) (by omega) (by omega) (by omega) (by omega) (by omega) (by omega) (by omega) (by omega) (by omega) (by omega) (by omega) (by omega) (by omega) (by omega))
theorem a_X12_share (h0 : m_H) (f : Nat) (f2 : Nat) (a2 a4 a5 a6 : Int) (w_f : f = 124 ∨ f = 125) (w_f2 : f2 = 124 ∨ f2 = 125) (G0 : GI h0) (pa2 : 0 ≤ a2 ∧ a2 ≤ 75) (pa4 : 0 ≤ a4 ∧ a4 ≤ 75) (pa6 : 0 ≤ a6 ∧ a6 ≤ 2000000000) : ∀ n, q_X12_share h0 f f2 a2 a4 a5 a6 n := by
  intro n
  induction n with
  | zero => unfold q_X12_share; refine ⟨?_, ?_⟩ <;> (intros; omega)
  | succ n ih => exact ⟨s_X12_share_19 h0 f f2 a2 a4 a5 a6 w_f w_f2 G0 pa2 pa4 pa6 n ih, s_X12_share_63 h0 f f2 a2 a4 a5 a6 w_f w_f2 G0 pa2 pa4 pa6 n ih⟩
set_option maxHeartbeats 4000000 in
set_option maxRecDepth 100000 in
theorem c_X12_share (h0 : m_H) (f : Nat) (f2 : Nat) (a2 a4 a5 a6 : Int) (w_f : f = 124 ∨ f = 125) (w_f2 : f2 = 124 ∨ f2 = 125) (G0 : GI h0) (pa2 : 0 ≤ a2 ∧ a2 ≤ 75) (pa4 : 0 ≤ a4 ∧ a4 ≤ 75) (pa6 : 0 ≤ a6 ∧ a6 ≤ 2000000000) : m_CI M_X12_share [mR 108, mR f, mI a2, mR f2, mI a4, mI a5, mI a6] h0 (P_X12_share h0 f f2 a2 a4 a5 a6) := by
  refine m_CI_of ⟨by decide, rfl, by simp [m_arg, m_isL, M_X12_share], ⟨rfl, rfl⟩, rfl, rfl⟩ (ls := [some (mR 108), some (mR f), some (mI a2), some (mR f2), some (mI a4), some (mI a5), some (mI a6), none, none, none, none, none, none]) rfl ?_
  have ih := a_X12_share h0 f f2 a2 a4 a5 a6 w_f w_f2 G0 pa2 pa4 pa6 50000000031
  refine z_ok (fun _ _ ok => ?_)
  have oa5 : m_32 a5 := ok 5 _ rfl
  unfold m_32 at oa5
  refine z_iconst (M := M_X12_share) 0 dX12_share_0 ?_
  refine z_istore (M := M_X12_share) 1 dX12_share_1 (ls' := [some (mR 108), some (mR f), some (mI a2), some (mR f2), some (mI a4), some (mI a5), some (mI a6), some (mI 0), none, none, none, none, none]) (by decide) rfl ?_
  refine z_iload (M := M_X12_share) 3 dX12_share_3 rfl ?_
  refine z_istore (M := M_X12_share) 5 dX12_share_5 (ls' := [some (mR 108), some (mR f), some (mI a2), some (mR f2), some (mI a4), some (mI a5), some (mI a6), some (mI 0), some (mI a6), none, none, none, none]) (by decide) rfl ?_
  refine z_aload_n (M := M_X12_share) 7 dX12_share_7 rfl ?_
  refine z_getR (M := M_X12_share) 8 dX12_share_8 f_X12_94 o_108 rfl (g_108_40 G0) ?_
  refine z_aload_n (M := M_X12_share) 11 dX12_share_11 rfl ?_
  refine z_iload_n (M := M_X12_share) 12 dX12_share_12 rfl ?_
  refine z_iload (M := M_X12_share) 13 dX12_share_13 rfl ?_
  refine z_i2l (M := M_X12_share) 15 dX12_share_15 ?_
  refine z_sV (M := M_X12_share) 16 dX12_share_16 t_X12_wide l_X12_387 (m_rr_of rfl) (rest := []) (c_X12_wide80 h0 135 f a2 a5 (Or.inl rfl) w_f G0 ⟨by omega, by omega⟩) rfl rfl (Nat.le_of_ble_eq_true rfl) ⟨rfl, rfl⟩ (fun h1 qx1 => ?_)
  obtain ⟨G1, S1⟩ := qx1
  have R1 := (FR.rf (cs := [135, 136]) (ss := []) (h := h0)).call S1 (by decide +kernel)
  exact z_mask [true, false, false, true, true, false, false, true, true, false, false, false, false] rfl (ih.1 0 a6 h1 G1 R1 (by omega) (by omega) (by omega) (by omega) (by omega) (by omega) (by omega) (by omega))
abbrev P_X12_besideTen (h0 : m_H) (t : Nat) (t2 : Nat) : Int → m_H → Prop := fun x h' => GI h' ∧ FR [] [] h0 h' ∧ (-1) ≤ x ∧ x ≤ 1
def q_X12_besideTen (h0 : m_H) (t : Nat) (t2 : Nat) (n : Nat) : Prop := (∀ (l2 : Int) (h : m_H), GI h → FR [] [] h0 h → (-1) ≤ l2 → l2 ≤ 9 → 2 * (l2 - (-1)) + (1) ≤ (n : Int) → m_Z oF M_X12_besideTen 3 [some (mR t), some (mR t2), some (mI l2)] [] h (m_QI (P_X12_besideTen h0 t t2)))
set_option maxHeartbeats 4000000 in
set_option maxRecDepth 100000 in
theorem s_X12_besideTen_3 (h0 : m_H) (t : Nat) (t2 : Nat) (w_t : t = 139 ∨ t = 140 ∨ t = 141) (w_t2 : t2 = 139 ∨ t2 = 140 ∨ t2 = 141) (G0 : GI h0) (n : Nat) (ih : q_X12_besideTen h0 t t2 n) : ∀ (l2 : Int) (h : m_H), GI h → FR [] [] h0 h → (-1) ≤ l2 → l2 ≤ 9 → 2 * (l2 - (-1)) + (1) ≤ ((n + 1 : Nat) : Int) → m_Z oF M_X12_besideTen 3 [some (mR t), some (mR t2), some (mI l2)] [] h (m_QI (P_X12_besideTen h0 t t2)) := by
  intro l2 h G R v0 v1 hr
  refine z_iload_n (M := M_X12_besideTen) 3 dX12_besideTen_3 rfl ?_
  refine z_if_lt (M := M_X12_besideTen) 4 dX12_besideTen_4 39 rfl (fun c1 => ?_) (fun c1 => ?_)
  · refine z_iconst (M := M_X12_besideTen) 39 dX12_besideTen_39 ?_
    exact z_retI (M := M_X12_besideTen) 40 dX12_besideTen_40 rfl ⟨G, R, by omega, by omega⟩
  · refine z_aload_n (M := M_X12_besideTen) 7 dX12_besideTen_7 rfl ?_
    refine z_iload_n (M := M_X12_besideTen) 8 dX12_besideTen_8 rfl ?_
    refine z_laldV (M := M_X12_besideTen) 9 dX12_besideTen_9 (oC_139_140_141 w_t) (by omega) (by omega) (fun x2 ex2 => ?_)
    refine z_aload_n (M := M_X12_besideTen) 10 dX12_besideTen_10 rfl ?_
    refine z_iload_n (M := M_X12_besideTen) 11 dX12_besideTen_11 rfl ?_
    refine z_laldV (M := M_X12_besideTen) 12 dX12_besideTen_12 (oC_139_140_141 w_t2) (by omega) (by omega) (fun x3 ex3 => ?_)
    refine z_lcmp (M := M_X12_besideTen) 13 dX12_besideTen_13 ?_
    refine z_if_eq (M := M_X12_besideTen) 14 dX12_besideTen_14 33 rfl (fun c4 => ?_) (fun c4 => ?_)
    · rw [m_cmp_eq] at c4
      refine z_iincN (M := M_X12_besideTen) 33 dX12_besideTen_33 (ls' := [some (mR t), some (mR t2), some (mI (l2 + (-1)))]) (by decide) rfl (by (unfold m_32; decide)) (by omega) (by omega) rfl ?_
      refine z_goto (M := M_X12_besideTen) 36 dX12_besideTen_36 3 rfl ?_
      exact z_mask [true, true, true] rfl (ih (l2 + (-1)) h G R (by omega) (by omega) (by omega))
    · rw [m_cmp_eq] at c4
      refine z_aload_n (M := M_X12_besideTen) 17 dX12_besideTen_17 rfl ?_
      refine z_iload_n (M := M_X12_besideTen) 18 dX12_besideTen_18 rfl ?_
      refine z_laldE (M := M_X12_besideTen) 19 dX12_besideTen_19 (oC_139_140_141 w_t) (by omega) (by omega) ex2 ?_
      refine z_aload_n (M := M_X12_besideTen) 20 dX12_besideTen_20 rfl ?_
      refine z_iload_n (M := M_X12_besideTen) 21 dX12_besideTen_21 rfl ?_
      refine z_laldE (M := M_X12_besideTen) 22 dX12_besideTen_22 (oC_139_140_141 w_t2) (by omega) (by omega) ex3 ?_
      refine z_lcmp (M := M_X12_besideTen) 23 dX12_besideTen_23 ?_
      refine z_if_ge (M := M_X12_besideTen) 24 dX12_besideTen_24 31 rfl (fun c5 => ?_) (fun c5 => ?_)
      · rw [m_cmp_ge] at c5
        refine z_iconst (M := M_X12_besideTen) 31 dX12_besideTen_31 ?_
        exact z_retI (M := M_X12_besideTen) 32 dX12_besideTen_32 rfl ⟨G, R, by omega, by omega⟩
      · rw [m_cmp_ge] at c5
        refine z_iconst (M := M_X12_besideTen) 27 dX12_besideTen_27 ?_
        refine z_goto (M := M_X12_besideTen) 28 dX12_besideTen_28 32 rfl ?_
        exact z_retI (M := M_X12_besideTen) 32 dX12_besideTen_32 rfl ⟨G, R, by omega, by omega⟩
theorem a_X12_besideTen (h0 : m_H) (t : Nat) (t2 : Nat) (w_t : t = 139 ∨ t = 140 ∨ t = 141) (w_t2 : t2 = 139 ∨ t2 = 140 ∨ t2 = 141) (G0 : GI h0) : ∀ n, q_X12_besideTen h0 t t2 n := by
  intro n
  induction n with
  | zero => unfold q_X12_besideTen; intros; omega
  | succ n ih => exact s_X12_besideTen_3 h0 t t2 w_t w_t2 G0 n ih
set_option maxHeartbeats 4000000 in
set_option maxRecDepth 100000 in
theorem c_X12_besideTen (h0 : m_H) (t : Nat) (t2 : Nat) (w_t : t = 139 ∨ t = 140 ∨ t = 141) (w_t2 : t2 = 139 ∨ t2 = 140 ∨ t2 = 141) (G0 : GI h0) : m_CI M_X12_besideTen [mR t, mR t2] h0 (P_X12_besideTen h0 t t2) := by
  refine m_CI_of ⟨by decide, rfl, by simp [m_arg, m_isL, M_X12_besideTen], ⟨rfl, rfl⟩, rfl, rfl⟩ (ls := [some (mR t), some (mR t2), none]) rfl ?_
  have ih := a_X12_besideTen h0 t t2 w_t w_t2 G0 28
  refine z_bipush (M := M_X12_besideTen) 0 dX12_besideTen_0 ?_
  refine z_istore_n (M := M_X12_besideTen) 2 dX12_besideTen_2 (ls' := [some (mR t), some (mR t2), some (mI 9)]) (by decide) rfl ?_
  exact z_mask [true, true, true] rfl (ih 9 h0 G0 (FR.rf (cs := []) (ss := []) (h := h0)) (by omega) (by omega) (by omega))
abbrev P_X12_copyTen (h0 : m_H) (t : Nat) : m_H → Prop := fun h' => GI h' ∧ FR [141] [] h0 h'
def q_X12_copyTen (h0 : m_H) (t : Nat) (n : Nat) : Prop := (∀ (l2 : Int) (h : m_H), GI h → FR [141] [] h0 h → 0 ≤ l2 → l2 ≤ 10 → 2 * (10 - l2) + (1) ≤ (n : Int) → m_Z oF M_X12_copyTen 2 [some (mR 108), some (mR t), some (mI l2)] [] h (m_QV (P_X12_copyTen h0 t)))
set_option maxHeartbeats 4000000 in
set_option maxRecDepth 100000 in
theorem s_X12_copyTen_2 (h0 : m_H) (t : Nat) (w_t : t = 139 ∨ t = 140 ∨ t = 141) (G0 : GI h0) (n : Nat) (ih : q_X12_copyTen h0 t n) : ∀ (l2 : Int) (h : m_H), GI h → FR [141] [] h0 h → 0 ≤ l2 → l2 ≤ 10 → 2 * (10 - l2) + (1) ≤ ((n + 1 : Nat) : Int) → m_Z oF M_X12_copyTen 2 [some (mR 108), some (mR t), some (mI l2)] [] h (m_QV (P_X12_copyTen h0 t)) := by
  intro l2 h G R v0 v1 hr
  refine z_iload_n (M := M_X12_copyTen) 2 dX12_copyTen_2 rfl ?_
  refine z_bipush (M := M_X12_copyTen) 3 dX12_copyTen_3 ?_
  refine z_icmp_ge (M := M_X12_copyTen) 5 dX12_copyTen_5 23 rfl (fun c1 => ?_) (fun c1 => ?_)
  · exact z_retV (M := M_X12_copyTen) 23 dX12_copyTen_23 rfl ⟨G, R⟩
  · refine z_aload_n (M := M_X12_copyTen) 8 dX12_copyTen_8 rfl ?_
    refine z_getR (M := M_X12_copyTen) 9 dX12_copyTen_9 f_X12_112 o_108 rfl (g_108_50 G) ?_
    refine z_iload_n (M := M_X12_copyTen) 12 dX12_copyTen_12 rfl ?_
    refine z_aload_n (M := M_X12_copyTen) 13 dX12_copyTen_13 rfl ?_
    refine z_iload_n (M := M_X12_copyTen) 14 dX12_copyTen_14 rfl ?_
    refine z_laldV (M := M_X12_copyTen) 15 dX12_copyTen_15 (oC_139_140_141 w_t) (by omega) (by omega) (fun x2 ex2 => ?_)
    refine z_lastH (M := M_X12_copyTen) 16 dX12_copyTen_16 o_141 (by omega) (by omega) (u_141 G) (R.up rfl) (fun h1 E1 G1 R1 => ?_)
    refine z_iincN (M := M_X12_copyTen) 17 dX12_copyTen_17 (ls' := [some (mR 108), some (mR t), some (mI (l2 + 1))]) (by decide) rfl (by (unfold m_32; decide)) (by omega) (by omega) rfl ?_
    refine z_goto (M := M_X12_copyTen) 20 dX12_copyTen_20 2 rfl ?_
    exact z_mask [true, true, true] rfl (ih (l2 + 1) h1 G1 R1 (by omega) (by omega) (by omega))
theorem a_X12_copyTen (h0 : m_H) (t : Nat) (w_t : t = 139 ∨ t = 140 ∨ t = 141) (G0 : GI h0) : ∀ n, q_X12_copyTen h0 t n := by
  intro n
  induction n with
  | zero => unfold q_X12_copyTen; intros; omega
  | succ n ih => exact s_X12_copyTen_2 h0 t w_t G0 n ih
set_option maxHeartbeats 4000000 in
set_option maxRecDepth 100000 in
theorem c_X12_copyTen (h0 : m_H) (t : Nat) (w_t : t = 139 ∨ t = 140 ∨ t = 141) (G0 : GI h0) : m_CV M_X12_copyTen [mR 108, mR t] h0 (P_X12_copyTen h0 t) := by
  refine m_CV_of ⟨by decide, rfl, by simp [m_arg, m_isL, M_X12_copyTen], ⟨rfl, rfl⟩, rfl, rfl⟩ (ls := [some (mR 108), some (mR t), none]) rfl ?_
  have ih := a_X12_copyTen h0 t w_t G0 28
  refine z_iconst (M := M_X12_copyTen) 0 dX12_copyTen_0 ?_
  refine z_istore_n (M := M_X12_copyTen) 1 dX12_copyTen_1 (ls' := [some (mR 108), some (mR t), some (mI 0)]) (by decide) rfl ?_
  exact z_mask [true, true, true] rfl (ih 0 h0 G0 (FR.rf (cs := [141]) (ss := []) (h := h0)) (by omega) (by omega) (by omega))
abbrev P_X12_multiply (h0 : m_H) (t : Nat) (a2 : Int) : m_H → Prop := fun h' => GI h' ∧ FR [142, t] [] h0 h'
def q_X12_multiply (h0 : m_H) (t : Nat) (a2 : Int) (n : Nat) : Prop := (∀ (l4 : Int) (h : m_H), GI h → FR [142, t] [] h0 h → 0 ≤ l4 → l4 ≤ 10 → 2 * (10 - l4) + (125) ≤ (n : Int) → m_Z oF M_X12_multiply 3 [some (mR 108), some (mR t), some (mJ a2), none, some (mI l4), none, none, none, none, none, none, none, none, none] [] h (m_QV (P_X12_multiply h0 t a2))) ∧ (∀ (l4 l6 : Int) (h : m_H), GI h → FR [142, t] [] h0 h → 0 ≤ l6 → l6 ≤ 3 → 25 * (3 - l6) + (47) ≤ (n : Int) → m_Z oF M_X12_multiply 30 [some (mR 108), some (mR t), none, none, some (mJ l4), none, some (mI l6), none, none, none, none, none, none, none] [] h (m_QV (P_X12_multiply h0 t a2))) ∧ (∀ (l4 l6 l7 l9 l11 : Int) (h : m_H), GI h → FR [142, t] [] h0 h → 0 ≤ l6 → l6 ≤ 2 → 0 ≤ l11 → l11 ≤ 10 → 25 * (3 - l6) + 2 * (10 - l11) + (1) + (23) ≤ (n : Int) → m_Z oF M_X12_multiply 50 [some (mR 108), some (mR t), none, none, some (mJ l4), none, some (mI l6), some (mJ l7), none, some (mJ l9), none, some (mI l11), none, none] [] h (m_QV (P_X12_multiply h0 t a2))) ∧ (∀ (l6 : Int) (h : m_H), GI h → FR [142, t] [] h0 h → 0 ≤ l6 → l6 ≤ 10 → 2 * (10 - l6) + (1) ≤ (n : Int) → m_Z oF M_X12_multiply 130 [some (mR 108), some (mR t), none, none, none, none, some (mI l6), none, none, none, none, none, none, none] [] h (m_QV (P_X12_multiply h0 t a2)))
set_option maxHeartbeats 4000000 in
set_option maxRecDepth 100000 in
theorem s_X12_multiply_3 (h0 : m_H) (t : Nat) (a2 : Int) (w_t : t = 139 ∨ t = 140 ∨ t = 141) (G0 : GI h0) (n : Nat) (ih : q_X12_multiply h0 t a2 n) : ∀ (l4 : Int) (h : m_H), GI h → FR [142, t] [] h0 h → 0 ≤ l4 → l4 ≤ 10 → 2 * (10 - l4) + (125) ≤ ((n + 1 : Nat) : Int) → m_Z oF M_X12_multiply 3 [some (mR 108), some (mR t), some (mJ a2), none, some (mI l4), none, none, none, none, none, none, none, none, none] [] h (m_QV (P_X12_multiply h0 t a2)) := by
  intro l4 h G R v0 v1 hr
  refine z_iload (M := M_X12_multiply) 3 dX12_multiply_3 rfl ?_
  refine z_bipush (M := M_X12_multiply) 5 dX12_multiply_5 ?_
  refine z_icmp_ge (M := M_X12_multiply) 7 dX12_multiply_7 24 rfl (fun c1 => ?_) (fun c1 => ?_)
  · refine z_lload_n (M := M_X12_multiply) 24 dX12_multiply_24 rfl ?_
    refine z_lstore (M := M_X12_multiply) 25 dX12_multiply_25 (ls' := [some (mR 108), some (mR t), some (mJ a2), none, some (mJ a2), none, none, none, none, none, none, none, none, none]) (by decide) rfl ?_
    refine z_iconst (M := M_X12_multiply) 27 dX12_multiply_27 ?_
    refine z_istore (M := M_X12_multiply) 28 dX12_multiply_28 (ls' := [some (mR 108), some (mR t), some (mJ a2), none, some (mJ a2), none, some (mI 0), none, none, none, none, none, none, none]) (by decide) rfl ?_
    exact z_mask [true, true, false, false, true, false, true, false, false, false, false, false, false, false] rfl (ih.2.1 a2 0 h G R (by omega) (by omega) (by omega))
  · refine z_aload_n (M := M_X12_multiply) 10 dX12_multiply_10 rfl ?_
    refine z_getR (M := M_X12_multiply) 11 dX12_multiply_11 f_X12_115 o_108 rfl (g_108_51 G) ?_
    refine z_iload (M := M_X12_multiply) 14 dX12_multiply_14 rfl ?_
    refine z_lconst (M := M_X12_multiply) 16 dX12_multiply_16 (v := 0) ?_
    refine z_lastH (M := M_X12_multiply) 17 dX12_multiply_17 o_142 (by omega) (by omega) (u_142 G) (R.up rfl) (fun h1 E1 G1 R1 => ?_)
    refine z_iincN (M := M_X12_multiply) 18 dX12_multiply_18 (ls' := [some (mR 108), some (mR t), some (mJ a2), none, some (mI (l4 + 1)), none, none, none, none, none, none, none, none, none]) (by decide) rfl (by (unfold m_32; decide)) (by omega) (by omega) rfl ?_
    refine z_goto (M := M_X12_multiply) 21 dX12_multiply_21 3 rfl ?_
    exact z_mask [true, true, true, false, true, false, false, false, false, false, false, false, false, false] rfl (ih.1 (l4 + 1) h1 G1 R1 (by omega) (by omega) (by omega))
set_option maxHeartbeats 4000000 in
set_option maxRecDepth 100000 in
theorem s_X12_multiply_30 (h0 : m_H) (t : Nat) (a2 : Int) (w_t : t = 139 ∨ t = 140 ∨ t = 141) (G0 : GI h0) (n : Nat) (ih : q_X12_multiply h0 t a2 n) : ∀ (l4 l6 : Int) (h : m_H), GI h → FR [142, t] [] h0 h → 0 ≤ l6 → l6 ≤ 3 → 25 * (3 - l6) + (47) ≤ ((n + 1 : Nat) : Int) → m_Z oF M_X12_multiply 30 [some (mR 108), some (mR t), none, none, some (mJ l4), none, some (mI l6), none, none, none, none, none, none, none] [] h (m_QV (P_X12_multiply h0 t a2)) := by
  intro l4 l6 h G R v0 v1 hr
  refine z_iload (M := M_X12_multiply) 30 dX12_multiply_30 rfl ?_
  refine z_iconst (M := M_X12_multiply) 32 dX12_multiply_32 ?_
  refine z_icmp_ge (M := M_X12_multiply) 33 dX12_multiply_33 127 rfl (fun c1 => ?_) (fun c1 => ?_)
  · refine z_iconst (M := M_X12_multiply) 127 dX12_multiply_127 ?_
    refine z_istore (M := M_X12_multiply) 128 dX12_multiply_128 (ls' := [some (mR 108), some (mR t), none, none, some (mJ l4), none, some (mI 0), none, none, none, none, none, none, none]) (by decide) rfl ?_
    exact z_mask [true, true, false, false, false, false, true, false, false, false, false, false, false, false] rfl (ih.2.2.2 0 h G R (by omega) (by omega) (by omega))
  · refine z_lload (M := M_X12_multiply) 36 dX12_multiply_36 rfl ?_
    refine z_ldc2 (M := M_X12_multiply) 38 dX12_multiply_38 k_X12_327 ?_
    refine z_lrem (M := M_X12_multiply) 41 dX12_multiply_41 (by omega) ?_
    refine z_topJ (fun x2 ex2 => ?_)
    refine z_lstore (M := M_X12_multiply) 42 dX12_multiply_42 (ls' := [some (mR 108), some (mR t), none, none, some (mJ l4), none, some (mI l6), some (mJ x2), none, none, none, none, none, none]) (by decide) rfl ?_
    refine z_lconst (M := M_X12_multiply) 44 dX12_multiply_44 (v := 0) ?_
    refine z_lstore (M := M_X12_multiply) 45 dX12_multiply_45 (ls' := [some (mR 108), some (mR t), none, none, some (mJ l4), none, some (mI l6), some (mJ x2), none, some (mJ 0), none, none, none, none]) (by decide) rfl ?_
    refine z_iconst (M := M_X12_multiply) 47 dX12_multiply_47 ?_
    refine z_istore (M := M_X12_multiply) 48 dX12_multiply_48 (ls' := [some (mR 108), some (mR t), none, none, some (mJ l4), none, some (mI l6), some (mJ x2), none, some (mJ 0), none, some (mI 0), none, none]) (by decide) rfl ?_
    exact z_mask [true, true, false, false, true, false, true, true, false, true, false, true, false, false] rfl (ih.2.2.1 l4 l6 x2 0 0 h G R (by omega) (by omega) (by omega) (by omega) (by omega))
set_option maxHeartbeats 4000000 in
set_option maxRecDepth 100000 in
theorem s_X12_multiply_50 (h0 : m_H) (t : Nat) (a2 : Int) (w_t : t = 139 ∨ t = 140 ∨ t = 141) (G0 : GI h0) (n : Nat) (ih : q_X12_multiply h0 t a2 n) : ∀ (l4 l6 l7 l9 l11 : Int) (h : m_H), GI h → FR [142, t] [] h0 h → 0 ≤ l6 → l6 ≤ 2 → 0 ≤ l11 → l11 ≤ 10 → 25 * (3 - l6) + 2 * (10 - l11) + (1) + (23) ≤ ((n + 1 : Nat) : Int) → m_Z oF M_X12_multiply 50 [some (mR 108), some (mR t), none, none, some (mJ l4), none, some (mI l6), some (mJ l7), none, some (mJ l9), none, some (mI l11), none, none] [] h (m_QV (P_X12_multiply h0 t a2)) := by
  intro l4 l6 l7 l9 l11 h G R v0 v1 v2 v3 hr
  refine z_iload (M := M_X12_multiply) 50 dX12_multiply_50 rfl ?_
  refine z_iload (M := M_X12_multiply) 52 dX12_multiply_52 rfl ?_
  refine z_iaddN (M := M_X12_multiply) 54 dX12_multiply_54 (by omega) (by omega) ?_
  refine z_bipush (M := M_X12_multiply) 55 dX12_multiply_55 ?_
  refine z_icmp_ge (M := M_X12_multiply) 57 dX12_multiply_57 113 rfl (fun c1 => ?_) (fun c1 => ?_)
  · refine z_lload (M := M_X12_multiply) 113 dX12_multiply_113 rfl ?_
    refine z_ldc2 (M := M_X12_multiply) 115 dX12_multiply_115 k_X12_327 ?_
    refine z_ldiv (M := M_X12_multiply) 118 dX12_multiply_118 (by omega) ?_
    refine z_topJ (fun x2 ex2 => ?_)
    refine z_lstore (M := M_X12_multiply) 119 dX12_multiply_119 (ls' := [some (mR 108), some (mR t), none, none, some (mJ x2), none, some (mI l6), some (mJ l7), none, some (mJ l9), none, some (mI l11), none, none]) (by decide) rfl ?_
    refine z_iincN (M := M_X12_multiply) 121 dX12_multiply_121 (ls' := [some (mR 108), some (mR t), none, none, some (mJ x2), none, some (mI (l6 + 1)), some (mJ l7), none, some (mJ l9), none, some (mI l11), none, none]) (by decide) rfl (by (unfold m_32; decide)) (by omega) (by omega) rfl ?_
    refine z_goto (M := M_X12_multiply) 124 dX12_multiply_124 30 rfl ?_
    exact z_mask [true, true, false, false, true, false, true, false, false, false, false, false, false, false] rfl (ih.2.1 x2 (l6 + 1) h G R (by omega) (by omega) (by omega))
  · refine z_aload_n (M := M_X12_multiply) 60 dX12_multiply_60 rfl ?_
    refine z_getR (M := M_X12_multiply) 61 dX12_multiply_61 f_X12_115 o_108 rfl (g_108_51 G) ?_
    refine z_iload (M := M_X12_multiply) 64 dX12_multiply_64 rfl ?_
    refine z_iload (M := M_X12_multiply) 66 dX12_multiply_66 rfl ?_
    refine z_iaddN (M := M_X12_multiply) 68 dX12_multiply_68 (by omega) (by omega) ?_
    refine z_laldV (M := M_X12_multiply) 69 dX12_multiply_69 o_142 (by omega) (by omega) (fun x3 ex3 => ?_)
    refine z_aload_n (M := M_X12_multiply) 70 dX12_multiply_70 rfl ?_
    refine z_iload (M := M_X12_multiply) 71 dX12_multiply_71 rfl ?_
    refine z_laldV (M := M_X12_multiply) 73 dX12_multiply_73 (oC_139_140_141 w_t) (by omega) (by omega) (fun x4 ex4 => ?_)
    refine z_lload (M := M_X12_multiply) 74 dX12_multiply_74 rfl ?_
    refine z_lmul (M := M_X12_multiply) 76 dX12_multiply_76 ?_
    refine z_topJ (fun x5 ex5 => ?_)
    refine z_ladd (M := M_X12_multiply) 77 dX12_multiply_77 ?_
    refine z_topJ (fun x6 ex6 => ?_)
    refine z_lload (M := M_X12_multiply) 78 dX12_multiply_78 rfl ?_
    refine z_ladd (M := M_X12_multiply) 80 dX12_multiply_80 ?_
    refine z_topJ (fun x7 ex7 => ?_)
    refine z_lstore (M := M_X12_multiply) 81 dX12_multiply_81 (ls' := [some (mR 108), some (mR t), none, none, some (mJ l4), none, some (mI l6), some (mJ l7), none, some (mJ l9), none, some (mI l11), some (mJ x7), none]) (by decide) rfl ?_
    refine z_aload_n (M := M_X12_multiply) 83 dX12_multiply_83 rfl ?_
    refine z_getR (M := M_X12_multiply) 84 dX12_multiply_84 f_X12_115 o_108 rfl (g_108_51 G) ?_
    refine z_iload (M := M_X12_multiply) 87 dX12_multiply_87 rfl ?_
    refine z_iload (M := M_X12_multiply) 89 dX12_multiply_89 rfl ?_
    refine z_iaddN (M := M_X12_multiply) 91 dX12_multiply_91 (by omega) (by omega) ?_
    refine z_lload (M := M_X12_multiply) 92 dX12_multiply_92 rfl ?_
    refine z_ldc2 (M := M_X12_multiply) 94 dX12_multiply_94 k_X12_327 ?_
    refine z_lrem (M := M_X12_multiply) 97 dX12_multiply_97 (by omega) ?_
    refine z_topJ (fun x8 ex8 => ?_)
    refine z_lastH (M := M_X12_multiply) 98 dX12_multiply_98 o_142 (by omega) (by omega) (u_142 G) (R.up rfl) (fun h1 E1 G1 R1 => ?_)
    refine z_lload (M := M_X12_multiply) 99 dX12_multiply_99 rfl ?_
    refine z_ldc2 (M := M_X12_multiply) 101 dX12_multiply_101 k_X12_327 ?_
    refine z_ldiv (M := M_X12_multiply) 104 dX12_multiply_104 (by omega) ?_
    refine z_topJ (fun x9 ex9 => ?_)
    refine z_lstore (M := M_X12_multiply) 105 dX12_multiply_105 (ls' := [some (mR 108), some (mR t), none, none, some (mJ l4), none, some (mI l6), some (mJ l7), none, some (mJ x9), none, some (mI l11), some (mJ x7), none]) (by decide) rfl ?_
    refine z_iincN (M := M_X12_multiply) 107 dX12_multiply_107 (ls' := [some (mR 108), some (mR t), none, none, some (mJ l4), none, some (mI l6), some (mJ l7), none, some (mJ x9), none, some (mI (l11 + 1)), some (mJ x7), none]) (by decide) rfl (by (unfold m_32; decide)) (by omega) (by omega) rfl ?_
    refine z_goto (M := M_X12_multiply) 110 dX12_multiply_110 50 rfl ?_
    exact z_mask [true, true, false, false, true, false, true, true, false, true, false, true, false, false] rfl (ih.2.2.1 l4 l6 l7 x9 (l11 + 1) h1 G1 R1 (by omega) (by omega) (by omega) (by omega) (by omega))
set_option maxHeartbeats 4000000 in
set_option maxRecDepth 100000 in
theorem s_X12_multiply_130 (h0 : m_H) (t : Nat) (a2 : Int) (w_t : t = 139 ∨ t = 140 ∨ t = 141) (G0 : GI h0) (n : Nat) (ih : q_X12_multiply h0 t a2 n) : ∀ (l6 : Int) (h : m_H), GI h → FR [142, t] [] h0 h → 0 ≤ l6 → l6 ≤ 10 → 2 * (10 - l6) + (1) ≤ ((n + 1 : Nat) : Int) → m_Z oF M_X12_multiply 130 [some (mR 108), some (mR t), none, none, none, none, some (mI l6), none, none, none, none, none, none, none] [] h (m_QV (P_X12_multiply h0 t a2)) := by
  intro l6 h G R v0 v1 hr
  refine z_iload (M := M_X12_multiply) 130 dX12_multiply_130 rfl ?_
  refine z_bipush (M := M_X12_multiply) 132 dX12_multiply_132 ?_
  refine z_icmp_ge (M := M_X12_multiply) 134 dX12_multiply_134 154 rfl (fun c1 => ?_) (fun c1 => ?_)
  · exact z_retV (M := M_X12_multiply) 154 dX12_multiply_154 rfl ⟨G, R⟩
  · refine z_aload_n (M := M_X12_multiply) 137 dX12_multiply_137 rfl ?_
    refine z_iload (M := M_X12_multiply) 138 dX12_multiply_138 rfl ?_
    refine z_aload_n (M := M_X12_multiply) 140 dX12_multiply_140 rfl ?_
    refine z_getR (M := M_X12_multiply) 141 dX12_multiply_141 f_X12_115 o_108 rfl (g_108_51 G) ?_
    refine z_iload (M := M_X12_multiply) 144 dX12_multiply_144 rfl ?_
    refine z_laldV (M := M_X12_multiply) 146 dX12_multiply_146 o_142 (by omega) (by omega) (fun x2 ex2 => ?_)
    refine z_lastH (M := M_X12_multiply) 147 dX12_multiply_147 (oC_139_140_141 w_t) (by omega) (by omega) (uC_139_140_141 w_t G) (R.up (by simp [fr])) (fun h1 E1 G1 R1 => ?_)
    refine z_iincN (M := M_X12_multiply) 148 dX12_multiply_148 (ls' := [some (mR 108), some (mR t), none, none, none, none, some (mI (l6 + 1)), none, none, none, none, none, none, none]) (by decide) rfl (by (unfold m_32; decide)) (by omega) (by omega) rfl ?_
    refine z_goto (M := M_X12_multiply) 151 dX12_multiply_151 130 rfl ?_
    exact z_mask [true, true, false, false, false, false, true, false, false, false, false, false, false, false] rfl (ih.2.2.2 (l6 + 1) h1 G1 R1 (by omega) (by omega) (by omega))
theorem a_X12_multiply (h0 : m_H) (t : Nat) (a2 : Int) (w_t : t = 139 ∨ t = 140 ∨ t = 141) (G0 : GI h0) : ∀ n, q_X12_multiply h0 t a2 n := by
  intro n
  induction n with
  | zero => unfold q_X12_multiply; refine ⟨?_, ?_, ?_, ?_⟩ <;> (intros; omega)
  | succ n ih => exact ⟨s_X12_multiply_3 h0 t a2 w_t G0 n ih, s_X12_multiply_30 h0 t a2 w_t G0 n ih, s_X12_multiply_50 h0 t a2 w_t G0 n ih, s_X12_multiply_130 h0 t a2 w_t G0 n ih⟩
set_option maxHeartbeats 4000000 in
set_option maxRecDepth 100000 in
theorem c_X12_multiply (h0 : m_H) (t : Nat) (a2 : Int) (w_t : t = 139 ∨ t = 140 ∨ t = 141) (G0 : GI h0) : m_CV M_X12_multiply [mR 108, mR t, mJ a2] h0 (P_X12_multiply h0 t a2) := by
  refine m_CV_of ⟨by decide, rfl, by simp [m_arg, m_isL, M_X12_multiply], ⟨rfl, rfl⟩, rfl, rfl⟩ (ls := [some (mR 108), some (mR t), some (mJ a2), none, none, none, none, none, none, none, none, none, none, none]) rfl ?_
  have ih := a_X12_multiply h0 t a2 w_t G0 152
  refine z_iconst (M := M_X12_multiply) 0 dX12_multiply_0 ?_
  refine z_istore (M := M_X12_multiply) 1 dX12_multiply_1 (ls' := [some (mR 108), some (mR t), some (mJ a2), none, some (mI 0), none, none, none, none, none, none, none, none, none]) (by decide) rfl ?_
  exact z_mask [true, true, true, false, true, false, false, false, false, false, false, false, false, false] rfl (ih.1 0 h0 G0 (FR.rf (cs := [142, t]) (ss := []) (h := h0)) (by omega) (by omega) (by omega))
abbrev P_X12_triple (h0 : m_H) (t : Nat) (a2 a3 a4 : Int) : m_H → Prop := fun h' => GI h' ∧ FR [142, t] [] h0 h'
def q_X12_triple (h0 : m_H) (t : Nat) (a2 a3 a4 : Int) (n : Nat) : Prop := (∀ (l8 : Int) (h : m_H), GI h → FR [142, t] [] h0 h → 0 ≤ l8 → l8 ≤ 10 → 2 * (10 - l8) + (1) ≤ (n : Int) → m_Z oF M_X12_triple 3 [some (mR 108), some (mR t), some (mJ a2), none, some (mJ a3), none, some (mJ a4), none, some (mI l8)] [] h (m_QV (P_X12_triple h0 t a2 a3 a4)))
set_option maxHeartbeats 4000000 in
set_option maxRecDepth 100000 in
theorem s_X12_triple_3 (h0 : m_H) (t : Nat) (a2 a3 a4 : Int) (w_t : t = 139 ∨ t = 140 ∨ t = 141) (G0 : GI h0) (n : Nat) (ih : q_X12_triple h0 t a2 a3 a4 n) : ∀ (l8 : Int) (h : m_H), GI h → FR [142, t] [] h0 h → 0 ≤ l8 → l8 ≤ 10 → 2 * (10 - l8) + (1) ≤ ((n + 1 : Nat) : Int) → m_Z oF M_X12_triple 3 [some (mR 108), some (mR t), some (mJ a2), none, some (mJ a3), none, some (mJ a4), none, some (mI l8)] [] h (m_QV (P_X12_triple h0 t a2 a3 a4)) := by
  intro l8 h G R v0 v1 hr
  refine z_iload (M := M_X12_triple) 3 dX12_triple_3 rfl ?_
  refine z_bipush (M := M_X12_triple) 5 dX12_triple_5 ?_
  refine z_icmp_ge (M := M_X12_triple) 7 dX12_triple_7 30 rfl (fun c1 => ?_) (fun c1 => ?_)
  · refine z_aload_n (M := M_X12_triple) 30 dX12_triple_30 rfl ?_
    refine z_aload_n (M := M_X12_triple) 31 dX12_triple_31 rfl ?_
    refine z_lload_n (M := M_X12_triple) 32 dX12_triple_32 rfl ?_
    refine z_vV (M := M_X12_triple) 33 dX12_triple_33 t_X12_multiply l_X12_447 (m_rr_of rfl) (rest := []) (c_X12_multiply h t a2 w_t G) o_108 rfl rfl rfl (Nat.le_of_ble_eq_true rfl) ⟨rfl, rfl⟩ (fun h1 qx2 => ?_)
    obtain ⟨G1, S1⟩ := qx2
    have R1 := R.call S1 (by simp [fsub, fr, csB])
    refine z_aload_n (M := M_X12_triple) 36 dX12_triple_36 rfl ?_
    refine z_aload_n (M := M_X12_triple) 37 dX12_triple_37 rfl ?_
    refine z_lload (M := M_X12_triple) 38 dX12_triple_38 rfl ?_
    refine z_vV (M := M_X12_triple) 40 dX12_triple_40 t_X12_multiply l_X12_447 (m_rr_of rfl) (rest := []) (c_X12_multiply h1 t a3 w_t G1) o_108 rfl rfl rfl (Nat.le_of_ble_eq_true rfl) ⟨rfl, rfl⟩ (fun h2 qx3 => ?_)
    obtain ⟨G2, S2⟩ := qx3
    have R2 := R1.call S2 (by simp [fsub, fr, csB])
    refine z_aload_n (M := M_X12_triple) 43 dX12_triple_43 rfl ?_
    refine z_aload_n (M := M_X12_triple) 44 dX12_triple_44 rfl ?_
    refine z_lload (M := M_X12_triple) 45 dX12_triple_45 rfl ?_
    refine z_vV (M := M_X12_triple) 47 dX12_triple_47 t_X12_multiply l_X12_447 (m_rr_of rfl) (rest := []) (c_X12_multiply h2 t a4 w_t G2) o_108 rfl rfl rfl (Nat.le_of_ble_eq_true rfl) ⟨rfl, rfl⟩ (fun h3 qx4 => ?_)
    obtain ⟨G3, S3⟩ := qx4
    have R3 := R2.call S3 (by simp [fsub, fr, csB])
    exact z_retV (M := M_X12_triple) 50 dX12_triple_50 rfl ⟨G3, R3⟩
  · refine z_aload_n (M := M_X12_triple) 10 dX12_triple_10 rfl ?_
    refine z_iload (M := M_X12_triple) 11 dX12_triple_11 rfl ?_
    refine z_iload (M := M_X12_triple) 13 dX12_triple_13 rfl ?_
    refine z_if_ne (M := M_X12_triple) 15 dX12_triple_15 22 rfl (fun c5 => ?_) (fun c5 => ?_)
    · refine z_lconst (M := M_X12_triple) 22 dX12_triple_22 (v := 0) ?_
      refine z_lastH (M := M_X12_triple) 23 dX12_triple_23 (oC_139_140_141 w_t) (by omega) (by omega) (uC_139_140_141 w_t G) (R.up (by simp [fr])) (fun h4 E4 G4 R4 => ?_)
      refine z_iincN (M := M_X12_triple) 24 dX12_triple_24 (ls' := [some (mR 108), some (mR t), some (mJ a2), none, some (mJ a3), none, some (mJ a4), none, some (mI (l8 + 1))]) (by decide) rfl (by (unfold m_32; decide)) (by omega) (by omega) rfl ?_
      refine z_goto (M := M_X12_triple) 27 dX12_triple_27 3 rfl ?_
      exact z_mask [true, true, true, false, true, false, true, false, true] rfl (ih (l8 + 1) h4 G4 R4 (by omega) (by omega) (by omega))
    · refine z_lconst (M := M_X12_triple) 18 dX12_triple_18 (v := 1) ?_
      refine z_goto (M := M_X12_triple) 19 dX12_triple_19 23 rfl ?_
      refine z_lastH (M := M_X12_triple) 23 dX12_triple_23 (oC_139_140_141 w_t) (by omega) (by omega) (uC_139_140_141 w_t G) (R.up (by simp [fr])) (fun h5 E5 G5 R5 => ?_)
      refine z_iincN (M := M_X12_triple) 24 dX12_triple_24 (ls' := [some (mR 108), some (mR t), some (mJ a2), none, some (mJ a3), none, some (mJ a4), none, some (mI (l8 + 1))]) (by decide) rfl (by (unfold m_32; decide)) (by omega) (by omega) rfl ?_
      refine z_goto (M := M_X12_triple) 27 dX12_triple_27 3 rfl ?_
      exact z_mask [true, true, true, false, true, false, true, false, true] rfl (ih (l8 + 1) h5 G5 R5 (by omega) (by omega) (by omega))
theorem a_X12_triple (h0 : m_H) (t : Nat) (a2 a3 a4 : Int) (w_t : t = 139 ∨ t = 140 ∨ t = 141) (G0 : GI h0) : ∀ n, q_X12_triple h0 t a2 a3 a4 n := by
  intro n
  induction n with
  | zero => unfold q_X12_triple; intros; omega
  | succ n ih => exact s_X12_triple_3 h0 t a2 a3 a4 w_t G0 n ih
set_option maxHeartbeats 4000000 in
set_option maxRecDepth 100000 in
theorem c_X12_triple (h0 : m_H) (t : Nat) (a2 a3 a4 : Int) (w_t : t = 139 ∨ t = 140 ∨ t = 141) (G0 : GI h0) : m_CV M_X12_triple [mR 108, mR t, mJ a2, mJ a3, mJ a4] h0 (P_X12_triple h0 t a2 a3 a4) := by
  refine m_CV_of ⟨by decide, rfl, by simp [m_arg, m_isL, M_X12_triple], ⟨rfl, rfl⟩, rfl, rfl⟩ (ls := [some (mR 108), some (mR t), some (mJ a2), none, some (mJ a3), none, some (mJ a4), none, none]) rfl ?_
  have ih := a_X12_triple h0 t a2 a3 a4 w_t G0 28
  refine z_iconst (M := M_X12_triple) 0 dX12_triple_0 ?_
  refine z_istore (M := M_X12_triple) 1 dX12_triple_1 (ls' := [some (mR 108), some (mR t), some (mJ a2), none, some (mJ a3), none, some (mJ a4), none, some (mI 0)]) (by decide) rfl ?_
  exact z_mask [true, true, true, false, true, false, true, false, true] rfl (ih 0 h0 G0 (FR.rf (cs := [142, t]) (ss := []) (h := h0)) (by omega) (by omega) (by omega))
abbrev P_X12_addFactor (h0 : m_H) : m_H → Prop := fun h' => GI h' ∧ FR [139] [] h0 h'
def q_X12_addFactor (h0 : m_H) (n : Nat) : Prop := (∀ (l1 l3 : Int) (h : m_H), GI h → FR [139] [] h0 h → 0 ≤ l3 → l3 ≤ 10 → 2 * (10 - l3) + (1) ≤ (n : Int) → m_Z oF M_X12_addFactor 4 [some (mR 108), some (mJ l1), none, some (mI l3), none, none] [] h (m_QV (P_X12_addFactor h0)))
set_option maxHeartbeats 4000000 in
set_option maxRecDepth 100000 in
theorem s_X12_addFactor_4 (h0 : m_H) (G0 : GI h0) (n : Nat) (ih : q_X12_addFactor h0 n) : ∀ (l1 l3 : Int) (h : m_H), GI h → FR [139] [] h0 h → 0 ≤ l3 → l3 ≤ 10 → 2 * (10 - l3) + (1) ≤ ((n + 1 : Nat) : Int) → m_Z oF M_X12_addFactor 4 [some (mR 108), some (mJ l1), none, some (mI l3), none, none] [] h (m_QV (P_X12_addFactor h0)) := by
  intro l1 l3 h G R v0 v1 hr
  refine z_iload_n (M := M_X12_addFactor) 4 dX12_addFactor_4 rfl ?_
  refine z_bipush (M := M_X12_addFactor) 5 dX12_addFactor_5 ?_
  refine z_icmp_ge (M := M_X12_addFactor) 7 dX12_addFactor_7 52 rfl (fun c1 => ?_) (fun c1 => ?_)
  · exact z_retV (M := M_X12_addFactor) 52 dX12_addFactor_52 rfl ⟨G, R⟩
  · refine z_aload_n (M := M_X12_addFactor) 10 dX12_addFactor_10 rfl ?_
    refine z_getR (M := M_X12_addFactor) 11 dX12_addFactor_11 f_X12_106 o_108 rfl (g_108_48 G) ?_
    refine z_iload_n (M := M_X12_addFactor) 14 dX12_addFactor_14 rfl ?_
    refine z_laldV (M := M_X12_addFactor) 15 dX12_addFactor_15 o_139 (by omega) (by omega) (fun x2 ex2 => ?_)
    refine z_aload_n (M := M_X12_addFactor) 16 dX12_addFactor_16 rfl ?_
    refine z_getR (M := M_X12_addFactor) 17 dX12_addFactor_17 f_X12_112 o_108 rfl (g_108_50 G) ?_
    refine z_iload_n (M := M_X12_addFactor) 20 dX12_addFactor_20 rfl ?_
    refine z_laldV (M := M_X12_addFactor) 21 dX12_addFactor_21 o_141 (by omega) (by omega) (fun x3 ex3 => ?_)
    refine z_ladd (M := M_X12_addFactor) 22 dX12_addFactor_22 ?_
    refine z_topJ (fun x4 ex4 => ?_)
    refine z_lload_n (M := M_X12_addFactor) 23 dX12_addFactor_23 rfl ?_
    refine z_ladd (M := M_X12_addFactor) 24 dX12_addFactor_24 ?_
    refine z_topJ (fun x5 ex5 => ?_)
    refine z_lstore (M := M_X12_addFactor) 25 dX12_addFactor_25 (ls' := [some (mR 108), some (mJ l1), none, some (mI l3), some (mJ x5), none]) (by decide) rfl ?_
    refine z_aload_n (M := M_X12_addFactor) 27 dX12_addFactor_27 rfl ?_
    refine z_getR (M := M_X12_addFactor) 28 dX12_addFactor_28 f_X12_106 o_108 rfl (g_108_48 G) ?_
    refine z_iload_n (M := M_X12_addFactor) 31 dX12_addFactor_31 rfl ?_
    refine z_lload (M := M_X12_addFactor) 32 dX12_addFactor_32 rfl ?_
    refine z_ldc2 (M := M_X12_addFactor) 34 dX12_addFactor_34 k_X12_327 ?_
    refine z_lrem (M := M_X12_addFactor) 37 dX12_addFactor_37 (by omega) ?_
    refine z_topJ (fun x6 ex6 => ?_)
    refine z_lastH (M := M_X12_addFactor) 38 dX12_addFactor_38 o_139 (by omega) (by omega) (u_139 G) (R.up rfl) (fun h1 E1 G1 R1 => ?_)
    refine z_lload (M := M_X12_addFactor) 39 dX12_addFactor_39 rfl ?_
    refine z_ldc2 (M := M_X12_addFactor) 41 dX12_addFactor_41 k_X12_327 ?_
    refine z_ldiv (M := M_X12_addFactor) 44 dX12_addFactor_44 (by omega) ?_
    refine z_topJ (fun x7 ex7 => ?_)
    refine z_lstore_n (M := M_X12_addFactor) 45 dX12_addFactor_45 (ls' := [some (mR 108), some (mJ x7), none, some (mI l3), some (mJ x5), none]) (by decide) rfl ?_
    refine z_iincN (M := M_X12_addFactor) 46 dX12_addFactor_46 (ls' := [some (mR 108), some (mJ x7), none, some (mI (l3 + 1)), some (mJ x5), none]) (by decide) rfl (by (unfold m_32; decide)) (by omega) (by omega) rfl ?_
    refine z_goto (M := M_X12_addFactor) 49 dX12_addFactor_49 4 rfl ?_
    exact z_mask [true, true, false, true, false, false] rfl (ih x7 (l3 + 1) h1 G1 R1 (by omega) (by omega) (by omega))
theorem a_X12_addFactor (h0 : m_H) (G0 : GI h0) : ∀ n, q_X12_addFactor h0 n := by
  intro n
  induction n with
  | zero => unfold q_X12_addFactor; intros; omega
  | succ n ih => exact s_X12_addFactor_4 h0 G0 n ih
set_option maxHeartbeats 4000000 in
set_option maxRecDepth 100000 in
theorem c_X12_addFactor (h0 : m_H) (G0 : GI h0) : m_CV M_X12_addFactor [mR 108] h0 (P_X12_addFactor h0) := by
  refine m_CV_of ⟨by decide, rfl, by simp [m_arg, m_isL, M_X12_addFactor], ⟨rfl, rfl⟩, rfl, rfl⟩ (ls := [some (mR 108), none, none, none, none, none]) rfl ?_
  have ih := a_X12_addFactor h0 G0 28
  refine z_lconst (M := M_X12_addFactor) 0 dX12_addFactor_0 (v := 0) ?_
  refine z_lstore_n (M := M_X12_addFactor) 1 dX12_addFactor_1 (ls' := [some (mR 108), some (mJ 0), none, none, none, none]) (by decide) rfl ?_
  refine z_iconst (M := M_X12_addFactor) 2 dX12_addFactor_2 ?_
  refine z_istore_n (M := M_X12_addFactor) 3 dX12_addFactor_3 (ls' := [some (mR 108), some (mJ 0), none, some (mI 0), none, none]) (by decide) rfl ?_
  exact z_mask [true, true, false, true, false, false] rfl (ih 0 0 h0 G0 (FR.rf (cs := [139]) (ss := []) (h := h0)) (by omega) (by omega) (by omega))
abbrev P_X12_often (h0 : m_H) (a1 a2 : Int) : Int → m_H → Prop := fun x h' => GI h' ∧ FR [141, 142] [] h0 h' ∧ (-1) ≤ x ∧ x ≤ 4000000
def q_X12_often (h0 : m_H) (a1 a2 : Int) (n : Nat) : Prop := (∀ (l3 l4 : Int) (h : m_H), GI h → FR [141, 142] [] h0 h → 0 ≤ l3 → l3 ≤ 4000001 → 0 ≤ l4 → l4 ≤ 4000001 → (l3 ≤ l4) → 2 * (l4 - l3) + (1) ≤ (n : Int) → m_Z oF M_X12_often 7 [some (mR 108), some (mI a1), some (mI a2), some (mI l3), some (mI l4), none] [] h (m_QI (P_X12_often h0 a1 a2)))
set_option maxHeartbeats 4000000 in
set_option maxRecDepth 100000 in
theorem s_X12_often_7 (h0 : m_H) (a1 a2 : Int) (G0 : GI h0) (pa1 : 0 ≤ a1 ∧ a1 ≤ 4000000) (pa2 : 0 ≤ a2 ∧ a2 ≤ 1) (n : Nat) (ih : q_X12_often h0 a1 a2 n) : ∀ (l3 l4 : Int) (h : m_H), GI h → FR [141, 142] [] h0 h → 0 ≤ l3 → l3 ≤ 4000001 → 0 ≤ l4 → l4 ≤ 4000001 → (l3 ≤ l4) → 2 * (l4 - l3) + (1) ≤ ((n + 1 : Nat) : Int) → m_Z oF M_X12_often 7 [some (mR 108), some (mI a1), some (mI a2), some (mI l3), some (mI l4), none] [] h (m_QI (P_X12_often h0 a1 a2)) := by
  intro l3 l4 h G R v0 v1 v2 v3 i0 hr
  refine z_iload_n (M := M_X12_often) 7 dX12_often_7 rfl ?_
  refine z_iload (M := M_X12_often) 8 dX12_often_8 rfl ?_
  refine z_icmp_ge (M := M_X12_often) 10 dX12_often_10 71 rfl (fun c1 => ?_) (fun c1 => ?_)
  · refine z_aload_n (M := M_X12_often) 71 dX12_often_71 rfl ?_
    refine z_aload_n (M := M_X12_often) 72 dX12_often_72 rfl ?_
    refine z_getR (M := M_X12_often) 73 dX12_often_73 f_X12_109 o_108 rfl (g_108_49 G) ?_
    refine z_vV (M := M_X12_often) 76 dX12_often_76 t_X12_copyTen l_X12_451 (m_rr_of rfl) (rest := []) (c_X12_copyTen h 140 (Or.inr (Or.inl rfl)) G) o_108 rfl rfl rfl (Nat.le_of_ble_eq_true rfl) ⟨rfl, rfl⟩ (fun h1 qx2 => ?_)
    obtain ⟨G1, S1⟩ := qx2
    have R1 := R.call S1 (by decide +kernel)
    refine z_aload_n (M := M_X12_often) 79 dX12_often_79 rfl ?_
    refine z_aload_n (M := M_X12_often) 80 dX12_often_80 rfl ?_
    refine z_getR (M := M_X12_often) 81 dX12_often_81 f_X12_112 o_108 rfl (g_108_50 G1) ?_
    refine z_iload_n (M := M_X12_often) 84 dX12_often_84 rfl ?_
    refine z_i2l (M := M_X12_often) 85 dX12_often_85 ?_
    refine z_vV (M := M_X12_often) 86 dX12_often_86 t_X12_multiply l_X12_447 (m_rr_of rfl) (rest := []) (c_X12_multiply h1 141 l3 (Or.inr (Or.inr rfl)) G1) o_108 rfl rfl rfl (Nat.le_of_ble_eq_true rfl) ⟨rfl, rfl⟩ (fun h2 qx3 => ?_)
    obtain ⟨G2, S2⟩ := qx3
    have R2 := R1.call S2 (by decide +kernel)
    refine z_iload_n (M := M_X12_often) 89 dX12_often_89 rfl ?_
    refine z_iload_n (M := M_X12_often) 90 dX12_often_90 rfl ?_
    refine z_if_ne (M := M_X12_often) 91 dX12_often_91 112 rfl (fun c4 => ?_) (fun c4 => ?_)
    · refine z_iconst (M := M_X12_often) 112 dX12_often_112 ?_
      refine z_isubN (M := M_X12_often) 113 dX12_often_113 (by omega) (by omega) ?_
      refine z_istore_n (M := M_X12_often) 114 dX12_often_114 (ls' := [some (mR 108), some (mI a1), some (mI a2), some (mI (l3 - 0)), some (mI l4), none]) (by decide) rfl ?_
      refine z_iload_n (M := M_X12_often) 115 dX12_often_115 rfl ?_
      refine z_iload_n (M := M_X12_often) 116 dX12_often_116 rfl ?_
      refine z_icmp_le (M := M_X12_often) 117 dX12_often_117 124 rfl (fun c5 => ?_) (fun c5 => ?_)
      · refine z_iload_n (M := M_X12_often) 124 dX12_often_124 rfl ?_
        exact z_retI (M := M_X12_often) 125 dX12_often_125 rfl ⟨G2, R2, by omega, by omega⟩
      · refine z_iload_n (M := M_X12_often) 120 dX12_often_120 rfl ?_
        refine z_goto (M := M_X12_often) 121 dX12_often_121 125 rfl ?_
        exact z_retI (M := M_X12_often) 125 dX12_often_125 rfl ⟨G2, R2, by omega, by omega⟩
    · refine z_aload_n (M := M_X12_often) 94 dX12_often_94 rfl ?_
      refine z_getR (M := M_X12_often) 95 dX12_often_95 f_X12_112 o_108 rfl (g_108_50 G2) ?_
      refine z_aload_n (M := M_X12_often) 98 dX12_often_98 rfl ?_
      refine z_getR (M := M_X12_often) 99 dX12_often_99 f_X12_106 o_108 rfl (g_108_48 G2) ?_
      refine z_sI (M := M_X12_often) 102 dX12_often_102 t_X12_besideTen l_X12_455 (m_rr_of rfl) (rest := [mI l3]) (c_X12_besideTen h2 141 139 (Or.inr (Or.inr rfl)) (Or.inl rfl) G2) rfl rfl (Nat.le_of_ble_eq_true rfl) ⟨rfl, rfl⟩ (fun x6 h3 qx6 => ?_)
      obtain ⟨G3, S3, ax6, bx6⟩ := qx6
      have R3 := R2.call S3 (by decide +kernel)
      refine z_if_ne (M := M_X12_often) 105 dX12_often_105 112 rfl (fun c7 => ?_) (fun c7 => ?_)
      · refine z_iconst (M := M_X12_often) 112 dX12_often_112 ?_
        refine z_isubN (M := M_X12_often) 113 dX12_often_113 (by omega) (by omega) ?_
        refine z_istore_n (M := M_X12_often) 114 dX12_often_114 (ls' := [some (mR 108), some (mI a1), some (mI a2), some (mI (l3 - 0)), some (mI l4), none]) (by decide) rfl ?_
        refine z_iload_n (M := M_X12_often) 115 dX12_often_115 rfl ?_
        refine z_iload_n (M := M_X12_often) 116 dX12_often_116 rfl ?_
        refine z_icmp_le (M := M_X12_often) 117 dX12_often_117 124 rfl (fun c8 => ?_) (fun c8 => ?_)
        · refine z_iload_n (M := M_X12_often) 124 dX12_often_124 rfl ?_
          exact z_retI (M := M_X12_often) 125 dX12_often_125 rfl ⟨G3, R3, by omega, by omega⟩
        · refine z_iload_n (M := M_X12_often) 120 dX12_often_120 rfl ?_
          refine z_goto (M := M_X12_often) 121 dX12_often_121 125 rfl ?_
          exact z_retI (M := M_X12_often) 125 dX12_often_125 rfl ⟨G3, R3, by omega, by omega⟩
      · refine z_iconst (M := M_X12_often) 108 dX12_often_108 ?_
        refine z_goto (M := M_X12_often) 109 dX12_often_109 113 rfl ?_
        refine z_isubN (M := M_X12_often) 113 dX12_often_113 (by omega) (by omega) ?_
        refine z_istore_n (M := M_X12_often) 114 dX12_often_114 (ls' := [some (mR 108), some (mI a1), some (mI a2), some (mI (l3 - 1)), some (mI l4), none]) (by decide) rfl ?_
        refine z_iload_n (M := M_X12_often) 115 dX12_often_115 rfl ?_
        refine z_iload_n (M := M_X12_often) 116 dX12_often_116 rfl ?_
        refine z_icmp_le (M := M_X12_often) 117 dX12_often_117 124 rfl (fun c9 => ?_) (fun c9 => ?_)
        · refine z_iload_n (M := M_X12_often) 124 dX12_often_124 rfl ?_
          exact z_retI (M := M_X12_often) 125 dX12_often_125 rfl ⟨G3, R3, by omega, by omega⟩
        · refine z_iload_n (M := M_X12_often) 120 dX12_often_120 rfl ?_
          refine z_goto (M := M_X12_often) 121 dX12_often_121 125 rfl ?_
          exact z_retI (M := M_X12_often) 125 dX12_often_125 rfl ⟨G3, R3, by omega, by omega⟩
  · refine z_iload_n (M := M_X12_often) 13 dX12_often_13 rfl ?_
    refine z_iload (M := M_X12_often) 14 dX12_often_14 rfl ?_
    refine z_iaddN (M := M_X12_often) 16 dX12_often_16 (by omega) (by omega) ?_
    refine z_iconst (M := M_X12_often) 17 dX12_often_17 ?_
    refine z_iaddN (M := M_X12_often) 18 dX12_often_18 (by omega) (by omega) ?_
    refine z_iconst (M := M_X12_often) 19 dX12_often_19 ?_
    refine z_idivN (M := M_X12_often) 20 dX12_often_20 (by omega) (by omega) ?_
    refine z_topBI (lo := 1) (hi := 4000001) ⟨by omega, by omega⟩ (fun x10 ex10 ax10 bx10 => ?_)
    refine z_istore (M := M_X12_often) 21 dX12_often_21 (ls' := [some (mR 108), some (mI a1), some (mI a2), some (mI l3), some (mI l4), some (mI x10)]) (by decide) rfl ?_
    refine z_aload_n (M := M_X12_often) 23 dX12_often_23 rfl ?_
    refine z_aload_n (M := M_X12_often) 24 dX12_often_24 rfl ?_
    refine z_getR (M := M_X12_often) 25 dX12_often_25 f_X12_109 o_108 rfl (g_108_49 G) ?_
    refine z_vV (M := M_X12_often) 28 dX12_often_28 t_X12_copyTen l_X12_451 (m_rr_of rfl) (rest := []) (c_X12_copyTen h 140 (Or.inr (Or.inl rfl)) G) o_108 rfl rfl rfl (Nat.le_of_ble_eq_true rfl) ⟨rfl, rfl⟩ (fun h4 qx11 => ?_)
    obtain ⟨G4, S4⟩ := qx11
    have R4 := R.call S4 (by decide +kernel)
    refine z_aload_n (M := M_X12_often) 31 dX12_often_31 rfl ?_
    refine z_aload_n (M := M_X12_often) 32 dX12_often_32 rfl ?_
    refine z_getR (M := M_X12_often) 33 dX12_often_33 f_X12_112 o_108 rfl (g_108_50 G4) ?_
    refine z_iload (M := M_X12_often) 36 dX12_often_36 rfl ?_
    refine z_i2l (M := M_X12_often) 38 dX12_often_38 ?_
    refine z_vV (M := M_X12_often) 39 dX12_often_39 t_X12_multiply l_X12_447 (m_rr_of rfl) (rest := []) (c_X12_multiply h4 141 x10 (Or.inr (Or.inr rfl)) G4) o_108 rfl rfl rfl (Nat.le_of_ble_eq_true rfl) ⟨rfl, rfl⟩ (fun h5 qx12 => ?_)
    obtain ⟨G5, S5⟩ := qx12
    have R5 := R4.call S5 (by decide +kernel)
    refine z_aload_n (M := M_X12_often) 42 dX12_often_42 rfl ?_
    refine z_getR (M := M_X12_often) 43 dX12_often_43 f_X12_112 o_108 rfl (g_108_50 G5) ?_
    refine z_aload_n (M := M_X12_often) 46 dX12_often_46 rfl ?_
    refine z_getR (M := M_X12_often) 47 dX12_often_47 f_X12_106 o_108 rfl (g_108_48 G5) ?_
    refine z_sI (M := M_X12_often) 50 dX12_often_50 t_X12_besideTen l_X12_455 (m_rr_of rfl) (rest := []) (c_X12_besideTen h5 141 139 (Or.inr (Or.inr rfl)) (Or.inl rfl) G5) rfl rfl (Nat.le_of_ble_eq_true rfl) ⟨rfl, rfl⟩ (fun x13 h6 qx13 => ?_)
    obtain ⟨G6, S6, ax13, bx13⟩ := qx13
    have R6 := R5.call S6 (by decide +kernel)
    refine z_if_gt (M := M_X12_often) 53 dX12_often_53 62 rfl (fun c14 => ?_) (fun c14 => ?_)
    · refine z_iload (M := M_X12_often) 62 dX12_often_62 rfl ?_
      refine z_iconst (M := M_X12_often) 64 dX12_often_64 ?_
      refine z_isubN (M := M_X12_often) 65 dX12_often_65 (by omega) (by omega) ?_
      refine z_istore (M := M_X12_often) 66 dX12_often_66 (ls' := [some (mR 108), some (mI a1), some (mI a2), some (mI l3), some (mI (x10 - 1)), some (mI x10)]) (by decide) rfl ?_
      refine z_goto (M := M_X12_often) 68 dX12_often_68 7 rfl ?_
      exact z_mask [true, true, true, true, true, false] rfl (ih l3 (x10 - 1) h6 G6 R6 (by omega) (by omega) (by omega) (by omega) (by omega) (by omega))
    · refine z_iload (M := M_X12_often) 56 dX12_often_56 rfl ?_
      refine z_istore_n (M := M_X12_often) 58 dX12_often_58 (ls' := [some (mR 108), some (mI a1), some (mI a2), some (mI x10), some (mI l4), some (mI x10)]) (by decide) rfl ?_
      refine z_goto (M := M_X12_often) 59 dX12_often_59 68 rfl ?_
      refine z_goto (M := M_X12_often) 68 dX12_often_68 7 rfl ?_
      exact z_mask [true, true, true, true, true, false] rfl (ih x10 l4 h6 G6 R6 (by omega) (by omega) (by omega) (by omega) (by omega) (by omega))
theorem a_X12_often (h0 : m_H) (a1 a2 : Int) (G0 : GI h0) (pa1 : 0 ≤ a1 ∧ a1 ≤ 4000000) (pa2 : 0 ≤ a2 ∧ a2 ≤ 1) : ∀ n, q_X12_often h0 a1 a2 n := by
  intro n
  induction n with
  | zero => unfold q_X12_often; intros; omega
  | succ n ih => exact s_X12_often_7 h0 a1 a2 G0 pa1 pa2 n ih
set_option maxHeartbeats 4000000 in
set_option maxRecDepth 100000 in
theorem c_X12_often (h0 : m_H) (a1 a2 : Int) (G0 : GI h0) (pa1 : 0 ≤ a1 ∧ a1 ≤ 4000000) (pa2 : 0 ≤ a2 ∧ a2 ≤ 1) : m_CI M_X12_often [mR 108, mI a1, mI a2] h0 (P_X12_often h0 a1 a2) := by
  refine m_CI_of ⟨by decide, rfl, by simp [m_arg, m_isL, M_X12_often], ⟨rfl, rfl⟩, rfl, rfl⟩ (ls := [some (mR 108), some (mI a1), some (mI a2), none, none, none]) rfl ?_
  have ih := a_X12_often h0 a1 a2 G0 pa1 pa2 8000010
  refine z_iconst (M := M_X12_often) 0 dX12_often_0 ?_
  refine z_istore_n (M := M_X12_often) 1 dX12_often_1 (ls' := [some (mR 108), some (mI a1), some (mI a2), some (mI 0), none, none]) (by decide) rfl ?_
  refine z_iload_n (M := M_X12_often) 2 dX12_often_2 rfl ?_
  refine z_iconst (M := M_X12_often) 3 dX12_often_3 ?_
  refine z_iaddN (M := M_X12_often) 4 dX12_often_4 (by omega) (by omega) ?_
  refine z_istore (M := M_X12_often) 5 dX12_often_5 (ls' := [some (mR 108), some (mI a1), some (mI a2), some (mI 0), some (mI (a1 + 1)), none]) (by decide) rfl ?_
  exact z_mask [true, true, true, true, true, false] rfl (ih 0 (a1 + 1) h0 G0 (FR.rf (cs := [141, 142]) (ss := []) (h := h0)) (by omega) (by omega) (by omega) (by omega) (by omega) (by omega))
abbrev P_X12_beside (h0 : m_H) (a1 a2 a3 : Int) : Int → m_H → Prop := fun x h' => GI h' ∧ FR [135, 136] [] h0 h' ∧ (-1) ≤ x ∧ x ≤ 1
def q_X12_beside (h0 : m_H) (a1 a2 a3 : Int) (n : Nat) : Prop := (∀ (l4 : Int) (h : m_H), GI h → FR [135, 136] [] h0 h → (-1) ≤ l4 → l4 ≤ 9 → (-2147483648) ≤ a2 → a2 ≤ 2147483647 → (-2147483648) ≤ a3 → a3 ≤ 2147483647 → 2 * (l4 - (-1)) + (1) ≤ (n : Int) → m_Z oF M_X12_beside 34 [some (mR 108), none, none, none, some (mI l4)] [] h (m_QI (P_X12_beside h0 a1 a2 a3)))
set_option maxHeartbeats 4000000 in
set_option maxRecDepth 100000 in
theorem s_X12_beside_34 (h0 : m_H) (a1 a2 a3 : Int) (G0 : GI h0) (pa1 : 0 ≤ a1 ∧ a1 ≤ 10) (n : Nat) (ih : q_X12_beside h0 a1 a2 a3 n) : ∀ (l4 : Int) (h : m_H), GI h → FR [135, 136] [] h0 h → (-1) ≤ l4 → l4 ≤ 9 → (-2147483648) ≤ a2 → a2 ≤ 2147483647 → (-2147483648) ≤ a3 → a3 ≤ 2147483647 → 2 * (l4 - (-1)) + (1) ≤ ((n + 1 : Nat) : Int) → m_Z oF M_X12_beside 34 [some (mR 108), none, none, none, some (mI l4)] [] h (m_QI (P_X12_beside h0 a1 a2 a3)) := by
  intro l4 h G R v0 v1 v2 v3 v4 v5 hr
  refine z_iload (M := M_X12_beside) 34 dX12_beside_34 rfl ?_
  refine z_if_lt (M := M_X12_beside) 36 dX12_beside_36 87 rfl (fun c1 => ?_) (fun c1 => ?_)
  · refine z_iconst (M := M_X12_beside) 87 dX12_beside_87 ?_
    exact z_retI (M := M_X12_beside) 88 dX12_beside_88 rfl ⟨G, R, by omega, by omega⟩
  · refine z_aload_n (M := M_X12_beside) 39 dX12_beside_39 rfl ?_
    refine z_getR (M := M_X12_beside) 40 dX12_beside_40 f_X12_94 o_108 rfl (g_108_40 G) ?_
    refine z_iload (M := M_X12_beside) 43 dX12_beside_43 rfl ?_
    refine z_laldV (M := M_X12_beside) 45 dX12_beside_45 o_135 (by omega) (by omega) (fun x2 ex2 => ?_)
    refine z_aload_n (M := M_X12_beside) 46 dX12_beside_46 rfl ?_
    refine z_getR (M := M_X12_beside) 47 dX12_beside_47 f_X12_97 o_108 rfl (g_108_41 G) ?_
    refine z_iload (M := M_X12_beside) 50 dX12_beside_50 rfl ?_
    refine z_laldV (M := M_X12_beside) 52 dX12_beside_52 o_136 (by omega) (by omega) (fun x3 ex3 => ?_)
    refine z_lcmp (M := M_X12_beside) 53 dX12_beside_53 ?_
    refine z_if_eq (M := M_X12_beside) 54 dX12_beside_54 81 rfl (fun c4 => ?_) (fun c4 => ?_)
    · rw [m_cmp_eq] at c4
      refine z_iincN (M := M_X12_beside) 81 dX12_beside_81 (ls' := [some (mR 108), none, none, none, some (mI (l4 + (-1)))]) (by decide) rfl (by (unfold m_32; decide)) (by omega) (by omega) rfl ?_
      refine z_goto (M := M_X12_beside) 84 dX12_beside_84 34 rfl ?_
      exact z_mask [true, false, false, false, true] rfl (ih (l4 + (-1)) h G R (by omega) (by omega) (by omega) (by omega) (by omega) (by omega) (by omega))
    · rw [m_cmp_eq] at c4
      refine z_aload_n (M := M_X12_beside) 57 dX12_beside_57 rfl ?_
      refine z_getR (M := M_X12_beside) 58 dX12_beside_58 f_X12_94 o_108 rfl (g_108_40 G) ?_
      refine z_iload (M := M_X12_beside) 61 dX12_beside_61 rfl ?_
      refine z_laldE (M := M_X12_beside) 63 dX12_beside_63 o_135 (by omega) (by omega) ex2 ?_
      refine z_aload_n (M := M_X12_beside) 64 dX12_beside_64 rfl ?_
      refine z_getR (M := M_X12_beside) 65 dX12_beside_65 f_X12_97 o_108 rfl (g_108_41 G) ?_
      refine z_iload (M := M_X12_beside) 68 dX12_beside_68 rfl ?_
      refine z_laldE (M := M_X12_beside) 70 dX12_beside_70 o_136 (by omega) (by omega) ex3 ?_
      refine z_lcmp (M := M_X12_beside) 71 dX12_beside_71 ?_
      refine z_if_ge (M := M_X12_beside) 72 dX12_beside_72 79 rfl (fun c5 => ?_) (fun c5 => ?_)
      · rw [m_cmp_ge] at c5
        refine z_iconst (M := M_X12_beside) 79 dX12_beside_79 ?_
        exact z_retI (M := M_X12_beside) 80 dX12_beside_80 rfl ⟨G, R, by omega, by omega⟩
      · rw [m_cmp_ge] at c5
        refine z_iconst (M := M_X12_beside) 75 dX12_beside_75 ?_
        refine z_goto (M := M_X12_beside) 76 dX12_beside_76 80 rfl ?_
        exact z_retI (M := M_X12_beside) 80 dX12_beside_80 rfl ⟨G, R, by omega, by omega⟩
theorem a_X12_beside (h0 : m_H) (a1 a2 a3 : Int) (G0 : GI h0) (pa1 : 0 ≤ a1 ∧ a1 ≤ 10) : ∀ n, q_X12_beside h0 a1 a2 a3 n := by
  intro n
  induction n with
  | zero => unfold q_X12_beside; intros; omega
  | succ n ih => exact s_X12_beside_34 h0 a1 a2 a3 G0 pa1 n ih
set_option maxHeartbeats 4000000 in
set_option maxRecDepth 100000 in
theorem c_X12_beside (h0 : m_H) (a1 a2 a3 : Int) (G0 : GI h0) (pa1 : 0 ≤ a1 ∧ a1 ≤ 10) : m_CI M_X12_beside [mR 108, mI a1, mI a2, mI a3] h0 (P_X12_beside h0 a1 a2 a3) := by
  refine m_CI_of ⟨by decide, rfl, by simp [m_arg, m_isL, M_X12_beside], ⟨rfl, rfl⟩, rfl, rfl⟩ (ls := [some (mR 108), some (mI a1), some (mI a2), some (mI a3), none]) rfl ?_
  have ih := a_X12_beside h0 a1 a2 a3 G0 pa1 28
  refine z_ok (fun _ _ ok => ?_)
  have oa2 : m_32 a2 := ok 2 _ rfl
  unfold m_32 at oa2
  have oa3 : m_32 a3 := ok 3 _ rfl
  unfold m_32 at oa3
  refine z_aload_n (M := M_X12_beside) 0 dX12_beside_0 rfl ?_
  refine z_getR (M := M_X12_beside) 1 dX12_beside_1 f_X12_94 o_108 rfl (g_108_40 G0) ?_
  refine z_aload_n (M := M_X12_beside) 4 dX12_beside_4 rfl ?_
  refine z_getR (M := M_X12_beside) 5 dX12_beside_5 f_X12_103 o_108 rfl (g_108_43 G0) ?_
  refine z_iload_n (M := M_X12_beside) 8 dX12_beside_8 rfl ?_
  refine z_iload_n (M := M_X12_beside) 9 dX12_beside_9 rfl ?_
  refine z_i2l (M := M_X12_beside) 10 dX12_beside_10 ?_
  refine z_sV (M := M_X12_beside) 11 dX12_beside_11 t_X12_wide l_X12_387 (m_rr_of rfl) (rest := []) (c_X12_wide20 h0 135 138 a1 a3 (Or.inl rfl) rfl G0 ⟨by omega, by omega⟩) rfl rfl (Nat.le_of_ble_eq_true rfl) ⟨rfl, rfl⟩ (fun h1 qx1 => ?_)
  obtain ⟨G1, S1⟩ := qx1
  have R1 := (FR.rf (cs := [135, 136]) (ss := []) (h := h0)).call S1 (by decide +kernel)
  refine z_aload_n (M := M_X12_beside) 14 dX12_beside_14 rfl ?_
  refine z_getR (M := M_X12_beside) 15 dX12_beside_15 f_X12_97 o_108 rfl (g_108_41 G1) ?_
  refine z_aload_n (M := M_X12_beside) 18 dX12_beside_18 rfl ?_
  refine z_getR (M := M_X12_beside) 19 dX12_beside_19 f_X12_103 o_108 rfl (g_108_43 G1) ?_
  refine z_iload_n (M := M_X12_beside) 22 dX12_beside_22 rfl ?_
  refine z_iconst (M := M_X12_beside) 23 dX12_beside_23 ?_
  refine z_iaddN (M := M_X12_beside) 24 dX12_beside_24 (by omega) (by omega) ?_
  refine z_iload_n (M := M_X12_beside) 25 dX12_beside_25 rfl ?_
  refine z_i2l (M := M_X12_beside) 26 dX12_beside_26 ?_
  refine z_sV (M := M_X12_beside) 27 dX12_beside_27 t_X12_wide l_X12_387 (m_rr_of rfl) (rest := []) (c_X12_wide20 h1 136 138 (a1 + 5) a2 (Or.inr rfl) rfl G1 ⟨by omega, by omega⟩) rfl rfl (Nat.le_of_ble_eq_true rfl) ⟨rfl, rfl⟩ (fun h2 qx2 => ?_)
  obtain ⟨G2, S2⟩ := qx2
  have R2 := R1.call S2 (by decide +kernel)
  refine z_bipush (M := M_X12_beside) 30 dX12_beside_30 ?_
  refine z_istore (M := M_X12_beside) 32 dX12_beside_32 (ls' := [some (mR 108), some (mI a1), some (mI a2), some (mI a3), some (mI 9)]) (by decide) rfl ?_
  exact z_mask [true, false, false, false, true] rfl (ih 9 h2 G2 R2 (by omega) (by omega) (by omega) (by omega) (by omega) (by omega) (by omega))
abbrev P_X12_tells (h0 : m_H) (a1 a2 : Int) : Int → m_H → Prop := fun x h' => GI h' ∧ FR [135, 136] [] h0 h' ∧ 0 ≤ x ∧ x ≤ 2
def q_X12_tells (h0 : m_H) (a1 a2 : Int) (n : Nat) : Prop := (∀ (l3 l4 k0 : Int) (h : m_H), GI h → FR [135, 136] [] h0 h → 1 ≤ l3 → l3 ≤ 2 → 1 ≤ l4 → l4 ≤ 197 → 1 ≤ k0 → k0 ≤ 199 → (5) ≤ (n : Int) → m_Z oF M_X12_tells 51 [some (mR 108), none, some (mI a2), some (mI l3), some (mI l4), none, none, none, none, none, none, none, none] [mI k0] h (m_QI (P_X12_tells h0 a1 a2))) ∧ (∀ (l6 l7 l8 k0 : Int) (h : m_H), GI h → FR [135, 136] [] h0 h → (-1) ≤ l6 → l6 ≤ 1 → (-1) ≤ l7 → l7 ≤ 1 → (-1) ≤ l8 → l8 ≤ 1 → (-1) ≤ k0 → k0 ≤ 1 → (4) ≤ (n : Int) → m_Z oF M_X12_tells 137 [some (mR 108), none, some (mI a2), none, none, none, some (mI l6), some (mI l7), some (mI l8), none, none, none, none] [mI k0] h (m_QI (P_X12_tells h0 a1 a2))) ∧ (∀ (l6 l9 l10 : Int) (h : m_H), GI h → FR [135, 136] [] h0 h → (-1) ≤ l6 → l6 ≤ 1 → (-1) ≤ l9 → l9 ≤ 1 → 0 ≤ l10 → l10 ≤ 1 → (3) ≤ (n : Int) → m_Z oF M_X12_tells 184 [some (mR 108), none, some (mI a2), none, none, none, some (mI l6), none, none, some (mI l9), some (mI l10), none, none] [] h (m_QI (P_X12_tells h0 a1 a2))) ∧ (∀ (l6 l9 l10 : Int) (h : m_H), GI h → FR [135, 136] [] h0 h → (-1) ≤ l6 → l6 ≤ 1 → (-1) ≤ l9 → l9 ≤ 1 → 0 ≤ l10 → l10 ≤ 1 → (2) ≤ (n : Int) → m_Z oF M_X12_tells 188 [some (mR 108), none, some (mI a2), none, none, none, some (mI l6), none, none, some (mI l9), some (mI l10), none, none] [] h (m_QI (P_X12_tells h0 a1 a2))) ∧ (∀ (k0 : Int) (h : m_H), GI h → FR [135, 136] [] h0 h → 1 ≤ k0 → k0 ≤ 2 → (1) ≤ (n : Int) → m_Z oF M_X12_tells 246 [none, none, none, none, none, none, none, none, none, none, none, none, none] [mI k0] h (m_QI (P_X12_tells h0 a1 a2)))
set_option maxHeartbeats 4000000 in
set_option maxRecDepth 100000 in
theorem s_X12_tells_51 (h0 : m_H) (a1 a2 : Int) (G0 : GI h0) (pa1 : 1 ≤ a1 ∧ a1 ≤ 99) (pa2 : 0 ≤ a2 ∧ a2 ≤ 2) (n : Nat) (ih : q_X12_tells h0 a1 a2 n) : ∀ (l3 l4 k0 : Int) (h : m_H), GI h → FR [135, 136] [] h0 h → 1 ≤ l3 → l3 ≤ 2 → 1 ≤ l4 → l4 ≤ 197 → 1 ≤ k0 → k0 ≤ 199 → (5) ≤ ((n + 1 : Nat) : Int) → m_Z oF M_X12_tells 51 [some (mR 108), none, some (mI a2), some (mI l3), some (mI l4), none, none, none, none, none, none, none, none] [mI k0] h (m_QI (P_X12_tells h0 a1 a2)) := by
  intro l3 l4 k0 h G R v0 v1 v2 v3 v4 v5 hr
  refine z_istore (M := M_X12_tells) 51 dX12_tells_51 (ls' := [some (mR 108), none, some (mI a2), some (mI l3), some (mI l4), some (mI k0), none, none, none, none, none, none, none]) (by decide) rfl ?_
  refine z_aload_n (M := M_X12_tells) 53 dX12_tells_53 rfl ?_
  refine z_getIG (M := M_X12_tells) 54 dX12_tells_54 f_X12_409 o_108 (by decide) (g_108_44 G) (fun x1 ex1 ax1 bx1 => ?_)
  refine z_if_eq (M := M_X12_tells) 57 dX12_tells_57 71 rfl (fun c2 => ?_) (fun c2 => ?_)
  · refine z_iconst (M := M_X12_tells) 71 dX12_tells_71 ?_
    refine z_istore (M := M_X12_tells) 72 dX12_tells_72 (ls' := [some (mR 108), none, some (mI a2), some (mI l3), some (mI l4), some (mI k0), some (mI (-1)), none, none, none, none, none, none]) (by decide) rfl ?_
    refine z_aload_n (M := M_X12_tells) 74 dX12_tells_74 rfl ?_
    refine z_getIE (M := M_X12_tells) 75 dX12_tells_75 f_X12_409 o_108 (by decide) ex1 ?_
    refine z_if_eq_T (M := M_X12_tells) 78 dX12_tells_78 92 rfl (by omega) ?_
    refine z_iconst (M := M_X12_tells) 92 dX12_tells_92 ?_
    refine z_istore (M := M_X12_tells) 93 dX12_tells_93 (ls' := [some (mR 108), none, some (mI a2), some (mI l3), some (mI l4), some (mI k0), some (mI (-1)), some (mI (-1)), none, none, none, none, none]) (by decide) rfl ?_
    refine z_aload_n (M := M_X12_tells) 95 dX12_tells_95 rfl ?_
    refine z_getIG (M := M_X12_tells) 96 dX12_tells_96 f_X12_415 o_108 (by decide) (g_108_45 G) (fun x3 ex3 ax3 bx3 => ?_)
    refine z_if_eq (M := M_X12_tells) 99 dX12_tells_99 114 rfl (fun c4 => ?_) (fun c4 => ?_)
    · refine z_iconst (M := M_X12_tells) 114 dX12_tells_114 ?_
      refine z_istore (M := M_X12_tells) 115 dX12_tells_115 (ls' := [some (mR 108), none, some (mI a2), some (mI l3), some (mI l4), some (mI k0), some (mI (-1)), some (mI (-1)), some (mI 1), none, none, none, none]) (by decide) rfl ?_
      refine z_aload_n (M := M_X12_tells) 117 dX12_tells_117 rfl ?_
      refine z_getIE (M := M_X12_tells) 118 dX12_tells_118 f_X12_415 o_108 (by decide) ex3 ?_
      refine z_if_eq_T (M := M_X12_tells) 121 dX12_tells_121 136 rfl (by omega) ?_
      refine z_iconst (M := M_X12_tells) 136 dX12_tells_136 ?_
      exact z_mask [true, false, true, false, false, false, true, true, true, false, false, false, false] rfl (ih.2.1 (-1) (-1) 1 1 h G R (by omega) (by omega) (by omega) (by omega) (by omega) (by omega) (by omega) (by omega) (by omega))
    · refine z_aload_n (M := M_X12_tells) 102 dX12_tells_102 rfl ?_
      refine z_bipush (M := M_X12_tells) 103 dX12_tells_103 ?_
      refine z_iload (M := M_X12_tells) 105 dX12_tells_105 rfl ?_
      refine z_iload_n (M := M_X12_tells) 107 dX12_tells_107 rfl ?_
      refine z_vI (M := M_X12_tells) 108 dX12_tells_108 t_X12_beside l_X12_421 (m_rr_of rfl) (rest := []) (c_X12_beside h 10 l4 l3 G ⟨by omega, by omega⟩) o_108 rfl rfl rfl (Nat.le_of_ble_eq_true rfl) ⟨rfl, rfl⟩ (fun x5 h1 qx5 => ?_)
      obtain ⟨G1, S1, ax5, bx5⟩ := qx5
      have R1 := R.call S1 (by decide +kernel)
      refine z_goto (M := M_X12_tells) 111 dX12_tells_111 115 rfl ?_
      refine z_istore (M := M_X12_tells) 115 dX12_tells_115 (ls' := [some (mR 108), none, some (mI a2), some (mI l3), some (mI l4), some (mI k0), some (mI (-1)), some (mI (-1)), some (mI x5), none, none, none, none]) (by decide) rfl ?_
      refine z_aload_n (M := M_X12_tells) 117 dX12_tells_117 rfl ?_
      refine z_getIE (M := M_X12_tells) 118 dX12_tells_118 f_X12_415 o_108 (by decide) ((S1 108 45 rfl).trans ex3) ?_
      refine z_if_eq_F (M := M_X12_tells) 121 dX12_tells_121 136 rfl (by omega) ?_
      refine z_aload_n (M := M_X12_tells) 124 dX12_tells_124 rfl ?_
      refine z_bipush (M := M_X12_tells) 125 dX12_tells_125 ?_
      refine z_iload (M := M_X12_tells) 127 dX12_tells_127 rfl ?_
      refine z_iload_n (M := M_X12_tells) 129 dX12_tells_129 rfl ?_
      refine z_vI (M := M_X12_tells) 130 dX12_tells_130 t_X12_beside l_X12_421 (m_rr_of rfl) (rest := []) (c_X12_beside h1 10 k0 l3 G1 ⟨by omega, by omega⟩) o_108 rfl rfl rfl (Nat.le_of_ble_eq_true rfl) ⟨rfl, rfl⟩ (fun x6 h2 qx6 => ?_)
      obtain ⟨G2, S2, ax6, bx6⟩ := qx6
      have R2 := R1.call S2 (by decide +kernel)
      refine z_goto (M := M_X12_tells) 133 dX12_tells_133 137 rfl ?_
      exact z_mask [true, false, true, false, false, false, true, true, true, false, false, false, false] rfl (ih.2.1 (-1) (-1) x5 x6 h2 G2 R2 (by omega) (by omega) (by omega) (by omega) (by omega) (by omega) (by omega) (by omega) (by omega))
  · refine z_aload_n (M := M_X12_tells) 60 dX12_tells_60 rfl ?_
    refine z_iconst (M := M_X12_tells) 61 dX12_tells_61 ?_
    refine z_iload (M := M_X12_tells) 62 dX12_tells_62 rfl ?_
    refine z_iload_n (M := M_X12_tells) 64 dX12_tells_64 rfl ?_
    refine z_vI (M := M_X12_tells) 65 dX12_tells_65 t_X12_beside l_X12_421 (m_rr_of rfl) (rest := []) (c_X12_beside h 0 l4 l3 G ⟨by omega, by omega⟩) o_108 rfl rfl rfl (Nat.le_of_ble_eq_true rfl) ⟨rfl, rfl⟩ (fun x7 h3 qx7 => ?_)
    obtain ⟨G3, S3, ax7, bx7⟩ := qx7
    have R3 := R.call S3 (by decide +kernel)
    refine z_goto (M := M_X12_tells) 68 dX12_tells_68 72 rfl ?_
    refine z_istore (M := M_X12_tells) 72 dX12_tells_72 (ls' := [some (mR 108), none, some (mI a2), some (mI l3), some (mI l4), some (mI k0), some (mI x7), none, none, none, none, none, none]) (by decide) rfl ?_
    refine z_aload_n (M := M_X12_tells) 74 dX12_tells_74 rfl ?_
    refine z_getIE (M := M_X12_tells) 75 dX12_tells_75 f_X12_409 o_108 (by decide) ((S3 108 44 rfl).trans ex1) ?_
    refine z_if_eq_F (M := M_X12_tells) 78 dX12_tells_78 92 rfl (by omega) ?_
    refine z_aload_n (M := M_X12_tells) 81 dX12_tells_81 rfl ?_
    refine z_iconst (M := M_X12_tells) 82 dX12_tells_82 ?_
    refine z_iload (M := M_X12_tells) 83 dX12_tells_83 rfl ?_
    refine z_iload_n (M := M_X12_tells) 85 dX12_tells_85 rfl ?_
    refine z_vI (M := M_X12_tells) 86 dX12_tells_86 t_X12_beside l_X12_421 (m_rr_of rfl) (rest := []) (c_X12_beside h3 0 k0 l3 G3 ⟨by omega, by omega⟩) o_108 rfl rfl rfl (Nat.le_of_ble_eq_true rfl) ⟨rfl, rfl⟩ (fun x8 h4 qx8 => ?_)
    obtain ⟨G4, S4, ax8, bx8⟩ := qx8
    have R4 := R3.call S4 (by decide +kernel)
    refine z_goto (M := M_X12_tells) 89 dX12_tells_89 93 rfl ?_
    refine z_istore (M := M_X12_tells) 93 dX12_tells_93 (ls' := [some (mR 108), none, some (mI a2), some (mI l3), some (mI l4), some (mI k0), some (mI x7), some (mI x8), none, none, none, none, none]) (by decide) rfl ?_
    refine z_aload_n (M := M_X12_tells) 95 dX12_tells_95 rfl ?_
    refine z_getIG (M := M_X12_tells) 96 dX12_tells_96 f_X12_415 o_108 (by decide) (g_108_45 G4) (fun x9 ex9 ax9 bx9 => ?_)
    refine z_if_eq (M := M_X12_tells) 99 dX12_tells_99 114 rfl (fun c10 => ?_) (fun c10 => ?_)
    · refine z_iconst (M := M_X12_tells) 114 dX12_tells_114 ?_
      refine z_istore (M := M_X12_tells) 115 dX12_tells_115 (ls' := [some (mR 108), none, some (mI a2), some (mI l3), some (mI l4), some (mI k0), some (mI x7), some (mI x8), some (mI 1), none, none, none, none]) (by decide) rfl ?_
      refine z_aload_n (M := M_X12_tells) 117 dX12_tells_117 rfl ?_
      refine z_getIE (M := M_X12_tells) 118 dX12_tells_118 f_X12_415 o_108 (by decide) ex9 ?_
      refine z_if_eq_T (M := M_X12_tells) 121 dX12_tells_121 136 rfl (by omega) ?_
      refine z_iconst (M := M_X12_tells) 136 dX12_tells_136 ?_
      exact z_mask [true, false, true, false, false, false, true, true, true, false, false, false, false] rfl (ih.2.1 x7 x8 1 1 h4 G4 R4 (by omega) (by omega) (by omega) (by omega) (by omega) (by omega) (by omega) (by omega) (by omega))
    · refine z_aload_n (M := M_X12_tells) 102 dX12_tells_102 rfl ?_
      refine z_bipush (M := M_X12_tells) 103 dX12_tells_103 ?_
      refine z_iload (M := M_X12_tells) 105 dX12_tells_105 rfl ?_
      refine z_iload_n (M := M_X12_tells) 107 dX12_tells_107 rfl ?_
      refine z_vI (M := M_X12_tells) 108 dX12_tells_108 t_X12_beside l_X12_421 (m_rr_of rfl) (rest := []) (c_X12_beside h4 10 l4 l3 G4 ⟨by omega, by omega⟩) o_108 rfl rfl rfl (Nat.le_of_ble_eq_true rfl) ⟨rfl, rfl⟩ (fun x11 h5 qx11 => ?_)
      obtain ⟨G5, S5, ax11, bx11⟩ := qx11
      have R5 := R4.call S5 (by decide +kernel)
      refine z_goto (M := M_X12_tells) 111 dX12_tells_111 115 rfl ?_
      refine z_istore (M := M_X12_tells) 115 dX12_tells_115 (ls' := [some (mR 108), none, some (mI a2), some (mI l3), some (mI l4), some (mI k0), some (mI x7), some (mI x8), some (mI x11), none, none, none, none]) (by decide) rfl ?_
      refine z_aload_n (M := M_X12_tells) 117 dX12_tells_117 rfl ?_
      refine z_getIE (M := M_X12_tells) 118 dX12_tells_118 f_X12_415 o_108 (by decide) ((S5 108 45 rfl).trans ex9) ?_
      refine z_if_eq_F (M := M_X12_tells) 121 dX12_tells_121 136 rfl (by omega) ?_
      refine z_aload_n (M := M_X12_tells) 124 dX12_tells_124 rfl ?_
      refine z_bipush (M := M_X12_tells) 125 dX12_tells_125 ?_
      refine z_iload (M := M_X12_tells) 127 dX12_tells_127 rfl ?_
      refine z_iload_n (M := M_X12_tells) 129 dX12_tells_129 rfl ?_
      refine z_vI (M := M_X12_tells) 130 dX12_tells_130 t_X12_beside l_X12_421 (m_rr_of rfl) (rest := []) (c_X12_beside h5 10 k0 l3 G5 ⟨by omega, by omega⟩) o_108 rfl rfl rfl (Nat.le_of_ble_eq_true rfl) ⟨rfl, rfl⟩ (fun x12 h6 qx12 => ?_)
      obtain ⟨G6, S6, ax12, bx12⟩ := qx12
      have R6 := R5.call S6 (by decide +kernel)
      refine z_goto (M := M_X12_tells) 133 dX12_tells_133 137 rfl ?_
      exact z_mask [true, false, true, false, false, false, true, true, true, false, false, false, false] rfl (ih.2.1 x7 x8 x11 x12 h6 G6 R6 (by omega) (by omega) (by omega) (by omega) (by omega) (by omega) (by omega) (by omega) (by omega))
set_option maxHeartbeats 4000000 in
set_option maxRecDepth 100000 in
theorem s_X12_tells_137 (h0 : m_H) (a1 a2 : Int) (G0 : GI h0) (pa1 : 1 ≤ a1 ∧ a1 ≤ 99) (pa2 : 0 ≤ a2 ∧ a2 ≤ 2) (n : Nat) (ih : q_X12_tells h0 a1 a2 n) : ∀ (l6 l7 l8 k0 : Int) (h : m_H), GI h → FR [135, 136] [] h0 h → (-1) ≤ l6 → l6 ≤ 1 → (-1) ≤ l7 → l7 ≤ 1 → (-1) ≤ l8 → l8 ≤ 1 → (-1) ≤ k0 → k0 ≤ 1 → (4) ≤ ((n + 1 : Nat) : Int) → m_Z oF M_X12_tells 137 [some (mR 108), none, some (mI a2), none, none, none, some (mI l6), some (mI l7), some (mI l8), none, none, none, none] [mI k0] h (m_QI (P_X12_tells h0 a1 a2)) := by
  intro l6 l7 l8 k0 h G R v0 v1 v2 v3 v4 v5 v6 v7 hr
  refine z_istore (M := M_X12_tells) 137 dX12_tells_137 (ls' := [some (mR 108), none, some (mI a2), none, none, none, some (mI l6), some (mI l7), some (mI l8), some (mI k0), none, none, none]) (by decide) rfl ?_
  refine z_iload (M := M_X12_tells) 139 dX12_tells_139 rfl ?_
  refine z_if_lt (M := M_X12_tells) 141 dX12_tells_141 160 rfl (fun c1 => ?_) (fun c1 => ?_)
  · refine z_iconst (M := M_X12_tells) 160 dX12_tells_160 ?_
    refine z_goto (M := M_X12_tells) 161 dX12_tells_161 165 rfl ?_
    refine z_istore (M := M_X12_tells) 165 dX12_tells_165 (ls' := [some (mR 108), none, some (mI a2), none, none, none, some (mI l6), some (mI l7), some (mI l8), some (mI k0), some (mI 1), none, none]) (by decide) rfl ?_
    refine z_iload (M := M_X12_tells) 167 dX12_tells_167 rfl ?_
    refine z_if_gt (M := M_X12_tells) 169 dX12_tells_169 184 rfl (fun c2 => ?_) (fun c2 => ?_)
    · exact z_mask [true, false, true, false, false, false, true, false, false, true, true, false, false] rfl (ih.2.2.1 l6 k0 1 h G R (by omega) (by omega) (by omega) (by omega) (by omega) (by omega) (by omega))
    · refine z_iload (M := M_X12_tells) 172 dX12_tells_172 rfl ?_
      refine z_if_ne (M := M_X12_tells) 174 dX12_tells_174 188 rfl (fun c3 => ?_) (fun c3 => ?_)
      · exact z_mask [true, false, true, false, false, false, true, false, false, true, true, false, false] rfl (ih.2.2.2.1 l6 k0 1 h G R (by omega) (by omega) (by omega) (by omega) (by omega) (by omega) (by omega))
      · refine z_aload_n (M := M_X12_tells) 177 dX12_tells_177 rfl ?_
        refine z_getIG (M := M_X12_tells) 178 dX12_tells_178 f_X12_418 o_108 (by decide) (g_108_47 G) (fun x4 ex4 ax4 bx4 => ?_)
        refine z_if_eq (M := M_X12_tells) 181 dX12_tells_181 188 rfl (fun c5 => ?_) (fun c5 => ?_)
        · exact z_mask [true, false, true, false, false, false, true, false, false, true, true, false, false] rfl (ih.2.2.2.1 l6 k0 1 h G R (by omega) (by omega) (by omega) (by omega) (by omega) (by omega) (by omega))
        · exact z_mask [true, false, true, false, false, false, true, false, false, true, true, false, false] rfl (ih.2.2.1 l6 k0 1 h G R (by omega) (by omega) (by omega) (by omega) (by omega) (by omega) (by omega))
  · refine z_iload (M := M_X12_tells) 144 dX12_tells_144 rfl ?_
    refine z_if_ne (M := M_X12_tells) 146 dX12_tells_146 164 rfl (fun c6 => ?_) (fun c6 => ?_)
    · refine z_iconst (M := M_X12_tells) 164 dX12_tells_164 ?_
      refine z_istore (M := M_X12_tells) 165 dX12_tells_165 (ls' := [some (mR 108), none, some (mI a2), none, none, none, some (mI l6), some (mI l7), some (mI l8), some (mI k0), some (mI 0), none, none]) (by decide) rfl ?_
      refine z_iload (M := M_X12_tells) 167 dX12_tells_167 rfl ?_
      refine z_if_gt (M := M_X12_tells) 169 dX12_tells_169 184 rfl (fun c7 => ?_) (fun c7 => ?_)
      · exact z_mask [true, false, true, false, false, false, true, false, false, true, true, false, false] rfl (ih.2.2.1 l6 k0 0 h G R (by omega) (by omega) (by omega) (by omega) (by omega) (by omega) (by omega))
      · refine z_iload (M := M_X12_tells) 172 dX12_tells_172 rfl ?_
        refine z_if_ne (M := M_X12_tells) 174 dX12_tells_174 188 rfl (fun c8 => ?_) (fun c8 => ?_)
        · exact z_mask [true, false, true, false, false, false, true, false, false, true, true, false, false] rfl (ih.2.2.2.1 l6 k0 0 h G R (by omega) (by omega) (by omega) (by omega) (by omega) (by omega) (by omega))
        · refine z_aload_n (M := M_X12_tells) 177 dX12_tells_177 rfl ?_
          refine z_getIG (M := M_X12_tells) 178 dX12_tells_178 f_X12_418 o_108 (by decide) (g_108_47 G) (fun x9 ex9 ax9 bx9 => ?_)
          refine z_if_eq (M := M_X12_tells) 181 dX12_tells_181 188 rfl (fun c10 => ?_) (fun c10 => ?_)
          · exact z_mask [true, false, true, false, false, false, true, false, false, true, true, false, false] rfl (ih.2.2.2.1 l6 k0 0 h G R (by omega) (by omega) (by omega) (by omega) (by omega) (by omega) (by omega))
          · exact z_mask [true, false, true, false, false, false, true, false, false, true, true, false, false] rfl (ih.2.2.1 l6 k0 0 h G R (by omega) (by omega) (by omega) (by omega) (by omega) (by omega) (by omega))
    · refine z_iload_n (M := M_X12_tells) 149 dX12_tells_149 rfl ?_
      refine z_if_ne (M := M_X12_tells) 150 dX12_tells_150 164 rfl (fun c11 => ?_) (fun c11 => ?_)
      · refine z_iconst (M := M_X12_tells) 164 dX12_tells_164 ?_
        refine z_istore (M := M_X12_tells) 165 dX12_tells_165 (ls' := [some (mR 108), none, some (mI a2), none, none, none, some (mI l6), some (mI l7), some (mI l8), some (mI k0), some (mI 0), none, none]) (by decide) rfl ?_
        refine z_iload (M := M_X12_tells) 167 dX12_tells_167 rfl ?_
        refine z_if_gt (M := M_X12_tells) 169 dX12_tells_169 184 rfl (fun c12 => ?_) (fun c12 => ?_)
        · exact z_mask [true, false, true, false, false, false, true, false, false, true, true, false, false] rfl (ih.2.2.1 l6 k0 0 h G R (by omega) (by omega) (by omega) (by omega) (by omega) (by omega) (by omega))
        · refine z_iload (M := M_X12_tells) 172 dX12_tells_172 rfl ?_
          refine z_if_ne (M := M_X12_tells) 174 dX12_tells_174 188 rfl (fun c13 => ?_) (fun c13 => ?_)
          · exact z_mask [true, false, true, false, false, false, true, false, false, true, true, false, false] rfl (ih.2.2.2.1 l6 k0 0 h G R (by omega) (by omega) (by omega) (by omega) (by omega) (by omega) (by omega))
          · refine z_aload_n (M := M_X12_tells) 177 dX12_tells_177 rfl ?_
            refine z_getIG (M := M_X12_tells) 178 dX12_tells_178 f_X12_418 o_108 (by decide) (g_108_47 G) (fun x14 ex14 ax14 bx14 => ?_)
            refine z_if_eq (M := M_X12_tells) 181 dX12_tells_181 188 rfl (fun c15 => ?_) (fun c15 => ?_)
            · exact z_mask [true, false, true, false, false, false, true, false, false, true, true, false, false] rfl (ih.2.2.2.1 l6 k0 0 h G R (by omega) (by omega) (by omega) (by omega) (by omega) (by omega) (by omega))
            · exact z_mask [true, false, true, false, false, false, true, false, false, true, true, false, false] rfl (ih.2.2.1 l6 k0 0 h G R (by omega) (by omega) (by omega) (by omega) (by omega) (by omega) (by omega))
      · refine z_aload_n (M := M_X12_tells) 153 dX12_tells_153 rfl ?_
        refine z_getIG (M := M_X12_tells) 154 dX12_tells_154 f_X12_412 o_108 (by decide) (g_108_46 G) (fun x16 ex16 ax16 bx16 => ?_)
        refine z_if_eq (M := M_X12_tells) 157 dX12_tells_157 164 rfl (fun c17 => ?_) (fun c17 => ?_)
        · refine z_iconst (M := M_X12_tells) 164 dX12_tells_164 ?_
          refine z_istore (M := M_X12_tells) 165 dX12_tells_165 (ls' := [some (mR 108), none, some (mI a2), none, none, none, some (mI l6), some (mI l7), some (mI l8), some (mI k0), some (mI 0), none, none]) (by decide) rfl ?_
          refine z_iload (M := M_X12_tells) 167 dX12_tells_167 rfl ?_
          refine z_if_gt (M := M_X12_tells) 169 dX12_tells_169 184 rfl (fun c18 => ?_) (fun c18 => ?_)
          · exact z_mask [true, false, true, false, false, false, true, false, false, true, true, false, false] rfl (ih.2.2.1 l6 k0 0 h G R (by omega) (by omega) (by omega) (by omega) (by omega) (by omega) (by omega))
          · refine z_iload (M := M_X12_tells) 172 dX12_tells_172 rfl ?_
            refine z_if_ne (M := M_X12_tells) 174 dX12_tells_174 188 rfl (fun c19 => ?_) (fun c19 => ?_)
            · exact z_mask [true, false, true, false, false, false, true, false, false, true, true, false, false] rfl (ih.2.2.2.1 l6 k0 0 h G R (by omega) (by omega) (by omega) (by omega) (by omega) (by omega) (by omega))
            · refine z_aload_n (M := M_X12_tells) 177 dX12_tells_177 rfl ?_
              refine z_getIG (M := M_X12_tells) 178 dX12_tells_178 f_X12_418 o_108 (by decide) (g_108_47 G) (fun x20 ex20 ax20 bx20 => ?_)
              refine z_if_eq (M := M_X12_tells) 181 dX12_tells_181 188 rfl (fun c21 => ?_) (fun c21 => ?_)
              · exact z_mask [true, false, true, false, false, false, true, false, false, true, true, false, false] rfl (ih.2.2.2.1 l6 k0 0 h G R (by omega) (by omega) (by omega) (by omega) (by omega) (by omega) (by omega))
              · exact z_mask [true, false, true, false, false, false, true, false, false, true, true, false, false] rfl (ih.2.2.1 l6 k0 0 h G R (by omega) (by omega) (by omega) (by omega) (by omega) (by omega) (by omega))
        · refine z_iconst (M := M_X12_tells) 160 dX12_tells_160 ?_
          refine z_goto (M := M_X12_tells) 161 dX12_tells_161 165 rfl ?_
          refine z_istore (M := M_X12_tells) 165 dX12_tells_165 (ls' := [some (mR 108), none, some (mI a2), none, none, none, some (mI l6), some (mI l7), some (mI l8), some (mI k0), some (mI 1), none, none]) (by decide) rfl ?_
          refine z_iload (M := M_X12_tells) 167 dX12_tells_167 rfl ?_
          refine z_if_gt (M := M_X12_tells) 169 dX12_tells_169 184 rfl (fun c22 => ?_) (fun c22 => ?_)
          · exact z_mask [true, false, true, false, false, false, true, false, false, true, true, false, false] rfl (ih.2.2.1 l6 k0 1 h G R (by omega) (by omega) (by omega) (by omega) (by omega) (by omega) (by omega))
          · refine z_iload (M := M_X12_tells) 172 dX12_tells_172 rfl ?_
            refine z_if_ne (M := M_X12_tells) 174 dX12_tells_174 188 rfl (fun c23 => ?_) (fun c23 => ?_)
            · exact z_mask [true, false, true, false, false, false, true, false, false, true, true, false, false] rfl (ih.2.2.2.1 l6 k0 1 h G R (by omega) (by omega) (by omega) (by omega) (by omega) (by omega) (by omega))
            · refine z_aload_n (M := M_X12_tells) 177 dX12_tells_177 rfl ?_
              refine z_getIG (M := M_X12_tells) 178 dX12_tells_178 f_X12_418 o_108 (by decide) (g_108_47 G) (fun x24 ex24 ax24 bx24 => ?_)
              refine z_if_eq (M := M_X12_tells) 181 dX12_tells_181 188 rfl (fun c25 => ?_) (fun c25 => ?_)
              · exact z_mask [true, false, true, false, false, false, true, false, false, true, true, false, false] rfl (ih.2.2.2.1 l6 k0 1 h G R (by omega) (by omega) (by omega) (by omega) (by omega) (by omega) (by omega))
              · exact z_mask [true, false, true, false, false, false, true, false, false, true, true, false, false] rfl (ih.2.2.1 l6 k0 1 h G R (by omega) (by omega) (by omega) (by omega) (by omega) (by omega) (by omega))
set_option maxHeartbeats 4000000 in
set_option maxRecDepth 100000 in
theorem s_X12_tells_184 (h0 : m_H) (a1 a2 : Int) (G0 : GI h0) (pa1 : 1 ≤ a1 ∧ a1 ≤ 99) (pa2 : 0 ≤ a2 ∧ a2 ≤ 2) (n : Nat) (ih : q_X12_tells h0 a1 a2 n) : ∀ (l6 l9 l10 : Int) (h : m_H), GI h → FR [135, 136] [] h0 h → (-1) ≤ l6 → l6 ≤ 1 → (-1) ≤ l9 → l9 ≤ 1 → 0 ≤ l10 → l10 ≤ 1 → (3) ≤ ((n + 1 : Nat) : Int) → m_Z oF M_X12_tells 184 [some (mR 108), none, some (mI a2), none, none, none, some (mI l6), none, none, some (mI l9), some (mI l10), none, none] [] h (m_QI (P_X12_tells h0 a1 a2)) := by
  intro l6 l9 l10 h G R v0 v1 v2 v3 v4 v5 hr
  refine z_iconst (M := M_X12_tells) 184 dX12_tells_184 ?_
  refine z_goto (M := M_X12_tells) 185 dX12_tells_185 189 rfl ?_
  refine z_istore (M := M_X12_tells) 189 dX12_tells_189 (ls' := [some (mR 108), none, some (mI a2), none, none, none, some (mI l6), none, none, some (mI l9), some (mI l10), some (mI 1), none]) (by decide) rfl ?_
  refine z_iload (M := M_X12_tells) 191 dX12_tells_191 rfl ?_
  refine z_if_eq (M := M_X12_tells) 193 dX12_tells_193 201 rfl (fun c1 => ?_) (fun c1 => ?_)
  · refine z_iconst (M := M_X12_tells) 201 dX12_tells_201 ?_
    exact z_retI (M := M_X12_tells) 202 dX12_tells_202 rfl ⟨G, R, by omega, by omega⟩
  · refine z_iload (M := M_X12_tells) 196 dX12_tells_196 rfl ?_
    refine z_if_ne_T (M := M_X12_tells) 198 dX12_tells_198 203 rfl (by omega) ?_
    refine z_iload (M := M_X12_tells) 203 dX12_tells_203 rfl ?_
    refine z_if_lt (M := M_X12_tells) 205 dX12_tells_205 233 rfl (fun c2 => ?_) (fun c2 => ?_)
    · refine z_iconst (M := M_X12_tells) 233 dX12_tells_233 ?_
      refine z_istore (M := M_X12_tells) 234 dX12_tells_234 (ls' := [some (mR 108), none, some (mI a2), none, none, none, some (mI l6), none, none, some (mI l9), some (mI l10), some (mI 1), some (mI 0)]) (by decide) rfl ?_
      refine z_iload (M := M_X12_tells) 236 dX12_tells_236 rfl ?_
      refine z_if_eq_T (M := M_X12_tells) 238 dX12_tells_238 245 rfl (by omega) ?_
      refine z_iconst (M := M_X12_tells) 245 dX12_tells_245 ?_
      exact z_mask [false, false, false, false, false, false, false, false, false, false, false, false, false] rfl (ih.2.2.2.2 2 h G R (by omega) (by omega) (by omega))
    · refine z_iload (M := M_X12_tells) 208 dX12_tells_208 rfl ?_
      refine z_if_lt (M := M_X12_tells) 210 dX12_tells_210 229 rfl (fun c3 => ?_) (fun c3 => ?_)
      · refine z_iconst (M := M_X12_tells) 229 dX12_tells_229 ?_
        refine z_goto (M := M_X12_tells) 230 dX12_tells_230 234 rfl ?_
        refine z_istore (M := M_X12_tells) 234 dX12_tells_234 (ls' := [some (mR 108), none, some (mI a2), none, none, none, some (mI l6), none, none, some (mI l9), some (mI l10), some (mI 1), some (mI 1)]) (by decide) rfl ?_
        refine z_iload (M := M_X12_tells) 236 dX12_tells_236 rfl ?_
        refine z_if_eq_F (M := M_X12_tells) 238 dX12_tells_238 245 rfl (by omega) ?_
        refine z_iconst (M := M_X12_tells) 241 dX12_tells_241 ?_
        refine z_goto (M := M_X12_tells) 242 dX12_tells_242 246 rfl ?_
        exact z_mask [false, false, false, false, false, false, false, false, false, false, false, false, false] rfl (ih.2.2.2.2 1 h G R (by omega) (by omega) (by omega))
      · refine z_iload (M := M_X12_tells) 213 dX12_tells_213 rfl ?_
        refine z_if_ne (M := M_X12_tells) 215 dX12_tells_215 233 rfl (fun c4 => ?_) (fun c4 => ?_)
        · refine z_iconst (M := M_X12_tells) 233 dX12_tells_233 ?_
          refine z_istore (M := M_X12_tells) 234 dX12_tells_234 (ls' := [some (mR 108), none, some (mI a2), none, none, none, some (mI l6), none, none, some (mI l9), some (mI l10), some (mI 1), some (mI 0)]) (by decide) rfl ?_
          refine z_iload (M := M_X12_tells) 236 dX12_tells_236 rfl ?_
          refine z_if_eq_T (M := M_X12_tells) 238 dX12_tells_238 245 rfl (by omega) ?_
          refine z_iconst (M := M_X12_tells) 245 dX12_tells_245 ?_
          exact z_mask [false, false, false, false, false, false, false, false, false, false, false, false, false] rfl (ih.2.2.2.2 2 h G R (by omega) (by omega) (by omega))
        · refine z_iload_n (M := M_X12_tells) 218 dX12_tells_218 rfl ?_
          refine z_if_eq (M := M_X12_tells) 219 dX12_tells_219 229 rfl (fun c5 => ?_) (fun c5 => ?_)
          · refine z_iconst (M := M_X12_tells) 229 dX12_tells_229 ?_
            refine z_goto (M := M_X12_tells) 230 dX12_tells_230 234 rfl ?_
            refine z_istore (M := M_X12_tells) 234 dX12_tells_234 (ls' := [some (mR 108), none, some (mI a2), none, none, none, some (mI l6), none, none, some (mI l9), some (mI l10), some (mI 1), some (mI 1)]) (by decide) rfl ?_
            refine z_iload (M := M_X12_tells) 236 dX12_tells_236 rfl ?_
            refine z_if_eq_F (M := M_X12_tells) 238 dX12_tells_238 245 rfl (by omega) ?_
            refine z_iconst (M := M_X12_tells) 241 dX12_tells_241 ?_
            refine z_goto (M := M_X12_tells) 242 dX12_tells_242 246 rfl ?_
            exact z_mask [false, false, false, false, false, false, false, false, false, false, false, false, false] rfl (ih.2.2.2.2 1 h G R (by omega) (by omega) (by omega))
          · refine z_aload_n (M := M_X12_tells) 222 dX12_tells_222 rfl ?_
            refine z_getIG (M := M_X12_tells) 223 dX12_tells_223 f_X12_418 o_108 (by decide) (g_108_47 G) (fun x6 ex6 ax6 bx6 => ?_)
            refine z_if_ne (M := M_X12_tells) 226 dX12_tells_226 233 rfl (fun c7 => ?_) (fun c7 => ?_)
            · refine z_iconst (M := M_X12_tells) 233 dX12_tells_233 ?_
              refine z_istore (M := M_X12_tells) 234 dX12_tells_234 (ls' := [some (mR 108), none, some (mI a2), none, none, none, some (mI l6), none, none, some (mI l9), some (mI l10), some (mI 1), some (mI 0)]) (by decide) rfl ?_
              refine z_iload (M := M_X12_tells) 236 dX12_tells_236 rfl ?_
              refine z_if_eq_T (M := M_X12_tells) 238 dX12_tells_238 245 rfl (by omega) ?_
              refine z_iconst (M := M_X12_tells) 245 dX12_tells_245 ?_
              exact z_mask [false, false, false, false, false, false, false, false, false, false, false, false, false] rfl (ih.2.2.2.2 2 h G R (by omega) (by omega) (by omega))
            · refine z_iconst (M := M_X12_tells) 229 dX12_tells_229 ?_
              refine z_goto (M := M_X12_tells) 230 dX12_tells_230 234 rfl ?_
              refine z_istore (M := M_X12_tells) 234 dX12_tells_234 (ls' := [some (mR 108), none, some (mI a2), none, none, none, some (mI l6), none, none, some (mI l9), some (mI l10), some (mI 1), some (mI 1)]) (by decide) rfl ?_
              refine z_iload (M := M_X12_tells) 236 dX12_tells_236 rfl ?_
              refine z_if_eq_F (M := M_X12_tells) 238 dX12_tells_238 245 rfl (by omega) ?_
              refine z_iconst (M := M_X12_tells) 241 dX12_tells_241 ?_
              refine z_goto (M := M_X12_tells) 242 dX12_tells_242 246 rfl ?_
              exact z_mask [false, false, false, false, false, false, false, false, false, false, false, false, false] rfl (ih.2.2.2.2 1 h G R (by omega) (by omega) (by omega))
set_option maxHeartbeats 4000000 in
set_option maxRecDepth 100000 in
theorem s_X12_tells_188 (h0 : m_H) (a1 a2 : Int) (G0 : GI h0) (pa1 : 1 ≤ a1 ∧ a1 ≤ 99) (pa2 : 0 ≤ a2 ∧ a2 ≤ 2) (n : Nat) (ih : q_X12_tells h0 a1 a2 n) : ∀ (l6 l9 l10 : Int) (h : m_H), GI h → FR [135, 136] [] h0 h → (-1) ≤ l6 → l6 ≤ 1 → (-1) ≤ l9 → l9 ≤ 1 → 0 ≤ l10 → l10 ≤ 1 → (2) ≤ ((n + 1 : Nat) : Int) → m_Z oF M_X12_tells 188 [some (mR 108), none, some (mI a2), none, none, none, some (mI l6), none, none, some (mI l9), some (mI l10), none, none] [] h (m_QI (P_X12_tells h0 a1 a2)) := by
  intro l6 l9 l10 h G R v0 v1 v2 v3 v4 v5 hr
  refine z_iconst (M := M_X12_tells) 188 dX12_tells_188 ?_
  refine z_istore (M := M_X12_tells) 189 dX12_tells_189 (ls' := [some (mR 108), none, some (mI a2), none, none, none, some (mI l6), none, none, some (mI l9), some (mI l10), some (mI 0), none]) (by decide) rfl ?_
  refine z_iload (M := M_X12_tells) 191 dX12_tells_191 rfl ?_
  refine z_if_eq (M := M_X12_tells) 193 dX12_tells_193 201 rfl (fun c1 => ?_) (fun c1 => ?_)
  · refine z_iconst (M := M_X12_tells) 201 dX12_tells_201 ?_
    exact z_retI (M := M_X12_tells) 202 dX12_tells_202 rfl ⟨G, R, by omega, by omega⟩
  · refine z_iload (M := M_X12_tells) 196 dX12_tells_196 rfl ?_
    refine z_if_ne_F (M := M_X12_tells) 198 dX12_tells_198 203 rfl (by omega) ?_
    refine z_iconst (M := M_X12_tells) 201 dX12_tells_201 ?_
    exact z_retI (M := M_X12_tells) 202 dX12_tells_202 rfl ⟨G, R, by omega, by omega⟩
set_option maxHeartbeats 4000000 in
set_option maxRecDepth 100000 in
theorem s_X12_tells_246 (h0 : m_H) (a1 a2 : Int) (G0 : GI h0) (pa1 : 1 ≤ a1 ∧ a1 ≤ 99) (pa2 : 0 ≤ a2 ∧ a2 ≤ 2) (n : Nat) (ih : q_X12_tells h0 a1 a2 n) : ∀ (k0 : Int) (h : m_H), GI h → FR [135, 136] [] h0 h → 1 ≤ k0 → k0 ≤ 2 → (1) ≤ ((n + 1 : Nat) : Int) → m_Z oF M_X12_tells 246 [none, none, none, none, none, none, none, none, none, none, none, none, none] [mI k0] h (m_QI (P_X12_tells h0 a1 a2)) := by
  intro k0 h G R v0 v1 hr
  exact z_retI (M := M_X12_tells) 246 dX12_tells_246 rfl ⟨G, R, by omega, by omega⟩
theorem a_X12_tells (h0 : m_H) (a1 a2 : Int) (G0 : GI h0) (pa1 : 1 ≤ a1 ∧ a1 ≤ 99) (pa2 : 0 ≤ a2 ∧ a2 ≤ 2) : ∀ n, q_X12_tells h0 a1 a2 n := by
  intro n
  induction n with
  | zero => unfold q_X12_tells; refine ⟨?_, ?_, ?_, ?_, ?_⟩ <;> (intros; omega)
  | succ n ih => exact ⟨s_X12_tells_51 h0 a1 a2 G0 pa1 pa2 n ih, s_X12_tells_137 h0 a1 a2 G0 pa1 pa2 n ih, s_X12_tells_184 h0 a1 a2 G0 pa1 pa2 n ih, s_X12_tells_188 h0 a1 a2 G0 pa1 pa2 n ih, s_X12_tells_246 h0 a1 a2 G0 pa1 pa2 n ih⟩
set_option maxHeartbeats 4000000 in
set_option maxRecDepth 100000 in
theorem c_X12_tells (h0 : m_H) (a1 a2 : Int) (G0 : GI h0) (pa1 : 1 ≤ a1 ∧ a1 ≤ 99) (pa2 : 0 ≤ a2 ∧ a2 ≤ 2) : m_CI M_X12_tells [mR 108, mI a1, mI a2] h0 (P_X12_tells h0 a1 a2) := by
  refine m_CI_of ⟨by decide, rfl, by simp [m_arg, m_isL, M_X12_tells], ⟨rfl, rfl⟩, rfl, rfl⟩ (ls := [some (mR 108), some (mI a1), some (mI a2), none, none, none, none, none, none, none, none, none, none]) rfl ?_
  have ih := a_X12_tells h0 a1 a2 G0 pa1 pa2 10
  refine z_iload_n (M := M_X12_tells) 0 dX12_tells_0 rfl ?_
  refine z_iconst (M := M_X12_tells) 1 dX12_tells_1 ?_
  refine z_icmp_ne (M := M_X12_tells) 2 dX12_tells_2 9 rfl (fun c1 => ?_) (fun c1 => ?_)
  · refine z_iconst (M := M_X12_tells) 9 dX12_tells_9 ?_
    refine z_istore_n (M := M_X12_tells) 10 dX12_tells_10 (ls' := [some (mR 108), some (mI a1), some (mI a2), some (mI 1), none, none, none, none, none, none, none, none, none]) (by decide) rfl ?_
    refine z_iload_n (M := M_X12_tells) 11 dX12_tells_11 rfl ?_
    refine z_iconst (M := M_X12_tells) 12 dX12_tells_12 ?_
    refine z_icmp_ne_T (M := M_X12_tells) 13 dX12_tells_13 24 rfl (by omega) ?_
    refine z_iload_n (M := M_X12_tells) 24 dX12_tells_24 rfl ?_
    refine z_istore (M := M_X12_tells) 25 dX12_tells_25 (ls' := [some (mR 108), some (mI a1), some (mI a2), some (mI 1), some (mI a1), none, none, none, none, none, none, none, none]) (by decide) rfl ?_
    refine z_iload_n (M := M_X12_tells) 27 dX12_tells_27 rfl ?_
    refine z_if_ne (M := M_X12_tells) 28 dX12_tells_28 35 rfl (fun c2 => ?_) (fun c2 => ?_)
    · refine z_iload_n (M := M_X12_tells) 35 dX12_tells_35 rfl ?_
      refine z_iconst (M := M_X12_tells) 36 dX12_tells_36 ?_
      refine z_icmp_ne_F (M := M_X12_tells) 37 dX12_tells_37 46 rfl (by omega) ?_
      refine z_iload_n (M := M_X12_tells) 40 dX12_tells_40 rfl ?_
      refine z_iconst (M := M_X12_tells) 41 dX12_tells_41 ?_
      refine z_iaddN (M := M_X12_tells) 42 dX12_tells_42 (by omega) (by omega) ?_
      refine z_goto (M := M_X12_tells) 43 dX12_tells_43 51 rfl ?_
      exact z_mask [true, false, true, true, true, false, false, false, false, false, false, false, false] rfl (ih.1 1 a1 (a1 + 1) h0 G0 (FR.rf (cs := [135, 136]) (ss := []) (h := h0)) (by omega) (by omega) (by omega) (by omega) (by omega) (by omega) (by omega))
    · refine z_iload_n (M := M_X12_tells) 31 dX12_tells_31 rfl ?_
      refine z_goto (M := M_X12_tells) 32 dX12_tells_32 51 rfl ?_
      exact z_mask [true, false, true, true, true, false, false, false, false, false, false, false, false] rfl (ih.1 1 a1 a1 h0 G0 (FR.rf (cs := [135, 136]) (ss := []) (h := h0)) (by omega) (by omega) (by omega) (by omega) (by omega) (by omega) (by omega))
  · refine z_iconst (M := M_X12_tells) 5 dX12_tells_5 ?_
    refine z_goto (M := M_X12_tells) 6 dX12_tells_6 10 rfl ?_
    refine z_istore_n (M := M_X12_tells) 10 dX12_tells_10 (ls' := [some (mR 108), some (mI a1), some (mI a2), some (mI 2), none, none, none, none, none, none, none, none, none]) (by decide) rfl ?_
    refine z_iload_n (M := M_X12_tells) 11 dX12_tells_11 rfl ?_
    refine z_iconst (M := M_X12_tells) 12 dX12_tells_12 ?_
    refine z_icmp_ne_F (M := M_X12_tells) 13 dX12_tells_13 24 rfl (by omega) ?_
    refine z_iconst (M := M_X12_tells) 16 dX12_tells_16 ?_
    refine z_iload_n (M := M_X12_tells) 17 dX12_tells_17 rfl ?_
    refine z_imulN (M := M_X12_tells) 18 dX12_tells_18 (by omega) (by omega) ?_
    refine z_iconst (M := M_X12_tells) 19 dX12_tells_19 ?_
    refine z_isubN (M := M_X12_tells) 20 dX12_tells_20 (by omega) (by omega) ?_
    refine z_goto (M := M_X12_tells) 21 dX12_tells_21 25 rfl ?_
    refine z_istore (M := M_X12_tells) 25 dX12_tells_25 (ls' := [some (mR 108), some (mI a1), some (mI a2), some (mI 2), some (mI ((2 * a1) - 1)), none, none, none, none, none, none, none, none]) (by decide) rfl ?_
    refine z_iload_n (M := M_X12_tells) 27 dX12_tells_27 rfl ?_
    refine z_if_ne_T (M := M_X12_tells) 28 dX12_tells_28 35 rfl (by omega) ?_
    refine z_iload_n (M := M_X12_tells) 35 dX12_tells_35 rfl ?_
    refine z_iconst (M := M_X12_tells) 36 dX12_tells_36 ?_
    refine z_icmp_ne_T (M := M_X12_tells) 37 dX12_tells_37 46 rfl (by omega) ?_
    refine z_iconst (M := M_X12_tells) 46 dX12_tells_46 ?_
    refine z_iload_n (M := M_X12_tells) 47 dX12_tells_47 rfl ?_
    refine z_imulN (M := M_X12_tells) 48 dX12_tells_48 (by omega) (by omega) ?_
    refine z_iconst (M := M_X12_tells) 49 dX12_tells_49 ?_
    refine z_iaddN (M := M_X12_tells) 50 dX12_tells_50 (by omega) (by omega) ?_
    exact z_mask [true, false, true, true, true, false, false, false, false, false, false, false, false] rfl (ih.1 2 ((2 * a1) - 1) ((2 * a1) + 1) h0 G0 (FR.rf (cs := [135, 136]) (ss := []) (h := h0)) (by omega) (by omega) (by omega) (by omega) (by omega) (by omega) (by omega))
abbrev P_X12_numbersOf (h0 : m_H) (a1 : Int) : Int → m_H → Prop := fun x h' => GI h' ∧ FR [135, 136] [] h0 h'
def q_X12_numbersOf (h0 : m_H) (a1 : Int) (n : Nat) : Prop := (∀ (l2 l3 : Int) (h : m_H), GI h → FR [135, 136] [] h0 h → 1 ≤ l3 → l3 ≤ 100 → 2 * (100 - l3) + (1) ≤ (n : Int) → m_Z oF M_X12_numbersOf 4 [some (mR 108), some (mI a1), some (mI l2), some (mI l3)] [] h (m_QI (P_X12_numbersOf h0 a1)))
set_option maxHeartbeats 4000000 in
set_option maxRecDepth 100000 in
theorem s_X12_numbersOf_4 (h0 : m_H) (a1 : Int) (G0 : GI h0) (pa1 : 0 ≤ a1 ∧ a1 ≤ 2) (n : Nat) (ih : q_X12_numbersOf h0 a1 n) : ∀ (l2 l3 : Int) (h : m_H), GI h → FR [135, 136] [] h0 h → 1 ≤ l3 → l3 ≤ 100 → 2 * (100 - l3) + (1) ≤ ((n + 1 : Nat) : Int) → m_Z oF M_X12_numbersOf 4 [some (mR 108), some (mI a1), some (mI l2), some (mI l3)] [] h (m_QI (P_X12_numbersOf h0 a1)) := by
  intro l2 l3 h G R v0 v1 hr
  refine z_ok (fun ostk _ olocs => ?_)
  have ol2 : m_32 l2 := olocs 2 _ rfl
  unfold m_32 at ol2
  refine z_iload_n (M := M_X12_numbersOf) 4 dX12_numbersOf_4 rfl ?_
  refine z_bipush (M := M_X12_numbersOf) 5 dX12_numbersOf_5 ?_
  refine z_icmp_ge (M := M_X12_numbersOf) 7 dX12_numbersOf_7 33 rfl (fun c1 => ?_) (fun c1 => ?_)
  · refine z_iload_n (M := M_X12_numbersOf) 33 dX12_numbersOf_33 rfl ?_
    exact z_retI (M := M_X12_numbersOf) 34 dX12_numbersOf_34 rfl ⟨G, R⟩
  · refine z_iload_n (M := M_X12_numbersOf) 10 dX12_numbersOf_10 rfl ?_
    refine z_aload_n (M := M_X12_numbersOf) 11 dX12_numbersOf_11 rfl ?_
    refine z_iload_n (M := M_X12_numbersOf) 12 dX12_numbersOf_12 rfl ?_
    refine z_iload_n (M := M_X12_numbersOf) 13 dX12_numbersOf_13 rfl ?_
    refine z_vI (M := M_X12_numbersOf) 14 dX12_numbersOf_14 t_X12_tells l_X12_431 (m_rr_of rfl) (rest := [mI l2]) (c_X12_tells h l3 a1 G ⟨by omega, by omega⟩ ⟨by omega, by omega⟩) o_108 rfl rfl rfl (Nat.le_of_ble_eq_true rfl) ⟨rfl, rfl⟩ (fun x2 h1 qx2 => ?_)
    obtain ⟨G1, S1, ax2, bx2⟩ := qx2
    have R1 := R.call S1 (by decide +kernel)
    refine z_if_le (M := M_X12_numbersOf) 17 dX12_numbersOf_17 24 rfl (fun c3 => ?_) (fun c3 => ?_)
    · refine z_iconst (M := M_X12_numbersOf) 24 dX12_numbersOf_24 ?_
      refine z_iaddN (M := M_X12_numbersOf) 25 dX12_numbersOf_25 (by omega) (by omega) ?_
      refine z_istore_n (M := M_X12_numbersOf) 26 dX12_numbersOf_26 (ls' := [some (mR 108), some (mI a1), some (mI (l2 + 0)), some (mI l3)]) (by decide) rfl ?_
      refine z_iincN (M := M_X12_numbersOf) 27 dX12_numbersOf_27 (ls' := [some (mR 108), some (mI a1), some (mI (l2 + 0)), some (mI (l3 + 1))]) (by decide) rfl (by (unfold m_32; decide)) (by omega) (by omega) rfl ?_
      refine z_goto (M := M_X12_numbersOf) 30 dX12_numbersOf_30 4 rfl ?_
      exact z_mask [true, true, true, true] rfl (ih (l2 + 0) (l3 + 1) h1 G1 R1 (by omega) (by omega) (by omega))
    · refine z_iconst (M := M_X12_numbersOf) 20 dX12_numbersOf_20 ?_
      refine z_goto (M := M_X12_numbersOf) 21 dX12_numbersOf_21 25 rfl ?_
      refine z_iadd (M := M_X12_numbersOf) 25 dX12_numbersOf_25 ?_
      refine z_topm (fun x4 ex4 ox4 => ?_)
      unfold m_32 at ox4
      refine z_istore_n (M := M_X12_numbersOf) 26 dX12_numbersOf_26 (ls' := [some (mR 108), some (mI a1), some (mI x4), some (mI l3)]) (by decide) rfl ?_
      refine z_iincN (M := M_X12_numbersOf) 27 dX12_numbersOf_27 (ls' := [some (mR 108), some (mI a1), some (mI x4), some (mI (l3 + 1))]) (by decide) rfl (by (unfold m_32; decide)) (by omega) (by omega) rfl ?_
      refine z_goto (M := M_X12_numbersOf) 30 dX12_numbersOf_30 4 rfl ?_
      exact z_mask [true, true, true, true] rfl (ih x4 (l3 + 1) h1 G1 R1 (by omega) (by omega) (by omega))
theorem a_X12_numbersOf (h0 : m_H) (a1 : Int) (G0 : GI h0) (pa1 : 0 ≤ a1 ∧ a1 ≤ 2) : ∀ n, q_X12_numbersOf h0 a1 n := by
  intro n
  induction n with
  | zero => unfold q_X12_numbersOf; intros; omega
  | succ n ih => exact s_X12_numbersOf_4 h0 a1 G0 pa1 n ih
set_option maxHeartbeats 4000000 in
set_option maxRecDepth 100000 in
theorem c_X12_numbersOf (h0 : m_H) (a1 : Int) (G0 : GI h0) (pa1 : 0 ≤ a1 ∧ a1 ≤ 2) : m_CI M_X12_numbersOf [mR 108, mI a1] h0 (P_X12_numbersOf h0 a1) := by
  refine m_CI_of ⟨by decide, rfl, by simp [m_arg, m_isL, M_X12_numbersOf], ⟨rfl, rfl⟩, rfl, rfl⟩ (ls := [some (mR 108), some (mI a1), none, none]) rfl ?_
  have ih := a_X12_numbersOf h0 a1 G0 pa1 206
  refine z_iconst (M := M_X12_numbersOf) 0 dX12_numbersOf_0 ?_
  refine z_istore_n (M := M_X12_numbersOf) 1 dX12_numbersOf_1 (ls' := [some (mR 108), some (mI a1), some (mI 0), none]) (by decide) rfl ?_
  refine z_iconst (M := M_X12_numbersOf) 2 dX12_numbersOf_2 ?_
  refine z_istore_n (M := M_X12_numbersOf) 3 dX12_numbersOf_3 (ls' := [some (mR 108), some (mI a1), some (mI 0), some (mI 1)]) (by decide) rfl ?_
  exact z_mask [true, true, true, true] rfl (ih 0 1 h0 G0 (FR.rf (cs := [135, 136]) (ss := []) (h := h0)) (by omega) (by omega) (by omega))
