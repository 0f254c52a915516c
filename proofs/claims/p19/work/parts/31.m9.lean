abbrev P_X12_timesU (h0 : m_H) (a1 a3 a4 : Int) : m_H → Prop := fun h' => GI h' ∧ FR [132] [] h0 h' ∧ vS (h' 132) 0 5 = (vS (h0 124) a3.toNat 5 * a4) % gBig
def q_X12_timesU (h0 : m_H) (a1 a3 a4 : Int) (n : Nat) : Prop := (∀ (l5 l7 : Int) (h : m_H), GI h → FR [132] [] h0 h → 0 ≤ l5 → l5 ≤ 198 → 0 ≤ l7 → l7 ≤ 5 → (tmI (h 132) (h0 124) a3 l7 l5 a4) → 2 * (5 - l7) + (1) ≤ (n : Int) → m_Z oF M_X12_times 6 [some (mR 132), some (mI a1), some (mR 124), some (mI a3), some (mI a4), some (mJ l5), none, some (mI l7), none, none] [] h (m_QV (P_X12_timesU h0 a1 a3 a4)))
set_option maxHeartbeats 4000000 in
set_option maxRecDepth 100000 in
theorem s_X12_timesU_6 (h0 : m_H) (a1 a3 a4 : Int) (G0 : GI h0) (pa1 : 0 ≤ a1 ∧ a1 ≤ 0) (pa3 : 0 ≤ a3 ∧ a3 ≤ 75) (pa4 : 0 ≤ a4 ∧ a4 ≤ 199) (n : Nat) (ih : q_X12_timesU h0 a1 a3 a4 n) : ∀ (l5 l7 : Int) (h : m_H), GI h → FR [132] [] h0 h → 0 ≤ l5 → l5 ≤ 198 → 0 ≤ l7 → l7 ≤ 5 → (tmI (h 132) (h0 124) a3 l7 l5 a4) → 2 * (5 - l7) + (1) ≤ ((n + 1 : Nat) : Int) → m_Z oF M_X12_times 6 [some (mR 132), some (mI a1), some (mR 124), some (mI a3), some (mI a4), some (mJ l5), none, some (mI l7), none, none] [] h (m_QV (P_X12_timesU h0 a1 a3 a4)) := by
  intro l5 l7 h G R v0 v1 v2 v3 i0 hr
  refine z_iload (M := M_X12_times) 6 dX12_times_6 rfl ?_
  refine z_iconst (M := M_X12_times) 8 dX12_times_8 ?_
  refine z_icmp_ge (M := M_X12_times) 9 dX12_times_9 53 rfl (fun c1 => ?_) (fun c1 => ?_)
  · exact z_retV (M := M_X12_times) 53 dX12_times_53 rfl ⟨G, R, tmI_end (by omega) i0 (fun j hj => g_132 G hj)⟩
  · refine z_aload_n (M := M_X12_times) 12 dX12_times_12 rfl ?_
    refine z_iload_n (M := M_X12_times) 13 dX12_times_13 rfl ?_
    refine z_iload (M := M_X12_times) 14 dX12_times_14 rfl ?_
    refine z_iaddN (M := M_X12_times) 16 dX12_times_16 (by omega) (by omega) ?_
    refine z_laldG (M := M_X12_times) 17 dX12_times_17 o_124 (by omega) (by omega) (g_124 G (by omega)) (fun x2 ex2 ax2 bx2 => ?_)
    refine z_iload (M := M_X12_times) 18 dX12_times_18 rfl ?_
    refine z_i2l (M := M_X12_times) 20 dX12_times_20 ?_
    have mx3 := mul_bd (x := x2) (y := a4) (X := 99999999) (Y := 199) (by omega) (by omega) (by omega) (by omega)
    refine z_lmulN (M := M_X12_times) 21 dX12_times_21 (by omega) (by omega) ?_
    refine z_topBJ (lo := 0) (hi := 19899999801) ⟨by omega, by omega⟩ (fun x3 ex3 ax3 bx3 => ?_)
    refine z_lload (M := M_X12_times) 22 dX12_times_22 rfl ?_
    refine z_laddN (M := M_X12_times) 24 dX12_times_24 (by omega) (by omega) ?_
    refine z_lstore (M := M_X12_times) 25 dX12_times_25 (ls' := [some (mR 132), some (mI a1), some (mR 124), some (mI a3), some (mI a4), some (mJ l5), none, some (mI l7), some (mJ (x3 + l5)), none]) (by decide) rfl ?_
    refine z_aload_n (M := M_X12_times) 27 dX12_times_27 rfl ?_
    refine z_iload_n (M := M_X12_times) 28 dX12_times_28 rfl ?_
    refine z_iload (M := M_X12_times) 29 dX12_times_29 rfl ?_
    refine z_iaddN (M := M_X12_times) 31 dX12_times_31 (by omega) (by omega) ?_
    refine z_lload (M := M_X12_times) 32 dX12_times_32 rfl ?_
    refine z_ldc2 (M := M_X12_times) 34 dX12_times_34 k_X12_327 ?_
    refine z_lremN (M := M_X12_times) 37 dX12_times_37 (by omega) (by omega) ?_
    refine z_topBJ (lo := 0) (hi := 99999999) ⟨by omega, by omega⟩ (fun x4 ex4 ax4 bx4 => ?_)
    refine z_lastH (M := M_X12_times) 38 dX12_times_38 o_132 (by omega) (by omega) (u_132 G (by omega) (by omega)) (R.up rfl) (fun h1 E1 G1 R1 => ?_)
    refine z_lload (M := M_X12_times) 39 dX12_times_39 rfl ?_
    refine z_ldc2 (M := M_X12_times) 41 dX12_times_41 k_X12_327 ?_
    refine z_ldivN (M := M_X12_times) 44 dX12_times_44 (by omega) (by omega) ?_
    refine z_topBJ (lo := 0) (hi := 198) ⟨by omega, by omega⟩ (fun x5 ex5 ax5 bx5 => ?_)
    refine z_lstore (M := M_X12_times) 45 dX12_times_45 (ls' := [some (mR 132), some (mI a1), some (mR 124), some (mI a3), some (mI a4), some (mJ x5), none, some (mI l7), some (mJ (x3 + l5)), none]) (by decide) rfl ?_
    refine z_iincN (M := M_X12_times) 47 dX12_times_47 (ls' := [some (mR 132), some (mI a1), some (mR 124), some (mI a3), some (mI a4), some (mJ x5), none, some (mI (l7 + 1)), some (mJ (x3 + l5)), none]) (by decide) rfl (by (unfold m_32; decide)) (by omega) (by omega) rfl ?_
    refine z_goto (M := M_X12_times) 50 dX12_times_50 6 rfl ?_
    exact z_mask [true, true, true, true, true, true, false, true, false, false] rfl (ih x5 (l7 + 1) h1 G1 R1 (by omega) (by omega) (by omega) (by omega) (tmI_step (by omega) (by omega) (by omega) i0 (fun j => R 124 j rfl) ex2 ex3 ex4 ex5 E1) (by omega))
theorem a_X12_timesU (h0 : m_H) (a1 a3 a4 : Int) (G0 : GI h0) (pa1 : 0 ≤ a1 ∧ a1 ≤ 0) (pa3 : 0 ≤ a3 ∧ a3 ≤ 75) (pa4 : 0 ≤ a4 ∧ a4 ≤ 199) : ∀ n, q_X12_timesU h0 a1 a3 a4 n := by
  intro n
  induction n with
  | zero => unfold q_X12_timesU; intros; omega
  | succ n ih => exact s_X12_timesU_6 h0 a1 a3 a4 G0 pa1 pa3 pa4 n ih
set_option maxHeartbeats 4000000 in
set_option maxRecDepth 100000 in
theorem c_X12_timesU (h0 : m_H) (a1 a3 a4 : Int) (G0 : GI h0) (pa1 : 0 ≤ a1 ∧ a1 ≤ 0) (pa3 : 0 ≤ a3 ∧ a3 ≤ 75) (pa4 : 0 ≤ a4 ∧ a4 ≤ 199) : m_CV M_X12_times [mR 132, mI a1, mR 124, mI a3, mI a4] h0 (P_X12_timesU h0 a1 a3 a4) := by
  refine m_CV_of ⟨by decide, rfl, by simp [m_arg, m_isL, M_X12_times], ⟨rfl, rfl⟩, rfl, rfl⟩ (ls := [some (mR 132), some (mI a1), some (mR 124), some (mI a3), some (mI a4), none, none, none, none, none]) rfl ?_
  have ih := a_X12_timesU h0 a1 a3 a4 G0 pa1 pa3 pa4 18
  refine z_lconst (M := M_X12_times) 0 dX12_times_0 (v := 0) ?_
  refine z_lstore (M := M_X12_times) 1 dX12_times_1 (ls' := [some (mR 132), some (mI a1), some (mR 124), some (mI a3), some (mI a4), some (mJ 0), none, none, none, none]) (by decide) rfl ?_
  refine z_iconst (M := M_X12_times) 3 dX12_times_3 ?_
  refine z_istore (M := M_X12_times) 4 dX12_times_4 (ls' := [some (mR 132), some (mI a1), some (mR 124), some (mI a3), some (mI a4), some (mJ 0), none, some (mI 0), none, none]) (by decide) rfl ?_
  exact z_mask [true, true, true, true, true, true, false, true, false, false] rfl (ih 0 0 h0 G0 (FR.rf (cs := [132]) (ss := []) (h := h0)) (by omega) (by omega) (by omega) (by omega) tmI_0 (by omega))
abbrev P_X12_timesL (h0 : m_H) (a1 a3 a4 : Int) : m_H → Prop := fun h' => GI h' ∧ FR [133] [] h0 h' ∧ vS (h' 133) 0 5 = (vS (h0 125) a3.toNat 5 * a4) % gBig
def q_X12_timesL (h0 : m_H) (a1 a3 a4 : Int) (n : Nat) : Prop := (∀ (l5 l7 : Int) (h : m_H), GI h → FR [133] [] h0 h → 0 ≤ l5 → l5 ≤ 198 → 0 ≤ l7 → l7 ≤ 5 → (tmI (h 133) (h0 125) a3 l7 l5 a4) → 2 * (5 - l7) + (1) ≤ (n : Int) → m_Z oF M_X12_times 6 [some (mR 133), some (mI a1), some (mR 125), some (mI a3), some (mI a4), some (mJ l5), none, some (mI l7), none, none] [] h (m_QV (P_X12_timesL h0 a1 a3 a4)))
set_option maxHeartbeats 4000000 in
set_option maxRecDepth 100000 in
theorem s_X12_timesL_6 (h0 : m_H) (a1 a3 a4 : Int) (G0 : GI h0) (pa1 : 0 ≤ a1 ∧ a1 ≤ 0) (pa3 : 0 ≤ a3 ∧ a3 ≤ 75) (pa4 : 0 ≤ a4 ∧ a4 ≤ 199) (n : Nat) (ih : q_X12_timesL h0 a1 a3 a4 n) : ∀ (l5 l7 : Int) (h : m_H), GI h → FR [133] [] h0 h → 0 ≤ l5 → l5 ≤ 198 → 0 ≤ l7 → l7 ≤ 5 → (tmI (h 133) (h0 125) a3 l7 l5 a4) → 2 * (5 - l7) + (1) ≤ ((n + 1 : Nat) : Int) → m_Z oF M_X12_times 6 [some (mR 133), some (mI a1), some (mR 125), some (mI a3), some (mI a4), some (mJ l5), none, some (mI l7), none, none] [] h (m_QV (P_X12_timesL h0 a1 a3 a4)) := by
  intro l5 l7 h G R v0 v1 v2 v3 i0 hr
  refine z_iload (M := M_X12_times) 6 dX12_times_6 rfl ?_
  refine z_iconst (M := M_X12_times) 8 dX12_times_8 ?_
  refine z_icmp_ge (M := M_X12_times) 9 dX12_times_9 53 rfl (fun c1 => ?_) (fun c1 => ?_)
  · exact z_retV (M := M_X12_times) 53 dX12_times_53 rfl ⟨G, R, tmI_end (by omega) i0 (fun j hj => g_133 G hj)⟩
  · refine z_aload_n (M := M_X12_times) 12 dX12_times_12 rfl ?_
    refine z_iload_n (M := M_X12_times) 13 dX12_times_13 rfl ?_
    refine z_iload (M := M_X12_times) 14 dX12_times_14 rfl ?_
    refine z_iaddN (M := M_X12_times) 16 dX12_times_16 (by omega) (by omega) ?_
    refine z_laldG (M := M_X12_times) 17 dX12_times_17 o_125 (by omega) (by omega) (g_125 G (by omega)) (fun x2 ex2 ax2 bx2 => ?_)
    refine z_iload (M := M_X12_times) 18 dX12_times_18 rfl ?_
    refine z_i2l (M := M_X12_times) 20 dX12_times_20 ?_
    have mx3 := mul_bd (x := x2) (y := a4) (X := 99999999) (Y := 199) (by omega) (by omega) (by omega) (by omega)
    refine z_lmulN (M := M_X12_times) 21 dX12_times_21 (by omega) (by omega) ?_
    refine z_topBJ (lo := 0) (hi := 19899999801) ⟨by omega, by omega⟩ (fun x3 ex3 ax3 bx3 => ?_)
    refine z_lload (M := M_X12_times) 22 dX12_times_22 rfl ?_
    refine z_laddN (M := M_X12_times) 24 dX12_times_24 (by omega) (by omega) ?_
    refine z_lstore (M := M_X12_times) 25 dX12_times_25 (ls' := [some (mR 133), some (mI a1), some (mR 125), some (mI a3), some (mI a4), some (mJ l5), none, some (mI l7), some (mJ (x3 + l5)), none]) (by decide) rfl ?_
    refine z_aload_n (M := M_X12_times) 27 dX12_times_27 rfl ?_
    refine z_iload_n (M := M_X12_times) 28 dX12_times_28 rfl ?_
    refine z_iload (M := M_X12_times) 29 dX12_times_29 rfl ?_
    refine z_iaddN (M := M_X12_times) 31 dX12_times_31 (by omega) (by omega) ?_
    refine z_lload (M := M_X12_times) 32 dX12_times_32 rfl ?_
    refine z_ldc2 (M := M_X12_times) 34 dX12_times_34 k_X12_327 ?_
    refine z_lremN (M := M_X12_times) 37 dX12_times_37 (by omega) (by omega) ?_
    refine z_topBJ (lo := 0) (hi := 99999999) ⟨by omega, by omega⟩ (fun x4 ex4 ax4 bx4 => ?_)
    refine z_lastH (M := M_X12_times) 38 dX12_times_38 o_133 (by omega) (by omega) (u_133 G (by omega) (by omega)) (R.up rfl) (fun h1 E1 G1 R1 => ?_)
    refine z_lload (M := M_X12_times) 39 dX12_times_39 rfl ?_
    refine z_ldc2 (M := M_X12_times) 41 dX12_times_41 k_X12_327 ?_
    refine z_ldivN (M := M_X12_times) 44 dX12_times_44 (by omega) (by omega) ?_
    refine z_topBJ (lo := 0) (hi := 198) ⟨by omega, by omega⟩ (fun x5 ex5 ax5 bx5 => ?_)
    refine z_lstore (M := M_X12_times) 45 dX12_times_45 (ls' := [some (mR 133), some (mI a1), some (mR 125), some (mI a3), some (mI a4), some (mJ x5), none, some (mI l7), some (mJ (x3 + l5)), none]) (by decide) rfl ?_
    refine z_iincN (M := M_X12_times) 47 dX12_times_47 (ls' := [some (mR 133), some (mI a1), some (mR 125), some (mI a3), some (mI a4), some (mJ x5), none, some (mI (l7 + 1)), some (mJ (x3 + l5)), none]) (by decide) rfl (by (unfold m_32; decide)) (by omega) (by omega) rfl ?_
    refine z_goto (M := M_X12_times) 50 dX12_times_50 6 rfl ?_
    exact z_mask [true, true, true, true, true, true, false, true, false, false] rfl (ih x5 (l7 + 1) h1 G1 R1 (by omega) (by omega) (by omega) (by omega) (tmI_step (by omega) (by omega) (by omega) i0 (fun j => R 125 j rfl) ex2 ex3 ex4 ex5 E1) (by omega))
theorem a_X12_timesL (h0 : m_H) (a1 a3 a4 : Int) (G0 : GI h0) (pa1 : 0 ≤ a1 ∧ a1 ≤ 0) (pa3 : 0 ≤ a3 ∧ a3 ≤ 75) (pa4 : 0 ≤ a4 ∧ a4 ≤ 199) : ∀ n, q_X12_timesL h0 a1 a3 a4 n := by
  intro n
  induction n with
  | zero => unfold q_X12_timesL; intros; omega
  | succ n ih => exact s_X12_timesL_6 h0 a1 a3 a4 G0 pa1 pa3 pa4 n ih
set_option maxHeartbeats 4000000 in
set_option maxRecDepth 100000 in
theorem c_X12_timesL (h0 : m_H) (a1 a3 a4 : Int) (G0 : GI h0) (pa1 : 0 ≤ a1 ∧ a1 ≤ 0) (pa3 : 0 ≤ a3 ∧ a3 ≤ 75) (pa4 : 0 ≤ a4 ∧ a4 ≤ 199) : m_CV M_X12_times [mR 133, mI a1, mR 125, mI a3, mI a4] h0 (P_X12_timesL h0 a1 a3 a4) := by
  refine m_CV_of ⟨by decide, rfl, by simp [m_arg, m_isL, M_X12_times], ⟨rfl, rfl⟩, rfl, rfl⟩ (ls := [some (mR 133), some (mI a1), some (mR 125), some (mI a3), some (mI a4), none, none, none, none, none]) rfl ?_
  have ih := a_X12_timesL h0 a1 a3 a4 G0 pa1 pa3 pa4 18
  refine z_lconst (M := M_X12_times) 0 dX12_times_0 (v := 0) ?_
  refine z_lstore (M := M_X12_times) 1 dX12_times_1 (ls' := [some (mR 133), some (mI a1), some (mR 125), some (mI a3), some (mI a4), some (mJ 0), none, none, none, none]) (by decide) rfl ?_
  refine z_iconst (M := M_X12_times) 3 dX12_times_3 ?_
  refine z_istore (M := M_X12_times) 4 dX12_times_4 (ls' := [some (mR 133), some (mI a1), some (mR 125), some (mI a3), some (mI a4), some (mJ 0), none, some (mI 0), none, none]) (by decide) rfl ?_
  exact z_mask [true, true, true, true, true, true, false, true, false, false] rfl (ih 0 0 h0 G0 (FR.rf (cs := [133]) (ss := []) (h := h0)) (by omega) (by omega) (by omega) (by omega) tmI_0 (by omega))
abbrev P_X12_product0 (h0 : m_H) (a2 a4 : Int) : m_H → Prop := fun h' => GI h' ∧ FR [115] [] h0 h' ∧ pdO (h' 115) (h0 132) (h0 129) a2 a4 5
def q_X12_product0 (h0 : m_H) (a2 a4 : Int) (n : Nat) : Prop := (∀ (l5 : Int) (h : m_H), GI h → FR [115] [] h0 h → 0 ≤ l5 → l5 ≤ 10 → (∀ j : Nat, (j : Int) < l5 → h 115 j = 0) → 2 * (10 - l5) + (92) ≤ (n : Int) → m_Z oF M_X12_product 3 [some (mR 115), some (mR 132), some (mI a2), some (mR 129), some (mI a4), some (mI l5), none, none, none, none, none] [] h (m_QV (P_X12_product0 h0 a2 a4))) ∧ (∀ (l5 : Int) (h : m_H), GI h → FR [115] [] h0 h → 0 ≤ l5 → l5 ≤ 5 → (pdO (h 115) (h0 132) (h0 129) a2 a4 l5) → 15 * (5 - l5) + (14) ≤ (n : Int) → m_Z oF M_X12_product 24 [some (mR 115), some (mR 132), some (mI a2), some (mR 129), some (mI a4), some (mI l5), none, none, none, none, none] [] h (m_QV (P_X12_product0 h0 a2 a4))) ∧ (∀ (l5 l6 l8 : Int) (h : m_H), GI h → FR [115] [] h0 h → 0 ≤ l5 → l5 ≤ 4 → 0 ≤ l6 → l6 ≤ 99999999 → 0 ≤ l8 → l8 ≤ 5 → (pdI (h 115) (h0 132) (h0 129) a2 a4 l5 l8 l6) → 15 * (5 - l5) + 2 * (5 - l8) + (1) ≤ (n : Int) → m_Z oF M_X12_product 36 [some (mR 115), some (mR 132), some (mI a2), some (mR 129), some (mI a4), some (mI l5), some (mJ l6), none, some (mI l8), none, none] [] h (m_QV (P_X12_product0 h0 a2 a4)))
set_option maxHeartbeats 4000000 in
set_option maxRecDepth 100000 in
theorem s_X12_product0_3 (h0 : m_H) (a2 a4 : Int) (G0 : GI h0) (pa2 : 0 ≤ a2 ∧ a2 ≤ 0) (pa4 : 0 ≤ a4 ∧ a4 ≤ 75) (n : Nat) (ih : q_X12_product0 h0 a2 a4 n) : ∀ (l5 : Int) (h : m_H), GI h → FR [115] [] h0 h → 0 ≤ l5 → l5 ≤ 10 → (∀ j : Nat, (j : Int) < l5 → h 115 j = 0) → 2 * (10 - l5) + (92) ≤ ((n + 1 : Nat) : Int) → m_Z oF M_X12_product 3 [some (mR 115), some (mR 132), some (mI a2), some (mR 129), some (mI a4), some (mI l5), none, none, none, none, none] [] h (m_QV (P_X12_product0 h0 a2 a4)) := by
  intro l5 h G R v0 v1 i0 hr
  refine z_iload (M := M_X12_product) 3 dX12_product_3 rfl ?_
  refine z_bipush (M := M_X12_product) 5 dX12_product_5 ?_
  refine z_icmp_ge (M := M_X12_product) 7 dX12_product_7 21 rfl (fun c1 => ?_) (fun c1 => ?_)
  · refine z_iconst (M := M_X12_product) 21 dX12_product_21 ?_
    refine z_istore (M := M_X12_product) 22 dX12_product_22 (ls' := [some (mR 115), some (mR 132), some (mI a2), some (mR 129), some (mI a4), some (mI 0), none, none, none, none, none]) (by decide) rfl ?_
    exact z_mask [true, true, true, true, true, true, false, false, false, false, false] rfl (ih.2.1 0 h G R (by omega) (by omega) (pdO_0 (by omega) i0) (by omega))
  · refine z_aload_n (M := M_X12_product) 10 dX12_product_10 rfl ?_
    refine z_iload (M := M_X12_product) 11 dX12_product_11 rfl ?_
    refine z_lconst (M := M_X12_product) 13 dX12_product_13 (v := 0) ?_
    refine z_lastH (M := M_X12_product) 14 dX12_product_14 o_115 (by omega) (by omega) (u_115 G) (R.up rfl) (fun h1 E1 G1 R1 => ?_)
    refine z_iincN (M := M_X12_product) 15 dX12_product_15 (ls' := [some (mR 115), some (mR 132), some (mI a2), some (mR 129), some (mI a4), some (mI (l5 + 1)), none, none, none, none, none]) (by decide) rfl (by (unfold m_32; decide)) (by omega) (by omega) rfl ?_
    refine z_goto (M := M_X12_product) 18 dX12_product_18 3 rfl ?_
    exact z_mask [true, true, true, true, true, true, false, false, false, false, false] rfl (ih.1 (l5 + 1) h1 G1 R1 (by omega) (by omega) (pz_step (by omega) i0 E1) (by omega))
set_option maxHeartbeats 4000000 in
set_option maxRecDepth 100000 in
theorem s_X12_product0_24 (h0 : m_H) (a2 a4 : Int) (G0 : GI h0) (pa2 : 0 ≤ a2 ∧ a2 ≤ 0) (pa4 : 0 ≤ a4 ∧ a4 ≤ 75) (n : Nat) (ih : q_X12_product0 h0 a2 a4 n) : ∀ (l5 : Int) (h : m_H), GI h → FR [115] [] h0 h → 0 ≤ l5 → l5 ≤ 5 → (pdO (h 115) (h0 132) (h0 129) a2 a4 l5) → 15 * (5 - l5) + (14) ≤ ((n + 1 : Nat) : Int) → m_Z oF M_X12_product 24 [some (mR 115), some (mR 132), some (mI a2), some (mR 129), some (mI a4), some (mI l5), none, none, none, none, none] [] h (m_QV (P_X12_product0 h0 a2 a4)) := by
  intro l5 h G R v0 v1 i0 hr
  refine z_iload (M := M_X12_product) 24 dX12_product_24 rfl ?_
  refine z_iconst (M := M_X12_product) 26 dX12_product_26 ?_
  refine z_icmp_ge (M := M_X12_product) 27 dX12_product_27 113 rfl (fun c1 => ?_) (fun c1 => ?_)
  · exact z_retV (M := M_X12_product) 113 dX12_product_113 rfl ⟨G, R, (show l5 = 5 by omega) ▸ i0⟩
  · refine z_lconst (M := M_X12_product) 30 dX12_product_30 (v := 0) ?_
    refine z_lstore (M := M_X12_product) 31 dX12_product_31 (ls' := [some (mR 115), some (mR 132), some (mI a2), some (mR 129), some (mI a4), some (mI l5), some (mJ 0), none, none, none, none]) (by decide) rfl ?_
    refine z_iconst (M := M_X12_product) 33 dX12_product_33 ?_
    refine z_istore (M := M_X12_product) 34 dX12_product_34 (ls' := [some (mR 115), some (mR 132), some (mI a2), some (mR 129), some (mI a4), some (mI l5), some (mJ 0), none, some (mI 0), none, none]) (by decide) rfl ?_
    exact z_mask [true, true, true, true, true, true, true, false, true, false, false] rfl (ih.2.2 l5 0 0 h G R (by omega) (by omega) (by omega) (by omega) (by omega) (by omega) (pdI_0 i0) (by omega))
set_option maxHeartbeats 4000000 in
set_option maxRecDepth 100000 in
theorem s_X12_product0_36 (h0 : m_H) (a2 a4 : Int) (G0 : GI h0) (pa2 : 0 ≤ a2 ∧ a2 ≤ 0) (pa4 : 0 ≤ a4 ∧ a4 ≤ 75) (n : Nat) (ih : q_X12_product0 h0 a2 a4 n) : ∀ (l5 l6 l8 : Int) (h : m_H), GI h → FR [115] [] h0 h → 0 ≤ l5 → l5 ≤ 4 → 0 ≤ l6 → l6 ≤ 99999999 → 0 ≤ l8 → l8 ≤ 5 → (pdI (h 115) (h0 132) (h0 129) a2 a4 l5 l8 l6) → 15 * (5 - l5) + 2 * (5 - l8) + (1) ≤ ((n + 1 : Nat) : Int) → m_Z oF M_X12_product 36 [some (mR 115), some (mR 132), some (mI a2), some (mR 129), some (mI a4), some (mI l5), some (mJ l6), none, some (mI l8), none, none] [] h (m_QV (P_X12_product0 h0 a2 a4)) := by
  intro l5 l6 l8 h G R v0 v1 v2 v3 v4 v5 i0 hr
  refine z_iload (M := M_X12_product) 36 dX12_product_36 rfl ?_
  refine z_iconst (M := M_X12_product) 38 dX12_product_38 ?_
  refine z_icmp_ge (M := M_X12_product) 39 dX12_product_39 96 rfl (fun c1 => ?_) (fun c1 => ?_)
  · refine z_aload_n (M := M_X12_product) 96 dX12_product_96 rfl ?_
    refine z_iload (M := M_X12_product) 97 dX12_product_97 rfl ?_
    refine z_iconst (M := M_X12_product) 99 dX12_product_99 ?_
    refine z_iaddN (M := M_X12_product) 100 dX12_product_100 (by omega) (by omega) ?_
    refine z_dup2 (M := M_X12_product) 101 dX12_product_101 rfl rfl ?_
    refine z_laldG (M := M_X12_product) 102 dX12_product_102 o_115 (by omega) (by omega) (i0.1.at (i := (l5 + 5)) (by omega) (by omega)) (fun x2 ex2 ax2 bx2 => ?_)
    refine z_lload (M := M_X12_product) 103 dX12_product_103 rfl ?_
    refine z_laddN (M := M_X12_product) 105 dX12_product_105 (by omega) (by omega) ?_
    refine z_lastH (M := M_X12_product) 106 dX12_product_106 o_115 (by omega) (by omega) (u_115 G) (R.up rfl) (fun h1 E1 G1 R1 => ?_)
    refine z_iincN (M := M_X12_product) 107 dX12_product_107 (ls' := [some (mR 115), some (mR 132), some (mI a2), some (mR 129), some (mI a4), some (mI (l5 + 1)), some (mJ l6), none, some (mI l8), none, none]) (by decide) rfl (by (unfold m_32; decide)) (by omega) (by omega) rfl ?_
    refine z_goto (M := M_X12_product) 110 dX12_product_110 24 rfl ?_
    exact z_mask [true, true, true, true, true, true, false, false, false, false, false] rfl (ih.2.1 (l5 + 1) h1 G1 R1 (by omega) (by omega) (pdO_step (by omega) (by omega) (by omega) i0 ex2 ⟨by omega, by omega⟩ E1) (by omega))
  · refine z_aload_n (M := M_X12_product) 42 dX12_product_42 rfl ?_
    refine z_iload (M := M_X12_product) 43 dX12_product_43 rfl ?_
    refine z_iload (M := M_X12_product) 45 dX12_product_45 rfl ?_
    refine z_iaddN (M := M_X12_product) 47 dX12_product_47 (by omega) (by omega) ?_
    refine z_laldG (M := M_X12_product) 48 dX12_product_48 o_115 (by omega) (by omega) (i0.1.at (i := (l5 + l8)) (by omega) (by omega)) (fun x3 ex3 ax3 bx3 => ?_)
    refine z_aload_n (M := M_X12_product) 49 dX12_product_49 rfl ?_
    refine z_iload_n (M := M_X12_product) 50 dX12_product_50 rfl ?_
    refine z_iload (M := M_X12_product) 51 dX12_product_51 rfl ?_
    refine z_iaddN (M := M_X12_product) 53 dX12_product_53 (by omega) (by omega) ?_
    refine z_laldG (M := M_X12_product) 54 dX12_product_54 o_132 (by omega) (by omega) (g_132 G (by omega)) (fun x4 ex4 ax4 bx4 => ?_)
    refine z_aload_n (M := M_X12_product) 55 dX12_product_55 rfl ?_
    refine z_iload (M := M_X12_product) 56 dX12_product_56 rfl ?_
    refine z_iload (M := M_X12_product) 58 dX12_product_58 rfl ?_
    refine z_iaddN (M := M_X12_product) 60 dX12_product_60 (by omega) (by omega) ?_
    refine z_laldG (M := M_X12_product) 61 dX12_product_61 o_129 (by omega) (by omega) (g_129 G (by omega)) (fun x5 ex5 ax5 bx5 => ?_)
    have mx6 := mul_bd (x := x4) (y := x5) (X := 99999999) (Y := 99999999) (by omega) (by omega) (by omega) (by omega)
    refine z_lmulN (M := M_X12_product) 62 dX12_product_62 (by omega) (by omega) ?_
    refine z_topBJ (lo := 0) (hi := 9999999800000001) ⟨by omega, by omega⟩ (fun x6 ex6 ax6 bx6 => ?_)
    refine z_laddN (M := M_X12_product) 63 dX12_product_63 (by omega) (by omega) ?_
    refine z_lload (M := M_X12_product) 64 dX12_product_64 rfl ?_
    refine z_laddN (M := M_X12_product) 66 dX12_product_66 (by omega) (by omega) ?_
    refine z_lstore (M := M_X12_product) 67 dX12_product_67 (ls' := [some (mR 115), some (mR 132), some (mI a2), some (mR 129), some (mI a4), some (mI l5), some (mJ l6), none, some (mI l8), some (mJ ((x3 + x6) + l6)), none]) (by decide) rfl ?_
    refine z_aload_n (M := M_X12_product) 69 dX12_product_69 rfl ?_
    refine z_iload (M := M_X12_product) 70 dX12_product_70 rfl ?_
    refine z_iload (M := M_X12_product) 72 dX12_product_72 rfl ?_
    refine z_iaddN (M := M_X12_product) 74 dX12_product_74 (by omega) (by omega) ?_
    refine z_lload (M := M_X12_product) 75 dX12_product_75 rfl ?_
    refine z_ldc2 (M := M_X12_product) 77 dX12_product_77 k_X12_327 ?_
    refine z_lremN (M := M_X12_product) 80 dX12_product_80 (by omega) (by omega) ?_
    refine z_topBJ (lo := 0) (hi := 99999999) ⟨by omega, by omega⟩ (fun x7 ex7 ax7 bx7 => ?_)
    refine z_lastH (M := M_X12_product) 81 dX12_product_81 o_115 (by omega) (by omega) (u_115 G) (R.up rfl) (fun h2 E2 G2 R2 => ?_)
    refine z_lload (M := M_X12_product) 82 dX12_product_82 rfl ?_
    refine z_ldc2 (M := M_X12_product) 84 dX12_product_84 k_X12_327 ?_
    refine z_ldivN (M := M_X12_product) 87 dX12_product_87 (by omega) (by omega) ?_
    refine z_topBJ (lo := 0) (hi := 99999999) ⟨by omega, by omega⟩ (fun x8 ex8 ax8 bx8 => ?_)
    refine z_lstore (M := M_X12_product) 88 dX12_product_88 (ls' := [some (mR 115), some (mR 132), some (mI a2), some (mR 129), some (mI a4), some (mI l5), some (mJ x8), none, some (mI l8), some (mJ ((x3 + x6) + l6)), none]) (by decide) rfl ?_
    refine z_iincN (M := M_X12_product) 90 dX12_product_90 (ls' := [some (mR 115), some (mR 132), some (mI a2), some (mR 129), some (mI a4), some (mI l5), some (mJ x8), none, some (mI (l8 + 1)), some (mJ ((x3 + x6) + l6)), none]) (by decide) rfl (by (unfold m_32; decide)) (by omega) (by omega) rfl ?_
    refine z_goto (M := M_X12_product) 93 dX12_product_93 36 rfl ?_
    exact z_mask [true, true, true, true, true, true, true, false, true, false, false] rfl (ih.2.2 l5 x8 (l8 + 1) h2 G2 R2 (by omega) (by omega) (by omega) (by omega) (by omega) (by omega) (pdI_step (by omega) (by omega) (by omega) (by omega) (by omega) (by omega) i0 ex3 ((R 132 _ rfl).symm.trans ex4) ((R 129 _ rfl).symm.trans ex5) ex6 ex7 ex8 ⟨by omega, by omega⟩ E2) (by omega))
theorem a_X12_product0 (h0 : m_H) (a2 a4 : Int) (G0 : GI h0) (pa2 : 0 ≤ a2 ∧ a2 ≤ 0) (pa4 : 0 ≤ a4 ∧ a4 ≤ 75) : ∀ n, q_X12_product0 h0 a2 a4 n := by
  intro n
  induction n with
  | zero => unfold q_X12_product0; refine ⟨?_, ?_, ?_⟩ <;> (intros; omega)
  | succ n ih => exact ⟨s_X12_product0_3 h0 a2 a4 G0 pa2 pa4 n ih, s_X12_product0_24 h0 a2 a4 G0 pa2 pa4 n ih, s_X12_product0_36 h0 a2 a4 G0 pa2 pa4 n ih⟩
set_option maxHeartbeats 4000000 in
set_option maxRecDepth 100000 in
theorem c_X12_product0 (h0 : m_H) (a2 a4 : Int) (G0 : GI h0) (pa2 : 0 ≤ a2 ∧ a2 ≤ 0) (pa4 : 0 ≤ a4 ∧ a4 ≤ 75) : m_CV M_X12_product [mR 115, mR 132, mI a2, mR 129, mI a4] h0 (P_X12_product0 h0 a2 a4) := by
  refine m_CV_of ⟨by decide, rfl, by simp [m_arg, m_isL, M_X12_product], ⟨rfl, rfl⟩, rfl, rfl⟩ (ls := [some (mR 115), some (mR 132), some (mI a2), some (mR 129), some (mI a4), none, none, none, none, none, none]) rfl ?_
  have ih := a_X12_product0 h0 a2 a4 G0 pa2 pa4 119
  refine z_iconst (M := M_X12_product) 0 dX12_product_0 ?_
  refine z_istore (M := M_X12_product) 1 dX12_product_1 (ls' := [some (mR 115), some (mR 132), some (mI a2), some (mR 129), some (mI a4), some (mI 0), none, none, none, none, none]) (by decide) rfl ?_
  exact z_mask [true, true, true, true, true, true, false, false, false, false, false] rfl (ih.1 0 h0 G0 (FR.rf (cs := [115]) (ss := []) (h := h0)) (by omega) (by omega) (fun j hj => by omega) (by omega))
abbrev P_X12_product1 (h0 : m_H) (a2 a4 : Int) : m_H → Prop := fun h' => GI h' ∧ FR [116] [] h0 h' ∧ pdO (h' 116) (h0 128) (h0 133) a2 a4 5
def q_X12_product1 (h0 : m_H) (a2 a4 : Int) (n : Nat) : Prop := (∀ (l5 : Int) (h : m_H), GI h → FR [116] [] h0 h → 0 ≤ l5 → l5 ≤ 10 → (∀ j : Nat, (j : Int) < l5 → h 116 j = 0) → 2 * (10 - l5) + (92) ≤ (n : Int) → m_Z oF M_X12_product 3 [some (mR 116), some (mR 128), some (mI a2), some (mR 133), some (mI a4), some (mI l5), none, none, none, none, none] [] h (m_QV (P_X12_product1 h0 a2 a4))) ∧ (∀ (l5 : Int) (h : m_H), GI h → FR [116] [] h0 h → 0 ≤ l5 → l5 ≤ 5 → (pdO (h 116) (h0 128) (h0 133) a2 a4 l5) → 15 * (5 - l5) + (14) ≤ (n : Int) → m_Z oF M_X12_product 24 [some (mR 116), some (mR 128), some (mI a2), some (mR 133), some (mI a4), some (mI l5), none, none, none, none, none] [] h (m_QV (P_X12_product1 h0 a2 a4))) ∧ (∀ (l5 l6 l8 : Int) (h : m_H), GI h → FR [116] [] h0 h → 0 ≤ l5 → l5 ≤ 4 → 0 ≤ l6 → l6 ≤ 99999999 → 0 ≤ l8 → l8 ≤ 5 → (pdI (h 116) (h0 128) (h0 133) a2 a4 l5 l8 l6) → 15 * (5 - l5) + 2 * (5 - l8) + (1) ≤ (n : Int) → m_Z oF M_X12_product 36 [some (mR 116), some (mR 128), some (mI a2), some (mR 133), some (mI a4), some (mI l5), some (mJ l6), none, some (mI l8), none, none] [] h (m_QV (P_X12_product1 h0 a2 a4)))
set_option maxHeartbeats 4000000 in
set_option maxRecDepth 100000 in
theorem s_X12_product1_3 (h0 : m_H) (a2 a4 : Int) (G0 : GI h0) (pa2 : 0 ≤ a2 ∧ a2 ≤ 75) (pa4 : 0 ≤ a4 ∧ a4 ≤ 0) (n : Nat) (ih : q_X12_product1 h0 a2 a4 n) : ∀ (l5 : Int) (h : m_H), GI h → FR [116] [] h0 h → 0 ≤ l5 → l5 ≤ 10 → (∀ j : Nat, (j : Int) < l5 → h 116 j = 0) → 2 * (10 - l5) + (92) ≤ ((n + 1 : Nat) : Int) → m_Z oF M_X12_product 3 [some (mR 116), some (mR 128), some (mI a2), some (mR 133), some (mI a4), some (mI l5), none, none, none, none, none] [] h (m_QV (P_X12_product1 h0 a2 a4)) := by
  intro l5 h G R v0 v1 i0 hr
  refine z_iload (M := M_X12_product) 3 dX12_product_3 rfl ?_
  refine z_bipush (M := M_X12_product) 5 dX12_product_5 ?_
  refine z_icmp_ge (M := M_X12_product) 7 dX12_product_7 21 rfl (fun c1 => ?_) (fun c1 => ?_)
  · refine z_iconst (M := M_X12_product) 21 dX12_product_21 ?_
    refine z_istore (M := M_X12_product) 22 dX12_product_22 (ls' := [some (mR 116), some (mR 128), some (mI a2), some (mR 133), some (mI a4), some (mI 0), none, none, none, none, none]) (by decide) rfl ?_
    exact z_mask [true, true, true, true, true, true, false, false, false, false, false] rfl (ih.2.1 0 h G R (by omega) (by omega) (pdO_0 (by omega) i0) (by omega))
  · refine z_aload_n (M := M_X12_product) 10 dX12_product_10 rfl ?_
    refine z_iload (M := M_X12_product) 11 dX12_product_11 rfl ?_
    refine z_lconst (M := M_X12_product) 13 dX12_product_13 (v := 0) ?_
    refine z_lastH (M := M_X12_product) 14 dX12_product_14 o_116 (by omega) (by omega) (u_116 G) (R.up rfl) (fun h1 E1 G1 R1 => ?_)
    refine z_iincN (M := M_X12_product) 15 dX12_product_15 (ls' := [some (mR 116), some (mR 128), some (mI a2), some (mR 133), some (mI a4), some (mI (l5 + 1)), none, none, none, none, none]) (by decide) rfl (by (unfold m_32; decide)) (by omega) (by omega) rfl ?_
    refine z_goto (M := M_X12_product) 18 dX12_product_18 3 rfl ?_
    exact z_mask [true, true, true, true, true, true, false, false, false, false, false] rfl (ih.1 (l5 + 1) h1 G1 R1 (by omega) (by omega) (pz_step (by omega) i0 E1) (by omega))
set_option maxHeartbeats 4000000 in
set_option maxRecDepth 100000 in
theorem s_X12_product1_24 (h0 : m_H) (a2 a4 : Int) (G0 : GI h0) (pa2 : 0 ≤ a2 ∧ a2 ≤ 75) (pa4 : 0 ≤ a4 ∧ a4 ≤ 0) (n : Nat) (ih : q_X12_product1 h0 a2 a4 n) : ∀ (l5 : Int) (h : m_H), GI h → FR [116] [] h0 h → 0 ≤ l5 → l5 ≤ 5 → (pdO (h 116) (h0 128) (h0 133) a2 a4 l5) → 15 * (5 - l5) + (14) ≤ ((n + 1 : Nat) : Int) → m_Z oF M_X12_product 24 [some (mR 116), some (mR 128), some (mI a2), some (mR 133), some (mI a4), some (mI l5), none, none, none, none, none] [] h (m_QV (P_X12_product1 h0 a2 a4)) := by
  intro l5 h G R v0 v1 i0 hr
  refine z_iload (M := M_X12_product) 24 dX12_product_24 rfl ?_
  refine z_iconst (M := M_X12_product) 26 dX12_product_26 ?_
  refine z_icmp_ge (M := M_X12_product) 27 dX12_product_27 113 rfl (fun c1 => ?_) (fun c1 => ?_)
  · exact z_retV (M := M_X12_product) 113 dX12_product_113 rfl ⟨G, R, (show l5 = 5 by omega) ▸ i0⟩
  · refine z_lconst (M := M_X12_product) 30 dX12_product_30 (v := 0) ?_
    refine z_lstore (M := M_X12_product) 31 dX12_product_31 (ls' := [some (mR 116), some (mR 128), some (mI a2), some (mR 133), some (mI a4), some (mI l5), some (mJ 0), none, none, none, none]) (by decide) rfl ?_
    refine z_iconst (M := M_X12_product) 33 dX12_product_33 ?_
    refine z_istore (M := M_X12_product) 34 dX12_product_34 (ls' := [some (mR 116), some (mR 128), some (mI a2), some (mR 133), some (mI a4), some (mI l5), some (mJ 0), none, some (mI 0), none, none]) (by decide) rfl ?_
    exact z_mask [true, true, true, true, true, true, true, false, true, false, false] rfl (ih.2.2 l5 0 0 h G R (by omega) (by omega) (by omega) (by omega) (by omega) (by omega) (pdI_0 i0) (by omega))
set_option maxHeartbeats 4000000 in
set_option maxRecDepth 100000 in
theorem s_X12_product1_36 (h0 : m_H) (a2 a4 : Int) (G0 : GI h0) (pa2 : 0 ≤ a2 ∧ a2 ≤ 75) (pa4 : 0 ≤ a4 ∧ a4 ≤ 0) (n : Nat) (ih : q_X12_product1 h0 a2 a4 n) : ∀ (l5 l6 l8 : Int) (h : m_H), GI h → FR [116] [] h0 h → 0 ≤ l5 → l5 ≤ 4 → 0 ≤ l6 → l6 ≤ 99999999 → 0 ≤ l8 → l8 ≤ 5 → (pdI (h 116) (h0 128) (h0 133) a2 a4 l5 l8 l6) → 15 * (5 - l5) + 2 * (5 - l8) + (1) ≤ ((n + 1 : Nat) : Int) → m_Z oF M_X12_product 36 [some (mR 116), some (mR 128), some (mI a2), some (mR 133), some (mI a4), some (mI l5), some (mJ l6), none, some (mI l8), none, none] [] h (m_QV (P_X12_product1 h0 a2 a4)) := by
  intro l5 l6 l8 h G R v0 v1 v2 v3 v4 v5 i0 hr
  refine z_iload (M := M_X12_product) 36 dX12_product_36 rfl ?_
  refine z_iconst (M := M_X12_product) 38 dX12_product_38 ?_
  refine z_icmp_ge (M := M_X12_product) 39 dX12_product_39 96 rfl (fun c1 => ?_) (fun c1 => ?_)
  · refine z_aload_n (M := M_X12_product) 96 dX12_product_96 rfl ?_
    refine z_iload (M := M_X12_product) 97 dX12_product_97 rfl ?_
    refine z_iconst (M := M_X12_product) 99 dX12_product_99 ?_
    refine z_iaddN (M := M_X12_product) 100 dX12_product_100 (by omega) (by omega) ?_
    refine z_dup2 (M := M_X12_product) 101 dX12_product_101 rfl rfl ?_
    refine z_laldG (M := M_X12_product) 102 dX12_product_102 o_116 (by omega) (by omega) (i0.1.at (i := (l5 + 5)) (by omega) (by omega)) (fun x2 ex2 ax2 bx2 => ?_)
    refine z_lload (M := M_X12_product) 103 dX12_product_103 rfl ?_
    refine z_laddN (M := M_X12_product) 105 dX12_product_105 (by omega) (by omega) ?_
    refine z_lastH (M := M_X12_product) 106 dX12_product_106 o_116 (by omega) (by omega) (u_116 G) (R.up rfl) (fun h1 E1 G1 R1 => ?_)
    refine z_iincN (M := M_X12_product) 107 dX12_product_107 (ls' := [some (mR 116), some (mR 128), some (mI a2), some (mR 133), some (mI a4), some (mI (l5 + 1)), some (mJ l6), none, some (mI l8), none, none]) (by decide) rfl (by (unfold m_32; decide)) (by omega) (by omega) rfl ?_
    refine z_goto (M := M_X12_product) 110 dX12_product_110 24 rfl ?_
    exact z_mask [true, true, true, true, true, true, false, false, false, false, false] rfl (ih.2.1 (l5 + 1) h1 G1 R1 (by omega) (by omega) (pdO_step (by omega) (by omega) (by omega) i0 ex2 ⟨by omega, by omega⟩ E1) (by omega))
  · refine z_aload_n (M := M_X12_product) 42 dX12_product_42 rfl ?_
    refine z_iload (M := M_X12_product) 43 dX12_product_43 rfl ?_
    refine z_iload (M := M_X12_product) 45 dX12_product_45 rfl ?_
    refine z_iaddN (M := M_X12_product) 47 dX12_product_47 (by omega) (by omega) ?_
    refine z_laldG (M := M_X12_product) 48 dX12_product_48 o_116 (by omega) (by omega) (i0.1.at (i := (l5 + l8)) (by omega) (by omega)) (fun x3 ex3 ax3 bx3 => ?_)
    refine z_aload_n (M := M_X12_product) 49 dX12_product_49 rfl ?_
    refine z_iload_n (M := M_X12_product) 50 dX12_product_50 rfl ?_
    refine z_iload (M := M_X12_product) 51 dX12_product_51 rfl ?_
    refine z_iaddN (M := M_X12_product) 53 dX12_product_53 (by omega) (by omega) ?_
    refine z_laldG (M := M_X12_product) 54 dX12_product_54 o_128 (by omega) (by omega) (g_128 G (by omega)) (fun x4 ex4 ax4 bx4 => ?_)
    refine z_aload_n (M := M_X12_product) 55 dX12_product_55 rfl ?_
    refine z_iload (M := M_X12_product) 56 dX12_product_56 rfl ?_
    refine z_iload (M := M_X12_product) 58 dX12_product_58 rfl ?_
    refine z_iaddN (M := M_X12_product) 60 dX12_product_60 (by omega) (by omega) ?_
    refine z_laldG (M := M_X12_product) 61 dX12_product_61 o_133 (by omega) (by omega) (g_133 G (by omega)) (fun x5 ex5 ax5 bx5 => ?_)
    have mx6 := mul_bd (x := x4) (y := x5) (X := 99999999) (Y := 99999999) (by omega) (by omega) (by omega) (by omega)
    refine z_lmulN (M := M_X12_product) 62 dX12_product_62 (by omega) (by omega) ?_
    refine z_topBJ (lo := 0) (hi := 9999999800000001) ⟨by omega, by omega⟩ (fun x6 ex6 ax6 bx6 => ?_)
    refine z_laddN (M := M_X12_product) 63 dX12_product_63 (by omega) (by omega) ?_
    refine z_lload (M := M_X12_product) 64 dX12_product_64 rfl ?_
    refine z_laddN (M := M_X12_product) 66 dX12_product_66 (by omega) (by omega) ?_
    refine z_lstore (M := M_X12_product) 67 dX12_product_67 (ls' := [some (mR 116), some (mR 128), some (mI a2), some (mR 133), some (mI a4), some (mI l5), some (mJ l6), none, some (mI l8), some (mJ ((x3 + x6) + l6)), none]) (by decide) rfl ?_
    refine z_aload_n (M := M_X12_product) 69 dX12_product_69 rfl ?_
    refine z_iload (M := M_X12_product) 70 dX12_product_70 rfl ?_
    refine z_iload (M := M_X12_product) 72 dX12_product_72 rfl ?_
    refine z_iaddN (M := M_X12_product) 74 dX12_product_74 (by omega) (by omega) ?_
    refine z_lload (M := M_X12_product) 75 dX12_product_75 rfl ?_
    refine z_ldc2 (M := M_X12_product) 77 dX12_product_77 k_X12_327 ?_
    refine z_lremN (M := M_X12_product) 80 dX12_product_80 (by omega) (by omega) ?_
    refine z_topBJ (lo := 0) (hi := 99999999) ⟨by omega, by omega⟩ (fun x7 ex7 ax7 bx7 => ?_)
    refine z_lastH (M := M_X12_product) 81 dX12_product_81 o_116 (by omega) (by omega) (u_116 G) (R.up rfl) (fun h2 E2 G2 R2 => ?_)
    refine z_lload (M := M_X12_product) 82 dX12_product_82 rfl ?_
    refine z_ldc2 (M := M_X12_product) 84 dX12_product_84 k_X12_327 ?_
    refine z_ldivN (M := M_X12_product) 87 dX12_product_87 (by omega) (by omega) ?_
    refine z_topBJ (lo := 0) (hi := 99999999) ⟨by omega, by omega⟩ (fun x8 ex8 ax8 bx8 => ?_)
    refine z_lstore (M := M_X12_product) 88 dX12_product_88 (ls' := [some (mR 116), some (mR 128), some (mI a2), some (mR 133), some (mI a4), some (mI l5), some (mJ x8), none, some (mI l8), some (mJ ((x3 + x6) + l6)), none]) (by decide) rfl ?_
    refine z_iincN (M := M_X12_product) 90 dX12_product_90 (ls' := [some (mR 116), some (mR 128), some (mI a2), some (mR 133), some (mI a4), some (mI l5), some (mJ x8), none, some (mI (l8 + 1)), some (mJ ((x3 + x6) + l6)), none]) (by decide) rfl (by (unfold m_32; decide)) (by omega) (by omega) rfl ?_
    refine z_goto (M := M_X12_product) 93 dX12_product_93 36 rfl ?_
    exact z_mask [true, true, true, true, true, true, true, false, true, false, false] rfl (ih.2.2 l5 x8 (l8 + 1) h2 G2 R2 (by omega) (by omega) (by omega) (by omega) (by omega) (by omega) (pdI_step (by omega) (by omega) (by omega) (by omega) (by omega) (by omega) i0 ex3 ((R 128 _ rfl).symm.trans ex4) ((R 133 _ rfl).symm.trans ex5) ex6 ex7 ex8 ⟨by omega, by omega⟩ E2) (by omega))
theorem a_X12_product1 (h0 : m_H) (a2 a4 : Int) (G0 : GI h0) (pa2 : 0 ≤ a2 ∧ a2 ≤ 75) (pa4 : 0 ≤ a4 ∧ a4 ≤ 0) : ∀ n, q_X12_product1 h0 a2 a4 n := by
  intro n
  induction n with
  | zero => unfold q_X12_product1; refine ⟨?_, ?_, ?_⟩ <;> (intros; omega)
  | succ n ih => exact ⟨s_X12_product1_3 h0 a2 a4 G0 pa2 pa4 n ih, s_X12_product1_24 h0 a2 a4 G0 pa2 pa4 n ih, s_X12_product1_36 h0 a2 a4 G0 pa2 pa4 n ih⟩
set_option maxHeartbeats 4000000 in
set_option maxRecDepth 100000 in
theorem c_X12_product1 (h0 : m_H) (a2 a4 : Int) (G0 : GI h0) (pa2 : 0 ≤ a2 ∧ a2 ≤ 75) (pa4 : 0 ≤ a4 ∧ a4 ≤ 0) : m_CV M_X12_product [mR 116, mR 128, mI a2, mR 133, mI a4] h0 (P_X12_product1 h0 a2 a4) := by
  refine m_CV_of ⟨by decide, rfl, by simp [m_arg, m_isL, M_X12_product], ⟨rfl, rfl⟩, rfl, rfl⟩ (ls := [some (mR 116), some (mR 128), some (mI a2), some (mR 133), some (mI a4), none, none, none, none, none, none]) rfl ?_
  have ih := a_X12_product1 h0 a2 a4 G0 pa2 pa4 119
  refine z_iconst (M := M_X12_product) 0 dX12_product_0 ?_
  refine z_istore (M := M_X12_product) 1 dX12_product_1 (ls' := [some (mR 116), some (mR 128), some (mI a2), some (mR 133), some (mI a4), some (mI 0), none, none, none, none, none]) (by decide) rfl ?_
  exact z_mask [true, true, true, true, true, true, false, false, false, false, false] rfl (ih.1 0 h0 G0 (FR.rf (cs := [116]) (ss := []) (h := h0)) (by omega) (by omega) (fun j hj => by omega) (by omega))
abbrev P_X12_product2 (h0 : m_H) (a2 a4 : Int) : m_H → Prop := fun h' => GI h' ∧ FR [115] [] h0 h' ∧ pdO (h' 115) (h0 132) (h0 125) a2 a4 5
def q_X12_product2 (h0 : m_H) (a2 a4 : Int) (n : Nat) : Prop := (∀ (l5 : Int) (h : m_H), GI h → FR [115] [] h0 h → 0 ≤ l5 → l5 ≤ 10 → (∀ j : Nat, (j : Int) < l5 → h 115 j = 0) → 2 * (10 - l5) + (92) ≤ (n : Int) → m_Z oF M_X12_product 3 [some (mR 115), some (mR 132), some (mI a2), some (mR 125), some (mI a4), some (mI l5), none, none, none, none, none] [] h (m_QV (P_X12_product2 h0 a2 a4))) ∧ (∀ (l5 : Int) (h : m_H), GI h → FR [115] [] h0 h → 0 ≤ l5 → l5 ≤ 5 → (pdO (h 115) (h0 132) (h0 125) a2 a4 l5) → 15 * (5 - l5) + (14) ≤ (n : Int) → m_Z oF M_X12_product 24 [some (mR 115), some (mR 132), some (mI a2), some (mR 125), some (mI a4), some (mI l5), none, none, none, none, none] [] h (m_QV (P_X12_product2 h0 a2 a4))) ∧ (∀ (l5 l6 l8 : Int) (h : m_H), GI h → FR [115] [] h0 h → 0 ≤ l5 → l5 ≤ 4 → 0 ≤ l6 → l6 ≤ 99999999 → 0 ≤ l8 → l8 ≤ 5 → (pdI (h 115) (h0 132) (h0 125) a2 a4 l5 l8 l6) → 15 * (5 - l5) + 2 * (5 - l8) + (1) ≤ (n : Int) → m_Z oF M_X12_product 36 [some (mR 115), some (mR 132), some (mI a2), some (mR 125), some (mI a4), some (mI l5), some (mJ l6), none, some (mI l8), none, none] [] h (m_QV (P_X12_product2 h0 a2 a4)))
set_option maxHeartbeats 4000000 in
set_option maxRecDepth 100000 in
theorem s_X12_product2_3 (h0 : m_H) (a2 a4 : Int) (G0 : GI h0) (pa2 : 0 ≤ a2 ∧ a2 ≤ 0) (pa4 : 0 ≤ a4 ∧ a4 ≤ 75) (n : Nat) (ih : q_X12_product2 h0 a2 a4 n) : ∀ (l5 : Int) (h : m_H), GI h → FR [115] [] h0 h → 0 ≤ l5 → l5 ≤ 10 → (∀ j : Nat, (j : Int) < l5 → h 115 j = 0) → 2 * (10 - l5) + (92) ≤ ((n + 1 : Nat) : Int) → m_Z oF M_X12_product 3 [some (mR 115), some (mR 132), some (mI a2), some (mR 125), some (mI a4), some (mI l5), none, none, none, none, none] [] h (m_QV (P_X12_product2 h0 a2 a4)) := by
  intro l5 h G R v0 v1 i0 hr
  refine z_iload (M := M_X12_product) 3 dX12_product_3 rfl ?_
  refine z_bipush (M := M_X12_product) 5 dX12_product_5 ?_
  refine z_icmp_ge (M := M_X12_product) 7 dX12_product_7 21 rfl (fun c1 => ?_) (fun c1 => ?_)
  · refine z_iconst (M := M_X12_product) 21 dX12_product_21 ?_
    refine z_istore (M := M_X12_product) 22 dX12_product_22 (ls' := [some (mR 115), some (mR 132), some (mI a2), some (mR 125), some (mI a4), some (mI 0), none, none, none, none, none]) (by decide) rfl ?_
    exact z_mask [true, true, true, true, true, true, false, false, false, false, false] rfl (ih.2.1 0 h G R (by omega) (by omega) (pdO_0 (by omega) i0) (by omega))
  · refine z_aload_n (M := M_X12_product) 10 dX12_product_10 rfl ?_
    refine z_iload (M := M_X12_product) 11 dX12_product_11 rfl ?_
    refine z_lconst (M := M_X12_product) 13 dX12_product_13 (v := 0) ?_
    refine z_lastH (M := M_X12_product) 14 dX12_product_14 o_115 (by omega) (by omega) (u_115 G) (R.up rfl) (fun h1 E1 G1 R1 => ?_)
    refine z_iincN (M := M_X12_product) 15 dX12_product_15 (ls' := [some (mR 115), some (mR 132), some (mI a2), some (mR 125), some (mI a4), some (mI (l5 + 1)), none, none, none, none, none]) (by decide) rfl (by (unfold m_32; decide)) (by omega) (by omega) rfl ?_
    refine z_goto (M := M_X12_product) 18 dX12_product_18 3 rfl ?_
    exact z_mask [true, true, true, true, true, true, false, false, false, false, false] rfl (ih.1 (l5 + 1) h1 G1 R1 (by omega) (by omega) (pz_step (by omega) i0 E1) (by omega))
set_option maxHeartbeats 4000000 in
set_option maxRecDepth 100000 in
theorem s_X12_product2_24 (h0 : m_H) (a2 a4 : Int) (G0 : GI h0) (pa2 : 0 ≤ a2 ∧ a2 ≤ 0) (pa4 : 0 ≤ a4 ∧ a4 ≤ 75) (n : Nat) (ih : q_X12_product2 h0 a2 a4 n) : ∀ (l5 : Int) (h : m_H), GI h → FR [115] [] h0 h → 0 ≤ l5 → l5 ≤ 5 → (pdO (h 115) (h0 132) (h0 125) a2 a4 l5) → 15 * (5 - l5) + (14) ≤ ((n + 1 : Nat) : Int) → m_Z oF M_X12_product 24 [some (mR 115), some (mR 132), some (mI a2), some (mR 125), some (mI a4), some (mI l5), none, none, none, none, none] [] h (m_QV (P_X12_product2 h0 a2 a4)) := by
  intro l5 h G R v0 v1 i0 hr
  refine z_iload (M := M_X12_product) 24 dX12_product_24 rfl ?_
  refine z_iconst (M := M_X12_product) 26 dX12_product_26 ?_
  refine z_icmp_ge (M := M_X12_product) 27 dX12_product_27 113 rfl (fun c1 => ?_) (fun c1 => ?_)
  · exact z_retV (M := M_X12_product) 113 dX12_product_113 rfl ⟨G, R, (show l5 = 5 by omega) ▸ i0⟩
  · refine z_lconst (M := M_X12_product) 30 dX12_product_30 (v := 0) ?_
    refine z_lstore (M := M_X12_product) 31 dX12_product_31 (ls' := [some (mR 115), some (mR 132), some (mI a2), some (mR 125), some (mI a4), some (mI l5), some (mJ 0), none, none, none, none]) (by decide) rfl ?_
    refine z_iconst (M := M_X12_product) 33 dX12_product_33 ?_
    refine z_istore (M := M_X12_product) 34 dX12_product_34 (ls' := [some (mR 115), some (mR 132), some (mI a2), some (mR 125), some (mI a4), some (mI l5), some (mJ 0), none, some (mI 0), none, none]) (by decide) rfl ?_
    exact z_mask [true, true, true, true, true, true, true, false, true, false, false] rfl (ih.2.2 l5 0 0 h G R (by omega) (by omega) (by omega) (by omega) (by omega) (by omega) (pdI_0 i0) (by omega))
set_option maxHeartbeats 4000000 in
set_option maxRecDepth 100000 in
theorem s_X12_product2_36 (h0 : m_H) (a2 a4 : Int) (G0 : GI h0) (pa2 : 0 ≤ a2 ∧ a2 ≤ 0) (pa4 : 0 ≤ a4 ∧ a4 ≤ 75) (n : Nat) (ih : q_X12_product2 h0 a2 a4 n) : ∀ (l5 l6 l8 : Int) (h : m_H), GI h → FR [115] [] h0 h → 0 ≤ l5 → l5 ≤ 4 → 0 ≤ l6 → l6 ≤ 99999999 → 0 ≤ l8 → l8 ≤ 5 → (pdI (h 115) (h0 132) (h0 125) a2 a4 l5 l8 l6) → 15 * (5 - l5) + 2 * (5 - l8) + (1) ≤ ((n + 1 : Nat) : Int) → m_Z oF M_X12_product 36 [some (mR 115), some (mR 132), some (mI a2), some (mR 125), some (mI a4), some (mI l5), some (mJ l6), none, some (mI l8), none, none] [] h (m_QV (P_X12_product2 h0 a2 a4)) := by
  intro l5 l6 l8 h G R v0 v1 v2 v3 v4 v5 i0 hr
  refine z_iload (M := M_X12_product) 36 dX12_product_36 rfl ?_
  refine z_iconst (M := M_X12_product) 38 dX12_product_38 ?_
  refine z_icmp_ge (M := M_X12_product) 39 dX12_product_39 96 rfl (fun c1 => ?_) (fun c1 => ?_)
  · refine z_aload_n (M := M_X12_product) 96 dX12_product_96 rfl ?_
    refine z_iload (M := M_X12_product) 97 dX12_product_97 rfl ?_
    refine z_iconst (M := M_X12_product) 99 dX12_product_99 ?_
    refine z_iaddN (M := M_X12_product) 100 dX12_product_100 (by omega) (by omega) ?_
    refine z_dup2 (M := M_X12_product) 101 dX12_product_101 rfl rfl ?_
    refine z_laldG (M := M_X12_product) 102 dX12_product_102 o_115 (by omega) (by omega) (i0.1.at (i := (l5 + 5)) (by omega) (by omega)) (fun x2 ex2 ax2 bx2 => ?_)
    refine z_lload (M := M_X12_product) 103 dX12_product_103 rfl ?_
    refine z_laddN (M := M_X12_product) 105 dX12_product_105 (by omega) (by omega) ?_
    refine z_lastH (M := M_X12_product) 106 dX12_product_106 o_115 (by omega) (by omega) (u_115 G) (R.up rfl) (fun h1 E1 G1 R1 => ?_)
    refine z_iincN (M := M_X12_product) 107 dX12_product_107 (ls' := [some (mR 115), some (mR 132), some (mI a2), some (mR 125), some (mI a4), some (mI (l5 + 1)), some (mJ l6), none, some (mI l8), none, none]) (by decide) rfl (by (unfold m_32; decide)) (by omega) (by omega) rfl ?_
    refine z_goto (M := M_X12_product) 110 dX12_product_110 24 rfl ?_
    exact z_mask [true, true, true, true, true, true, false, false, false, false, false] rfl (ih.2.1 (l5 + 1) h1 G1 R1 (by omega) (by omega) (pdO_step (by omega) (by omega) (by omega) i0 ex2 ⟨by omega, by omega⟩ E1) (by omega))
  · refine z_aload_n (M := M_X12_product) 42 dX12_product_42 rfl ?_
    refine z_iload (M := M_X12_product) 43 dX12_product_43 rfl ?_
    refine z_iload (M := M_X12_product) 45 dX12_product_45 rfl ?_
    refine z_iaddN (M := M_X12_product) 47 dX12_product_47 (by omega) (by omega) ?_
    refine z_laldG (M := M_X12_product) 48 dX12_product_48 o_115 (by omega) (by omega) (i0.1.at (i := (l5 + l8)) (by omega) (by omega)) (fun x3 ex3 ax3 bx3 => ?_)
    refine z_aload_n (M := M_X12_product) 49 dX12_product_49 rfl ?_
    refine z_iload_n (M := M_X12_product) 50 dX12_product_50 rfl ?_
    refine z_iload (M := M_X12_product) 51 dX12_product_51 rfl ?_
    refine z_iaddN (M := M_X12_product) 53 dX12_product_53 (by omega) (by omega) ?_
    refine z_laldG (M := M_X12_product) 54 dX12_product_54 o_132 (by omega) (by omega) (g_132 G (by omega)) (fun x4 ex4 ax4 bx4 => ?_)
    refine z_aload_n (M := M_X12_product) 55 dX12_product_55 rfl ?_
    refine z_iload (M := M_X12_product) 56 dX12_product_56 rfl ?_
    refine z_iload (M := M_X12_product) 58 dX12_product_58 rfl ?_
    refine z_iaddN (M := M_X12_product) 60 dX12_product_60 (by omega) (by omega) ?_
    refine z_laldG (M := M_X12_product) 61 dX12_product_61 o_125 (by omega) (by omega) (g_125 G (by omega)) (fun x5 ex5 ax5 bx5 => ?_)
    have mx6 := mul_bd (x := x4) (y := x5) (X := 99999999) (Y := 99999999) (by omega) (by omega) (by omega) (by omega)
    refine z_lmulN (M := M_X12_product) 62 dX12_product_62 (by omega) (by omega) ?_
    refine z_topBJ (lo := 0) (hi := 9999999800000001) ⟨by omega, by omega⟩ (fun x6 ex6 ax6 bx6 => ?_)
    refine z_laddN (M := M_X12_product) 63 dX12_product_63 (by omega) (by omega) ?_
    refine z_lload (M := M_X12_product) 64 dX12_product_64 rfl ?_
    refine z_laddN (M := M_X12_product) 66 dX12_product_66 (by omega) (by omega) ?_
    refine z_lstore (M := M_X12_product) 67 dX12_product_67 (ls' := [some (mR 115), some (mR 132), some (mI a2), some (mR 125), some (mI a4), some (mI l5), some (mJ l6), none, some (mI l8), some (mJ ((x3 + x6) + l6)), none]) (by decide) rfl ?_
    refine z_aload_n (M := M_X12_product) 69 dX12_product_69 rfl ?_
    refine z_iload (M := M_X12_product) 70 dX12_product_70 rfl ?_
    refine z_iload (M := M_X12_product) 72 dX12_product_72 rfl ?_
    refine z_iaddN (M := M_X12_product) 74 dX12_product_74 (by omega) (by omega) ?_
    refine z_lload (M := M_X12_product) 75 dX12_product_75 rfl ?_
    refine z_ldc2 (M := M_X12_product) 77 dX12_product_77 k_X12_327 ?_
    refine z_lremN (M := M_X12_product) 80 dX12_product_80 (by omega) (by omega) ?_
    refine z_topBJ (lo := 0) (hi := 99999999) ⟨by omega, by omega⟩ (fun x7 ex7 ax7 bx7 => ?_)
    refine z_lastH (M := M_X12_product) 81 dX12_product_81 o_115 (by omega) (by omega) (u_115 G) (R.up rfl) (fun h2 E2 G2 R2 => ?_)
    refine z_lload (M := M_X12_product) 82 dX12_product_82 rfl ?_
    refine z_ldc2 (M := M_X12_product) 84 dX12_product_84 k_X12_327 ?_
    refine z_ldivN (M := M_X12_product) 87 dX12_product_87 (by omega) (by omega) ?_
    refine z_topBJ (lo := 0) (hi := 99999999) ⟨by omega, by omega⟩ (fun x8 ex8 ax8 bx8 => ?_)
    refine z_lstore (M := M_X12_product) 88 dX12_product_88 (ls' := [some (mR 115), some (mR 132), some (mI a2), some (mR 125), some (mI a4), some (mI l5), some (mJ x8), none, some (mI l8), some (mJ ((x3 + x6) + l6)), none]) (by decide) rfl ?_
    refine z_iincN (M := M_X12_product) 90 dX12_product_90 (ls' := [some (mR 115), some (mR 132), some (mI a2), some (mR 125), some (mI a4), some (mI l5), some (mJ x8), none, some (mI (l8 + 1)), some (mJ ((x3 + x6) + l6)), none]) (by decide) rfl (by (unfold m_32; decide)) (by omega) (by omega) rfl ?_
    refine z_goto (M := M_X12_product) 93 dX12_product_93 36 rfl ?_
    exact z_mask [true, true, true, true, true, true, true, false, true, false, false] rfl (ih.2.2 l5 x8 (l8 + 1) h2 G2 R2 (by omega) (by omega) (by omega) (by omega) (by omega) (by omega) (pdI_step (by omega) (by omega) (by omega) (by omega) (by omega) (by omega) i0 ex3 ((R 132 _ rfl).symm.trans ex4) ((R 125 _ rfl).symm.trans ex5) ex6 ex7 ex8 ⟨by omega, by omega⟩ E2) (by omega))
theorem a_X12_product2 (h0 : m_H) (a2 a4 : Int) (G0 : GI h0) (pa2 : 0 ≤ a2 ∧ a2 ≤ 0) (pa4 : 0 ≤ a4 ∧ a4 ≤ 75) : ∀ n, q_X12_product2 h0 a2 a4 n := by
  intro n
  induction n with
  | zero => unfold q_X12_product2; refine ⟨?_, ?_, ?_⟩ <;> (intros; omega)
  | succ n ih => exact ⟨s_X12_product2_3 h0 a2 a4 G0 pa2 pa4 n ih, s_X12_product2_24 h0 a2 a4 G0 pa2 pa4 n ih, s_X12_product2_36 h0 a2 a4 G0 pa2 pa4 n ih⟩
set_option maxHeartbeats 4000000 in
set_option maxRecDepth 100000 in
theorem c_X12_product2 (h0 : m_H) (a2 a4 : Int) (G0 : GI h0) (pa2 : 0 ≤ a2 ∧ a2 ≤ 0) (pa4 : 0 ≤ a4 ∧ a4 ≤ 75) : m_CV M_X12_product [mR 115, mR 132, mI a2, mR 125, mI a4] h0 (P_X12_product2 h0 a2 a4) := by
  refine m_CV_of ⟨by decide, rfl, by simp [m_arg, m_isL, M_X12_product], ⟨rfl, rfl⟩, rfl, rfl⟩ (ls := [some (mR 115), some (mR 132), some (mI a2), some (mR 125), some (mI a4), none, none, none, none, none, none]) rfl ?_
  have ih := a_X12_product2 h0 a2 a4 G0 pa2 pa4 119
  refine z_iconst (M := M_X12_product) 0 dX12_product_0 ?_
  refine z_istore (M := M_X12_product) 1 dX12_product_1 (ls' := [some (mR 115), some (mR 132), some (mI a2), some (mR 125), some (mI a4), some (mI 0), none, none, none, none, none]) (by decide) rfl ?_
  exact z_mask [true, true, true, true, true, true, false, false, false, false, false] rfl (ih.1 0 h0 G0 (FR.rf (cs := [115]) (ss := []) (h := h0)) (by omega) (by omega) (fun j hj => by omega) (by omega))
abbrev P_X12_product3 (h0 : m_H) (a2 a4 : Int) : m_H → Prop := fun h' => GI h' ∧ FR [116] [] h0 h' ∧ pdO (h' 116) (h0 124) (h0 133) a2 a4 5
def q_X12_product3 (h0 : m_H) (a2 a4 : Int) (n : Nat) : Prop := (∀ (l5 : Int) (h : m_H), GI h → FR [116] [] h0 h → 0 ≤ l5 → l5 ≤ 10 → (∀ j : Nat, (j : Int) < l5 → h 116 j = 0) → 2 * (10 - l5) + (92) ≤ (n : Int) → m_Z oF M_X12_product 3 [some (mR 116), some (mR 124), some (mI a2), some (mR 133), some (mI a4), some (mI l5), none, none, none, none, none] [] h (m_QV (P_X12_product3 h0 a2 a4))) ∧ (∀ (l5 : Int) (h : m_H), GI h → FR [116] [] h0 h → 0 ≤ l5 → l5 ≤ 5 → (pdO (h 116) (h0 124) (h0 133) a2 a4 l5) → 15 * (5 - l5) + (14) ≤ (n : Int) → m_Z oF M_X12_product 24 [some (mR 116), some (mR 124), some (mI a2), some (mR 133), some (mI a4), some (mI l5), none, none, none, none, none] [] h (m_QV (P_X12_product3 h0 a2 a4))) ∧ (∀ (l5 l6 l8 : Int) (h : m_H), GI h → FR [116] [] h0 h → 0 ≤ l5 → l5 ≤ 4 → 0 ≤ l6 → l6 ≤ 99999999 → 0 ≤ l8 → l8 ≤ 5 → (pdI (h 116) (h0 124) (h0 133) a2 a4 l5 l8 l6) → 15 * (5 - l5) + 2 * (5 - l8) + (1) ≤ (n : Int) → m_Z oF M_X12_product 36 [some (mR 116), some (mR 124), some (mI a2), some (mR 133), some (mI a4), some (mI l5), some (mJ l6), none, some (mI l8), none, none] [] h (m_QV (P_X12_product3 h0 a2 a4)))
set_option maxHeartbeats 4000000 in
set_option maxRecDepth 100000 in
theorem s_X12_product3_3 (h0 : m_H) (a2 a4 : Int) (G0 : GI h0) (pa2 : 0 ≤ a2 ∧ a2 ≤ 75) (pa4 : 0 ≤ a4 ∧ a4 ≤ 0) (n : Nat) (ih : q_X12_product3 h0 a2 a4 n) : ∀ (l5 : Int) (h : m_H), GI h → FR [116] [] h0 h → 0 ≤ l5 → l5 ≤ 10 → (∀ j : Nat, (j : Int) < l5 → h 116 j = 0) → 2 * (10 - l5) + (92) ≤ ((n + 1 : Nat) : Int) → m_Z oF M_X12_product 3 [some (mR 116), some (mR 124), some (mI a2), some (mR 133), some (mI a4), some (mI l5), none, none, none, none, none] [] h (m_QV (P_X12_product3 h0 a2 a4)) := by
  intro l5 h G R v0 v1 i0 hr
  refine z_iload (M := M_X12_product) 3 dX12_product_3 rfl ?_
  refine z_bipush (M := M_X12_product) 5 dX12_product_5 ?_
  refine z_icmp_ge (M := M_X12_product) 7 dX12_product_7 21 rfl (fun c1 => ?_) (fun c1 => ?_)
  · refine z_iconst (M := M_X12_product) 21 dX12_product_21 ?_
    refine z_istore (M := M_X12_product) 22 dX12_product_22 (ls' := [some (mR 116), some (mR 124), some (mI a2), some (mR 133), some (mI a4), some (mI 0), none, none, none, none, none]) (by decide) rfl ?_
    exact z_mask [true, true, true, true, true, true, false, false, false, false, false] rfl (ih.2.1 0 h G R (by omega) (by omega) (pdO_0 (by omega) i0) (by omega))
  · refine z_aload_n (M := M_X12_product) 10 dX12_product_10 rfl ?_
    refine z_iload (M := M_X12_product) 11 dX12_product_11 rfl ?_
    refine z_lconst (M := M_X12_product) 13 dX12_product_13 (v := 0) ?_
    refine z_lastH (M := M_X12_product) 14 dX12_product_14 o_116 (by omega) (by omega) (u_116 G) (R.up rfl) (fun h1 E1 G1 R1 => ?_)
    refine z_iincN (M := M_X12_product) 15 dX12_product_15 (ls' := [some (mR 116), some (mR 124), some (mI a2), some (mR 133), some (mI a4), some (mI (l5 + 1)), none, none, none, none, none]) (by decide) rfl (by (unfold m_32; decide)) (by omega) (by omega) rfl ?_
    refine z_goto (M := M_X12_product) 18 dX12_product_18 3 rfl ?_
    exact z_mask [true, true, true, true, true, true, false, false, false, false, false] rfl (ih.1 (l5 + 1) h1 G1 R1 (by omega) (by omega) (pz_step (by omega) i0 E1) (by omega))
set_option maxHeartbeats 4000000 in
set_option maxRecDepth 100000 in
theorem s_X12_product3_24 (h0 : m_H) (a2 a4 : Int) (G0 : GI h0) (pa2 : 0 ≤ a2 ∧ a2 ≤ 75) (pa4 : 0 ≤ a4 ∧ a4 ≤ 0) (n : Nat) (ih : q_X12_product3 h0 a2 a4 n) : ∀ (l5 : Int) (h : m_H), GI h → FR [116] [] h0 h → 0 ≤ l5 → l5 ≤ 5 → (pdO (h 116) (h0 124) (h0 133) a2 a4 l5) → 15 * (5 - l5) + (14) ≤ ((n + 1 : Nat) : Int) → m_Z oF M_X12_product 24 [some (mR 116), some (mR 124), some (mI a2), some (mR 133), some (mI a4), some (mI l5), none, none, none, none, none] [] h (m_QV (P_X12_product3 h0 a2 a4)) := by
  intro l5 h G R v0 v1 i0 hr
  refine z_iload (M := M_X12_product) 24 dX12_product_24 rfl ?_
  refine z_iconst (M := M_X12_product) 26 dX12_product_26 ?_
  refine z_icmp_ge (M := M_X12_product) 27 dX12_product_27 113 rfl (fun c1 => ?_) (fun c1 => ?_)
  · exact z_retV (M := M_X12_product) 113 dX12_product_113 rfl ⟨G, R, (show l5 = 5 by omega) ▸ i0⟩
  · refine z_lconst (M := M_X12_product) 30 dX12_product_30 (v := 0) ?_
    refine z_lstore (M := M_X12_product) 31 dX12_product_31 (ls' := [some (mR 116), some (mR 124), some (mI a2), some (mR 133), some (mI a4), some (mI l5), some (mJ 0), none, none, none, none]) (by decide) rfl ?_
    refine z_iconst (M := M_X12_product) 33 dX12_product_33 ?_
    refine z_istore (M := M_X12_product) 34 dX12_product_34 (ls' := [some (mR 116), some (mR 124), some (mI a2), some (mR 133), some (mI a4), some (mI l5), some (mJ 0), none, some (mI 0), none, none]) (by decide) rfl ?_
    exact z_mask [true, true, true, true, true, true, true, false, true, false, false] rfl (ih.2.2 l5 0 0 h G R (by omega) (by omega) (by omega) (by omega) (by omega) (by omega) (pdI_0 i0) (by omega))
set_option maxHeartbeats 4000000 in
set_option maxRecDepth 100000 in
theorem s_X12_product3_36 (h0 : m_H) (a2 a4 : Int) (G0 : GI h0) (pa2 : 0 ≤ a2 ∧ a2 ≤ 75) (pa4 : 0 ≤ a4 ∧ a4 ≤ 0) (n : Nat) (ih : q_X12_product3 h0 a2 a4 n) : ∀ (l5 l6 l8 : Int) (h : m_H), GI h → FR [116] [] h0 h → 0 ≤ l5 → l5 ≤ 4 → 0 ≤ l6 → l6 ≤ 99999999 → 0 ≤ l8 → l8 ≤ 5 → (pdI (h 116) (h0 124) (h0 133) a2 a4 l5 l8 l6) → 15 * (5 - l5) + 2 * (5 - l8) + (1) ≤ ((n + 1 : Nat) : Int) → m_Z oF M_X12_product 36 [some (mR 116), some (mR 124), some (mI a2), some (mR 133), some (mI a4), some (mI l5), some (mJ l6), none, some (mI l8), none, none] [] h (m_QV (P_X12_product3 h0 a2 a4)) := by
  intro l5 l6 l8 h G R v0 v1 v2 v3 v4 v5 i0 hr
  refine z_iload (M := M_X12_product) 36 dX12_product_36 rfl ?_
  refine z_iconst (M := M_X12_product) 38 dX12_product_38 ?_
  refine z_icmp_ge (M := M_X12_product) 39 dX12_product_39 96 rfl (fun c1 => ?_) (fun c1 => ?_)
  · refine z_aload_n (M := M_X12_product) 96 dX12_product_96 rfl ?_
    refine z_iload (M := M_X12_product) 97 dX12_product_97 rfl ?_
    refine z_iconst (M := M_X12_product) 99 dX12_product_99 ?_
    refine z_iaddN (M := M_X12_product) 100 dX12_product_100 (by omega) (by omega) ?_
    refine z_dup2 (M := M_X12_product) 101 dX12_product_101 rfl rfl ?_
    refine z_laldG (M := M_X12_product) 102 dX12_product_102 o_116 (by omega) (by omega) (i0.1.at (i := (l5 + 5)) (by omega) (by omega)) (fun x2 ex2 ax2 bx2 => ?_)
    refine z_lload (M := M_X12_product) 103 dX12_product_103 rfl ?_
    refine z_laddN (M := M_X12_product) 105 dX12_product_105 (by omega) (by omega) ?_
    refine z_lastH (M := M_X12_product) 106 dX12_product_106 o_116 (by omega) (by omega) (u_116 G) (R.up rfl) (fun h1 E1 G1 R1 => ?_)
    refine z_iincN (M := M_X12_product) 107 dX12_product_107 (ls' := [some (mR 116), some (mR 124), some (mI a2), some (mR 133), some (mI a4), some (mI (l5 + 1)), some (mJ l6), none, some (mI l8), none, none]) (by decide) rfl (by (unfold m_32; decide)) (by omega) (by omega) rfl ?_
    refine z_goto (M := M_X12_product) 110 dX12_product_110 24 rfl ?_
    exact z_mask [true, true, true, true, true, true, false, false, false, false, false] rfl (ih.2.1 (l5 + 1) h1 G1 R1 (by omega) (by omega) (pdO_step (by omega) (by omega) (by omega) i0 ex2 ⟨by omega, by omega⟩ E1) (by omega))
  · refine z_aload_n (M := M_X12_product) 42 dX12_product_42 rfl ?_
    refine z_iload (M := M_X12_product) 43 dX12_product_43 rfl ?_
    refine z_iload (M := M_X12_product) 45 dX12_product_45 rfl ?_
    refine z_iaddN (M := M_X12_product) 47 dX12_product_47 (by omega) (by omega) ?_
    refine z_laldG (M := M_X12_product) 48 dX12_product_48 o_116 (by omega) (by omega) (i0.1.at (i := (l5 + l8)) (by omega) (by omega)) (fun x3 ex3 ax3 bx3 => ?_)
    refine z_aload_n (M := M_X12_product) 49 dX12_product_49 rfl ?_
    refine z_iload_n (M := M_X12_product) 50 dX12_product_50 rfl ?_
    refine z_iload (M := M_X12_product) 51 dX12_product_51 rfl ?_
    refine z_iaddN (M := M_X12_product) 53 dX12_product_53 (by omega) (by omega) ?_
    refine z_laldG (M := M_X12_product) 54 dX12_product_54 o_124 (by omega) (by omega) (g_124 G (by omega)) (fun x4 ex4 ax4 bx4 => ?_)
    refine z_aload_n (M := M_X12_product) 55 dX12_product_55 rfl ?_
    refine z_iload (M := M_X12_product) 56 dX12_product_56 rfl ?_
    refine z_iload (M := M_X12_product) 58 dX12_product_58 rfl ?_
    refine z_iaddN (M := M_X12_product) 60 dX12_product_60 (by omega) (by omega) ?_
    refine z_laldG (M := M_X12_product) 61 dX12_product_61 o_133 (by omega) (by omega) (g_133 G (by omega)) (fun x5 ex5 ax5 bx5 => ?_)
    have mx6 := mul_bd (x := x4) (y := x5) (X := 99999999) (Y := 99999999) (by omega) (by omega) (by omega) (by omega)
    refine z_lmulN (M := M_X12_product) 62 dX12_product_62 (by omega) (by omega) ?_
    refine z_topBJ (lo := 0) (hi := 9999999800000001) ⟨by omega, by omega⟩ (fun x6 ex6 ax6 bx6 => ?_)
    refine z_laddN (M := M_X12_product) 63 dX12_product_63 (by omega) (by omega) ?_
    refine z_lload (M := M_X12_product) 64 dX12_product_64 rfl ?_
    refine z_laddN (M := M_X12_product) 66 dX12_product_66 (by omega) (by omega) ?_
    refine z_lstore (M := M_X12_product) 67 dX12_product_67 (ls' := [some (mR 116), some (mR 124), some (mI a2), some (mR 133), some (mI a4), some (mI l5), some (mJ l6), none, some (mI l8), some (mJ ((x3 + x6) + l6)), none]) (by decide) rfl ?_
    refine z_aload_n (M := M_X12_product) 69 dX12_product_69 rfl ?_
    refine z_iload (M := M_X12_product) 70 dX12_product_70 rfl ?_
    refine z_iload (M := M_X12_product) 72 dX12_product_72 rfl ?_
    refine z_iaddN (M := M_X12_product) 74 dX12_product_74 (by omega) (by omega) ?_
    refine z_lload (M := M_X12_product) 75 dX12_product_75 rfl ?_
    refine z_ldc2 (M := M_X12_product) 77 dX12_product_77 k_X12_327 ?_
    refine z_lremN (M := M_X12_product) 80 dX12_product_80 (by omega) (by omega) ?_
    refine z_topBJ (lo := 0) (hi := 99999999) ⟨by omega, by omega⟩ (fun x7 ex7 ax7 bx7 => ?_)
    refine z_lastH (M := M_X12_product) 81 dX12_product_81 o_116 (by omega) (by omega) (u_116 G) (R.up rfl) (fun h2 E2 G2 R2 => ?_)
    refine z_lload (M := M_X12_product) 82 dX12_product_82 rfl ?_
    refine z_ldc2 (M := M_X12_product) 84 dX12_product_84 k_X12_327 ?_
    refine z_ldivN (M := M_X12_product) 87 dX12_product_87 (by omega) (by omega) ?_
    refine z_topBJ (lo := 0) (hi := 99999999) ⟨by omega, by omega⟩ (fun x8 ex8 ax8 bx8 => ?_)
    refine z_lstore (M := M_X12_product) 88 dX12_product_88 (ls' := [some (mR 116), some (mR 124), some (mI a2), some (mR 133), some (mI a4), some (mI l5), some (mJ x8), none, some (mI l8), some (mJ ((x3 + x6) + l6)), none]) (by decide) rfl ?_
    refine z_iincN (M := M_X12_product) 90 dX12_product_90 (ls' := [some (mR 116), some (mR 124), some (mI a2), some (mR 133), some (mI a4), some (mI l5), some (mJ x8), none, some (mI (l8 + 1)), some (mJ ((x3 + x6) + l6)), none]) (by decide) rfl (by (unfold m_32; decide)) (by omega) (by omega) rfl ?_
    refine z_goto (M := M_X12_product) 93 dX12_product_93 36 rfl ?_
    exact z_mask [true, true, true, true, true, true, true, false, true, false, false] rfl (ih.2.2 l5 x8 (l8 + 1) h2 G2 R2 (by omega) (by omega) (by omega) (by omega) (by omega) (by omega) (pdI_step (by omega) (by omega) (by omega) (by omega) (by omega) (by omega) i0 ex3 ((R 124 _ rfl).symm.trans ex4) ((R 133 _ rfl).symm.trans ex5) ex6 ex7 ex8 ⟨by omega, by omega⟩ E2) (by omega))
theorem a_X12_product3 (h0 : m_H) (a2 a4 : Int) (G0 : GI h0) (pa2 : 0 ≤ a2 ∧ a2 ≤ 75) (pa4 : 0 ≤ a4 ∧ a4 ≤ 0) : ∀ n, q_X12_product3 h0 a2 a4 n := by
  intro n
  induction n with
  | zero => unfold q_X12_product3; refine ⟨?_, ?_, ?_⟩ <;> (intros; omega)
  | succ n ih => exact ⟨s_X12_product3_3 h0 a2 a4 G0 pa2 pa4 n ih, s_X12_product3_24 h0 a2 a4 G0 pa2 pa4 n ih, s_X12_product3_36 h0 a2 a4 G0 pa2 pa4 n ih⟩
set_option maxHeartbeats 4000000 in
set_option maxRecDepth 100000 in
theorem c_X12_product3 (h0 : m_H) (a2 a4 : Int) (G0 : GI h0) (pa2 : 0 ≤ a2 ∧ a2 ≤ 75) (pa4 : 0 ≤ a4 ∧ a4 ≤ 0) : m_CV M_X12_product [mR 116, mR 124, mI a2, mR 133, mI a4] h0 (P_X12_product3 h0 a2 a4) := by
  refine m_CV_of ⟨by decide, rfl, by simp [m_arg, m_isL, M_X12_product], ⟨rfl, rfl⟩, rfl, rfl⟩ (ls := [some (mR 116), some (mR 124), some (mI a2), some (mR 133), some (mI a4), none, none, none, none, none, none]) rfl ?_
  have ih := a_X12_product3 h0 a2 a4 G0 pa2 pa4 119
  refine z_iconst (M := M_X12_product) 0 dX12_product_0 ?_
  refine z_istore (M := M_X12_product) 1 dX12_product_1 (ls' := [some (mR 116), some (mR 124), some (mI a2), some (mR 133), some (mI a4), some (mI 0), none, none, none, none, none]) (by decide) rfl ?_
  exact z_mask [true, true, true, true, true, true, false, false, false, false, false] rfl (ih.1 0 h0 G0 (FR.rf (cs := [116]) (ss := []) (h := h0)) (by omega) (by omega) (fun j hj => by omega) (by omega))
abbrev P_X12_product4 (h0 : m_H) (a2 a4 : Int) : m_H → Prop := fun h' => GI h' ∧ FR [115] [] h0 h' ∧ pdO (h' 115) (h0 124) (h0 137) a2 a4 5
def q_X12_product4 (h0 : m_H) (a2 a4 : Int) (n : Nat) : Prop := (∀ (l5 : Int) (h : m_H), GI h → FR [115] [] h0 h → 0 ≤ l5 → l5 ≤ 10 → (∀ j : Nat, (j : Int) < l5 → h 115 j = 0) → 2 * (10 - l5) + (92) ≤ (n : Int) → m_Z oF M_X12_product 3 [some (mR 115), some (mR 124), some (mI a2), some (mR 137), some (mI a4), some (mI l5), none, none, none, none, none] [] h (m_QV (P_X12_product4 h0 a2 a4))) ∧ (∀ (l5 : Int) (h : m_H), GI h → FR [115] [] h0 h → 0 ≤ l5 → l5 ≤ 5 → (pdO (h 115) (h0 124) (h0 137) a2 a4 l5) → 15 * (5 - l5) + (14) ≤ (n : Int) → m_Z oF M_X12_product 24 [some (mR 115), some (mR 124), some (mI a2), some (mR 137), some (mI a4), some (mI l5), none, none, none, none, none] [] h (m_QV (P_X12_product4 h0 a2 a4))) ∧ (∀ (l5 l6 l8 : Int) (h : m_H), GI h → FR [115] [] h0 h → 0 ≤ l5 → l5 ≤ 4 → 0 ≤ l6 → l6 ≤ 99999999 → 0 ≤ l8 → l8 ≤ 5 → (pdI (h 115) (h0 124) (h0 137) a2 a4 l5 l8 l6) → 15 * (5 - l5) + 2 * (5 - l8) + (1) ≤ (n : Int) → m_Z oF M_X12_product 36 [some (mR 115), some (mR 124), some (mI a2), some (mR 137), some (mI a4), some (mI l5), some (mJ l6), none, some (mI l8), none, none] [] h (m_QV (P_X12_product4 h0 a2 a4)))
set_option maxHeartbeats 4000000 in
set_option maxRecDepth 100000 in
theorem s_X12_product4_3 (h0 : m_H) (a2 a4 : Int) (G0 : GI h0) (pa2 : 0 ≤ a2 ∧ a2 ≤ 75) (pa4 : 0 ≤ a4 ∧ a4 ≤ 0) (n : Nat) (ih : q_X12_product4 h0 a2 a4 n) : ∀ (l5 : Int) (h : m_H), GI h → FR [115] [] h0 h → 0 ≤ l5 → l5 ≤ 10 → (∀ j : Nat, (j : Int) < l5 → h 115 j = 0) → 2 * (10 - l5) + (92) ≤ ((n + 1 : Nat) : Int) → m_Z oF M_X12_product 3 [some (mR 115), some (mR 124), some (mI a2), some (mR 137), some (mI a4), some (mI l5), none, none, none, none, none] [] h (m_QV (P_X12_product4 h0 a2 a4)) := by
  intro l5 h G R v0 v1 i0 hr
  refine z_iload (M := M_X12_product) 3 dX12_product_3 rfl ?_
  refine z_bipush (M := M_X12_product) 5 dX12_product_5 ?_
  refine z_icmp_ge (M := M_X12_product) 7 dX12_product_7 21 rfl (fun c1 => ?_) (fun c1 => ?_)
  · refine z_iconst (M := M_X12_product) 21 dX12_product_21 ?_
    refine z_istore (M := M_X12_product) 22 dX12_product_22 (ls' := [some (mR 115), some (mR 124), some (mI a2), some (mR 137), some (mI a4), some (mI 0), none, none, none, none, none]) (by decide) rfl ?_
    exact z_mask [true, true, true, true, true, true, false, false, false, false, false] rfl (ih.2.1 0 h G R (by omega) (by omega) (pdO_0 (by omega) i0) (by omega))
  · refine z_aload_n (M := M_X12_product) 10 dX12_product_10 rfl ?_
    refine z_iload (M := M_X12_product) 11 dX12_product_11 rfl ?_
    refine z_lconst (M := M_X12_product) 13 dX12_product_13 (v := 0) ?_
    refine z_lastH (M := M_X12_product) 14 dX12_product_14 o_115 (by omega) (by omega) (u_115 G) (R.up rfl) (fun h1 E1 G1 R1 => ?_)
    refine z_iincN (M := M_X12_product) 15 dX12_product_15 (ls' := [some (mR 115), some (mR 124), some (mI a2), some (mR 137), some (mI a4), some (mI (l5 + 1)), none, none, none, none, none]) (by decide) rfl (by (unfold m_32; decide)) (by omega) (by omega) rfl ?_
    refine z_goto (M := M_X12_product) 18 dX12_product_18 3 rfl ?_
    exact z_mask [true, true, true, true, true, true, false, false, false, false, false] rfl (ih.1 (l5 + 1) h1 G1 R1 (by omega) (by omega) (pz_step (by omega) i0 E1) (by omega))
set_option maxHeartbeats 4000000 in
set_option maxRecDepth 100000 in
theorem s_X12_product4_24 (h0 : m_H) (a2 a4 : Int) (G0 : GI h0) (pa2 : 0 ≤ a2 ∧ a2 ≤ 75) (pa4 : 0 ≤ a4 ∧ a4 ≤ 0) (n : Nat) (ih : q_X12_product4 h0 a2 a4 n) : ∀ (l5 : Int) (h : m_H), GI h → FR [115] [] h0 h → 0 ≤ l5 → l5 ≤ 5 → (pdO (h 115) (h0 124) (h0 137) a2 a4 l5) → 15 * (5 - l5) + (14) ≤ ((n + 1 : Nat) : Int) → m_Z oF M_X12_product 24 [some (mR 115), some (mR 124), some (mI a2), some (mR 137), some (mI a4), some (mI l5), none, none, none, none, none] [] h (m_QV (P_X12_product4 h0 a2 a4)) := by
  intro l5 h G R v0 v1 i0 hr
  refine z_iload (M := M_X12_product) 24 dX12_product_24 rfl ?_
  refine z_iconst (M := M_X12_product) 26 dX12_product_26 ?_
  refine z_icmp_ge (M := M_X12_product) 27 dX12_product_27 113 rfl (fun c1 => ?_) (fun c1 => ?_)
  · exact z_retV (M := M_X12_product) 113 dX12_product_113 rfl ⟨G, R, (show l5 = 5 by omega) ▸ i0⟩
  · refine z_lconst (M := M_X12_product) 30 dX12_product_30 (v := 0) ?_
    refine z_lstore (M := M_X12_product) 31 dX12_product_31 (ls' := [some (mR 115), some (mR 124), some (mI a2), some (mR 137), some (mI a4), some (mI l5), some (mJ 0), none, none, none, none]) (by decide) rfl ?_
    refine z_iconst (M := M_X12_product) 33 dX12_product_33 ?_
    refine z_istore (M := M_X12_product) 34 dX12_product_34 (ls' := [some (mR 115), some (mR 124), some (mI a2), some (mR 137), some (mI a4), some (mI l5), some (mJ 0), none, some (mI 0), none, none]) (by decide) rfl ?_
    exact z_mask [true, true, true, true, true, true, true, false, true, false, false] rfl (ih.2.2 l5 0 0 h G R (by omega) (by omega) (by omega) (by omega) (by omega) (by omega) (pdI_0 i0) (by omega))
set_option maxHeartbeats 4000000 in
set_option maxRecDepth 100000 in
theorem s_X12_product4_36 (h0 : m_H) (a2 a4 : Int) (G0 : GI h0) (pa2 : 0 ≤ a2 ∧ a2 ≤ 75) (pa4 : 0 ≤ a4 ∧ a4 ≤ 0) (n : Nat) (ih : q_X12_product4 h0 a2 a4 n) : ∀ (l5 l6 l8 : Int) (h : m_H), GI h → FR [115] [] h0 h → 0 ≤ l5 → l5 ≤ 4 → 0 ≤ l6 → l6 ≤ 99999999 → 0 ≤ l8 → l8 ≤ 5 → (pdI (h 115) (h0 124) (h0 137) a2 a4 l5 l8 l6) → 15 * (5 - l5) + 2 * (5 - l8) + (1) ≤ ((n + 1 : Nat) : Int) → m_Z oF M_X12_product 36 [some (mR 115), some (mR 124), some (mI a2), some (mR 137), some (mI a4), some (mI l5), some (mJ l6), none, some (mI l8), none, none] [] h (m_QV (P_X12_product4 h0 a2 a4)) := by
  intro l5 l6 l8 h G R v0 v1 v2 v3 v4 v5 i0 hr
  refine z_iload (M := M_X12_product) 36 dX12_product_36 rfl ?_
  refine z_iconst (M := M_X12_product) 38 dX12_product_38 ?_
  refine z_icmp_ge (M := M_X12_product) 39 dX12_product_39 96 rfl (fun c1 => ?_) (fun c1 => ?_)
  · refine z_aload_n (M := M_X12_product) 96 dX12_product_96 rfl ?_
    refine z_iload (M := M_X12_product) 97 dX12_product_97 rfl ?_
    refine z_iconst (M := M_X12_product) 99 dX12_product_99 ?_
    refine z_iaddN (M := M_X12_product) 100 dX12_product_100 (by omega) (by omega) ?_
    refine z_dup2 (M := M_X12_product) 101 dX12_product_101 rfl rfl ?_
    refine z_laldG (M := M_X12_product) 102 dX12_product_102 o_115 (by omega) (by omega) (i0.1.at (i := (l5 + 5)) (by omega) (by omega)) (fun x2 ex2 ax2 bx2 => ?_)
    refine z_lload (M := M_X12_product) 103 dX12_product_103 rfl ?_
    refine z_laddN (M := M_X12_product) 105 dX12_product_105 (by omega) (by omega) ?_
    refine z_lastH (M := M_X12_product) 106 dX12_product_106 o_115 (by omega) (by omega) (u_115 G) (R.up rfl) (fun h1 E1 G1 R1 => ?_)
    refine z_iincN (M := M_X12_product) 107 dX12_product_107 (ls' := [some (mR 115), some (mR 124), some (mI a2), some (mR 137), some (mI a4), some (mI (l5 + 1)), some (mJ l6), none, some (mI l8), none, none]) (by decide) rfl (by (unfold m_32; decide)) (by omega) (by omega) rfl ?_
    refine z_goto (M := M_X12_product) 110 dX12_product_110 24 rfl ?_
    exact z_mask [true, true, true, true, true, true, false, false, false, false, false] rfl (ih.2.1 (l5 + 1) h1 G1 R1 (by omega) (by omega) (pdO_step (by omega) (by omega) (by omega) i0 ex2 ⟨by omega, by omega⟩ E1) (by omega))
  · refine z_aload_n (M := M_X12_product) 42 dX12_product_42 rfl ?_
    refine z_iload (M := M_X12_product) 43 dX12_product_43 rfl ?_
    refine z_iload (M := M_X12_product) 45 dX12_product_45 rfl ?_
    refine z_iaddN (M := M_X12_product) 47 dX12_product_47 (by omega) (by omega) ?_
    refine z_laldG (M := M_X12_product) 48 dX12_product_48 o_115 (by omega) (by omega) (i0.1.at (i := (l5 + l8)) (by omega) (by omega)) (fun x3 ex3 ax3 bx3 => ?_)
    refine z_aload_n (M := M_X12_product) 49 dX12_product_49 rfl ?_
    refine z_iload_n (M := M_X12_product) 50 dX12_product_50 rfl ?_
    refine z_iload (M := M_X12_product) 51 dX12_product_51 rfl ?_
    refine z_iaddN (M := M_X12_product) 53 dX12_product_53 (by omega) (by omega) ?_
    refine z_laldG (M := M_X12_product) 54 dX12_product_54 o_124 (by omega) (by omega) (g_124 G (by omega)) (fun x4 ex4 ax4 bx4 => ?_)
    refine z_aload_n (M := M_X12_product) 55 dX12_product_55 rfl ?_
    refine z_iload (M := M_X12_product) 56 dX12_product_56 rfl ?_
    refine z_iload (M := M_X12_product) 58 dX12_product_58 rfl ?_
    refine z_iaddN (M := M_X12_product) 60 dX12_product_60 (by omega) (by omega) ?_
    refine z_laldG (M := M_X12_product) 61 dX12_product_61 o_137 (by omega) (by omega) (g_137 G (by omega)) (fun x5 ex5 ax5 bx5 => ?_)
    have mx6 := mul_bd (x := x4) (y := x5) (X := 99999999) (Y := 1) (by omega) (by omega) (by omega) (by omega)
    refine z_lmulN (M := M_X12_product) 62 dX12_product_62 (by omega) (by omega) ?_
    refine z_topBJ (lo := 0) (hi := 99999999) ⟨by omega, by omega⟩ (fun x6 ex6 ax6 bx6 => ?_)
    refine z_laddN (M := M_X12_product) 63 dX12_product_63 (by omega) (by omega) ?_
    refine z_lload (M := M_X12_product) 64 dX12_product_64 rfl ?_
    refine z_laddN (M := M_X12_product) 66 dX12_product_66 (by omega) (by omega) ?_
    refine z_lstore (M := M_X12_product) 67 dX12_product_67 (ls' := [some (mR 115), some (mR 124), some (mI a2), some (mR 137), some (mI a4), some (mI l5), some (mJ l6), none, some (mI l8), some (mJ ((x3 + x6) + l6)), none]) (by decide) rfl ?_
    refine z_aload_n (M := M_X12_product) 69 dX12_product_69 rfl ?_
    refine z_iload (M := M_X12_product) 70 dX12_product_70 rfl ?_
    refine z_iload (M := M_X12_product) 72 dX12_product_72 rfl ?_
    refine z_iaddN (M := M_X12_product) 74 dX12_product_74 (by omega) (by omega) ?_
    refine z_lload (M := M_X12_product) 75 dX12_product_75 rfl ?_
    refine z_ldc2 (M := M_X12_product) 77 dX12_product_77 k_X12_327 ?_
    refine z_lremN (M := M_X12_product) 80 dX12_product_80 (by omega) (by omega) ?_
    refine z_topBJ (lo := 0) (hi := 99999999) ⟨by omega, by omega⟩ (fun x7 ex7 ax7 bx7 => ?_)
    refine z_lastH (M := M_X12_product) 81 dX12_product_81 o_115 (by omega) (by omega) (u_115 G) (R.up rfl) (fun h2 E2 G2 R2 => ?_)
    refine z_lload (M := M_X12_product) 82 dX12_product_82 rfl ?_
    refine z_ldc2 (M := M_X12_product) 84 dX12_product_84 k_X12_327 ?_
    refine z_ldivN (M := M_X12_product) 87 dX12_product_87 (by omega) (by omega) ?_
    refine z_topBJ (lo := 0) (hi := 2) ⟨by omega, by omega⟩ (fun x8 ex8 ax8 bx8 => ?_)
    refine z_lstore (M := M_X12_product) 88 dX12_product_88 (ls' := [some (mR 115), some (mR 124), some (mI a2), some (mR 137), some (mI a4), some (mI l5), some (mJ x8), none, some (mI l8), some (mJ ((x3 + x6) + l6)), none]) (by decide) rfl ?_
    refine z_iincN (M := M_X12_product) 90 dX12_product_90 (ls' := [some (mR 115), some (mR 124), some (mI a2), some (mR 137), some (mI a4), some (mI l5), some (mJ x8), none, some (mI (l8 + 1)), some (mJ ((x3 + x6) + l6)), none]) (by decide) rfl (by (unfold m_32; decide)) (by omega) (by omega) rfl ?_
    refine z_goto (M := M_X12_product) 93 dX12_product_93 36 rfl ?_
    exact z_mask [true, true, true, true, true, true, true, false, true, false, false] rfl (ih.2.2 l5 x8 (l8 + 1) h2 G2 R2 (by omega) (by omega) (by omega) (by omega) (by omega) (by omega) (pdI_step (by omega) (by omega) (by omega) (by omega) (by omega) (by omega) i0 ex3 ((R 124 _ rfl).symm.trans ex4) ((R 137 _ rfl).symm.trans ex5) ex6 ex7 ex8 ⟨by omega, by omega⟩ E2) (by omega))
theorem a_X12_product4 (h0 : m_H) (a2 a4 : Int) (G0 : GI h0) (pa2 : 0 ≤ a2 ∧ a2 ≤ 75) (pa4 : 0 ≤ a4 ∧ a4 ≤ 0) : ∀ n, q_X12_product4 h0 a2 a4 n := by
  intro n
  induction n with
  | zero => unfold q_X12_product4; refine ⟨?_, ?_, ?_⟩ <;> (intros; omega)
  | succ n ih => exact ⟨s_X12_product4_3 h0 a2 a4 G0 pa2 pa4 n ih, s_X12_product4_24 h0 a2 a4 G0 pa2 pa4 n ih, s_X12_product4_36 h0 a2 a4 G0 pa2 pa4 n ih⟩
set_option maxHeartbeats 4000000 in
set_option maxRecDepth 100000 in
theorem c_X12_product4 (h0 : m_H) (a2 a4 : Int) (G0 : GI h0) (pa2 : 0 ≤ a2 ∧ a2 ≤ 75) (pa4 : 0 ≤ a4 ∧ a4 ≤ 0) : m_CV M_X12_product [mR 115, mR 124, mI a2, mR 137, mI a4] h0 (P_X12_product4 h0 a2 a4) := by
  refine m_CV_of ⟨by decide, rfl, by simp [m_arg, m_isL, M_X12_product], ⟨rfl, rfl⟩, rfl, rfl⟩ (ls := [some (mR 115), some (mR 124), some (mI a2), some (mR 137), some (mI a4), none, none, none, none, none, none]) rfl ?_
  have ih := a_X12_product4 h0 a2 a4 G0 pa2 pa4 119
  refine z_iconst (M := M_X12_product) 0 dX12_product_0 ?_
  refine z_istore (M := M_X12_product) 1 dX12_product_1 (ls' := [some (mR 115), some (mR 124), some (mI a2), some (mR 137), some (mI a4), some (mI 0), none, none, none, none, none]) (by decide) rfl ?_
  exact z_mask [true, true, true, true, true, true, false, false, false, false, false] rfl (ih.1 0 h0 G0 (FR.rf (cs := [115]) (ss := []) (h := h0)) (by omega) (by omega) (fun j hj => by omega) (by omega))
abbrev P_X12_product5 (h0 : m_H) (a2 a4 : Int) : m_H → Prop := fun h' => GI h' ∧ FR [116] [] h0 h' ∧ pdO (h' 116) (h0 137) (h0 125) a2 a4 5
def q_X12_product5 (h0 : m_H) (a2 a4 : Int) (n : Nat) : Prop := (∀ (l5 : Int) (h : m_H), GI h → FR [116] [] h0 h → 0 ≤ l5 → l5 ≤ 10 → (∀ j : Nat, (j : Int) < l5 → h 116 j = 0) → 2 * (10 - l5) + (92) ≤ (n : Int) → m_Z oF M_X12_product 3 [some (mR 116), some (mR 137), some (mI a2), some (mR 125), some (mI a4), some (mI l5), none, none, none, none, none] [] h (m_QV (P_X12_product5 h0 a2 a4))) ∧ (∀ (l5 : Int) (h : m_H), GI h → FR [116] [] h0 h → 0 ≤ l5 → l5 ≤ 5 → (pdO (h 116) (h0 137) (h0 125) a2 a4 l5) → 15 * (5 - l5) + (14) ≤ (n : Int) → m_Z oF M_X12_product 24 [some (mR 116), some (mR 137), some (mI a2), some (mR 125), some (mI a4), some (mI l5), none, none, none, none, none] [] h (m_QV (P_X12_product5 h0 a2 a4))) ∧ (∀ (l5 l6 l8 : Int) (h : m_H), GI h → FR [116] [] h0 h → 0 ≤ l5 → l5 ≤ 4 → 0 ≤ l6 → l6 ≤ 99999999 → 0 ≤ l8 → l8 ≤ 5 → (pdI (h 116) (h0 137) (h0 125) a2 a4 l5 l8 l6) → 15 * (5 - l5) + 2 * (5 - l8) + (1) ≤ (n : Int) → m_Z oF M_X12_product 36 [some (mR 116), some (mR 137), some (mI a2), some (mR 125), some (mI a4), some (mI l5), some (mJ l6), none, some (mI l8), none, none] [] h (m_QV (P_X12_product5 h0 a2 a4)))
set_option maxHeartbeats 4000000 in
set_option maxRecDepth 100000 in
theorem s_X12_product5_3 (h0 : m_H) (a2 a4 : Int) (G0 : GI h0) (pa2 : 0 ≤ a2 ∧ a2 ≤ 0) (pa4 : 0 ≤ a4 ∧ a4 ≤ 75) (n : Nat) (ih : q_X12_product5 h0 a2 a4 n) : ∀ (l5 : Int) (h : m_H), GI h → FR [116] [] h0 h → 0 ≤ l5 → l5 ≤ 10 → (∀ j : Nat, (j : Int) < l5 → h 116 j = 0) → 2 * (10 - l5) + (92) ≤ ((n + 1 : Nat) : Int) → m_Z oF M_X12_product 3 [some (mR 116), some (mR 137), some (mI a2), some (mR 125), some (mI a4), some (mI l5), none, none, none, none, none] [] h (m_QV (P_X12_product5 h0 a2 a4)) := by
  intro l5 h G R v0 v1 i0 hr
  refine z_iload (M := M_X12_product) 3 dX12_product_3 rfl ?_
  refine z_bipush (M := M_X12_product) 5 dX12_product_5 ?_
  refine z_icmp_ge (M := M_X12_product) 7 dX12_product_7 21 rfl (fun c1 => ?_) (fun c1 => ?_)
  · refine z_iconst (M := M_X12_product) 21 dX12_product_21 ?_
    refine z_istore (M := M_X12_product) 22 dX12_product_22 (ls' := [some (mR 116), some (mR 137), some (mI a2), some (mR 125), some (mI a4), some (mI 0), none, none, none, none, none]) (by decide) rfl ?_
    exact z_mask [true, true, true, true, true, true, false, false, false, false, false] rfl (ih.2.1 0 h G R (by omega) (by omega) (pdO_0 (by omega) i0) (by omega))
  · refine z_aload_n (M := M_X12_product) 10 dX12_product_10 rfl ?_
    refine z_iload (M := M_X12_product) 11 dX12_product_11 rfl ?_
    refine z_lconst (M := M_X12_product) 13 dX12_product_13 (v := 0) ?_
    refine z_lastH (M := M_X12_product) 14 dX12_product_14 o_116 (by omega) (by omega) (u_116 G) (R.up rfl) (fun h1 E1 G1 R1 => ?_)
    refine z_iincN (M := M_X12_product) 15 dX12_product_15 (ls' := [some (mR 116), some (mR 137), some (mI a2), some (mR 125), some (mI a4), some (mI (l5 + 1)), none, none, none, none, none]) (by decide) rfl (by (unfold m_32; decide)) (by omega) (by omega) rfl ?_
    refine z_goto (M := M_X12_product) 18 dX12_product_18 3 rfl ?_
    exact z_mask [true, true, true, true, true, true, false, false, false, false, false] rfl (ih.1 (l5 + 1) h1 G1 R1 (by omega) (by omega) (pz_step (by omega) i0 E1) (by omega))
set_option maxHeartbeats 4000000 in
set_option maxRecDepth 100000 in
theorem s_X12_product5_24 (h0 : m_H) (a2 a4 : Int) (G0 : GI h0) (pa2 : 0 ≤ a2 ∧ a2 ≤ 0) (pa4 : 0 ≤ a4 ∧ a4 ≤ 75) (n : Nat) (ih : q_X12_product5 h0 a2 a4 n) : ∀ (l5 : Int) (h : m_H), GI h → FR [116] [] h0 h → 0 ≤ l5 → l5 ≤ 5 → (pdO (h 116) (h0 137) (h0 125) a2 a4 l5) → 15 * (5 - l5) + (14) ≤ ((n + 1 : Nat) : Int) → m_Z oF M_X12_product 24 [some (mR 116), some (mR 137), some (mI a2), some (mR 125), some (mI a4), some (mI l5), none, none, none, none, none] [] h (m_QV (P_X12_product5 h0 a2 a4)) := by
  intro l5 h G R v0 v1 i0 hr
  refine z_iload (M := M_X12_product) 24 dX12_product_24 rfl ?_
  refine z_iconst (M := M_X12_product) 26 dX12_product_26 ?_
  refine z_icmp_ge (M := M_X12_product) 27 dX12_product_27 113 rfl (fun c1 => ?_) (fun c1 => ?_)
  · exact z_retV (M := M_X12_product) 113 dX12_product_113 rfl ⟨G, R, (show l5 = 5 by omega) ▸ i0⟩
  · refine z_lconst (M := M_X12_product) 30 dX12_product_30 (v := 0) ?_
    refine z_lstore (M := M_X12_product) 31 dX12_product_31 (ls' := [some (mR 116), some (mR 137), some (mI a2), some (mR 125), some (mI a4), some (mI l5), some (mJ 0), none, none, none, none]) (by decide) rfl ?_
    refine z_iconst (M := M_X12_product) 33 dX12_product_33 ?_
    refine z_istore (M := M_X12_product) 34 dX12_product_34 (ls' := [some (mR 116), some (mR 137), some (mI a2), some (mR 125), some (mI a4), some (mI l5), some (mJ 0), none, some (mI 0), none, none]) (by decide) rfl ?_
    exact z_mask [true, true, true, true, true, true, true, false, true, false, false] rfl (ih.2.2 l5 0 0 h G R (by omega) (by omega) (by omega) (by omega) (by omega) (by omega) (pdI_0 i0) (by omega))
set_option maxHeartbeats 4000000 in
set_option maxRecDepth 100000 in
theorem s_X12_product5_36 (h0 : m_H) (a2 a4 : Int) (G0 : GI h0) (pa2 : 0 ≤ a2 ∧ a2 ≤ 0) (pa4 : 0 ≤ a4 ∧ a4 ≤ 75) (n : Nat) (ih : q_X12_product5 h0 a2 a4 n) : ∀ (l5 l6 l8 : Int) (h : m_H), GI h → FR [116] [] h0 h → 0 ≤ l5 → l5 ≤ 4 → 0 ≤ l6 → l6 ≤ 99999999 → 0 ≤ l8 → l8 ≤ 5 → (pdI (h 116) (h0 137) (h0 125) a2 a4 l5 l8 l6) → 15 * (5 - l5) + 2 * (5 - l8) + (1) ≤ ((n + 1 : Nat) : Int) → m_Z oF M_X12_product 36 [some (mR 116), some (mR 137), some (mI a2), some (mR 125), some (mI a4), some (mI l5), some (mJ l6), none, some (mI l8), none, none] [] h (m_QV (P_X12_product5 h0 a2 a4)) := by
  intro l5 l6 l8 h G R v0 v1 v2 v3 v4 v5 i0 hr
  refine z_iload (M := M_X12_product) 36 dX12_product_36 rfl ?_
  refine z_iconst (M := M_X12_product) 38 dX12_product_38 ?_
  refine z_icmp_ge (M := M_X12_product) 39 dX12_product_39 96 rfl (fun c1 => ?_) (fun c1 => ?_)
  · refine z_aload_n (M := M_X12_product) 96 dX12_product_96 rfl ?_
    refine z_iload (M := M_X12_product) 97 dX12_product_97 rfl ?_
    refine z_iconst (M := M_X12_product) 99 dX12_product_99 ?_
    refine z_iaddN (M := M_X12_product) 100 dX12_product_100 (by omega) (by omega) ?_
    refine z_dup2 (M := M_X12_product) 101 dX12_product_101 rfl rfl ?_
    refine z_laldG (M := M_X12_product) 102 dX12_product_102 o_116 (by omega) (by omega) (i0.1.at (i := (l5 + 5)) (by omega) (by omega)) (fun x2 ex2 ax2 bx2 => ?_)
    refine z_lload (M := M_X12_product) 103 dX12_product_103 rfl ?_
    refine z_laddN (M := M_X12_product) 105 dX12_product_105 (by omega) (by omega) ?_
    refine z_lastH (M := M_X12_product) 106 dX12_product_106 o_116 (by omega) (by omega) (u_116 G) (R.up rfl) (fun h1 E1 G1 R1 => ?_)
    refine z_iincN (M := M_X12_product) 107 dX12_product_107 (ls' := [some (mR 116), some (mR 137), some (mI a2), some (mR 125), some (mI a4), some (mI (l5 + 1)), some (mJ l6), none, some (mI l8), none, none]) (by decide) rfl (by (unfold m_32; decide)) (by omega) (by omega) rfl ?_
    refine z_goto (M := M_X12_product) 110 dX12_product_110 24 rfl ?_
    exact z_mask [true, true, true, true, true, true, false, false, false, false, false] rfl (ih.2.1 (l5 + 1) h1 G1 R1 (by omega) (by omega) (pdO_step (by omega) (by omega) (by omega) i0 ex2 ⟨by omega, by omega⟩ E1) (by omega))
  · refine z_aload_n (M := M_X12_product) 42 dX12_product_42 rfl ?_
    refine z_iload (M := M_X12_product) 43 dX12_product_43 rfl ?_
    refine z_iload (M := M_X12_product) 45 dX12_product_45 rfl ?_
    refine z_iaddN (M := M_X12_product) 47 dX12_product_47 (by omega) (by omega) ?_
    refine z_laldG (M := M_X12_product) 48 dX12_product_48 o_116 (by omega) (by omega) (i0.1.at (i := (l5 + l8)) (by omega) (by omega)) (fun x3 ex3 ax3 bx3 => ?_)
    refine z_aload_n (M := M_X12_product) 49 dX12_product_49 rfl ?_
    refine z_iload_n (M := M_X12_product) 50 dX12_product_50 rfl ?_
    refine z_iload (M := M_X12_product) 51 dX12_product_51 rfl ?_
    refine z_iaddN (M := M_X12_product) 53 dX12_product_53 (by omega) (by omega) ?_
    refine z_laldG (M := M_X12_product) 54 dX12_product_54 o_137 (by omega) (by omega) (g_137 G (by omega)) (fun x4 ex4 ax4 bx4 => ?_)
    refine z_aload_n (M := M_X12_product) 55 dX12_product_55 rfl ?_
    refine z_iload (M := M_X12_product) 56 dX12_product_56 rfl ?_
    refine z_iload (M := M_X12_product) 58 dX12_product_58 rfl ?_
    refine z_iaddN (M := M_X12_product) 60 dX12_product_60 (by omega) (by omega) ?_
    refine z_laldG (M := M_X12_product) 61 dX12_product_61 o_125 (by omega) (by omega) (g_125 G (by omega)) (fun x5 ex5 ax5 bx5 => ?_)
    have mx6 := mul_bd (x := x4) (y := x5) (X := 1) (Y := 99999999) (by omega) (by omega) (by omega) (by omega)
    refine z_lmulN (M := M_X12_product) 62 dX12_product_62 (by omega) (by omega) ?_
    refine z_topBJ (lo := 0) (hi := 99999999) ⟨by omega, by omega⟩ (fun x6 ex6 ax6 bx6 => ?_)
    refine z_laddN (M := M_X12_product) 63 dX12_product_63 (by omega) (by omega) ?_
    refine z_lload (M := M_X12_product) 64 dX12_product_64 rfl ?_
    refine z_laddN (M := M_X12_product) 66 dX12_product_66 (by omega) (by omega) ?_
    refine z_lstore (M := M_X12_product) 67 dX12_product_67 (ls' := [some (mR 116), some (mR 137), some (mI a2), some (mR 125), some (mI a4), some (mI l5), some (mJ l6), none, some (mI l8), some (mJ ((x3 + x6) + l6)), none]) (by decide) rfl ?_
    refine z_aload_n (M := M_X12_product) 69 dX12_product_69 rfl ?_
    refine z_iload (M := M_X12_product) 70 dX12_product_70 rfl ?_
    refine z_iload (M := M_X12_product) 72 dX12_product_72 rfl ?_
    refine z_iaddN (M := M_X12_product) 74 dX12_product_74 (by omega) (by omega) ?_
    refine z_lload (M := M_X12_product) 75 dX12_product_75 rfl ?_
    refine z_ldc2 (M := M_X12_product) 77 dX12_product_77 k_X12_327 ?_
    refine z_lremN (M := M_X12_product) 80 dX12_product_80 (by omega) (by omega) ?_
    refine z_topBJ (lo := 0) (hi := 99999999) ⟨by omega, by omega⟩ (fun x7 ex7 ax7 bx7 => ?_)
    refine z_lastH (M := M_X12_product) 81 dX12_product_81 o_116 (by omega) (by omega) (u_116 G) (R.up rfl) (fun h2 E2 G2 R2 => ?_)
    refine z_lload (M := M_X12_product) 82 dX12_product_82 rfl ?_
    refine z_ldc2 (M := M_X12_product) 84 dX12_product_84 k_X12_327 ?_
    refine z_ldivN (M := M_X12_product) 87 dX12_product_87 (by omega) (by omega) ?_
    refine z_topBJ (lo := 0) (hi := 2) ⟨by omega, by omega⟩ (fun x8 ex8 ax8 bx8 => ?_)
    refine z_lstore (M := M_X12_product) 88 dX12_product_88 (ls' := [some (mR 116), some (mR 137), some (mI a2), some (mR 125), some (mI a4), some (mI l5), some (mJ x8), none, some (mI l8), some (mJ ((x3 + x6) + l6)), none]) (by decide) rfl ?_
    refine z_iincN (M := M_X12_product) 90 dX12_product_90 (ls' := [some (mR 116), some (mR 137), some (mI a2), some (mR 125), some (mI a4), some (mI l5), some (mJ x8), none, some (mI (l8 + 1)), some (mJ ((x3 + x6) + l6)), none]) (by decide) rfl (by (unfold m_32; decide)) (by omega) (by omega) rfl ?_
    refine z_goto (M := M_X12_product) 93 dX12_product_93 36 rfl ?_
    exact z_mask [true, true, true, true, true, true, true, false, true, false, false] rfl (ih.2.2 l5 x8 (l8 + 1) h2 G2 R2 (by omega) (by omega) (by omega) (by omega) (by omega) (by omega) (pdI_step (by omega) (by omega) (by omega) (by omega) (by omega) (by omega) i0 ex3 ((R 137 _ rfl).symm.trans ex4) ((R 125 _ rfl).symm.trans ex5) ex6 ex7 ex8 ⟨by omega, by omega⟩ E2) (by omega))
theorem a_X12_product5 (h0 : m_H) (a2 a4 : Int) (G0 : GI h0) (pa2 : 0 ≤ a2 ∧ a2 ≤ 0) (pa4 : 0 ≤ a4 ∧ a4 ≤ 75) : ∀ n, q_X12_product5 h0 a2 a4 n := by
  intro n
  induction n with
  | zero => unfold q_X12_product5; refine ⟨?_, ?_, ?_⟩ <;> (intros; omega)
  | succ n ih => exact ⟨s_X12_product5_3 h0 a2 a4 G0 pa2 pa4 n ih, s_X12_product5_24 h0 a2 a4 G0 pa2 pa4 n ih, s_X12_product5_36 h0 a2 a4 G0 pa2 pa4 n ih⟩
set_option maxHeartbeats 4000000 in
set_option maxRecDepth 100000 in
theorem c_X12_product5 (h0 : m_H) (a2 a4 : Int) (G0 : GI h0) (pa2 : 0 ≤ a2 ∧ a2 ≤ 0) (pa4 : 0 ≤ a4 ∧ a4 ≤ 75) : m_CV M_X12_product [mR 116, mR 137, mI a2, mR 125, mI a4] h0 (P_X12_product5 h0 a2 a4) := by
  refine m_CV_of ⟨by decide, rfl, by simp [m_arg, m_isL, M_X12_product], ⟨rfl, rfl⟩, rfl, rfl⟩ (ls := [some (mR 116), some (mR 137), some (mI a2), some (mR 125), some (mI a4), none, none, none, none, none, none]) rfl ?_
  have ih := a_X12_product5 h0 a2 a4 G0 pa2 pa4 119
  refine z_iconst (M := M_X12_product) 0 dX12_product_0 ?_
  refine z_istore (M := M_X12_product) 1 dX12_product_1 (ls' := [some (mR 116), some (mR 137), some (mI a2), some (mR 125), some (mI a4), some (mI 0), none, none, none, none, none]) (by decide) rfl ?_
  exact z_mask [true, true, true, true, true, true, false, false, false, false, false] rfl (ih.1 0 h0 G0 (FR.rf (cs := [116]) (ss := []) (h := h0)) (by omega) (by omega) (fun j hj => by omega) (by omega))
abbrev P_X12_compareA (h0 : m_H) (a3 a6 : Int) : Int → m_H → Prop := fun x h' => GI h' ∧ FR [115, 116] [] h0 h' ∧ (-1) ≤ x ∧ x ≤ 1 ∧ cmpQ x (vS (h0 132) a3.toNat 5 * vS (h0 129) a6.toNat 5) (vS (h0 128) a6.toNat 5 * vS (h0 133) a3.toNat 5)
def q_X12_compareA (h0 : m_H) (a3 a6 : Int) (n : Nat) : Prop := (∀ (l7 : Int) (h : m_H), GI h → FR [115, 116] [] h0 h → (-1) ≤ l7 → l7 ≤ 9 → (cpI (h 115) (h 116) (vS (h0 132) a3.toNat 5 * vS (h0 129) a6.toNat 5) (vS (h0 128) a6.toNat 5 * vS (h0 133) a3.toNat 5) l7) → 2 * (l7 - (-1)) + (1) ≤ (n : Int) → m_Z oF M_X12_compare 30 [some (mR 108), none, none, none, none, none, none, some (mI l7)] [] h (m_QI (P_X12_compareA h0 a3 a6)))
set_option maxHeartbeats 4000000 in
set_option maxRecDepth 100000 in
theorem s_X12_compareA_30 (h0 : m_H) (a3 a6 : Int) (G0 : GI h0) (pa3 : 0 ≤ a3 ∧ a3 ≤ 0) (pa6 : 0 ≤ a6 ∧ a6 ≤ 75) (n : Nat) (ih : q_X12_compareA h0 a3 a6 n) : ∀ (l7 : Int) (h : m_H), GI h → FR [115, 116] [] h0 h → (-1) ≤ l7 → l7 ≤ 9 → (cpI (h 115) (h 116) (vS (h0 132) a3.toNat 5 * vS (h0 129) a6.toNat 5) (vS (h0 128) a6.toNat 5 * vS (h0 133) a3.toNat 5) l7) → 2 * (l7 - (-1)) + (1) ≤ ((n + 1 : Nat) : Int) → m_Z oF M_X12_compare 30 [some (mR 108), none, none, none, none, none, none, some (mI l7)] [] h (m_QI (P_X12_compareA h0 a3 a6)) := by
  intro l7 h G R v0 v1 i0 hr
  refine z_iload (M := M_X12_compare) 30 dX12_compare_30 rfl ?_
  refine z_if_lt (M := M_X12_compare) 32 dX12_compare_32 83 rfl (fun c1 => ?_) (fun c1 => ?_)
  · refine z_iconst (M := M_X12_compare) 83 dX12_compare_83 ?_
    exact z_retI (M := M_X12_compare) 84 dX12_compare_84 rfl ⟨G, R, by omega, by omega, cpI_eq i0 (by omega)⟩
  · refine z_aload_n (M := M_X12_compare) 35 dX12_compare_35 rfl ?_
    refine z_getR (M := M_X12_compare) 36 dX12_compare_36 f_X12_33 o_108 rfl (g_108_19 G) ?_
    refine z_iload (M := M_X12_compare) 39 dX12_compare_39 rfl ?_
    refine z_laldV (M := M_X12_compare) 41 dX12_compare_41 o_115 (by omega) (by omega) (fun x2 ex2 => ?_)
    refine z_aload_n (M := M_X12_compare) 42 dX12_compare_42 rfl ?_
    refine z_getR (M := M_X12_compare) 43 dX12_compare_43 f_X12_37 o_108 rfl (g_108_20 G) ?_
    refine z_iload (M := M_X12_compare) 46 dX12_compare_46 rfl ?_
    refine z_laldV (M := M_X12_compare) 48 dX12_compare_48 o_116 (by omega) (by omega) (fun x3 ex3 => ?_)
    refine z_lcmp (M := M_X12_compare) 49 dX12_compare_49 ?_
    refine z_if_eq (M := M_X12_compare) 50 dX12_compare_50 77 rfl (fun c4 => ?_) (fun c4 => ?_)
    · rw [m_cmp_eq] at c4
      refine z_iincN (M := M_X12_compare) 77 dX12_compare_77 (ls' := [some (mR 108), none, none, none, none, none, none, some (mI (l7 + (-1)))]) (by decide) rfl (by (unfold m_32; decide)) (by omega) (by omega) rfl ?_
      refine z_goto (M := M_X12_compare) 80 dX12_compare_80 30 rfl ?_
      exact z_mask [true, false, false, false, false, false, false, true] rfl (ih (l7 + (-1)) h G R (by omega) (by omega) (cpI_step i0 (by omega) ex2 ex3 (by omega)) (by omega))
    · rw [m_cmp_eq] at c4
      refine z_aload_n (M := M_X12_compare) 53 dX12_compare_53 rfl ?_
      refine z_getR (M := M_X12_compare) 54 dX12_compare_54 f_X12_33 o_108 rfl (g_108_19 G) ?_
      refine z_iload (M := M_X12_compare) 57 dX12_compare_57 rfl ?_
      refine z_laldE (M := M_X12_compare) 59 dX12_compare_59 o_115 (by omega) (by omega) ex2 ?_
      refine z_aload_n (M := M_X12_compare) 60 dX12_compare_60 rfl ?_
      refine z_getR (M := M_X12_compare) 61 dX12_compare_61 f_X12_37 o_108 rfl (g_108_20 G) ?_
      refine z_iload (M := M_X12_compare) 64 dX12_compare_64 rfl ?_
      refine z_laldE (M := M_X12_compare) 66 dX12_compare_66 o_116 (by omega) (by omega) ex3 ?_
      refine z_lcmp (M := M_X12_compare) 67 dX12_compare_67 ?_
      refine z_if_ge (M := M_X12_compare) 68 dX12_compare_68 75 rfl (fun c5 => ?_) (fun c5 => ?_)
      · rw [m_cmp_ge] at c5
        refine z_iconst (M := M_X12_compare) 75 dX12_compare_75 ?_
        exact z_retI (M := M_X12_compare) 76 dX12_compare_76 rfl ⟨G, R, by omega, by omega, cpI_gt i0 (by omega) (by omega) ex2 ex3 (by omega)⟩
      · rw [m_cmp_ge] at c5
        refine z_iconst (M := M_X12_compare) 71 dX12_compare_71 ?_
        refine z_goto (M := M_X12_compare) 72 dX12_compare_72 76 rfl ?_
        exact z_retI (M := M_X12_compare) 76 dX12_compare_76 rfl ⟨G, R, by omega, by omega, cpI_lt i0 (by omega) (by omega) ex2 ex3 (by omega)⟩
theorem a_X12_compareA (h0 : m_H) (a3 a6 : Int) (G0 : GI h0) (pa3 : 0 ≤ a3 ∧ a3 ≤ 0) (pa6 : 0 ≤ a6 ∧ a6 ≤ 75) : ∀ n, q_X12_compareA h0 a3 a6 n := by
  intro n
  induction n with
  | zero => unfold q_X12_compareA; intros; omega
  | succ n ih => exact s_X12_compareA_30 h0 a3 a6 G0 pa3 pa6 n ih
set_option maxHeartbeats 4000000 in
set_option maxRecDepth 100000 in
theorem c_X12_compareA (h0 : m_H) (a3 a6 : Int) (G0 : GI h0) (pa3 : 0 ≤ a3 ∧ a3 ≤ 0) (pa6 : 0 ≤ a6 ∧ a6 ≤ 75) : m_CI M_X12_compare [mR 108, mR 132, mR 133, mI a3, mR 128, mR 129, mI a6] h0 (P_X12_compareA h0 a3 a6) := by
  refine m_CI_of ⟨by decide, rfl, by simp [m_arg, m_isL, M_X12_compare], ⟨rfl, rfl⟩, rfl, rfl⟩ (ls := [some (mR 108), some (mR 132), some (mR 133), some (mI a3), some (mR 128), some (mR 129), some (mI a6), none]) rfl ?_
  have ih := a_X12_compareA h0 a3 a6 G0 pa3 pa6 28
  refine z_aload_n (M := M_X12_compare) 0 dX12_compare_0 rfl ?_
  refine z_getR (M := M_X12_compare) 1 dX12_compare_1 f_X12_33 o_108 rfl (g_108_19 G0) ?_
  refine z_aload_n (M := M_X12_compare) 4 dX12_compare_4 rfl ?_
  refine z_iload_n (M := M_X12_compare) 5 dX12_compare_5 rfl ?_
  refine z_aload (M := M_X12_compare) 6 dX12_compare_6 rfl ?_
  refine z_iload (M := M_X12_compare) 8 dX12_compare_8 rfl ?_
  refine z_sV (M := M_X12_compare) 10 dX12_compare_10 t_X12_product l_X12_329 (m_rr_of rfl) (rest := []) (c_X12_product0 h0 a3 a6 G0 ⟨by omega, by omega⟩ ⟨by omega, by omega⟩) rfl rfl (Nat.le_of_ble_eq_true rfl) ⟨rfl, rfl⟩ (fun h1 qx1 => ?_)
  obtain ⟨G1, S1, fx1_0⟩ := qx1
  have R1 := (FR.rf (cs := [115, 116]) (ss := []) (h := h0)).call S1 (by decide +kernel)
  refine z_aload_n (M := M_X12_compare) 13 dX12_compare_13 rfl ?_
  refine z_getR (M := M_X12_compare) 14 dX12_compare_14 f_X12_37 o_108 rfl (g_108_20 G1) ?_
  refine z_aload (M := M_X12_compare) 17 dX12_compare_17 rfl ?_
  refine z_iload (M := M_X12_compare) 19 dX12_compare_19 rfl ?_
  refine z_aload_n (M := M_X12_compare) 21 dX12_compare_21 rfl ?_
  refine z_iload_n (M := M_X12_compare) 22 dX12_compare_22 rfl ?_
  refine z_sV (M := M_X12_compare) 23 dX12_compare_23 t_X12_product l_X12_329 (m_rr_of rfl) (rest := []) (c_X12_product1 h1 a6 a3 G1 ⟨by omega, by omega⟩ ⟨by omega, by omega⟩) rfl rfl (Nat.le_of_ble_eq_true rfl) ⟨rfl, rfl⟩ (fun h2 qx2 => ?_)
  obtain ⟨G2, S2, fx2_0⟩ := qx2
  have R2 := R1.call S2 (by decide +kernel)
  refine z_bipush (M := M_X12_compare) 26 dX12_compare_26 ?_
  refine z_istore (M := M_X12_compare) 28 dX12_compare_28 (ls' := [some (mR 108), some (mR 132), some (mR 133), some (mI a3), some (mR 128), some (mR 129), some (mI a6), some (mI 9)]) (by decide) rfl ?_
  exact z_mask [true, false, false, false, false, false, false, true] rfl (ih 9 h2 G2 R2 (by omega) (by omega) (by have q1 := fx1_0; have q2 := fx2_0; rw [show h1 128 = h0 128 from FR.row S1 (fun _ => rfl), show h1 133 = h0 133 from FR.row S1 (fun _ => rfl)] at q2; rw [show h2 115 = h1 115 from FR.row S2 (fun _ => rfl)]; exact cpI_0 q1 q2) (by omega))
abbrev P_X12_compareB (h0 : m_H) (a3 a6 : Int) : Int → m_H → Prop := fun x h' => GI h' ∧ FR [115, 116] [] h0 h' ∧ (-1) ≤ x ∧ x ≤ 1 ∧ cmpQ x (vS (h0 132) a3.toNat 5 * vS (h0 125) a6.toNat 5) (vS (h0 124) a6.toNat 5 * vS (h0 133) a3.toNat 5)
def q_X12_compareB (h0 : m_H) (a3 a6 : Int) (n : Nat) : Prop := (∀ (l7 : Int) (h : m_H), GI h → FR [115, 116] [] h0 h → (-1) ≤ l7 → l7 ≤ 9 → (cpI (h 115) (h 116) (vS (h0 132) a3.toNat 5 * vS (h0 125) a6.toNat 5) (vS (h0 124) a6.toNat 5 * vS (h0 133) a3.toNat 5) l7) → 2 * (l7 - (-1)) + (1) ≤ (n : Int) → m_Z oF M_X12_compare 30 [some (mR 108), none, none, none, none, none, none, some (mI l7)] [] h (m_QI (P_X12_compareB h0 a3 a6)))
set_option maxHeartbeats 4000000 in
set_option maxRecDepth 100000 in
theorem s_X12_compareB_30 (h0 : m_H) (a3 a6 : Int) (G0 : GI h0) (pa3 : 0 ≤ a3 ∧ a3 ≤ 0) (pa6 : 0 ≤ a6 ∧ a6 ≤ 75) (n : Nat) (ih : q_X12_compareB h0 a3 a6 n) : ∀ (l7 : Int) (h : m_H), GI h → FR [115, 116] [] h0 h → (-1) ≤ l7 → l7 ≤ 9 → (cpI (h 115) (h 116) (vS (h0 132) a3.toNat 5 * vS (h0 125) a6.toNat 5) (vS (h0 124) a6.toNat 5 * vS (h0 133) a3.toNat 5) l7) → 2 * (l7 - (-1)) + (1) ≤ ((n + 1 : Nat) : Int) → m_Z oF M_X12_compare 30 [some (mR 108), none, none, none, none, none, none, some (mI l7)] [] h (m_QI (P_X12_compareB h0 a3 a6)) := by
  intro l7 h G R v0 v1 i0 hr
  refine z_iload (M := M_X12_compare) 30 dX12_compare_30 rfl ?_
  refine z_if_lt (M := M_X12_compare) 32 dX12_compare_32 83 rfl (fun c1 => ?_) (fun c1 => ?_)
  · refine z_iconst (M := M_X12_compare) 83 dX12_compare_83 ?_
    exact z_retI (M := M_X12_compare) 84 dX12_compare_84 rfl ⟨G, R, by omega, by omega, cpI_eq i0 (by omega)⟩
  · refine z_aload_n (M := M_X12_compare) 35 dX12_compare_35 rfl ?_
    refine z_getR (M := M_X12_compare) 36 dX12_compare_36 f_X12_33 o_108 rfl (g_108_19 G) ?_
    refine z_iload (M := M_X12_compare) 39 dX12_compare_39 rfl ?_
    refine z_laldV (M := M_X12_compare) 41 dX12_compare_41 o_115 (by omega) (by omega) (fun x2 ex2 => ?_)
    refine z_aload_n (M := M_X12_compare) 42 dX12_compare_42 rfl ?_
    refine z_getR (M := M_X12_compare) 43 dX12_compare_43 f_X12_37 o_108 rfl (g_108_20 G) ?_
    refine z_iload (M := M_X12_compare) 46 dX12_compare_46 rfl ?_
    refine z_laldV (M := M_X12_compare) 48 dX12_compare_48 o_116 (by omega) (by omega) (fun x3 ex3 => ?_)
    refine z_lcmp (M := M_X12_compare) 49 dX12_compare_49 ?_
    refine z_if_eq (M := M_X12_compare) 50 dX12_compare_50 77 rfl (fun c4 => ?_) (fun c4 => ?_)
    · rw [m_cmp_eq] at c4
      refine z_iincN (M := M_X12_compare) 77 dX12_compare_77 (ls' := [some (mR 108), none, none, none, none, none, none, some (mI (l7 + (-1)))]) (by decide) rfl (by (unfold m_32; decide)) (by omega) (by omega) rfl ?_
      refine z_goto (M := M_X12_compare) 80 dX12_compare_80 30 rfl ?_
      exact z_mask [true, false, false, false, false, false, false, true] rfl (ih (l7 + (-1)) h G R (by omega) (by omega) (cpI_step i0 (by omega) ex2 ex3 (by omega)) (by omega))
    · rw [m_cmp_eq] at c4
      refine z_aload_n (M := M_X12_compare) 53 dX12_compare_53 rfl ?_
      refine z_getR (M := M_X12_compare) 54 dX12_compare_54 f_X12_33 o_108 rfl (g_108_19 G) ?_
      refine z_iload (M := M_X12_compare) 57 dX12_compare_57 rfl ?_
      refine z_laldE (M := M_X12_compare) 59 dX12_compare_59 o_115 (by omega) (by omega) ex2 ?_
      refine z_aload_n (M := M_X12_compare) 60 dX12_compare_60 rfl ?_
      refine z_getR (M := M_X12_compare) 61 dX12_compare_61 f_X12_37 o_108 rfl (g_108_20 G) ?_
      refine z_iload (M := M_X12_compare) 64 dX12_compare_64 rfl ?_
      refine z_laldE (M := M_X12_compare) 66 dX12_compare_66 o_116 (by omega) (by omega) ex3 ?_
      refine z_lcmp (M := M_X12_compare) 67 dX12_compare_67 ?_
      refine z_if_ge (M := M_X12_compare) 68 dX12_compare_68 75 rfl (fun c5 => ?_) (fun c5 => ?_)
      · rw [m_cmp_ge] at c5
        refine z_iconst (M := M_X12_compare) 75 dX12_compare_75 ?_
        exact z_retI (M := M_X12_compare) 76 dX12_compare_76 rfl ⟨G, R, by omega, by omega, cpI_gt i0 (by omega) (by omega) ex2 ex3 (by omega)⟩
      · rw [m_cmp_ge] at c5
        refine z_iconst (M := M_X12_compare) 71 dX12_compare_71 ?_
        refine z_goto (M := M_X12_compare) 72 dX12_compare_72 76 rfl ?_
        exact z_retI (M := M_X12_compare) 76 dX12_compare_76 rfl ⟨G, R, by omega, by omega, cpI_lt i0 (by omega) (by omega) ex2 ex3 (by omega)⟩
theorem a_X12_compareB (h0 : m_H) (a3 a6 : Int) (G0 : GI h0) (pa3 : 0 ≤ a3 ∧ a3 ≤ 0) (pa6 : 0 ≤ a6 ∧ a6 ≤ 75) : ∀ n, q_X12_compareB h0 a3 a6 n := by
  intro n
  induction n with
  | zero => unfold q_X12_compareB; intros; omega
  | succ n ih => exact s_X12_compareB_30 h0 a3 a6 G0 pa3 pa6 n ih
set_option maxHeartbeats 4000000 in
set_option maxRecDepth 100000 in
theorem c_X12_compareB (h0 : m_H) (a3 a6 : Int) (G0 : GI h0) (pa3 : 0 ≤ a3 ∧ a3 ≤ 0) (pa6 : 0 ≤ a6 ∧ a6 ≤ 75) : m_CI M_X12_compare [mR 108, mR 132, mR 133, mI a3, mR 124, mR 125, mI a6] h0 (P_X12_compareB h0 a3 a6) := by
  refine m_CI_of ⟨by decide, rfl, by simp [m_arg, m_isL, M_X12_compare], ⟨rfl, rfl⟩, rfl, rfl⟩ (ls := [some (mR 108), some (mR 132), some (mR 133), some (mI a3), some (mR 124), some (mR 125), some (mI a6), none]) rfl ?_
  have ih := a_X12_compareB h0 a3 a6 G0 pa3 pa6 28
  refine z_aload_n (M := M_X12_compare) 0 dX12_compare_0 rfl ?_
  refine z_getR (M := M_X12_compare) 1 dX12_compare_1 f_X12_33 o_108 rfl (g_108_19 G0) ?_
  refine z_aload_n (M := M_X12_compare) 4 dX12_compare_4 rfl ?_
  refine z_iload_n (M := M_X12_compare) 5 dX12_compare_5 rfl ?_
  refine z_aload (M := M_X12_compare) 6 dX12_compare_6 rfl ?_
  refine z_iload (M := M_X12_compare) 8 dX12_compare_8 rfl ?_
  refine z_sV (M := M_X12_compare) 10 dX12_compare_10 t_X12_product l_X12_329 (m_rr_of rfl) (rest := []) (c_X12_product2 h0 a3 a6 G0 ⟨by omega, by omega⟩ ⟨by omega, by omega⟩) rfl rfl (Nat.le_of_ble_eq_true rfl) ⟨rfl, rfl⟩ (fun h1 qx1 => ?_)
  obtain ⟨G1, S1, fx1_0⟩ := qx1
  have R1 := (FR.rf (cs := [115, 116]) (ss := []) (h := h0)).call S1 (by decide +kernel)
  refine z_aload_n (M := M_X12_compare) 13 dX12_compare_13 rfl ?_
  refine z_getR (M := M_X12_compare) 14 dX12_compare_14 f_X12_37 o_108 rfl (g_108_20 G1) ?_
  refine z_aload (M := M_X12_compare) 17 dX12_compare_17 rfl ?_
  refine z_iload (M := M_X12_compare) 19 dX12_compare_19 rfl ?_
  refine z_aload_n (M := M_X12_compare) 21 dX12_compare_21 rfl ?_
  refine z_iload_n (M := M_X12_compare) 22 dX12_compare_22 rfl ?_
  refine z_sV (M := M_X12_compare) 23 dX12_compare_23 t_X12_product l_X12_329 (m_rr_of rfl) (rest := []) (c_X12_product3 h1 a6 a3 G1 ⟨by omega, by omega⟩ ⟨by omega, by omega⟩) rfl rfl (Nat.le_of_ble_eq_true rfl) ⟨rfl, rfl⟩ (fun h2 qx2 => ?_)
  obtain ⟨G2, S2, fx2_0⟩ := qx2
  have R2 := R1.call S2 (by decide +kernel)
  refine z_bipush (M := M_X12_compare) 26 dX12_compare_26 ?_
  refine z_istore (M := M_X12_compare) 28 dX12_compare_28 (ls' := [some (mR 108), some (mR 132), some (mR 133), some (mI a3), some (mR 124), some (mR 125), some (mI a6), some (mI 9)]) (by decide) rfl ?_
  exact z_mask [true, false, false, false, false, false, false, true] rfl (ih 9 h2 G2 R2 (by omega) (by omega) (by have q1 := fx1_0; have q2 := fx2_0; rw [show h1 124 = h0 124 from FR.row S1 (fun _ => rfl), show h1 133 = h0 133 from FR.row S1 (fun _ => rfl)] at q2; rw [show h2 115 = h1 115 from FR.row S2 (fun _ => rfl)]; exact cpI_0 q1 q2) (by omega))
abbrev P_X12_compareC (h0 : m_H) (a3 a6 : Int) : Int → m_H → Prop := fun x h' => GI h' ∧ FR [115, 116] [] h0 h' ∧ (-1) ≤ x ∧ x ≤ 1 ∧ cmpQ x (vS (h0 124) a3.toNat 5 * vS (h0 137) a6.toNat 5) (vS (h0 137) a6.toNat 5 * vS (h0 125) a3.toNat 5)
def q_X12_compareC (h0 : m_H) (a3 a6 : Int) (n : Nat) : Prop := (∀ (l7 : Int) (h : m_H), GI h → FR [115, 116] [] h0 h → (-1) ≤ l7 → l7 ≤ 9 → (cpI (h 115) (h 116) (vS (h0 124) a3.toNat 5 * vS (h0 137) a6.toNat 5) (vS (h0 137) a6.toNat 5 * vS (h0 125) a3.toNat 5) l7) → 2 * (l7 - (-1)) + (1) ≤ (n : Int) → m_Z oF M_X12_compare 30 [some (mR 108), none, none, none, none, none, none, some (mI l7)] [] h (m_QI (P_X12_compareC h0 a3 a6)))
set_option maxHeartbeats 4000000 in
set_option maxRecDepth 100000 in
theorem s_X12_compareC_30 (h0 : m_H) (a3 a6 : Int) (G0 : GI h0) (pa3 : 0 ≤ a3 ∧ a3 ≤ 75) (pa6 : 0 ≤ a6 ∧ a6 ≤ 0) (n : Nat) (ih : q_X12_compareC h0 a3 a6 n) : ∀ (l7 : Int) (h : m_H), GI h → FR [115, 116] [] h0 h → (-1) ≤ l7 → l7 ≤ 9 → (cpI (h 115) (h 116) (vS (h0 124) a3.toNat 5 * vS (h0 137) a6.toNat 5) (vS (h0 137) a6.toNat 5 * vS (h0 125) a3.toNat 5) l7) → 2 * (l7 - (-1)) + (1) ≤ ((n + 1 : Nat) : Int) → m_Z oF M_X12_compare 30 [some (mR 108), none, none, none, none, none, none, some (mI l7)] [] h (m_QI (P_X12_compareC h0 a3 a6)) := by
  intro l7 h G R v0 v1 i0 hr
  refine z_iload (M := M_X12_compare) 30 dX12_compare_30 rfl ?_
  refine z_if_lt (M := M_X12_compare) 32 dX12_compare_32 83 rfl (fun c1 => ?_) (fun c1 => ?_)
  · refine z_iconst (M := M_X12_compare) 83 dX12_compare_83 ?_
    exact z_retI (M := M_X12_compare) 84 dX12_compare_84 rfl ⟨G, R, by omega, by omega, cpI_eq i0 (by omega)⟩
  · refine z_aload_n (M := M_X12_compare) 35 dX12_compare_35 rfl ?_
    refine z_getR (M := M_X12_compare) 36 dX12_compare_36 f_X12_33 o_108 rfl (g_108_19 G) ?_
    refine z_iload (M := M_X12_compare) 39 dX12_compare_39 rfl ?_
    refine z_laldV (M := M_X12_compare) 41 dX12_compare_41 o_115 (by omega) (by omega) (fun x2 ex2 => ?_)
    refine z_aload_n (M := M_X12_compare) 42 dX12_compare_42 rfl ?_
    refine z_getR (M := M_X12_compare) 43 dX12_compare_43 f_X12_37 o_108 rfl (g_108_20 G) ?_
    refine z_iload (M := M_X12_compare) 46 dX12_compare_46 rfl ?_
    refine z_laldV (M := M_X12_compare) 48 dX12_compare_48 o_116 (by omega) (by omega) (fun x3 ex3 => ?_)
    refine z_lcmp (M := M_X12_compare) 49 dX12_compare_49 ?_
    refine z_if_eq (M := M_X12_compare) 50 dX12_compare_50 77 rfl (fun c4 => ?_) (fun c4 => ?_)
    · rw [m_cmp_eq] at c4
      refine z_iincN (M := M_X12_compare) 77 dX12_compare_77 (ls' := [some (mR 108), none, none, none, none, none, none, some (mI (l7 + (-1)))]) (by decide) rfl (by (unfold m_32; decide)) (by omega) (by omega) rfl ?_
      refine z_goto (M := M_X12_compare) 80 dX12_compare_80 30 rfl ?_
      exact z_mask [true, false, false, false, false, false, false, true] rfl (ih (l7 + (-1)) h G R (by omega) (by omega) (cpI_step i0 (by omega) ex2 ex3 (by omega)) (by omega))
    · rw [m_cmp_eq] at c4
      refine z_aload_n (M := M_X12_compare) 53 dX12_compare_53 rfl ?_
      refine z_getR (M := M_X12_compare) 54 dX12_compare_54 f_X12_33 o_108 rfl (g_108_19 G) ?_
      refine z_iload (M := M_X12_compare) 57 dX12_compare_57 rfl ?_
      refine z_laldE (M := M_X12_compare) 59 dX12_compare_59 o_115 (by omega) (by omega) ex2 ?_
      refine z_aload_n (M := M_X12_compare) 60 dX12_compare_60 rfl ?_
      refine z_getR (M := M_X12_compare) 61 dX12_compare_61 f_X12_37 o_108 rfl (g_108_20 G) ?_
      refine z_iload (M := M_X12_compare) 64 dX12_compare_64 rfl ?_
      refine z_laldE (M := M_X12_compare) 66 dX12_compare_66 o_116 (by omega) (by omega) ex3 ?_
      refine z_lcmp (M := M_X12_compare) 67 dX12_compare_67 ?_
      refine z_if_ge (M := M_X12_compare) 68 dX12_compare_68 75 rfl (fun c5 => ?_) (fun c5 => ?_)
      · rw [m_cmp_ge] at c5
        refine z_iconst (M := M_X12_compare) 75 dX12_compare_75 ?_
        exact z_retI (M := M_X12_compare) 76 dX12_compare_76 rfl ⟨G, R, by omega, by omega, cpI_gt i0 (by omega) (by omega) ex2 ex3 (by omega)⟩
      · rw [m_cmp_ge] at c5
        refine z_iconst (M := M_X12_compare) 71 dX12_compare_71 ?_
        refine z_goto (M := M_X12_compare) 72 dX12_compare_72 76 rfl ?_
        exact z_retI (M := M_X12_compare) 76 dX12_compare_76 rfl ⟨G, R, by omega, by omega, cpI_lt i0 (by omega) (by omega) ex2 ex3 (by omega)⟩
theorem a_X12_compareC (h0 : m_H) (a3 a6 : Int) (G0 : GI h0) (pa3 : 0 ≤ a3 ∧ a3 ≤ 75) (pa6 : 0 ≤ a6 ∧ a6 ≤ 0) : ∀ n, q_X12_compareC h0 a3 a6 n := by
  intro n
  induction n with
  | zero => unfold q_X12_compareC; intros; omega
  | succ n ih => exact s_X12_compareC_30 h0 a3 a6 G0 pa3 pa6 n ih
set_option maxHeartbeats 4000000 in
set_option maxRecDepth 100000 in
theorem c_X12_compareC (h0 : m_H) (a3 a6 : Int) (G0 : GI h0) (pa3 : 0 ≤ a3 ∧ a3 ≤ 75) (pa6 : 0 ≤ a6 ∧ a6 ≤ 0) : m_CI M_X12_compare [mR 108, mR 124, mR 125, mI a3, mR 137, mR 137, mI a6] h0 (P_X12_compareC h0 a3 a6) := by
  refine m_CI_of ⟨by decide, rfl, by simp [m_arg, m_isL, M_X12_compare], ⟨rfl, rfl⟩, rfl, rfl⟩ (ls := [some (mR 108), some (mR 124), some (mR 125), some (mI a3), some (mR 137), some (mR 137), some (mI a6), none]) rfl ?_
  have ih := a_X12_compareC h0 a3 a6 G0 pa3 pa6 28
  refine z_aload_n (M := M_X12_compare) 0 dX12_compare_0 rfl ?_
  refine z_getR (M := M_X12_compare) 1 dX12_compare_1 f_X12_33 o_108 rfl (g_108_19 G0) ?_
  refine z_aload_n (M := M_X12_compare) 4 dX12_compare_4 rfl ?_
  refine z_iload_n (M := M_X12_compare) 5 dX12_compare_5 rfl ?_
  refine z_aload (M := M_X12_compare) 6 dX12_compare_6 rfl ?_
  refine z_iload (M := M_X12_compare) 8 dX12_compare_8 rfl ?_
  refine z_sV (M := M_X12_compare) 10 dX12_compare_10 t_X12_product l_X12_329 (m_rr_of rfl) (rest := []) (c_X12_product4 h0 a3 a6 G0 ⟨by omega, by omega⟩ ⟨by omega, by omega⟩) rfl rfl (Nat.le_of_ble_eq_true rfl) ⟨rfl, rfl⟩ (fun h1 qx1 => ?_)
  obtain ⟨G1, S1, fx1_0⟩ := qx1
  have R1 := (FR.rf (cs := [115, 116]) (ss := []) (h := h0)).call S1 (by decide +kernel)
  refine z_aload_n (M := M_X12_compare) 13 dX12_compare_13 rfl ?_
  refine z_getR (M := M_X12_compare) 14 dX12_compare_14 f_X12_37 o_108 rfl (g_108_20 G1) ?_
  refine z_aload (M := M_X12_compare) 17 dX12_compare_17 rfl ?_
  refine z_iload (M := M_X12_compare) 19 dX12_compare_19 rfl ?_
  refine z_aload_n (M := M_X12_compare) 21 dX12_compare_21 rfl ?_
  refine z_iload_n (M := M_X12_compare) 22 dX12_compare_22 rfl ?_
  refine z_sV (M := M_X12_compare) 23 dX12_compare_23 t_X12_product l_X12_329 (m_rr_of rfl) (rest := []) (c_X12_product5 h1 a6 a3 G1 ⟨by omega, by omega⟩ ⟨by omega, by omega⟩) rfl rfl (Nat.le_of_ble_eq_true rfl) ⟨rfl, rfl⟩ (fun h2 qx2 => ?_)
  obtain ⟨G2, S2, fx2_0⟩ := qx2
  have R2 := R1.call S2 (by decide +kernel)
  refine z_bipush (M := M_X12_compare) 26 dX12_compare_26 ?_
  refine z_istore (M := M_X12_compare) 28 dX12_compare_28 (ls' := [some (mR 108), some (mR 124), some (mR 125), some (mI a3), some (mR 137), some (mR 137), some (mI a6), some (mI 9)]) (by decide) rfl ?_
  exact z_mask [true, false, false, false, false, false, false, true] rfl (ih 9 h2 G2 R2 (by omega) (by omega) (by have q1 := fx1_0; have q2 := fx2_0; rw [show h1 125 = h0 125 from FR.row S1 (fun _ => rfl), show h1 137 = h0 137 from FR.row S1 (fun _ => rfl)] at q2; rw [show h2 115 = h1 115 from FR.row S2 (fun _ => rfl)]; exact cpI_0 q1 q2) (by omega))
