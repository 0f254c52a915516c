/-! judge, exact in the reference -/
def shM (r : Nat → Int) (k : Int) : Prop := r (72 + r (48 + 2 * k).toNat).toNat < r (72 + r (48 + 2 * k + 1).toNat).toNat
def cuM (r : Nat → Int) (t : Int) : Prop := r (42 + t).toNat = -1 ∨ r (66 + t).toNat ≤ r (60 + t).toNat
def wrM (r : Nat → Int) (e : Int) : Prop := r (5 * e.toNat + 84) = 1 ∧ (r (10 + r (5 * e.toNat + 81)).toNat ≠ -1 ∧ ¬ soM r e)
abbrev P_X12_judge3 (h0 : m_H) (a1 : Int) : Int → m_H → Prop := fun x h' => GI h' ∧ FR [] [(108, 0)] h0 h' ∧ jdQ (wrM (h0 110)) (h0 110 0) (al (shM (h0 110)) (h0 110 1)) (al (cuM (h0 110)) 6) a1 x
def q_X12_judge3 (h0 : m_H) (a1 : Int) (n : Nat) : Prop := (∀ (l2 l3 l4 : Int) (h : m_H), GI h → FR [] [(108, 0)] h0 h → (-1) ≤ l3 → l3 ≤ 23 → (-1) ≤ l4 → l4 ≤ 23 → 0 ≤ a1 → a1 ≤ 2 → (jI (wrM (h0 110)) (h0 110 0) l4 l3 l2) → (l4 ≤ h0 110 0 - 1) → 2 * (l4 - (-1)) + (31) ≤ (n : Int) → m_Z oF M_X12_judge 33 [some (mR 108), some (mI a1), some (mI l2), some (mI l3), some (mI l4), none] [] h (m_QI (P_X12_judge3 h0 a1))) ∧ (∀ (l4 l5 : Int) (h : m_H), GI h → FR [] [(108, 0)] h0 h → 0 ≤ l4 → l4 ≤ 1 → 0 ≤ l5 → l5 ≤ 6 → 2 ≤ a1 → a1 ≤ 2 → (l4 = 1 ↔ ((jS (wrM (h0 110)) (h0 110 0) (h0 110 0).toNat).2 = 0 ∧ al (shM (h0 110)) l5)) → (l5 ≤ h0 110 1) → 2 * (6 - l5) + (16) ≤ (n : Int) → m_Z oF M_X12_judge 118 [some (mR 108), none, none, none, some (mI l4), some (mI l5)] [] h (m_QI (P_X12_judge3 h0 a1))) ∧ (∀ (l4 l5 : Int) (h : m_H), GI h → FR [] [(108, 0)] h0 h → 0 ≤ l4 → l4 ≤ 1 → 0 ≤ l5 → l5 ≤ 6 → 2 ≤ a1 → a1 ≤ 2 → (l4 = 1 ↔ ((jS (wrM (h0 110)) (h0 110 0) (h0 110 0).toNat).2 = 0 ∧ al (shM (h0 110)) (h0 110 1) ∧ al (cuM (h0 110)) l5)) → 2 * (6 - l5) + (1) ≤ (n : Int) → m_Z oF M_X12_judge 195 [some (mR 108), none, none, none, some (mI l4), some (mI l5)] [] h (m_QI (P_X12_judge3 h0 a1)))
set_option maxHeartbeats 4000000 in
set_option maxRecDepth 100000 in
theorem s_X12_judge3_33 (h0 : m_H) (a1 : Int) (G0 : GI h0) (n : Nat) (ih : q_X12_judge3 h0 a1 n) : ∀ (l2 l3 l4 : Int) (h : m_H), GI h → FR [] [(108, 0)] h0 h → (-1) ≤ l3 → l3 ≤ 23 → (-1) ≤ l4 → l4 ≤ 23 → 0 ≤ a1 → a1 ≤ 2 → (jI (wrM (h0 110)) (h0 110 0) l4 l3 l2) → (l4 ≤ h0 110 0 - 1) → 2 * (l4 - (-1)) + (31) ≤ ((n + 1 : Nat) : Int) → m_Z oF M_X12_judge 33 [some (mR 108), some (mI a1), some (mI l2), some (mI l3), some (mI l4), none] [] h (m_QI (P_X12_judge3 h0 a1)) := by
  intro l2 l3 l4 h G R v0 v1 v2 v3 v4 v5 i0 i1 hr
  have e_ : h 110 = h0 110 := rowz R (fun _ => rfl)
  have g0_ := gw_0 G0
  have g1_ := gw_1 G0
  have q0_ : h0 110 (0 : Int).toNat = h0 110 0 := rfl
  have q1_ : h0 110 (1 : Int).toNat = h0 110 1 := rfl
  have b0_ := jI_b i0 i1
  refine z_ok (fun ostk _ olocs => ?_)
  have ol2 : m_32 l2 := olocs 2 _ rfl
  unfold m_32 at ol2
  refine z_iload (M := M_X12_judge) 33 dX12_judge_33 rfl ?_
  refine z_if_lt (M := M_X12_judge) 35 dX12_judge_35 89 rfl (fun c1 => ?_) (fun c1 => ?_)
  · refine z_iload_n (M := M_X12_judge) 89 dX12_judge_89 rfl ?_
    refine z_iconst (M := M_X12_judge) 90 dX12_judge_90 ?_
    refine z_icmp_ge (M := M_X12_judge) 91 dX12_judge_91 104 rfl (fun c2 => ?_) (fun c2 => ?_)
    · refine z_iload_n (M := M_X12_judge) 104 dX12_judge_104 rfl ?_
      refine z_if_ne (M := M_X12_judge) 105 dX12_judge_105 112 rfl (fun c3 => ?_) (fun c3 => ?_)
      · refine z_iconst (M := M_X12_judge) 112 dX12_judge_112 ?_
        refine z_istore (M := M_X12_judge) 113 dX12_judge_113 (ls' := [some (mR 108), some (mI a1), some (mI l2), some (mI l3), some (mI 0), none]) (by decide) rfl ?_
        refine z_iconst (M := M_X12_judge) 115 dX12_judge_115 ?_
        refine z_istore (M := M_X12_judge) 116 dX12_judge_116 (ls' := [some (mR 108), some (mI a1), some (mI l2), some (mI l3), some (mI 0), some (mI 0)]) (by decide) rfl ?_
        exact z_mask [true, false, false, false, true, true] rfl (ih.2.1 0 0 h G R (by omega) (by omega) (by omega) (by omega) (by omega) (by omega) ⟨fun z => absurd z (by decide), fun z => by have y := z.1; have := (jI_e i0 (by omega)).2; omega⟩ (by omega) (by omega))
      · refine z_iconst (M := M_X12_judge) 108 dX12_judge_108 ?_
        refine z_goto (M := M_X12_judge) 109 dX12_judge_109 113 rfl ?_
        refine z_istore (M := M_X12_judge) 113 dX12_judge_113 (ls' := [some (mR 108), some (mI a1), some (mI l2), some (mI l3), some (mI 1), none]) (by decide) rfl ?_
        refine z_iconst (M := M_X12_judge) 115 dX12_judge_115 ?_
        refine z_istore (M := M_X12_judge) 116 dX12_judge_116 (ls' := [some (mR 108), some (mI a1), some (mI l2), some (mI l3), some (mI 1), some (mI 0)]) (by decide) rfl ?_
        exact z_mask [true, false, false, false, true, true] rfl (ih.2.1 1 0 h G R (by omega) (by omega) (by omega) (by omega) (by omega) (by omega) ⟨fun _ => ⟨by have := (jI_e i0 (by omega)).2; omega, al_0⟩, fun _ => rfl⟩ (by omega) (by omega))
    · refine z_iload_n (M := M_X12_judge) 94 dX12_judge_94 rfl ?_
      refine z_if_ne (M := M_X12_judge) 95 dX12_judge_95 102 rfl (fun c4 => ?_) (fun c4 => ?_)
      · refine z_iload_n (M := M_X12_judge) 102 dX12_judge_102 rfl ?_
        exact z_retI (M := M_X12_judge) 103 dX12_judge_103 rfl ⟨G, R, Or.inr (Or.inr (Or.inl ⟨by omega, (jI_e i0 (by omega)).2⟩))⟩
      · refine z_iload_n (M := M_X12_judge) 98 dX12_judge_98 rfl ?_
        refine z_goto (M := M_X12_judge) 99 dX12_judge_99 103 rfl ?_
        exact z_retI (M := M_X12_judge) 103 dX12_judge_103 rfl ⟨G, R, Or.inr (Or.inl ⟨by omega, (jI_e i0 (by omega)).1⟩)⟩
  · refine z_aload_n (M := M_X12_judge) 38 dX12_judge_38 rfl ?_
    refine z_iload (M := M_X12_judge) 39 dX12_judge_39 rfl ?_
    refine z_iconst (M := M_X12_judge) 41 dX12_judge_41 ?_
    refine z_vI (M := M_X12_judge) 42 dX12_judge_42 t_X12_ofEntry l_X12_195 (m_rr_of rfl) (rest := []) (c_X12_ofEntry h l4 4 G ⟨by omega, by omega⟩ ⟨by omega, by omega⟩) o_108 rfl rfl rfl (Nat.le_of_ble_eq_true rfl) ⟨rfl, rfl⟩ (fun x5 h1 qx5 => ?_)
    obtain ⟨rfl, fx5⟩ := qx5
    have gx5 := gw_e4 G (i := (80 + 5 * l4 + 4)) (e := l4) (by omega) (by omega) (by omega)
    rw [fx5] at gx5
    have k5_ : h0 110 (5 * l4.toNat + 84) = x5 := by rw [← e_, ← fx5, show (80 + 5 * l4 + 4).toNat = 5 * l4.toNat + 84 by omega]
    refine z_iconst (M := M_X12_judge) 45 dX12_judge_45 ?_
    refine z_icmp_ne (M := M_X12_judge) 46 dX12_judge_46 83 rfl (fun c6 => ?_) (fun c6 => ?_)
    · refine z_iincN (M := M_X12_judge) 83 dX12_judge_83 (ls' := [some (mR 108), some (mI a1), some (mI l2), some (mI l3), some (mI (l4 + (-1))), none]) (by decide) rfl (by (unfold m_32; decide)) (by omega) (by omega) rfl ?_
      refine z_goto (M := M_X12_judge) 86 dX12_judge_86 33 rfl ?_
      exact z_mask [true, true, true, true, true, false] rfl (ih.1 l2 l3 (l4 + (-1)) h G R (by omega) (by omega) (by omega) (by omega) (by omega) (by omega) (jI_n i0 i1 (fun z => by have y := z.1; omega)) (by omega) (by omega))
    · refine z_aload_n (M := M_X12_judge) 49 dX12_judge_49 rfl ?_
      refine z_getR (M := M_X12_judge) 50 dX12_judge_50 f_X12_13 o_108 rfl (g_108_3 G) ?_
      refine z_bipush (M := M_X12_judge) 53 dX12_judge_53 ?_
      refine z_aload_n (M := M_X12_judge) 55 dX12_judge_55 rfl ?_
      refine z_iload (M := M_X12_judge) 56 dX12_judge_56 rfl ?_
      refine z_iconst (M := M_X12_judge) 58 dX12_judge_58 ?_
      refine z_vI (M := M_X12_judge) 59 dX12_judge_59 t_X12_ofEntry l_X12_195 (m_rr_of rfl) (rest := [mI 10, mR 110]) (c_X12_ofEntry h l4 1 G ⟨by omega, by omega⟩ ⟨by omega, by omega⟩) o_108 rfl rfl rfl (Nat.le_of_ble_eq_true rfl) ⟨rfl, rfl⟩ (fun x7 h2 qx7 => ?_)
      obtain ⟨rfl, fx7⟩ := qx7
      have gx7 := gw_e1 G (i := (80 + 5 * l4 + 1)) (e := l4) (by omega) (by omega) (by omega)
      rw [fx7] at gx7
      have k7_ : h0 110 (5 * l4.toNat + 81) = x7 := by rw [← e_, ← fx7, show (80 + 5 * l4 + 1).toNat = 5 * l4.toNat + 81 by omega]
      refine z_iaddN (M := M_X12_judge) 62 dX12_judge_62 (by omega) (by omega) ?_
      refine z_ialdG (M := M_X12_judge) 63 dX12_judge_63 o_110 (by omega) (by omega) (gw_w G (by omega) (by omega)) (fun x8 ex8 ax8 bx8 => ?_)
      refine z_iconst (M := M_X12_judge) 64 dX12_judge_64 ?_
      refine z_icmp_eq (M := M_X12_judge) 65 dX12_judge_65 83 rfl (fun c9 => ?_) (fun c9 => ?_)
      · refine z_iincN (M := M_X12_judge) 83 dX12_judge_83 (ls' := [some (mR 108), some (mI a1), some (mI l2), some (mI l3), some (mI (l4 + (-1))), none]) (by decide) rfl (by (unfold m_32; decide)) (by omega) (by omega) rfl ?_
        refine z_goto (M := M_X12_judge) 86 dX12_judge_86 33 rfl ?_
        exact z_mask [true, true, true, true, true, false] rfl (ih.1 l2 l3 (l4 + (-1)) h G R (by omega) (by omega) (by omega) (by omega) (by omega) (by omega) (jI_n i0 i1 (fun z => z.2.1 (by rw [k7_, ← e_, ex8]; omega))) (by omega) (by omega))
      · refine z_aload_n (M := M_X12_judge) 68 dX12_judge_68 rfl ?_
        refine z_iload (M := M_X12_judge) 69 dX12_judge_69 rfl ?_
        refine z_vI (M := M_X12_judge) 71 dX12_judge_71 t_X12_isSo l_X12_501 (m_rr_of rfl) (rest := []) (c_X12_isSo2 h l4 G ⟨by omega, by omega⟩) o_108 rfl rfl rfl (Nat.le_of_ble_eq_true rfl) ⟨rfl, rfl⟩ (fun x10 h3 qx10 => ?_)
        obtain ⟨G3, S3, ax10, bx10, fx10⟩ := qx10
        have R3 := R.call S3 (by decide +kernel)
        refine z_if_ne (M := M_X12_judge) 74 dX12_judge_74 83 rfl (fun c11 => ?_) (fun c11 => ?_)
        · refine z_iincN (M := M_X12_judge) 83 dX12_judge_83 (ls' := [some (mR 108), some (mI a1), some (mI l2), some (mI l3), some (mI (l4 + (-1))), none]) (by decide) rfl (by (unfold m_32; decide)) (by omega) (by omega) rfl ?_
          refine z_goto (M := M_X12_judge) 86 dX12_judge_86 33 rfl ?_
          exact z_mask [true, true, true, true, true, false] rfl (ih.1 l2 l3 (l4 + (-1)) h3 G3 R3 (by omega) (by omega) (by omega) (by omega) (by omega) (by omega) (jI_n i0 i1 (fun z => z.2.2 (by rw [← e_]; exact fx10.mp (by omega)))) (by omega) (by omega))
        · refine z_iincN (M := M_X12_judge) 77 dX12_judge_77 (ls' := [some (mR 108), some (mI a1), some (mI (l2 + 1)), some (mI l3), some (mI l4), none]) (by decide) rfl (by (unfold m_32; decide)) (by omega) (by omega) rfl ?_
          refine z_iload (M := M_X12_judge) 80 dX12_judge_80 rfl ?_
          refine z_istore_n (M := M_X12_judge) 82 dX12_judge_82 (ls' := [some (mR 108), some (mI a1), some (mI (l2 + 1)), some (mI l4), some (mI l4), none]) (by decide) rfl ?_
          refine z_iincN (M := M_X12_judge) 83 dX12_judge_83 (ls' := [some (mR 108), some (mI a1), some (mI (l2 + 1)), some (mI l4), some (mI (l4 + (-1))), none]) (by decide) rfl (by (unfold m_32; decide)) (by omega) (by omega) rfl ?_
          refine z_goto (M := M_X12_judge) 86 dX12_judge_86 33 rfl ?_
          exact z_mask [true, true, true, true, true, false] rfl (ih.1 (l2 + 1) l4 (l4 + (-1)) h3 G3 R3 (by omega) (by omega) (by omega) (by omega) (by omega) (by omega) (jI_y i0 i1 ⟨by omega, by rw [k7_, ← e_, ex8]; omega, fun z => by rw [← e_] at z; have := fx10.mpr z; omega⟩) (by omega) (by omega))
set_option maxHeartbeats 4000000 in
set_option maxRecDepth 100000 in
theorem s_X12_judge3_118 (h0 : m_H) (a1 : Int) (G0 : GI h0) (n : Nat) (ih : q_X12_judge3 h0 a1 n) : ∀ (l4 l5 : Int) (h : m_H), GI h → FR [] [(108, 0)] h0 h → 0 ≤ l4 → l4 ≤ 1 → 0 ≤ l5 → l5 ≤ 6 → 2 ≤ a1 → a1 ≤ 2 → (l4 = 1 ↔ ((jS (wrM (h0 110)) (h0 110 0) (h0 110 0).toNat).2 = 0 ∧ al (shM (h0 110)) l5)) → (l5 ≤ h0 110 1) → 2 * (6 - l5) + (16) ≤ ((n + 1 : Nat) : Int) → m_Z oF M_X12_judge 118 [some (mR 108), none, none, none, some (mI l4), some (mI l5)] [] h (m_QI (P_X12_judge3 h0 a1)) := by
  intro l4 l5 h G R v0 v1 v2 v3 v4 v5 i0 i1 hr
  have e_ : h 110 = h0 110 := rowz R (fun _ => rfl)
  have g0_ := gw_0 G0
  have g1_ := gw_1 G0
  have q0_ : h0 110 (0 : Int).toNat = h0 110 0 := rfl
  have q1_ : h0 110 (1 : Int).toNat = h0 110 1 := rfl
  refine z_iload (M := M_X12_judge) 118 dX12_judge_118 rfl ?_
  refine z_aload_n (M := M_X12_judge) 120 dX12_judge_120 rfl ?_
  refine z_getR (M := M_X12_judge) 121 dX12_judge_121 f_X12_13 o_108 rfl (g_108_3 G) ?_
  refine z_iconst (M := M_X12_judge) 124 dX12_judge_124 ?_
  refine z_ialdG (M := M_X12_judge) 125 dX12_judge_125 o_110 (by omega) (by omega) (gw_1 G) (fun x1 ex1 ax1 bx1 => ?_)
  have k1_ : h0 110 1 = x1 := (congrFun e_ 1).symm.trans ex1
  refine z_icmp_ge (M := M_X12_judge) 126 dX12_judge_126 192 rfl (fun c2 => ?_) (fun c2 => ?_)
  · refine z_iconst (M := M_X12_judge) 192 dX12_judge_192 ?_
    refine z_istore (M := M_X12_judge) 193 dX12_judge_193 (ls' := [some (mR 108), none, none, none, some (mI l4), some (mI 0)]) (by decide) rfl ?_
    exact z_mask [true, false, false, false, true, true] rfl (ih.2.2 l4 0 h G R (by omega) (by omega) (by omega) (by omega) (by omega) (by omega) ⟨fun z => ⟨(i0.mp z).1, by have y := (i0.mp z).2; rw [show l5 = h0 110 1 by omega] at y; exact y, al_0⟩, fun z => i0.mpr ⟨z.1, by rw [show l5 = h0 110 1 by omega]; exact z.2.1⟩⟩ (by omega))
  · refine z_iload (M := M_X12_judge) 129 dX12_judge_129 rfl ?_
    refine z_if_eq (M := M_X12_judge) 131 dX12_judge_131 183 rfl (fun c3 => ?_) (fun c3 => ?_)
    · refine z_iconst (M := M_X12_judge) 183 dX12_judge_183 ?_
      refine z_istore (M := M_X12_judge) 184 dX12_judge_184 (ls' := [some (mR 108), none, none, none, some (mI 0), some (mI l5)]) (by decide) rfl ?_
      refine z_iincN (M := M_X12_judge) 186 dX12_judge_186 (ls' := [some (mR 108), none, none, none, some (mI 0), some (mI (l5 + 1))]) (by decide) rfl (by (unfold m_32; decide)) (by omega) (by omega) rfl ?_
      refine z_goto (M := M_X12_judge) 189 dX12_judge_189 118 rfl ?_
      exact z_mask [true, false, false, false, true, true] rfl (ih.2.1 0 (l5 + 1) h G R (by omega) (by omega) (by omega) (by omega) (by omega) (by omega) ⟨fun z => absurd z (by decide), fun z => by have y := i0.mpr ⟨z.1, fun k u v => z.2 k u (by omega)⟩; omega⟩ (by omega) (by omega))
    · refine z_aload_n (M := M_X12_judge) 134 dX12_judge_134 rfl ?_
      refine z_getR (M := M_X12_judge) 135 dX12_judge_135 f_X12_13 o_108 rfl (g_108_3 G) ?_
      refine z_bipush (M := M_X12_judge) 138 dX12_judge_138 ?_
      refine z_aload_n (M := M_X12_judge) 140 dX12_judge_140 rfl ?_
      refine z_getR (M := M_X12_judge) 141 dX12_judge_141 f_X12_13 o_108 rfl (g_108_3 G) ?_
      refine z_bipush (M := M_X12_judge) 144 dX12_judge_144 ?_
      refine z_iconst (M := M_X12_judge) 146 dX12_judge_146 ?_
      refine z_iload (M := M_X12_judge) 147 dX12_judge_147 rfl ?_
      refine z_imulN (M := M_X12_judge) 149 dX12_judge_149 (by omega) (by omega) ?_
      refine z_iaddN (M := M_X12_judge) 150 dX12_judge_150 (by omega) (by omega) ?_
      refine z_ialdG (M := M_X12_judge) 151 dX12_judge_151 o_110 (by omega) (by omega) (gw_s G (by omega) (by omega)) (fun x4 ex4 ax4 bx4 => ?_)
      refine z_iaddN (M := M_X12_judge) 152 dX12_judge_152 (by omega) (by omega) ?_
      refine z_ialdG (M := M_X12_judge) 153 dX12_judge_153 o_110 (by omega) (by omega) (gw_l G (by omega) (by omega)) (fun x5 ex5 ax5 bx5 => ?_)
      refine z_aload_n (M := M_X12_judge) 154 dX12_judge_154 rfl ?_
      refine z_getR (M := M_X12_judge) 155 dX12_judge_155 f_X12_13 o_108 rfl (g_108_3 G) ?_
      refine z_bipush (M := M_X12_judge) 158 dX12_judge_158 ?_
      refine z_aload_n (M := M_X12_judge) 160 dX12_judge_160 rfl ?_
      refine z_getR (M := M_X12_judge) 161 dX12_judge_161 f_X12_13 o_108 rfl (g_108_3 G) ?_
      refine z_bipush (M := M_X12_judge) 164 dX12_judge_164 ?_
      refine z_iconst (M := M_X12_judge) 166 dX12_judge_166 ?_
      refine z_iload (M := M_X12_judge) 167 dX12_judge_167 rfl ?_
      refine z_imulN (M := M_X12_judge) 169 dX12_judge_169 (by omega) (by omega) ?_
      refine z_iaddN (M := M_X12_judge) 170 dX12_judge_170 (by omega) (by omega) ?_
      refine z_iconst (M := M_X12_judge) 171 dX12_judge_171 ?_
      refine z_iaddN (M := M_X12_judge) 172 dX12_judge_172 (by omega) (by omega) ?_
      refine z_ialdG (M := M_X12_judge) 173 dX12_judge_173 o_110 (by omega) (by omega) (gw_s G (by omega) (by omega)) (fun x6 ex6 ax6 bx6 => ?_)
      refine z_iaddN (M := M_X12_judge) 174 dX12_judge_174 (by omega) (by omega) ?_
      refine z_ialdG (M := M_X12_judge) 175 dX12_judge_175 o_110 (by omega) (by omega) (gw_l G (by omega) (by omega)) (fun x7 ex7 ax7 bx7 => ?_)
      refine z_icmp_ge (M := M_X12_judge) 176 dX12_judge_176 183 rfl (fun c8 => ?_) (fun c8 => ?_)
      · refine z_iconst (M := M_X12_judge) 183 dX12_judge_183 ?_
        refine z_istore (M := M_X12_judge) 184 dX12_judge_184 (ls' := [some (mR 108), none, none, none, some (mI 0), some (mI l5)]) (by decide) rfl ?_
        refine z_iincN (M := M_X12_judge) 186 dX12_judge_186 (ls' := [some (mR 108), none, none, none, some (mI 0), some (mI (l5 + 1))]) (by decide) rfl (by (unfold m_32; decide)) (by omega) (by omega) rfl ?_
        refine z_goto (M := M_X12_judge) 189 dX12_judge_189 118 rfl ?_
        exact z_mask [true, false, false, false, true, true] rfl (ih.2.1 0 (l5 + 1) h G R (by omega) (by omega) (by omega) (by omega) (by omega) (by omega) ⟨fun z => absurd z (by decide), fun z => by have y := z.2 l5 (by omega) (by omega); unfold shM at y; rw [← e_, ex4, ex5, ex6, ex7] at y; omega⟩ (by omega) (by omega))
      · refine z_iconst (M := M_X12_judge) 179 dX12_judge_179 ?_
        refine z_goto (M := M_X12_judge) 180 dX12_judge_180 184 rfl ?_
        refine z_istore (M := M_X12_judge) 184 dX12_judge_184 (ls' := [some (mR 108), none, none, none, some (mI 1), some (mI l5)]) (by decide) rfl ?_
        refine z_iincN (M := M_X12_judge) 186 dX12_judge_186 (ls' := [some (mR 108), none, none, none, some (mI 1), some (mI (l5 + 1))]) (by decide) rfl (by (unfold m_32; decide)) (by omega) (by omega) rfl ?_
        refine z_goto (M := M_X12_judge) 189 dX12_judge_189 118 rfl ?_
        exact z_mask [true, false, false, false, true, true] rfl (ih.2.1 1 (l5 + 1) h G R (by omega) (by omega) (by omega) (by omega) (by omega) (by omega) ⟨fun _ => ⟨(i0.mp (by omega)).1, al_s (i0.mp (by omega)).2 (by unfold shM; rw [← e_, ex4, ex5, ex6, ex7]; omega)⟩, fun _ => rfl⟩ (by omega) (by omega))
set_option maxHeartbeats 4000000 in
set_option maxRecDepth 100000 in
theorem s_X12_judge3_195 (h0 : m_H) (a1 : Int) (G0 : GI h0) (n : Nat) (ih : q_X12_judge3 h0 a1 n) : ∀ (l4 l5 : Int) (h : m_H), GI h → FR [] [(108, 0)] h0 h → 0 ≤ l4 → l4 ≤ 1 → 0 ≤ l5 → l5 ≤ 6 → 2 ≤ a1 → a1 ≤ 2 → (l4 = 1 ↔ ((jS (wrM (h0 110)) (h0 110 0) (h0 110 0).toNat).2 = 0 ∧ al (shM (h0 110)) (h0 110 1) ∧ al (cuM (h0 110)) l5)) → 2 * (6 - l5) + (1) ≤ ((n + 1 : Nat) : Int) → m_Z oF M_X12_judge 195 [some (mR 108), none, none, none, some (mI l4), some (mI l5)] [] h (m_QI (P_X12_judge3 h0 a1)) := by
  intro l4 l5 h G R v0 v1 v2 v3 v4 v5 i0 hr
  have e_ : h 110 = h0 110 := rowz R (fun _ => rfl)
  have g0_ := gw_0 G0
  have g1_ := gw_1 G0
  have q0_ : h0 110 (0 : Int).toNat = h0 110 0 := rfl
  have q1_ : h0 110 (1 : Int).toNat = h0 110 1 := rfl
  refine z_iload (M := M_X12_judge) 195 dX12_judge_195 rfl ?_
  refine z_bipush (M := M_X12_judge) 197 dX12_judge_197 ?_
  refine z_icmp_ge (M := M_X12_judge) 199 dX12_judge_199 257 rfl (fun c1 => ?_) (fun c1 => ?_)
  · refine z_iload (M := M_X12_judge) 257 dX12_judge_257 rfl ?_
    refine z_if_eq (M := M_X12_judge) 259 dX12_judge_259 266 rfl (fun c2 => ?_) (fun c2 => ?_)
    · refine z_iconst (M := M_X12_judge) 266 dX12_judge_266 ?_
      exact z_retI (M := M_X12_judge) 267 dX12_judge_267 rfl ⟨G, R, Or.inr (Or.inr (Or.inr ⟨by omega, Or.inl rfl, fun z => absurd z (by decide), fun z => by have y := i0.mpr ⟨z.1, z.2.1, fun k u v => z.2.2 k u (by omega)⟩; omega⟩))⟩
    · refine z_iconst (M := M_X12_judge) 262 dX12_judge_262 ?_
      refine z_goto (M := M_X12_judge) 263 dX12_judge_263 267 rfl ?_
      exact z_retI (M := M_X12_judge) 267 dX12_judge_267 rfl ⟨G, R, Or.inr (Or.inr (Or.inr ⟨by omega, Or.inr rfl, fun _ => ⟨(i0.mp (by omega)).1, (i0.mp (by omega)).2.1, fun k u v => (i0.mp (by omega)).2.2 k u (by omega)⟩, fun _ => rfl⟩))⟩
  · refine z_iload (M := M_X12_judge) 202 dX12_judge_202 rfl ?_
    refine z_if_eq (M := M_X12_judge) 204 dX12_judge_204 248 rfl (fun c3 => ?_) (fun c3 => ?_)
    · refine z_iconst (M := M_X12_judge) 248 dX12_judge_248 ?_
      refine z_istore (M := M_X12_judge) 249 dX12_judge_249 (ls' := [some (mR 108), none, none, none, some (mI 0), some (mI l5)]) (by decide) rfl ?_
      refine z_iincN (M := M_X12_judge) 251 dX12_judge_251 (ls' := [some (mR 108), none, none, none, some (mI 0), some (mI (l5 + 1))]) (by decide) rfl (by (unfold m_32; decide)) (by omega) (by omega) rfl ?_
      refine z_goto (M := M_X12_judge) 254 dX12_judge_254 195 rfl ?_
      exact z_mask [true, false, false, false, true, true] rfl (ih.2.2 0 (l5 + 1) h G R (by omega) (by omega) (by omega) (by omega) (by omega) (by omega) ⟨fun z => absurd z (by decide), fun z => by have y := i0.mpr ⟨z.1, z.2.1, fun k u v => z.2.2 k u (by omega)⟩; omega⟩ (by omega))
    · refine z_aload_n (M := M_X12_judge) 207 dX12_judge_207 rfl ?_
      refine z_getR (M := M_X12_judge) 208 dX12_judge_208 f_X12_13 o_108 rfl (g_108_3 G) ?_
      refine z_bipush (M := M_X12_judge) 211 dX12_judge_211 ?_
      refine z_iload (M := M_X12_judge) 213 dX12_judge_213 rfl ?_
      refine z_iaddN (M := M_X12_judge) 215 dX12_judge_215 (by omega) (by omega) ?_
      refine z_ialdG (M := M_X12_judge) 216 dX12_judge_216 o_110 (by omega) (by omega) (gw_c G (by omega) (by omega)) (fun x4 ex4 ax4 bx4 => ?_)
      refine z_iconst (M := M_X12_judge) 217 dX12_judge_217 ?_
      refine z_icmp_eq (M := M_X12_judge) 218 dX12_judge_218 244 rfl (fun c5 => ?_) (fun c5 => ?_)
      · refine z_iconst (M := M_X12_judge) 244 dX12_judge_244 ?_
        refine z_goto (M := M_X12_judge) 245 dX12_judge_245 249 rfl ?_
        refine z_istore (M := M_X12_judge) 249 dX12_judge_249 (ls' := [some (mR 108), none, none, none, some (mI 1), some (mI l5)]) (by decide) rfl ?_
        refine z_iincN (M := M_X12_judge) 251 dX12_judge_251 (ls' := [some (mR 108), none, none, none, some (mI 1), some (mI (l5 + 1))]) (by decide) rfl (by (unfold m_32; decide)) (by omega) (by omega) rfl ?_
        refine z_goto (M := M_X12_judge) 254 dX12_judge_254 195 rfl ?_
        exact z_mask [true, false, false, false, true, true] rfl (ih.2.2 1 (l5 + 1) h G R (by omega) (by omega) (by omega) (by omega) (by omega) (by omega) ⟨fun _ => ⟨(i0.mp (by omega)).1, (i0.mp (by omega)).2.1, al_s (i0.mp (by omega)).2.2 (Or.inl (by rw [← e_, ex4]; omega))⟩, fun _ => rfl⟩ (by omega))
      · refine z_aload_n (M := M_X12_judge) 221 dX12_judge_221 rfl ?_
        refine z_getR (M := M_X12_judge) 222 dX12_judge_222 f_X12_13 o_108 rfl (g_108_3 G) ?_
        refine z_bipush (M := M_X12_judge) 225 dX12_judge_225 ?_
        refine z_iload (M := M_X12_judge) 227 dX12_judge_227 rfl ?_
        refine z_iaddN (M := M_X12_judge) 229 dX12_judge_229 (by omega) (by omega) ?_
        refine z_ialdG (M := M_X12_judge) 230 dX12_judge_230 o_110 (by omega) (by omega) (gw_l G (by omega) (by omega)) (fun x6 ex6 ax6 bx6 => ?_)
        refine z_aload_n (M := M_X12_judge) 231 dX12_judge_231 rfl ?_
        refine z_getR (M := M_X12_judge) 232 dX12_judge_232 f_X12_13 o_108 rfl (g_108_3 G) ?_
        refine z_bipush (M := M_X12_judge) 235 dX12_judge_235 ?_
        refine z_iload (M := M_X12_judge) 237 dX12_judge_237 rfl ?_
        refine z_iaddN (M := M_X12_judge) 239 dX12_judge_239 (by omega) (by omega) ?_
        refine z_ialdG (M := M_X12_judge) 240 dX12_judge_240 o_110 (by omega) (by omega) (gw_l G (by omega) (by omega)) (fun x7 ex7 ax7 bx7 => ?_)
        refine z_icmp_gt (M := M_X12_judge) 241 dX12_judge_241 248 rfl (fun c8 => ?_) (fun c8 => ?_)
        · refine z_iconst (M := M_X12_judge) 248 dX12_judge_248 ?_
          refine z_istore (M := M_X12_judge) 249 dX12_judge_249 (ls' := [some (mR 108), none, none, none, some (mI 0), some (mI l5)]) (by decide) rfl ?_
          refine z_iincN (M := M_X12_judge) 251 dX12_judge_251 (ls' := [some (mR 108), none, none, none, some (mI 0), some (mI (l5 + 1))]) (by decide) rfl (by (unfold m_32; decide)) (by omega) (by omega) rfl ?_
          refine z_goto (M := M_X12_judge) 254 dX12_judge_254 195 rfl ?_
          exact z_mask [true, false, false, false, true, true] rfl (ih.2.2 0 (l5 + 1) h G R (by omega) (by omega) (by omega) (by omega) (by omega) (by omega) ⟨fun z => absurd z (by decide), fun z => by have y := z.2.2 l5 (by omega) (by omega); unfold cuM at y; rw [← e_, ex4, ex6, ex7] at y; omega⟩ (by omega))
        · refine z_iconst (M := M_X12_judge) 244 dX12_judge_244 ?_
          refine z_goto (M := M_X12_judge) 245 dX12_judge_245 249 rfl ?_
          refine z_istore (M := M_X12_judge) 249 dX12_judge_249 (ls' := [some (mR 108), none, none, none, some (mI 1), some (mI l5)]) (by decide) rfl ?_
          refine z_iincN (M := M_X12_judge) 251 dX12_judge_251 (ls' := [some (mR 108), none, none, none, some (mI 1), some (mI (l5 + 1))]) (by decide) rfl (by (unfold m_32; decide)) (by omega) (by omega) rfl ?_
          refine z_goto (M := M_X12_judge) 254 dX12_judge_254 195 rfl ?_
          exact z_mask [true, false, false, false, true, true] rfl (ih.2.2 1 (l5 + 1) h G R (by omega) (by omega) (by omega) (by omega) (by omega) (by omega) ⟨fun _ => ⟨(i0.mp (by omega)).1, (i0.mp (by omega)).2.1, al_s (i0.mp (by omega)).2.2 (Or.inr (by rw [← e_, ex6, ex7]; omega))⟩, fun _ => rfl⟩ (by omega))
theorem a_X12_judge3 (h0 : m_H) (a1 : Int) (G0 : GI h0) : ∀ n, q_X12_judge3 h0 a1 n := by
  intro n
  induction n with
  | zero => unfold q_X12_judge3; refine ⟨?_, ?_, ?_⟩ <;> (intros; omega)
  | succ n ih => exact ⟨s_X12_judge3_33 h0 a1 G0 n ih, s_X12_judge3_118 h0 a1 G0 n ih, s_X12_judge3_195 h0 a1 G0 n ih⟩
set_option maxHeartbeats 4000000 in
set_option maxRecDepth 100000 in
theorem c_X12_judge3 (h0 : m_H) (a1 : Int) (G0 : GI h0) : m_CI M_X12_judge [mR 108, mI a1] h0 (P_X12_judge3 h0 a1) := by
  refine m_CI_of ⟨by decide, rfl, by simp [m_arg, m_isL, M_X12_judge], ⟨rfl, rfl⟩, rfl, rfl⟩ (ls := [some (mR 108), some (mI a1), none, none, none, none]) rfl ?_
  have ih := a_X12_judge3 h0 a1 G0 86
  refine z_ok (fun _ _ ok => ?_)
  have oa1 : m_32 a1 := ok 1 _ rfl
  unfold m_32 at oa1
  refine z_aload_n (M := M_X12_judge) 0 dX12_judge_0 rfl ?_
  refine z_iconst (M := M_X12_judge) 1 dX12_judge_1 ?_
  refine z_putIH (M := M_X12_judge) 2 dX12_judge_2 p_X12_133 o_108 rfl (u_108_0 G0) ((FR.rf (cs := []) (ss := [(108, 0)]) (h := h0)).up rfl) (fun h1 E1 G1 R1 => ?_)
  refine z_iload_n (M := M_X12_judge) 5 dX12_judge_5 rfl ?_
  refine z_i2l (M := M_X12_judge) 6 dX12_judge_6 ?_
  refine z_lconst (M := M_X12_judge) 7 dX12_judge_7 (v := 0) ?_
  refine z_ldc2 (M := M_X12_judge) 8 dX12_judge_8 k_X12_182 ?_
  refine z_sI (M := M_X12_judge) 11 dX12_judge_11 t_X12_in l_X12_143 (m_rr_of rfl) (rest := []) (c_X12_in h1 a1 0 2 G1) rfl rfl (Nat.le_of_ble_eq_true rfl) ⟨rfl, rfl⟩ (fun x1 h2 qx1 => ?_)
  obtain ⟨rfl, ⟨rfl, cx1⟩ | ⟨rfl, cx1⟩⟩ := qx1
  · refine z_if_ne_T (M := M_X12_judge) 14 dX12_judge_14 19 rfl (by omega) ?_
    refine z_iconst (M := M_X12_judge) 19 dX12_judge_19 ?_
    refine z_istore_n (M := M_X12_judge) 20 dX12_judge_20 (ls' := [some (mR 108), some (mI a1), some (mI 0), none, none, none]) (by decide) rfl ?_
    refine z_iconst (M := M_X12_judge) 21 dX12_judge_21 ?_
    refine z_istore_n (M := M_X12_judge) 22 dX12_judge_22 (ls' := [some (mR 108), some (mI a1), some (mI 0), some (mI (-1)), none, none]) (by decide) rfl ?_
    refine z_aload_n (M := M_X12_judge) 23 dX12_judge_23 rfl ?_
    refine z_getR (M := M_X12_judge) 24 dX12_judge_24 f_X12_13 o_108 rfl (g_108_3 G1) ?_
    refine z_iconst (M := M_X12_judge) 27 dX12_judge_27 ?_
    refine z_ialdG (M := M_X12_judge) 28 dX12_judge_28 o_110 (by omega) (by omega) (gw_0 G1) (fun x2 ex2 ax2 bx2 => ?_)
    have k2_ : h0 110 0 = x2 := (congrFun (rowz R1 (fun _ => rfl)) 0).symm.trans ex2
    refine z_iconst (M := M_X12_judge) 29 dX12_judge_29 ?_
    refine z_isubN (M := M_X12_judge) 30 dX12_judge_30 (by omega) (by omega) ?_
    refine z_istore (M := M_X12_judge) 31 dX12_judge_31 (ls' := [some (mR 108), some (mI a1), some (mI 0), some (mI (-1)), some (mI (x2 - 1)), none]) (by decide) rfl ?_
    exact z_mask [true, true, true, true, true, false] rfl (ih.1 0 (-1) (x2 - 1) h1 G1 R1 (by omega) (by omega) (by omega) (by omega) (by omega) (by omega) (jI_0 (by omega)) (by omega) (by omega))
  · refine z_if_ne_F (M := M_X12_judge) 14 dX12_judge_14 19 rfl (by omega) ?_
    refine z_iconst (M := M_X12_judge) 17 dX12_judge_17 ?_
    exact z_retI (M := M_X12_judge) 18 dX12_judge_18 rfl ⟨G1, R1, Or.inl ⟨by omega, rfl⟩⟩
theorem wr_eq {h : m_H} {e : Int} (R : LR 1 h (h 110)) (G : GI h) (h0 : 0 ≤ e) (h1 : e < h 110 0) : wrC h e ↔ wrM (h 110) e := by
  have b := R.1
  unfold RB at b
  have cb := R.2.2.2.2.2.2.1 e.toNat (by omega)
  have he : e = ((e.toNat : Nat) : Int) := by omega
  have y : m_and (m_shr (h 1 8) e) 1 = 1 ↔ h 110 (5 * e.toNat + 84) = 1 := by
    rw [he, hasBit_iff (by omega), Int.toNat_natCast, cb]
    exact ⟨fun u => u.2, fun u => ⟨by omega, u⟩⟩
  unfold wrC wrM
  rw [y, so_eq R G h0 h1]
theorem sh_eq {h : m_H} (R : LR 1 h (h 110)) (G : GI h) : al (shC h 1) 16 ↔ al (shM (h 110)) (h 110 1) := by
  obtain ⟨b, k, c, wd, n, q, cb, sb⟩ := R
  obtain ⟨b1, b2, b3, b4⟩ := b
  obtain ⟨s1, s2, s3, s4⟩ := sb
  constructor
  · intro z i u v
    have ga := gw_s G (i := 48 + 2 * i) (by omega) (by omega)
    have gb := gw_s G (i := 48 + 2 * i + 1) (by omega) (by omega)
    have ia : (48 + 2 * i).toNat = 2 * i.toNat + 48 := by omega
    have ib : (48 + 2 * i + 1).toNat = 2 * i.toNat + 49 := by omega
    rw [ia] at ga
    rw [ib] at gb
    have hs : iS (h 110) (h 110 (2 * i.toNat + 48)) (h 110 (2 * i.toNat + 49)) := ⟨i.toNat, by omega, rfl, rfl⟩
    unfold shM
    rw [ia, ib]
    generalize h 110 (2 * i.toNat + 48) = a at ga hs ⊢
    generalize h 110 (2 * i.toNat + 49) = d at gb hs ⊢
    obtain ⟨p, hp⟩ : ∃ p : Nat, a * 4 + d = (p : Int) := ⟨(a * 4 + d).toNat, by omega⟩
    have d1 : ((p / 4 : Nat) : Int) = a := by omega
    have d2 : ((p % 4 : Nat) : Int) = d := by omega
    have t := s4 p (by omega)
    rw [d1, d2] at t
    have y := z (p : Int) (by omega) (by omega)
    unfold shC at y
    rw [hasBit_iff (by omega)] at y
    have y2 := y (t.mpr hs)
    have w1 := wd (12 + (p : Int) / 4).toNat (by omega)
    have w2 := wd (12 + (p : Int) % 4).toNat (by omega)
    rw [w1, w2] at y2
    rw [show (72 + a).toNat = 60 + (12 + (p : Int) / 4).toNat by omega, show (72 + d).toNat = 60 + (12 + (p : Int) % 4).toNat by omega]
    exact y2
  · intro z p u v w
    obtain ⟨p', hp⟩ : ∃ p' : Nat, p = (p' : Int) := ⟨p.toNat, by omega⟩
    subst hp
    rw [hasBit_iff (by omega)] at w
    obtain ⟨i, i1, i2, i3⟩ := (s4 p' (by omega)).mp w
    have y := z (i : Int) (by omega) i1
    unfold shM at y
    rw [show (48 + 2 * (i : Int)).toNat = 2 * i + 48 by omega, show (48 + 2 * (i : Int) + 1).toNat = 2 * i + 49 by omega, i2, i3] at y
    have w1 := wd (12 + (p' : Int) / 4).toNat (by omega)
    have w2 := wd (12 + (p' : Int) % 4).toNat (by omega)
    rw [w1, w2]
    rw [show (72 + ((p' / 4 : Nat) : Int)).toNat = 60 + (12 + (p' : Int) / 4).toNat by omega, show (72 + ((p' % 4 : Nat) : Int)).toNat = 60 + (12 + (p' : Int) % 4).toNat by omega] at y
    exact y
theorem cu_eq {h : m_H} (R : LR 1 h (h 110)) : al (cuC h 1) 6 ↔ al (cuM (h 110)) 6 := by
  obtain ⟨b, k, c, wd, n, q, cb, sb⟩ := R
  have e : ∀ t : Int, 0 ≤ t → t < 6 → (cuC h 1 t ↔ cuM (h 110) t) := fun t u v => by
    have c1 := c t.toNat (by omega)
    have w1 := wd (t + 6).toNat (by omega)
    have w2 := wd t.toNat (by omega)
    unfold cuC cuM
    rw [c1, w1, w2, show (42 + t).toNat = 42 + t.toNat by omega, show (66 + t).toNat = 60 + (t + 6).toNat by omega, show (60 + t).toNat = 60 + t.toNat by omega]
  exact ⟨fun z t u v => (e t u v).mp (z t u v), fun z t u v => (e t u v).mpr (z t u v)⟩
theorem LX.judge {h h1 : m_H} {a x y : Int} {cs : List Nat} {ss : List (Nat × Nat)} (R : LX h) (G : GI h) (S1 : FR cs ss h h1) (A : jdQ (wrC h) (h 1 7) (al (shC h 1) 16) (al (cuC h 1) 6) a x) (B : jdQ (wrM (h1 110)) (h1 110 0) (al (shM (h1 110)) (h1 110 1)) (al (cuM (h1 110)) 6) a y) (o : out 110 110 cs ss = true) : x = y := by
  have l := R.2.1
  have n : h 1 7 = h 110 0 := l.2.2.2.2.1
  have bb := l.1
  unfold RB at bb
  rw [rowz S1 (fr_out o (by decide) (by decide))] at B
  have e := jS_c (W := wrC h) (V := wrM (h 110)) (n := h 110 0) (fun k u v => wr_eq l G u v) (h 110 0).toNat (by omega)
  unfold jdQ at A B
  rw [n, e] at A
  rw [← sh_eq l G, ← cu_eq l] at B
  rcases A with ⟨a1, a2⟩ | ⟨a1, a2⟩ | ⟨a1, a2⟩ | ⟨a1, a2, a3⟩
  · rcases B with ⟨b1, b2⟩ | ⟨b1, b2⟩ | ⟨b1, b2⟩ | ⟨b1, b2, b3⟩
    · rw [a2, b2]
    · omega
    · omega
    · omega
  · rcases B with ⟨b1, b2⟩ | ⟨b1, b2⟩ | ⟨b1, b2⟩ | ⟨b1, b2, b3⟩
    · omega
    · rw [a2, b2]
    · omega
    · omega
  · rcases B with ⟨b1, b2⟩ | ⟨b1, b2⟩ | ⟨b1, b2⟩ | ⟨b1, b2, b3⟩
    · omega
    · omega
    · rw [a2, b2]
    · omega
  · rcases B with ⟨b1, b2⟩ | ⟨b1, b2⟩ | ⟨b1, b2⟩ | ⟨b1, b2, b3⟩
    · omega
    · omega
    · omega
    · have t := a3.trans b3.symm
      rcases a2 with rfl | rfl
      · rcases b2 with rfl | rfl
        · rfl
        · exact absurd (t.mpr rfl) (by decide)
      · rcases b2 with rfl | rfl
        · exact absurd (t.mp rfl) (by decide)
        · rfl
