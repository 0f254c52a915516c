/-! feet -/
def BX (Ls : List gE) (a b : Nat) (B : Int × Int × Int) : Prop := BW Ls a b B ∧ (B.2.1 = 0 → B.2.2 = 1)
theorem sc_div {t l t' l' : Int} (ht : 0 < t) (ht' : 0 < t') (e : t * l' = t' * l) : l / t = l' / t' := by
  have gen : ∀ {t l t' l' : Int}, 0 < t → 0 < t' → t * l' = t' * l → l / t ≤ l' / t' := by
    intro t l t' l' ht ht' e
    refine Int.le_ediv_of_mul_le ht' ?_
    have a := Int.mul_ediv_self_le (x := l) (k := t) (by omega)
    have m := Int.mul_le_mul_of_nonneg_left a (Int.le_of_lt ht')
    rw [← e] at m
    have k : t' * (t * (l / t)) = t * (l / t * t') := by ac_rfl
    rw [k] at m
    exact Int.le_of_mul_le_mul_left m ht
  have x := gen ht ht' e
  have y := gen ht' ht e.symm
  omega
theorem sc_ex {t l t' l' : Int} (ht : 0 < t) (ht' : 0 < t') (e : t * l' = t' * l) : l / t * t = l ↔ l' / t' * t' = l' := by
  have gen : ∀ {t l t' l' : Int}, 0 < t → 0 < t' → t * l' = t' * l → l / t * t = l → l' / t' * t' = l' := by
    intro t l t' l' ht ht' e h
    rw [← sc_div ht ht' e]
    have k : t * (l / t * t') = t' * (l / t * t) := by ac_rfl
    rw [h, ← e] at k
    exact Int.eq_of_mul_eq_mul_left (Int.ne_of_gt ht) k
  exact ⟨gen ht ht' e, gen ht' ht e.symm⟩
theorem BX_o {Ls : List gE} (hE : ∀ e ∈ Ls, gEo e) {a b : Nat} {B B' : Int × Int × Int} (h : BX Ls a b B) (h' : BX Ls a b B') : B.2.2 = 1 ↔ B'.2.2 = 1 := by
  obtain ⟨z1, z2, z3⟩ := BW_eq hE h.1 h'.1
  by_cases g : B.2.1 = 0
  · exact ⟨fun _ => h'.2 (z1.mp g), fun _ => h.2 g⟩
  · exact z3 g
theorem lnF_eq {Ls : List gE} (hE : ∀ e ∈ Ls, gEo e) {a b : Nat} {B B' : Int × Int × Int} (h : BX Ls a b B) (h' : BX Ls a b B') (k : Int) : lnF k B.1 B.2.1 B.2.2 = lnF k B'.1 B'.2.1 B'.2.2 := by
  have e := (BW_eq hE h.1 h'.1).2.1
  have t := h.1.1.1
  have t' := h'.1.1.1
  have o := BX_o hE h h'
  unfold lnF
  by_cases k2 : k = 2
  · rw [if_pos k2, if_pos k2]
    refine sc_div (by omega) (by omega) ?_
    have k1 : 2 * B.1 * (2 * B'.2.1 + B'.1) = 4 * (B.1 * B'.2.1) + 2 * (B.1 * B'.1) := by
      rw [Int.mul_add, show 2 * B.1 * (2 * B'.2.1) = (2 * 2) * (B.1 * B'.2.1) by ac_rfl, show 2 * B.1 * B'.1 = 2 * (B.1 * B'.1) by ac_rfl]; rfl
    have k3 : 2 * B'.1 * (2 * B.2.1 + B.1) = 4 * (B'.1 * B.2.1) + 2 * (B.1 * B'.1) := by
      rw [Int.mul_add, show 2 * B'.1 * (2 * B.2.1) = (2 * 2) * (B'.1 * B.2.1) by ac_rfl, show 2 * B'.1 * B.1 = 2 * (B.1 * B'.1) by ac_rfl]; rfl
    rw [k1, k3, e]
  · rw [if_neg k2, if_neg k2, ← sc_div t t' e]
    have ex := sc_ex t t' e
    rw [← sc_div t t' e] at ex
    by_cases c : k = 0 ∧ (B.2.2 = 1 ∨ B.2.1 / B.1 * B.1 ≠ B.2.1)
    · rw [if_pos c, if_pos]
      exact ⟨c.1, c.2.elim (fun z => Or.inl (o.mp z)) (fun z => Or.inr (fun y => z (ex.mpr y)))⟩
    · rw [if_neg c, if_neg]
      rintro ⟨z1, z2⟩
      exact c ⟨z1, z2.elim (fun z => Or.inl (o.mpr z)) (fun z => Or.inr (fun y => z (ex.mp y)))⟩
theorem gnG_eq {T L o T' L' o' : Int} (p : 0 < L) (p' : 0 < L') (ee : L * T' = L' * T) (o_ : o = 1 ↔ o' = 1) : gnG T L o = gnG T' L' o' := by
  have d := sc_div p p' ee
  have x := sc_ex p p' ee
  unfold gnG
  rw [← d] at x ⊢
  by_cases c : o = 1 ∧ T / L * L = T
  · rw [if_pos c, if_pos ⟨o_.mp c.1, x.mp c.2⟩]
  · rw [if_neg c, if_neg (fun z => c ⟨o_.mpr z.1, x.mpr z.2⟩)]
theorem gnF_eq {Ls : List gE} (hE : ∀ e ∈ Ls, gEo e) {a b : Nat} {B B' : Int × Int × Int} (h : BX Ls a b B) (h' : BX Ls a b B') (k : Int) : gnF k B.1 B.2.1 B.2.2 = gnF k B'.1 B'.2.1 B'.2.2 := by
  obtain ⟨z1, e, z3⟩ := BW_eq hE h.1 h'.1
  have o := BX_o hE h h'
  unfold gnF
  by_cases g : B.2.1 = 0
  · rw [if_pos g, if_pos (z1.mp g)]
  · have g' : B'.2.1 ≠ 0 := fun z => g (z1.mpr z)
    rw [if_neg g, if_neg g']
    have l : 0 < B.2.1 := by have := h.1.1.2; omega
    have l' : 0 < B'.2.1 := by have := h'.1.1.2; omega
    by_cases k2 : k = 2
    · rw [if_pos k2, if_pos k2]
      refine gnG_eq (by omega) (by omega) ?_ o
      have k1 : 2 * B.2.1 * (2 * B'.1 + B'.2.1) = 4 * (B'.1 * B.2.1) + 2 * (B.2.1 * B'.2.1) := by
        rw [Int.mul_add, show 2 * B.2.1 * (2 * B'.1) = (2 * 2) * (B'.1 * B.2.1) by ac_rfl, show 2 * B.2.1 * B'.2.1 = 2 * (B.2.1 * B'.2.1) by ac_rfl]; rfl
      have k3 : 2 * B'.2.1 * (2 * B.1 + B.2.1) = 4 * (B.1 * B'.2.1) + 2 * (B.2.1 * B'.2.1) := by
        rw [Int.mul_add, show 2 * B'.2.1 * (2 * B.1) = (2 * 2) * (B.1 * B'.2.1) by ac_rfl, show 2 * B'.2.1 * B.2.1 = 2 * (B.2.1 * B'.2.1) by ac_rfl]; rfl
      rw [k1, k3, e]
    · rw [if_neg k2, if_neg k2]
      exact gnG_eq l l' (by rw [Int.mul_comm B.2.1, Int.mul_comm B'.2.1]; exact e.symm) o
def cap (M v : Int) : Int := if M < v then M else v
def ftK (r : Nat → Int) (a k : Int) : Prop := (0 ≤ a ∧ a ≤ 11) ∧ (0 ≤ k ∧ k ≤ 3) ∧ thr r a ∧ ¬ gain (bR r)
def ftQ (r : Nat → Int) (a k w x : Int) : Prop := (¬ ((0 ≤ w ∧ w ≤ 1) ∧ ftK r a k) ∧ x = -2) ∨ (((0 ≤ w ∧ w ≤ 1) ∧ ftK r a k) ∧ ((w = 0 ∧ ∃ B, BX (bR r) (12 + k).toNat a.toNat B ∧ cap 2000 (lnF 1 B.1 B.2.1 B.2.2) = x) ∨ (w = 1 ∧ ∃ B, BX (bR r) a.toNat (12 + k).toNat B ∧ cap 2000 (gnF 1 B.1 B.2.1 B.2.2) = x)))
theorem ft_eq {r : Nat → Int} (hE : ∀ e ∈ bR r, gEo e) {a k w x y : Int} (h : ftQ r a k w x) (h' : ftQ r a k w y) : x = y := by
  rcases h with ⟨n, e⟩ | ⟨q, h⟩
  · rcases h' with ⟨_, e'⟩ | ⟨q', _⟩
    · omega
    · exact absurd q' n
  · rcases h' with ⟨n', _⟩ | ⟨_, h'⟩
    · exact absurd q n'
    · rcases h with ⟨w1, B, b1, b2⟩ | ⟨w1, B, b1, b2⟩ <;> rcases h' with ⟨v1, C, c1, c2⟩ | ⟨v1, C, c1, c2⟩
      · rw [← b2, ← c2, lnF_eq hE b1 c1]
      · omega
      · omega
      · rw [← b2, ← c2, gnF_eq hE b1 c1]
abbrev P_X11_compareToFoot2 (h0 : m_H) (a1 a2 : Int) : Int → m_H → Prop := fun x h' => GI h' ∧ FR (csB ++ [39, 40, 41]) [] h0 h' ∧ 0 ≤ x ∧ x ≤ 1 ∧ (x = 1 ↔ ftK (h0 110) a1 a2) ∧ (x = 1 → cpB (h0 110) a1 (12 + a2) (bd h' 95) ∧ cpB (h0 110) (12 + a2) a1 (bd h' 94))
set_option maxHeartbeats 4000000 in
set_option maxRecDepth 100000 in
theorem c_X11_compareToFoot2 (h0 : m_H) (a1 a2 : Int) (G0 : GI h0) (hR : LR 1 h0 (h0 110)) (hN : NP h0) : m_CI M_X11_compareToFoot [mR 0, mI a1, mI a2] h0 (P_X11_compareToFoot2 h0 a1 a2) := by
  refine m_CI_of ⟨by decide, rfl, by simp [m_arg, m_isL, M_X11_compareToFoot], ⟨rfl, rfl⟩, rfl, rfl⟩ (ls := [some (mR 0), some (mI a1), some (mI a2)]) rfl ?_
  refine z_ok (fun _ _ ok => ?_)
  have oa1 : m_32 a1 := ok 1 _ rfl
  unfold m_32 at oa1
  have oa2 : m_32 a2 := ok 2 _ rfl
  unfold m_32 at oa2
  refine z_aload_n (M := M_X11_compareToFoot) 0 dX11_compareToFoot_0 rfl ?_
  refine z_iload_n (M := M_X11_compareToFoot) 1 dX11_compareToFoot_1 rfl ?_
  refine z_vI (M := M_X11_compareToFoot) 2 dX11_compareToFoot_2 t_X11_isMeasured l_X11_278 (m_rr_of rfl) (rest := []) (c_X11_isMeasured h0 a1 G0) o_0 rfl rfl rfl (Nat.le_of_ble_eq_true rfl) ⟨rfl, rfl⟩ (fun x1 h1 qx1 => ?_)
  obtain ⟨rfl, ⟨rfl, cx1⟩ | ⟨rfl, cx1⟩⟩ := qx1
  · refine z_if_eq_F (M := M_X11_compareToFoot) 5 dX11_compareToFoot_5 22 rfl (by omega) ?_
    refine z_iload_n (M := M_X11_compareToFoot) 8 dX11_compareToFoot_8 rfl ?_
    refine z_sI (M := M_X11_compareToFoot) 9 dX11_compareToFoot_9 t_X11_isKeeper l_X11_132 (m_rr_of rfl) (rest := []) (c_X11_isKeeper h0 a2 G0) rfl rfl (Nat.le_of_ble_eq_true rfl) ⟨rfl, rfl⟩ (fun x2 h2 qx2 => ?_)
    obtain ⟨rfl, ⟨rfl, cx2⟩ | ⟨rfl, cx2⟩⟩ := qx2
    · refine z_if_eq_F (M := M_X11_compareToFoot) 12 dX11_compareToFoot_12 22 rfl (by omega) ?_
      refine z_aload_n (M := M_X11_compareToFoot) 15 dX11_compareToFoot_15 rfl ?_
      refine z_vI (M := M_X11_compareToFoot) 16 dX11_compareToFoot_16 t_X11_canBe l_X11_208 (m_rr_of rfl) (rest := []) (c_X11_canBe2 h0 G0 hR hN) o_0 rfl rfl rfl (Nat.le_of_ble_eq_true rfl) ⟨rfl, rfl⟩ (fun x3 h3 qx3 => ?_)
      obtain ⟨G3, S3, ax3, bx3, fx3⟩ := qx3
      have R3 := (FR.rf (cs := (csB ++ [39, 40, 41])) (ss := []) (h := h0)).call S3 (by decide +kernel)
      refine z_if_ne (M := M_X11_compareToFoot) 19 dX11_compareToFoot_19 24 rfl (fun c4 => ?_) (fun c4 => ?_)
      · refine z_aload_n (M := M_X11_compareToFoot) 24 dX11_compareToFoot_24 rfl ?_
        refine z_getR (M := M_X11_compareToFoot) 25 dX11_compareToFoot_25 f_X11_53 o_0 rfl (g_0_7 G3) ?_
        refine z_aload_n (M := M_X11_compareToFoot) 28 dX11_compareToFoot_28 rfl ?_
        refine z_getR (M := M_X11_compareToFoot) 29 dX11_compareToFoot_29 f_X11_46 o_0 rfl (g_0_6 G3) ?_
        refine z_iload_n (M := M_X11_compareToFoot) 32 dX11_compareToFoot_32 rfl ?_
        refine z_bipush (M := M_X11_compareToFoot) 33 dX11_compareToFoot_33 ?_
        refine z_iload_n (M := M_X11_compareToFoot) 35 dX11_compareToFoot_35 rfl ?_
        refine z_iaddN (M := M_X11_compareToFoot) 36 dX11_compareToFoot_36 (by omega) (by omega) ?_
        refine z_vV (M := M_X11_compareToFoot) 37 dX11_compareToFoot_37 t_X7_measure l_X11_427 (m_rr_of rfl) (rest := []) (c_X7_measure2 h3 a1 (12 + a2) G3 ⟨by omega, by omega⟩ ⟨by omega, by omega⟩ (by obtain ⟨D, _, X⟩ := fx3.2 (by omega); exact X.1.1) (by obtain ⟨D, _, X⟩ := fx3.2 (by omega); exact bkR_X X)) o_93 rfl rfl rfl (Nat.le_of_ble_eq_true rfl) ⟨rfl, rfl⟩ (fun h4 qx5 => ?_)
        obtain ⟨G4, S4, M4⟩ := qx5
        have t1_ : thr (h0 110) a1 := (thr_c hR).mp ⟨cx1.1, by omega, cx1.2.2.elim Or.inl (fun z => Or.inr (Or.inr z))⟩
        have t2_ : thr (h0 110) (12 + a2) := ⟨by omega, by omega, Or.inr (Or.inl (by omega))⟩
        have y_ := fx3.2 (by omega)
        have n_ := fx3.1.mp (by omega)
        have R4 := R3.call S4 (by decide +kernel)
        refine z_iconst (M := M_X11_compareToFoot) 40 dX11_compareToFoot_40 ?_
        exact z_retZ (M := M_X11_compareToFoot) 41 dX11_compareToFoot_41 rfl (by omega) ⟨G4, R4, by omega, by omega, ⟨fun _ => ⟨⟨cx1.1, cx1.2.1⟩, cx2, t1_, n_⟩, fun _ => rfl⟩, fun _ => ⟨cp_of G0 hN y_ n_ t1_ t2_ M4.2.1 (by have z := g_95_2 G4; show h4 95 2 = 0 ∨ h4 95 2 = 1; omega), cp_of G0 hN y_ n_ t2_ t1_ M4.2.2 (by have z := g_94_2 G4; show h4 94 2 = 0 ∨ h4 94 2 = 1; omega)⟩⟩
      · refine z_iconst (M := M_X11_compareToFoot) 22 dX11_compareToFoot_22 ?_
        exact z_retZ (M := M_X11_compareToFoot) 23 dX11_compareToFoot_23 rfl (by omega) ⟨G3, R3, by omega, by omega, ⟨fun z => absurd z (by decide), fun z => absurd (fx3.1.mpr z.2.2.2) (by omega)⟩, fun z => absurd z (by decide)⟩
    · refine z_if_eq_T (M := M_X11_compareToFoot) 12 dX11_compareToFoot_12 22 rfl (by omega) ?_
      refine z_iconst (M := M_X11_compareToFoot) 22 dX11_compareToFoot_22 ?_
      exact z_retZ (M := M_X11_compareToFoot) 23 dX11_compareToFoot_23 rfl (by omega) ⟨G0, (FR.rf (cs := (csB ++ [39, 40, 41])) (ss := []) (h := h0)), by omega, by omega, ⟨fun z => absurd z (by decide), fun z => absurd z.2.1 cx2⟩, fun z => absurd z (by decide)⟩
  · refine z_if_eq_T (M := M_X11_compareToFoot) 5 dX11_compareToFoot_5 22 rfl (by omega) ?_
    refine z_iconst (M := M_X11_compareToFoot) 22 dX11_compareToFoot_22 ?_
    exact z_retZ (M := M_X11_compareToFoot) 23 dX11_compareToFoot_23 rfl (by omega) ⟨G0, (FR.rf (cs := (csB ++ [39, 40, 41])) (ss := []) (h := h0)), by omega, by omega, ⟨fun z => absurd z (by decide), fun z => absurd (by have q := (thr_c hR).mpr z.2.2.1; exact ⟨z.1.1, z.1.2, q.2.2.elim Or.inl (fun y => y.elim (fun w => absurd w (by have := z.1.2; omega)) Or.inr)⟩) cx1⟩, fun z => absurd z (by decide)⟩
theorem lnF_b {k t l o : Int} (ht : 1 ≤ t) (hl : 0 ≤ l) : 0 ≤ lnF k t l o := by
  have a := Int.ediv_nonneg (a := 2 * l + t) (b := 2 * t) (by omega) (by omega)
  have b := Int.ediv_nonneg (a := l) (b := t) hl (by omega)
  unfold lnF
  split
  · exact a
  · split <;> omega
theorem gnF_b {k t l o : Int} (ht : 1 ≤ t) (hl : 0 ≤ l) : -1 ≤ gnF k t l o := by
  have gen : ∀ {T L : Int}, 0 ≤ T → 0 ≤ L → -1 ≤ gnG T L o := fun {T L} h1 h2 => by
    have b := Int.ediv_nonneg h1 h2
    unfold gnG
    split <;> omega
  unfold gnF
  split
  · omega
  · split
    · exact gen (by omega) (by omega)
    · exact gen (by omega) hl
abbrev P_X11_feet3 (h0 : m_H) (a1 a2 a3 : Int) : Int → m_H → Prop := fun x h' => GI h' ∧ FR (csB ++ [39, 40, 41]) [] h0 h' ∧ ftQ (h0 110) a1 a2 a3 x
set_option maxHeartbeats 4000000 in
set_option maxRecDepth 100000 in
theorem c_X11_feet3 (h0 : m_H) (a1 a2 a3 : Int) (G0 : GI h0) (hR : LR 1 h0 (h0 110)) (hN : NP h0) : m_CI M_X11_feet [mR 0, mI a1, mI a2, mI a3] h0 (P_X11_feet3 h0 a1 a2 a3) := by
  refine m_CI_of ⟨by decide, rfl, by simp [m_arg, m_isL, M_X11_feet], ⟨rfl, rfl⟩, rfl, rfl⟩ (ls := [some (mR 0), some (mI a1), some (mI a2), some (mI a3)]) rfl ?_
  refine z_ok (fun _ _ ok => ?_)
  have oa1 : m_32 a1 := ok 1 _ rfl
  unfold m_32 at oa1
  have oa2 : m_32 a2 := ok 2 _ rfl
  unfold m_32 at oa2
  have oa3 : m_32 a3 := ok 3 _ rfl
  unfold m_32 at oa3
  refine z_iload_n (M := M_X11_feet) 0 dX11_feet_0 rfl ?_
  refine z_iconst (M := M_X11_feet) 1 dX11_feet_1 ?_
  refine z_iconst (M := M_X11_feet) 2 dX11_feet_2 ?_
  refine z_sI (M := M_X11_feet) 3 dX11_feet_3 t_X11_within l_X11_112 (m_rr_of rfl) (rest := []) (c_X11_within h0 a3 0 1 G0) rfl rfl (Nat.le_of_ble_eq_true rfl) ⟨rfl, rfl⟩ (fun x1 h1 qx1 => ?_)
  obtain ⟨rfl, ⟨rfl, cx1⟩ | ⟨rfl, cx1⟩⟩ := qx1
  · refine z_if_eq_F (M := M_X11_feet) 6 dX11_feet_6 18 rfl (by omega) ?_
    refine z_aload_n (M := M_X11_feet) 9 dX11_feet_9 rfl ?_
    refine z_iload_n (M := M_X11_feet) 10 dX11_feet_10 rfl ?_
    refine z_iload_n (M := M_X11_feet) 11 dX11_feet_11 rfl ?_
    refine z_vI (M := M_X11_feet) 12 dX11_feet_12 t_X11_compareToFoot l_X11_247 (m_rr_of rfl) (rest := []) (c_X11_compareToFoot2 h0 a1 a2 G0 hR hN) o_0 rfl rfl rfl (Nat.le_of_ble_eq_true rfl) ⟨rfl, rfl⟩ (fun x2 h2 qx2 => ?_)
    obtain ⟨G2, S2, ax2, bx2, fx2⟩ := qx2
    have R2 := (FR.rf (cs := (csB ++ [39, 40, 41])) (ss := []) (h := h0)).call S2 (by decide +kernel)
    refine z_if_ne (M := M_X11_feet) 15 dX11_feet_15 21 rfl (fun c3 => ?_) (fun c3 => ?_)
    · have k_ := fx2.1.mp (by omega)
      have p_ := fx2.2 (by omega)
      have pb1_ : (1 ≤ h2 95 0 ∧ h2 95 0 ≤ 1600000000) ∧ (0 ≤ h2 95 1 ∧ h2 95 1 ≤ 1600000000) := by have z := p_.1.2.1; unfold pBb bd at z; simp only at z; omega
      have pb2_ : (1 ≤ h2 94 0 ∧ h2 94 0 ≤ 1600000000) ∧ (0 ≤ h2 94 1 ∧ h2 94 1 ≤ 1600000000) := by have z := p_.2.2.1; unfold pBb bd at z; simp only at z; omega
      refine z_iload_n (M := M_X11_feet) 21 dX11_feet_21 rfl ?_
      refine z_if_ne (M := M_X11_feet) 22 dX11_feet_22 36 rfl (fun c4 => ?_) (fun c4 => ?_)
      · refine z_aload_n (M := M_X11_feet) 36 dX11_feet_36 rfl ?_
        refine z_getR (M := M_X11_feet) 37 dX11_feet_37 f_X11_53 o_0 rfl (g_0_7 G2) ?_
        refine z_iconst (M := M_X11_feet) 40 dX11_feet_40 ?_
        refine z_vJ (M := M_X11_feet) 41 dX11_feet_41 t_X7_greatestNumber l_X11_254 (m_rr_of rfl) (rest := []) (c_X7_greatestNumber2 h2 1 G2 ⟨by omega, by omega⟩ pb1_) o_93 rfl rfl rfl (Nat.le_of_ble_eq_true rfl) ⟨rfl, rfl⟩ (fun x5 h3 qx5 => ?_)
        obtain ⟨G3, S3, fx5⟩ := qx5
        have rg_ := gnF_b (k := 1) (t := h2 95 0) (l := h2 95 1) (o := h2 95 2) (by omega) (by omega)
        rw [fx5] at rg_
        have R3 := R2.call S3 (by decide +kernel)
        refine z_ldc2 (M := M_X11_feet) 44 dX11_feet_44 k_X11_257 ?_
        refine z_sI (M := M_X11_feet) 47 dX11_feet_47 t_X11_atMost l_X11_220 (m_rr_of rfl) (rest := []) (c_X11_atMost2 h3 x5 2000 G3 (by omega) ⟨by omega, by omega⟩) rfl rfl (Nat.le_of_ble_eq_true rfl) ⟨rfl, rfl⟩ (fun x6 h4 qx6 => ?_)
        obtain ⟨G4, S4, fx6⟩ := qx6
        have R4 := R3.call S4 (by decide +kernel)
        refine z_ok (fun ox6 _ _ => ?_)
        have ox6 := ox6.1; unfold m_ok m_32 at ox6
        exact z_retI (M := M_X11_feet) 50 dX11_feet_50 rfl ⟨G4, R4, Or.inr ⟨⟨⟨by omega, by omega⟩, k_⟩, Or.inr ⟨by omega, _, ⟨p_.1.1, p_.1.2.2.1⟩, by show cap 2000 (gnF 1 (h2 95 0) (h2 95 1) (h2 95 2)) = _; rw [fx5]; exact fx6⟩⟩⟩
      · refine z_aload_n (M := M_X11_feet) 25 dX11_feet_25 rfl ?_
        refine z_getR (M := M_X11_feet) 26 dX11_feet_26 f_X11_53 o_0 rfl (g_0_7 G2) ?_
        refine z_iconst (M := M_X11_feet) 29 dX11_feet_29 ?_
        refine z_vJ (M := M_X11_feet) 30 dX11_feet_30 t_X7_leastNumber l_X11_250 (m_rr_of rfl) (rest := []) (c_X7_leastNumber2 h2 1 G2 ⟨by omega, by omega⟩ pb2_) o_93 rfl rfl rfl (Nat.le_of_ble_eq_true rfl) ⟨rfl, rfl⟩ (fun x7 h5 qx7 => ?_)
        obtain ⟨G5, S5, fx7⟩ := qx7
        have rl_ := lnF_b (k := 1) (t := h2 94 0) (l := h2 94 1) (o := h2 94 2) (by omega) (by omega)
        rw [fx7] at rl_
        have R5 := R2.call S5 (by decide +kernel)
        refine z_goto (M := M_X11_feet) 33 dX11_feet_33 44 rfl ?_
        refine z_ldc2 (M := M_X11_feet) 44 dX11_feet_44 k_X11_257 ?_
        refine z_sI (M := M_X11_feet) 47 dX11_feet_47 t_X11_atMost l_X11_220 (m_rr_of rfl) (rest := []) (c_X11_atMost2 h5 x7 2000 G5 (by omega) ⟨by omega, by omega⟩) rfl rfl (Nat.le_of_ble_eq_true rfl) ⟨rfl, rfl⟩ (fun x8 h6 qx8 => ?_)
        obtain ⟨G6, S6, fx8⟩ := qx8
        have R6 := R5.call S6 (by decide +kernel)
        refine z_ok (fun ox8 _ _ => ?_)
        have ox8 := ox8.1; unfold m_ok m_32 at ox8
        exact z_retI (M := M_X11_feet) 50 dX11_feet_50 rfl ⟨G6, R6, Or.inr ⟨⟨⟨by omega, by omega⟩, k_⟩, Or.inl ⟨by omega, _, ⟨p_.2.1, p_.2.2.2.1⟩, by show cap 2000 (lnF 1 (h2 94 0) (h2 94 1) (h2 94 2)) = _; rw [fx7]; exact fx8⟩⟩⟩
    · refine z_bipush (M := M_X11_feet) 18 dX11_feet_18 ?_
      exact z_retI (M := M_X11_feet) 20 dX11_feet_20 rfl ⟨G2, R2, Or.inl ⟨fun z => absurd (fx2.1.mpr z.2) (by omega), rfl⟩⟩
  · refine z_if_eq_T (M := M_X11_feet) 6 dX11_feet_6 18 rfl (by omega) ?_
    refine z_bipush (M := M_X11_feet) 18 dX11_feet_18 ?_
    exact z_retI (M := M_X11_feet) 20 dX11_feet_20 rfl ⟨G0, (FR.rf (cs := (csB ++ [39, 40, 41])) (ss := []) (h := h0)), Or.inl ⟨fun z => cx1 z.1, rfl⟩⟩
/-! the reference's feet -/
theorem dg_eq {f g : Nat → Int} (hf : dg10 f) (hg : dg10 g) (e : vS f 0 10 = vS g 0 10) : ∀ j, j < 10 → f j = g j := by
  have k : ∀ m, m ≤ 10 → ∀ j, 10 - m ≤ j → j < 10 → f j = g j := by
    intro m
    induction m with
    | zero => intro _ j h1 h2; omega
    | succ m ih =>
      intro hm j h1 h2
      have i := ih (by omega)
      by_cases q : 10 - m ≤ j
      · exact i j q h2
      · rcases Int.lt_trichotomy (f j) (g j) with z | z | z
        · have y := vS_lt h2 hf hg (fun t t1 t2 => i t (by omega) t2) z
          omega
        · exact z
        · have y := vS_lt h2 hg hf (fun t t1 t2 => (i t (by omega) t2).symm) z
          omega
  intro j hj
  exact k 10 (Nat.le_refl _) j (by omega) hj
theorem dv_eq {T L v : Int} (hL : 0 < L) (h1 : L * v ≤ T) (h2 : T < L * (v + 1)) : T / L = v := by
  have a : v ≤ T / L := Int.le_ediv_of_mul_le hL (by rw [Int.mul_comm]; exact h1)
  have b : T / L < v + 1 := Int.ediv_lt_of_lt_mul hL (by rw [Int.mul_comm]; exact h2)
  omega
theorem ft_l {T L o x : Int} (hT : 0 < T) (s : shQ x (L * 1) T 2000) (s3 : x ≤ 2000) : cap 2000 (lnF 1 T L o) = x := by
  obtain ⟨s1, s2⟩ := s
  rw [Int.mul_one] at s1 s2
  unfold lnF
  rw [if_neg (by decide), if_neg (fun z => absurd z.1 (by decide))]
  unfold cap
  by_cases g : x < 2000
  · rw [dv_eq hT s1 (s2 g), if_neg (by omega)]
  · have q : x ≤ L / T := Int.le_ediv_of_mul_le hT (by rw [Int.mul_comm]; exact s1)
    split <;> omega
def ftI (h0 h : m_H) (a1 a2 a3 v : Int) : Prop := (a3 = 1 ∧ ftK (h0 110) a1 a2) ∧ ∃ T L, BX (bR (h0 110)) a1.toNat (12 + a2).toNat (T, L, h 126 (12 + a2).toNat) ∧ (0 < L ∧ shQ v T L 2001) ∧ (dg10 (h 135) ∧ vS (h 135) 0 10 = T) ∧ dg10 (h 136) ∧ vS (h 136) 0 10 = L * v
def ftW (h : m_H) (w k : Int) : Prop := w = 1 ↔ ∀ j, j < k.toNat → h 135 j = h 136 j
theorem ftW_0 {h : m_H} {w k : Int} (W : ftW h w k) (hw : w ≠ 1) (hk : 0 ≤ k) : ftW h 0 (k + 1) := ⟨fun z => absurd z (by decide), fun z => absurd (W.mpr (fun j hj => z j (by omega))) hw⟩
theorem ftW_n {h : m_H} {k x y : Int} (hk : 0 ≤ k) (e1 : h 135 k.toNat = x) (e2 : h 136 k.toNat = y) (c : ¬ x = y) : ftW h 0 (k + 1) := ⟨fun z => absurd z (by decide), fun z => absurd ((e1.symm.trans (z k.toNat (by omega))).trans e2) c⟩
theorem ftW_y {h : m_H} {w k x y : Int} (W : ftW h w k) (hw : w = 1) (hk : 0 ≤ k) (e1 : h 135 k.toNat = x) (e2 : h 136 k.toNat = y) (c : x = y) : ftW h 1 (k + 1) := by
  refine ⟨fun _ j hj => ?_, fun _ => rfl⟩
  by_cases q : j = k.toNat
  · rw [q, e1, e2, c]
  · exact W.mp hw j (by omega)
theorem ft_end {h0 h : m_H} {a1 a2 a3 v w k s x : Int} (I : ftI h0 h a1 a2 a3 v) (W : ftW h w k) (hk : k = 10) (c : (s = 1 ∧ w = 1 ∧ h 126 (12 + a2).toNat = 1) ∨ (s = 0 ∧ ¬ (w = 1 ∧ h 126 (12 + a2).toNat = 1))) (ex : cap 2000 (v - s) = x) : ftQ (h0 110) a1 a2 a3 x := by
  obtain ⟨⟨a3e, K⟩, T, L, bx, ⟨hL, s1, s2⟩, ⟨d1, e1⟩, d2, e2⟩ := I
  subst hk
  have wq : w = 1 ↔ T = L * v := by
    refine W.trans ⟨fun z => ?_, fun z j hj => ?_⟩
    · rw [← e1, ← e2]
      exact vS_same (fun j hj => by rw [Nat.zero_add]; exact z j hj)
    · exact dg_eq d1 d2 (by rw [e1, e2]; exact z) j hj
  refine Or.inr ⟨⟨⟨by omega, by omega⟩, K⟩, Or.inr ⟨a3e, _, bx, ?_⟩⟩
  show cap 2000 (gnF 1 T L (h 126 (12 + a2).toNat)) = x
  rw [← ex]
  unfold gnF
  rw [if_neg (by omega), if_neg (by decide)]
  by_cases g : v < 2001
  · unfold gnG
    rw [dv_eq hL s1 (s2 g)]
    have m : v * L = T ↔ T = L * v := by rw [Int.mul_comm]; exact eq_comm
    rcases c with ⟨c1, c2, c3⟩ | ⟨c1, c2⟩
    · rw [if_pos ⟨c3, m.mpr (wq.mp c2)⟩, c1]
    · rw [if_neg (fun z => c2 ⟨wq.mpr (m.mp z.2), z.1⟩), c1, Int.sub_zero]
  · have q : v ≤ T / L := Int.le_ediv_of_mul_le hL (by rw [Int.mul_comm]; exact s1)
    have g1 : 2000 ≤ gnG T L (h 126 (12 + a2).toNat) := by unfold gnG; split <;> omega
    have g2 : s = 0 ∨ s = 1 := c.elim (fun z => Or.inr z.1) (fun z => Or.inl z.1)
    unfold cap
    split <;> split <;> omega
theorem ft_in {h0 h6 h7 h8 h9 : m_H} {a1 a2 a3 v : Int} (a3e : a3 = 1) (K : ftK (h0 110) a1 a2) (g : ga (aS h6 (12 + a2).toNat)) (b : BW (bR (h0 110)) a1.toNat (12 + a2).toNat (bOf (aS h6 (12 + a2).toNat))) (t : h6 127 (12 + a2).toNat = 1) (s : shQ v (vS (h6 125) (5 * (12 + a2)).toNat 5 * 1) (vS (h6 124) (5 * (12 + a2)).toNat 5) 2001) (S7 : FR [135, 136] [] h6 h7) (S8 : FR [135] [] h7 h8) (S9 : FR [136] [] h8 h9) (d1 : dg10 (h8 135)) (e1 : vS (h8 135) 0 10 = vS (h7 125) (5 * (12 + a2)).toNat 5 * 1) (d2 : dg10 (h9 136)) (e2 : vS (h9 136) 0 10 = vS (h8 124) (5 * (12 + a2)).toNat 5 * v) : ftI h0 h9 a1 a2 a3 v := by
  have r1 : h7 125 = h6 125 := FR.row S7 (fun _ => rfl)
  have r2 : h8 124 = h6 124 := (FR.row S8 (fun _ => rfl)).trans (FR.row S7 (fun _ => rfl))
  have r3 : h9 135 = h8 135 := FR.row S9 (fun _ => rfl)
  have r4 : h9 126 = h6 126 := (FR.row S9 (fun _ => rfl)).trans ((FR.row S8 (fun _ => rfl)).trans (FR.row S7 (fun _ => rfl)))
  have a5 : (5 * (12 + a2)).toNat = 5 * (12 + a2).toNat := at5 (by have := K.2.1.1; omega)
  rw [a5, Int.mul_one] at s e1
  rw [a5] at e2
  rw [r1] at e1
  rw [r2] at e2
  rw [bOf_y t rfl] at b
  have u1 : 1 ≤ vS (h6 124) (5 * (12 + a2).toNat) 5 := (g.2.2 t).1.1
  exact ⟨⟨a3e, K⟩, vS (h6 125) (5 * (12 + a2).toNat) 5, vS (h6 124) (5 * (12 + a2).toNat) 5, ⟨by rw [r4]; exact b, fun z => absurd (show vS (h6 124) (5 * (12 + a2).toNat) 5 = 0 from z) (by omega)⟩, ⟨by omega, s⟩, ⟨by rw [r3]; exact d1, by rw [r3]; exact e1⟩, d2, e2⟩
abbrev P_X12_share3 (h0 : m_H) (f : Nat) (f2 : Nat) (a2 a4 a5 a6 : Int) : Int → m_H → Prop := fun x h' => GI h' ∧ FR [135, 136] [] h0 h' ∧ 0 ≤ x ∧ x ≤ 2000000000 ∧ shQ x (vS (h0 f) a2.toNat 5 * a5) (vS (h0 f2) a4.toNat 5) a6 ∧ x ≤ a6
def q_X12_share3 (h0 : m_H) (f : Nat) (f2 : Nat) (a2 a4 a5 a6 : Int) (n : Nat) : Prop := (∀ (l7 l8 : Int) (h : m_H), GI h → FR [135, 136] [] h0 h → 0 ≤ l7 → l7 ≤ 2000000000 → 0 ≤ l8 → l8 ≤ 2000000000 → (-2147483648) ≤ a5 → a5 ≤ 2147483647 → (l7 ≤ l8) → (dg10 (h 135) ∧ vS (h 135) 0 10 = (vS (h0 f) a2.toNat 5 * a5)) → ((vS (h0 f2) a4.toNat 5) * l7 ≤ (vS (h0 f) a2.toNat 5 * a5) ∧ (l8 < a6 → (vS (h0 f) a2.toNat 5 * a5) < (vS (h0 f2) a4.toNat 5) * (l8 + 1)) ∧ l8 ≤ a6) → 25 * (l8 - l7) + (24) ≤ (n : Int) → m_Z oF M_X12_share 19 [some (mR 108), none, none, some (mR f2), some (mI a4), none, none, some (mI l7), some (mI l8), none, none, none, none] [] h (m_QI (P_X12_share3 h0 f f2 a2 a4 a5 a6))) ∧ (∀ (l7 l8 l9 l10 l11 l12 : Int) (h : m_H), GI h → FR [135, 136] [] h0 h → 0 ≤ l7 → l7 ≤ 1999999999 → 1 ≤ l8 → l8 ≤ 2000000000 → 0 ≤ l9 → l9 ≤ 2000000000 → 0 ≤ l10 → l10 ≤ 1 → 0 ≤ l11 → l11 ≤ 1 → (-1) ≤ l12 → l12 ≤ 9 → (-2147483648) ≤ a5 → a5 ≤ 2147483647 → (l7 ≤ l9 - 1 ∧ l9 ≤ l8) → (dg10 (h 135) ∧ vS (h 135) 0 10 = (vS (h0 f) a2.toNat 5 * a5)) → ((vS (h0 f2) a4.toNat 5) * l7 ≤ (vS (h0 f) a2.toNat 5 * a5) ∧ (l8 < a6 → (vS (h0 f) a2.toNat 5 * a5) < (vS (h0 f2) a4.toNat 5) * (l8 + 1)) ∧ l8 ≤ a6) → (shK (h 136) (h 135) ((vS (h0 f2) a4.toNat 5) * l9) (vS (h0 f) a2.toNat 5 * a5) l10 l11 l12) → 25 * (l8 - l7) + 2 * (l12 - (-1)) + (1) ≤ (n : Int) → m_Z oF M_X12_share 63 [some (mR 108), none, none, some (mR f2), some (mI a4), none, none, some (mI l7), some (mI l8), some (mI l9), some (mI l10), some (mI l11), some (mI l12)] [] h (m_QI (P_X12_share3 h0 f f2 a2 a4 a5 a6)))
set_option maxHeartbeats 4000000 in
set_option maxRecDepth 100000 in
theorem s_X12_share3_19 (h0 : m_H) (f : Nat) (f2 : Nat) (a2 a4 a5 a6 : Int) (w_f : f = 124 ∨ f = 125) (w_f2 : f2 = 124 ∨ f2 = 125) (G0 : GI h0) (pa2 : 0 ≤ a2 ∧ a2 ≤ 75) (pa4 : 0 ≤ a4 ∧ a4 ≤ 75) (pa6 : 0 ≤ a6 ∧ a6 ≤ 2000000000) (hb5 : 0 ≤ a5 ∧ a5 ≤ 2000000000) (n : Nat) (ih : q_X12_share3 h0 f f2 a2 a4 a5 a6 n) : ∀ (l7 l8 : Int) (h : m_H), GI h → FR [135, 136] [] h0 h → 0 ≤ l7 → l7 ≤ 2000000000 → 0 ≤ l8 → l8 ≤ 2000000000 → (-2147483648) ≤ a5 → a5 ≤ 2147483647 → (l7 ≤ l8) → (dg10 (h 135) ∧ vS (h 135) 0 10 = (vS (h0 f) a2.toNat 5 * a5)) → ((vS (h0 f2) a4.toNat 5) * l7 ≤ (vS (h0 f) a2.toNat 5 * a5) ∧ (l8 < a6 → (vS (h0 f) a2.toNat 5 * a5) < (vS (h0 f2) a4.toNat 5) * (l8 + 1)) ∧ l8 ≤ a6) → 25 * (l8 - l7) + (24) ≤ ((n + 1 : Nat) : Int) → m_Z oF M_X12_share 19 [some (mR 108), none, none, some (mR f2), some (mI a4), none, none, some (mI l7), some (mI l8), none, none, none, none] [] h (m_QI (P_X12_share3 h0 f f2 a2 a4 a5 a6)) := by
  intro l7 l8 h G R v0 v1 v2 v3 v4 v5 i0 i1 i2 hr
  have ef_ : h f2 = h0 f2 := by rcases w_f2 with rfl | rfl <;> exact FR.row R (fun _ => rfl)
  refine z_iload (M := M_X12_share) 19 dX12_share_19 rfl ?_
  refine z_iload (M := M_X12_share) 21 dX12_share_21 rfl ?_
  refine z_icmp_ge (M := M_X12_share) 23 dX12_share_23 150 rfl (fun c1 => ?_) (fun c1 => ?_)
  · refine z_iload (M := M_X12_share) 150 dX12_share_150 rfl ?_
    exact z_retI (M := M_X12_share) 152 dX12_share_152 rfl ⟨G, R, by omega, by omega, by have e_ : l8 = l7 := (by omega); rw [e_] at i2; exact ⟨⟨i2.1, i2.2.1⟩, i2.2.2⟩⟩
  · refine z_iload (M := M_X12_share) 26 dX12_share_26 rfl ?_
    refine z_iload (M := M_X12_share) 28 dX12_share_28 rfl ?_
    refine z_iload (M := M_X12_share) 30 dX12_share_30 rfl ?_
    refine z_isubN (M := M_X12_share) 32 dX12_share_32 (by omega) (by omega) ?_
    refine z_iconst (M := M_X12_share) 33 dX12_share_33 ?_
    refine z_iaddN (M := M_X12_share) 34 dX12_share_34 (by omega) (by omega) ?_
    refine z_iconst (M := M_X12_share) 35 dX12_share_35 ?_
    refine z_idivN (M := M_X12_share) 36 dX12_share_36 (by omega) (by omega) ?_
    refine z_topBI (lo := 0) (hi := 1000000000) ⟨by omega, by omega⟩ (fun x2 ex2 ax2 bx2 => ?_)
    refine z_iaddN (M := M_X12_share) 37 dX12_share_37 (by omega) (by omega) ?_
    refine z_topBI (lo := 0) (hi := 2000000000) ⟨by omega, by omega⟩ (fun x3 ex3 ax3 bx3 => ?_)
    refine z_istore (M := M_X12_share) 38 dX12_share_38 (ls' := [some (mR 108), none, none, some (mR f2), some (mI a4), none, none, some (mI l7), some (mI l8), some (mI x3), none, none, none]) (by decide) rfl ?_
    refine z_aload_n (M := M_X12_share) 40 dX12_share_40 rfl ?_
    refine z_getR (M := M_X12_share) 41 dX12_share_41 f_X12_97 o_108 rfl (g_108_41 G) ?_
    refine z_aload_n (M := M_X12_share) 44 dX12_share_44 rfl ?_
    refine z_iload (M := M_X12_share) 45 dX12_share_45 rfl ?_
    refine z_iload (M := M_X12_share) 47 dX12_share_47 rfl ?_
    refine z_i2l (M := M_X12_share) 49 dX12_share_49 ?_
    refine z_sV (M := M_X12_share) 50 dX12_share_50 t_X12_wide l_X12_387 (m_rr_of rfl) (rest := []) (c_X12_wide80x h 136 f2 a4 x3 (Or.inr rfl) w_f2 G ⟨by omega, by omega⟩ ⟨by omega, by omega⟩) rfl rfl (Nat.le_of_ble_eq_true rfl) ⟨rfl, rfl⟩ (fun h1 qx4 => ?_)
    obtain ⟨G1, S1, W1, W2⟩ := qx4
    have i1c : dg10 (h1 135) ∧ vS (h1 135) 0 10 = (vS (h0 f) a2.toNat 5 * a5) := by rw [FR.row (c := 135) S1 (fun _ => rfl)]; exact i1
    rw [ef_] at W2
    have R1 := R.call S1 (by decide +kernel)
    refine z_iconst (M := M_X12_share) 53 dX12_share_53 ?_
    refine z_istore (M := M_X12_share) 54 dX12_share_54 (ls' := [some (mR 108), none, none, some (mR f2), some (mI a4), none, none, some (mI l7), some (mI l8), some (mI x3), some (mI 1), none, none]) (by decide) rfl ?_
    refine z_iconst (M := M_X12_share) 56 dX12_share_56 ?_
    refine z_istore (M := M_X12_share) 57 dX12_share_57 (ls' := [some (mR 108), none, none, some (mR f2), some (mI a4), none, none, some (mI l7), some (mI l8), some (mI x3), some (mI 1), some (mI 1), none]) (by decide) rfl ?_
    refine z_bipush (M := M_X12_share) 59 dX12_share_59 ?_
    refine z_istore (M := M_X12_share) 61 dX12_share_61 (ls' := [some (mR 108), none, none, some (mR f2), some (mI a4), none, none, some (mI l7), some (mI l8), some (mI x3), some (mI 1), some (mI 1), some (mI 9)]) (by decide) rfl ?_
    exact z_mask [true, false, false, true, true, false, false, true, true, true, true, true, true] rfl (ih.2 l7 l8 x3 1 1 9 h1 G1 R1 (by omega) (by omega) (by omega) (by omega) (by omega) (by omega) (by omega) (by omega) (by omega) (by omega) (by omega) (by omega) (by omega) (by omega) (by omega) i1c i2 (shK_0 W1 W2 i1c.1 i1c.2) (by omega))
set_option maxHeartbeats 4000000 in
set_option maxRecDepth 100000 in
theorem s_X12_share3_63 (h0 : m_H) (f : Nat) (f2 : Nat) (a2 a4 a5 a6 : Int) (w_f : f = 124 ∨ f = 125) (w_f2 : f2 = 124 ∨ f2 = 125) (G0 : GI h0) (pa2 : 0 ≤ a2 ∧ a2 ≤ 75) (pa4 : 0 ≤ a4 ∧ a4 ≤ 75) (pa6 : 0 ≤ a6 ∧ a6 ≤ 2000000000) (hb5 : 0 ≤ a5 ∧ a5 ≤ 2000000000) (n : Nat) (ih : q_X12_share3 h0 f f2 a2 a4 a5 a6 n) : ∀ (l7 l8 l9 l10 l11 l12 : Int) (h : m_H), GI h → FR [135, 136] [] h0 h → 0 ≤ l7 → l7 ≤ 1999999999 → 1 ≤ l8 → l8 ≤ 2000000000 → 0 ≤ l9 → l9 ≤ 2000000000 → 0 ≤ l10 → l10 ≤ 1 → 0 ≤ l11 → l11 ≤ 1 → (-1) ≤ l12 → l12 ≤ 9 → (-2147483648) ≤ a5 → a5 ≤ 2147483647 → (l7 ≤ l9 - 1 ∧ l9 ≤ l8) → (dg10 (h 135) ∧ vS (h 135) 0 10 = (vS (h0 f) a2.toNat 5 * a5)) → ((vS (h0 f2) a4.toNat 5) * l7 ≤ (vS (h0 f) a2.toNat 5 * a5) ∧ (l8 < a6 → (vS (h0 f) a2.toNat 5 * a5) < (vS (h0 f2) a4.toNat 5) * (l8 + 1)) ∧ l8 ≤ a6) → (shK (h 136) (h 135) ((vS (h0 f2) a4.toNat 5) * l9) (vS (h0 f) a2.toNat 5 * a5) l10 l11 l12) → 25 * (l8 - l7) + 2 * (l12 - (-1)) + (1) ≤ ((n + 1 : Nat) : Int) → m_Z oF M_X12_share 63 [some (mR 108), none, none, some (mR f2), some (mI a4), none, none, some (mI l7), some (mI l8), some (mI l9), some (mI l10), some (mI l11), some (mI l12)] [] h (m_QI (P_X12_share3 h0 f f2 a2 a4 a5 a6)) := by
  intro l7 l8 l9 l10 l11 l12 h G R v0 v1 v2 v3 v4 v5 v6 v7 v8 v9 v10 v11 v12 v13 i0 i1 i2 i3 hr
  refine z_iload (M := M_X12_share) 63 dX12_share_63 rfl ?_
  refine z_if_lt (M := M_X12_share) 65 dX12_share_65 129 rfl (fun c1 => ?_) (fun c1 => ?_)
  · refine z_iload (M := M_X12_share) 129 dX12_share_129 rfl ?_
    refine z_if_eq (M := M_X12_share) 131 dX12_share_131 141 rfl (fun c2 => ?_) (fun c2 => ?_)
    · refine z_iload (M := M_X12_share) 141 dX12_share_141 rfl ?_
      refine z_iconst (M := M_X12_share) 143 dX12_share_143 ?_
      refine z_isubN (M := M_X12_share) 144 dX12_share_144 (by omega) (by omega) ?_
      refine z_istore (M := M_X12_share) 145 dX12_share_145 (ls' := [some (mR 108), none, none, some (mR f2), some (mI a4), none, none, some (mI l7), some (mI (l9 - 1)), some (mI l9), some (mI l10), some (mI l11), some (mI l12)]) (by decide) rfl ?_
      refine z_goto (M := M_X12_share) 147 dX12_share_147 19 rfl ?_
      exact z_mask [true, false, false, true, true, false, false, true, true, false, false, false, false] rfl (ih.1 l7 (l9 - 1) h G R (by omega) (by omega) (by omega) (by omega) (by omega) (by omega) (by omega) i1 ⟨i2.1, fun _ => by rw [show l9 - 1 + 1 = l9 by omega]; have e_ := shK_end i3 (by omega); omega, by omega⟩ (by omega))
    · refine z_iload (M := M_X12_share) 134 dX12_share_134 rfl ?_
      refine z_istore (M := M_X12_share) 136 dX12_share_136 (ls' := [some (mR 108), none, none, some (mR f2), some (mI a4), none, none, some (mI l9), some (mI l8), some (mI l9), some (mI l10), some (mI l11), some (mI l12)]) (by decide) rfl ?_
      refine z_goto (M := M_X12_share) 138 dX12_share_138 147 rfl ?_
      refine z_goto (M := M_X12_share) 147 dX12_share_147 19 rfl ?_
      exact z_mask [true, false, false, true, true, false, false, true, true, false, false, false, false] rfl (ih.1 l9 l8 h G R (by omega) (by omega) (by omega) (by omega) (by omega) (by omega) (by omega) i1 ⟨(shK_end i3 (by omega)).mp (by omega), i2.2.1, i2.2.2⟩ (by omega))
  · refine z_iload (M := M_X12_share) 68 dX12_share_68 rfl ?_
    refine z_if_eq (M := M_X12_share) 70 dX12_share_70 129 rfl (fun c3 => ?_) (fun c3 => ?_)
    · refine z_iload (M := M_X12_share) 129 dX12_share_129 rfl ?_
      refine z_if_eq (M := M_X12_share) 131 dX12_share_131 141 rfl (fun c4 => ?_) (fun c4 => ?_)
      · refine z_iload (M := M_X12_share) 141 dX12_share_141 rfl ?_
        refine z_iconst (M := M_X12_share) 143 dX12_share_143 ?_
        refine z_isubN (M := M_X12_share) 144 dX12_share_144 (by omega) (by omega) ?_
        refine z_istore (M := M_X12_share) 145 dX12_share_145 (ls' := [some (mR 108), none, none, some (mR f2), some (mI a4), none, none, some (mI l7), some (mI (l9 - 1)), some (mI l9), some (mI l10), some (mI l11), some (mI l12)]) (by decide) rfl ?_
        refine z_goto (M := M_X12_share) 147 dX12_share_147 19 rfl ?_
        exact z_mask [true, false, false, true, true, false, false, true, true, false, false, false, false] rfl (ih.1 l7 (l9 - 1) h G R (by omega) (by omega) (by omega) (by omega) (by omega) (by omega) (by omega) i1 ⟨i2.1, fun _ => by rw [show l9 - 1 + 1 = l9 by omega]; have e_ := shK_end i3 (by omega); omega, by omega⟩ (by omega))
      · refine z_iload (M := M_X12_share) 134 dX12_share_134 rfl ?_
        refine z_istore (M := M_X12_share) 136 dX12_share_136 (ls' := [some (mR 108), none, none, some (mR f2), some (mI a4), none, none, some (mI l9), some (mI l8), some (mI l9), some (mI l10), some (mI l11), some (mI l12)]) (by decide) rfl ?_
        refine z_goto (M := M_X12_share) 138 dX12_share_138 147 rfl ?_
        refine z_goto (M := M_X12_share) 147 dX12_share_147 19 rfl ?_
        exact z_mask [true, false, false, true, true, false, false, true, true, false, false, false, false] rfl (ih.1 l9 l8 h G R (by omega) (by omega) (by omega) (by omega) (by omega) (by omega) (by omega) i1 ⟨(shK_end i3 (by omega)).mp (by omega), i2.2.1, i2.2.2⟩ (by omega))
    · refine z_aload_n (M := M_X12_share) 73 dX12_share_73 rfl ?_
      refine z_getR (M := M_X12_share) 74 dX12_share_74 f_X12_97 o_108 rfl (g_108_41 G) ?_
      refine z_iload (M := M_X12_share) 77 dX12_share_77 rfl ?_
      refine z_laldV (M := M_X12_share) 79 dX12_share_79 o_136 (by omega) (by omega) (fun x5 ex5 => ?_)
      refine z_aload_n (M := M_X12_share) 80 dX12_share_80 rfl ?_
      refine z_getR (M := M_X12_share) 81 dX12_share_81 f_X12_94 o_108 rfl (g_108_40 G) ?_
      refine z_iload (M := M_X12_share) 84 dX12_share_84 rfl ?_
      refine z_laldV (M := M_X12_share) 86 dX12_share_86 o_135 (by omega) (by omega) (fun x6 ex6 => ?_)
      refine z_lcmp (M := M_X12_share) 87 dX12_share_87 ?_
      refine z_if_ne (M := M_X12_share) 88 dX12_share_88 95 rfl (fun c7 => ?_) (fun c7 => ?_)
      · rw [m_cmp_eq] at c7
        refine z_iconst (M := M_X12_share) 95 dX12_share_95 ?_
        refine z_istore (M := M_X12_share) 96 dX12_share_96 (ls' := [some (mR 108), none, none, some (mR f2), some (mI a4), none, none, some (mI l7), some (mI l8), some (mI l9), some (mI l10), some (mI 0), some (mI l12)]) (by decide) rfl ?_
        refine z_aload_n (M := M_X12_share) 98 dX12_share_98 rfl ?_
        refine z_getR (M := M_X12_share) 99 dX12_share_99 f_X12_97 o_108 rfl (g_108_41 G) ?_
        refine z_iload (M := M_X12_share) 102 dX12_share_102 rfl ?_
        refine z_laldE (M := M_X12_share) 104 dX12_share_104 o_136 (by omega) (by omega) ex5 ?_
        refine z_aload_n (M := M_X12_share) 105 dX12_share_105 rfl ?_
        refine z_getR (M := M_X12_share) 106 dX12_share_106 f_X12_94 o_108 rfl (g_108_40 G) ?_
        refine z_iload (M := M_X12_share) 109 dX12_share_109 rfl ?_
        refine z_laldE (M := M_X12_share) 111 dX12_share_111 o_135 (by omega) (by omega) ex6 ?_
        refine z_lcmp (M := M_X12_share) 112 dX12_share_112 ?_
        refine z_if_gt (M := M_X12_share) 113 dX12_share_113 120 rfl (fun c8 => ?_) (fun c8 => ?_)
        · rw [m_cmp_gt] at c8
          refine z_iconst (M := M_X12_share) 120 dX12_share_120 ?_
          refine z_istore (M := M_X12_share) 121 dX12_share_121 (ls' := [some (mR 108), none, none, some (mR f2), some (mI a4), none, none, some (mI l7), some (mI l8), some (mI l9), some (mI 0), some (mI 0), some (mI l12)]) (by decide) rfl ?_
          refine z_iincN (M := M_X12_share) 123 dX12_share_123 (ls' := [some (mR 108), none, none, some (mR f2), some (mI a4), none, none, some (mI l7), some (mI l8), some (mI l9), some (mI 0), some (mI 0), some (mI (l12 + (-1)))]) (by decide) rfl (by (unfold m_32; decide)) (by omega) (by omega) rfl ?_
          refine z_goto (M := M_X12_share) 126 dX12_share_126 63 rfl ?_
          exact z_mask [true, false, false, true, true, false, false, true, true, true, true, true, true] rfl (ih.2 l7 l8 l9 0 0 (l12 + (-1)) h G R (by omega) (by omega) (by omega) (by omega) (by omega) (by omega) (by omega) (by omega) (by omega) (by omega) (by omega) (by omega) (by omega) (by omega) (by omega) i1 i2 (shK_gt (by have q := i3; rw [show l11 = 1 by omega] at q; exact q) (by omega) (by omega) ex5 ex6 (by omega)) (by omega))
        · rw [m_cmp_gt] at c8
          refine z_iconst (M := M_X12_share) 116 dX12_share_116 ?_
          refine z_goto (M := M_X12_share) 117 dX12_share_117 121 rfl ?_
          refine z_istore (M := M_X12_share) 121 dX12_share_121 (ls' := [some (mR 108), none, none, some (mR f2), some (mI a4), none, none, some (mI l7), some (mI l8), some (mI l9), some (mI 1), some (mI 0), some (mI l12)]) (by decide) rfl ?_
          refine z_iincN (M := M_X12_share) 123 dX12_share_123 (ls' := [some (mR 108), none, none, some (mR f2), some (mI a4), none, none, some (mI l7), some (mI l8), some (mI l9), some (mI 1), some (mI 0), some (mI (l12 + (-1)))]) (by decide) rfl (by (unfold m_32; decide)) (by omega) (by omega) rfl ?_
          refine z_goto (M := M_X12_share) 126 dX12_share_126 63 rfl ?_
          exact z_mask [true, false, false, true, true, false, false, true, true, true, true, true, true] rfl (ih.2 l7 l8 l9 1 0 (l12 + (-1)) h G R (by omega) (by omega) (by omega) (by omega) (by omega) (by omega) (by omega) (by omega) (by omega) (by omega) (by omega) (by omega) (by omega) (by omega) (by omega) i1 i2 (shK_lt (by have q := i3; rw [show l11 = 1 by omega] at q; exact q) (by omega) (by omega) ex5 ex6 (by omega)) (by omega))
      · rw [m_cmp_eq] at c7
        refine z_iconst (M := M_X12_share) 91 dX12_share_91 ?_
        refine z_goto (M := M_X12_share) 92 dX12_share_92 96 rfl ?_
        refine z_istore (M := M_X12_share) 96 dX12_share_96 (ls' := [some (mR 108), none, none, some (mR f2), some (mI a4), none, none, some (mI l7), some (mI l8), some (mI l9), some (mI l10), some (mI 1), some (mI l12)]) (by decide) rfl ?_
        refine z_aload_n (M := M_X12_share) 98 dX12_share_98 rfl ?_
        refine z_getR (M := M_X12_share) 99 dX12_share_99 f_X12_97 o_108 rfl (g_108_41 G) ?_
        refine z_iload (M := M_X12_share) 102 dX12_share_102 rfl ?_
        refine z_laldE (M := M_X12_share) 104 dX12_share_104 o_136 (by omega) (by omega) ex5 ?_
        refine z_aload_n (M := M_X12_share) 105 dX12_share_105 rfl ?_
        refine z_getR (M := M_X12_share) 106 dX12_share_106 f_X12_94 o_108 rfl (g_108_40 G) ?_
        refine z_iload (M := M_X12_share) 109 dX12_share_109 rfl ?_
        refine z_laldE (M := M_X12_share) 111 dX12_share_111 o_135 (by omega) (by omega) ex6 ?_
        refine z_lcmp (M := M_X12_share) 112 dX12_share_112 ?_
        refine z_if_gt (M := M_X12_share) 113 dX12_share_113 120 rfl (fun c9 => ?_) (fun c9 => ?_)
        · rw [m_cmp_gt] at c9
          refine z_iconst (M := M_X12_share) 120 dX12_share_120 ?_
          refine z_istore (M := M_X12_share) 121 dX12_share_121 (ls' := [some (mR 108), none, none, some (mR f2), some (mI a4), none, none, some (mI l7), some (mI l8), some (mI l9), some (mI 0), some (mI 1), some (mI l12)]) (by decide) rfl ?_
          refine z_iincN (M := M_X12_share) 123 dX12_share_123 (ls' := [some (mR 108), none, none, some (mR f2), some (mI a4), none, none, some (mI l7), some (mI l8), some (mI l9), some (mI 0), some (mI 1), some (mI (l12 + (-1)))]) (by decide) rfl (by (unfold m_32; decide)) (by omega) (by omega) rfl ?_
          refine z_goto (M := M_X12_share) 126 dX12_share_126 63 rfl ?_
          exact z_mask [true, false, false, true, true, false, false, true, true, true, true, true, true] rfl (ih.2 l7 l8 l9 0 1 (l12 + (-1)) h G R (by omega) (by omega) (by omega) (by omega) (by omega) (by omega) (by omega) (by omega) (by omega) (by omega) (by omega) (by omega) (by omega) (by omega) (by omega) i1 i2 (False.elim (by omega)) (by omega))
        · rw [m_cmp_gt] at c9
          refine z_iconst (M := M_X12_share) 116 dX12_share_116 ?_
          refine z_goto (M := M_X12_share) 117 dX12_share_117 121 rfl ?_
          refine z_istore (M := M_X12_share) 121 dX12_share_121 (ls' := [some (mR 108), none, none, some (mR f2), some (mI a4), none, none, some (mI l7), some (mI l8), some (mI l9), some (mI 1), some (mI 1), some (mI l12)]) (by decide) rfl ?_
          refine z_iincN (M := M_X12_share) 123 dX12_share_123 (ls' := [some (mR 108), none, none, some (mR f2), some (mI a4), none, none, some (mI l7), some (mI l8), some (mI l9), some (mI 1), some (mI 1), some (mI (l12 + (-1)))]) (by decide) rfl (by (unfold m_32; decide)) (by omega) (by omega) rfl ?_
          refine z_goto (M := M_X12_share) 126 dX12_share_126 63 rfl ?_
          exact z_mask [true, false, false, true, true, false, false, true, true, true, true, true, true] rfl (ih.2 l7 l8 l9 1 1 (l12 + (-1)) h G R (by omega) (by omega) (by omega) (by omega) (by omega) (by omega) (by omega) (by omega) (by omega) (by omega) (by omega) (by omega) (by omega) (by omega) (by omega) i1 i2 (shK_eq (by have q := i3; rw [show l11 = 1 by omega] at q; exact q) (by omega) ex5 ex6 c7) (by omega))
theorem a_X12_share3 (h0 : m_H) (f : Nat) (f2 : Nat) (a2 a4 a5 a6 : Int) (w_f : f = 124 ∨ f = 125) (w_f2 : f2 = 124 ∨ f2 = 125) (G0 : GI h0) (pa2 : 0 ≤ a2 ∧ a2 ≤ 75) (pa4 : 0 ≤ a4 ∧ a4 ≤ 75) (pa6 : 0 ≤ a6 ∧ a6 ≤ 2000000000) (hb5 : 0 ≤ a5 ∧ a5 ≤ 2000000000) : ∀ n, q_X12_share3 h0 f f2 a2 a4 a5 a6 n := by
  intro n
  induction n with
  | zero => unfold q_X12_share3; refine ⟨?_, ?_⟩ <;> (intros; omega)
  | succ n ih => exact ⟨s_X12_share3_19 h0 f f2 a2 a4 a5 a6 w_f w_f2 G0 pa2 pa4 pa6 hb5 n ih, s_X12_share3_63 h0 f f2 a2 a4 a5 a6 w_f w_f2 G0 pa2 pa4 pa6 hb5 n ih⟩
set_option maxHeartbeats 4000000 in
set_option maxRecDepth 100000 in
theorem c_X12_share3 (h0 : m_H) (f : Nat) (f2 : Nat) (a2 a4 a5 a6 : Int) (w_f : f = 124 ∨ f = 125) (w_f2 : f2 = 124 ∨ f2 = 125) (G0 : GI h0) (pa2 : 0 ≤ a2 ∧ a2 ≤ 75) (pa4 : 0 ≤ a4 ∧ a4 ≤ 75) (pa6 : 0 ≤ a6 ∧ a6 ≤ 2000000000) (hb5 : 0 ≤ a5 ∧ a5 ≤ 2000000000) : m_CI M_X12_share [mR 108, mR f, mI a2, mR f2, mI a4, mI a5, mI a6] h0 (P_X12_share3 h0 f f2 a2 a4 a5 a6) := by
  refine m_CI_of ⟨by decide, rfl, by simp [m_arg, m_isL, M_X12_share], ⟨rfl, rfl⟩, rfl, rfl⟩ (ls := [some (mR 108), some (mR f), some (mI a2), some (mR f2), some (mI a4), some (mI a5), some (mI a6), none, none, none, none, none, none]) rfl ?_
  have ih := a_X12_share3 h0 f f2 a2 a4 a5 a6 w_f w_f2 G0 pa2 pa4 pa6 hb5 50000000031
  refine z_ok (fun _ _ ok => ?_)
  have oa5 : m_32 a5 := ok 5 _ rfl
  unfold m_32 at oa5
  refine z_iconst (M := M_X12_share) 0 dX12_share_0 ?_
  refine z_istore (M := M_X12_share) 1 dX12_share_1 (ls' := [some (mR 108), some (mR f), some (mI a2), some (mR f2), some (mI a4), some (mI a5), some (mI a6), some (mI 0), none, none, none, none, none]) (by decide) rfl ?_
  refine z_iload (M := M_X12_share) 3 dX12_share_3 rfl ?_
  refine z_istore (M := M_X12_share) 5 dX12_share_5 (ls' := [some (mR 108), some (mR f), some (mI a2), some (mR f2), some (mI a4), some (mI a5), some (mI a6), some (mI 0), some (mI a6), none, none, none, none]) (by decide) rfl ?_
  refine z_aload_n (M := M_X12_share) 7 dX12_share_7 rfl ?_
  refine z_getR (M := M_X12_share) 8 dX12_share_8 f_X12_94 o_108 rfl (g_108_40 G0) ?_
  refine z_aload_n (M := M_X12_share) 11 dX12_share_11 rfl ?_
  refine z_iload_n (M := M_X12_share) 12 dX12_share_12 rfl ?_
  refine z_iload (M := M_X12_share) 13 dX12_share_13 rfl ?_
  refine z_i2l (M := M_X12_share) 15 dX12_share_15 ?_
  refine z_sV (M := M_X12_share) 16 dX12_share_16 t_X12_wide l_X12_387 (m_rr_of rfl) (rest := []) (c_X12_wide80x h0 135 f a2 a5 (Or.inl rfl) w_f G0 ⟨by omega, by omega⟩ ⟨by omega, by omega⟩) rfl rfl (Nat.le_of_ble_eq_true rfl) ⟨rfl, rfl⟩ (fun h1 qx1 => ?_)
  obtain ⟨G1, S1, W1, W2⟩ := qx1
  have R1 := (FR.rf (cs := [135, 136]) (ss := []) (h := h0)).call S1 (by decide +kernel)
  exact z_mask [true, false, false, true, true, false, false, true, true, false, false, false, false] rfl (ih.1 0 a6 h1 G1 R1 (by omega) (by omega) (by omega) (by omega) (by omega) (by omega) (by omega) ⟨W1, W2⟩ ⟨by rw [Int.mul_zero]; exact Int.mul_nonneg (vS_bd (fun j hj => gC_124_125 w_f G0 (by omega))).1 hb5.1, fun z => absurd z (by omega), Int.le_refl _⟩ (by omega))
abbrev P_X12_feet3 (h0 : m_H) (a1 a2 a3 : Int) : Int → m_H → Prop := fun x h' => GI h' ∧ FR [115, 116, 117, 118, 119, 120, 121, 122, 123, 124, 125, 126, 127, 128, 129, 130, 131, 132, 133, 134, 135, 136] [(108, 0), (108, 21)] h0 h' ∧ (-2) ≤ x ∧ x ≤ 2000000000 ∧ ftQ (h0 110) a1 a2 a3 x
def q_X12_feet3 (h0 : m_H) (a1 a2 a3 : Int) (n : Nat) : Prop := (∀ (l5 l6 l7 : Int) (h : m_H), GI h → FR [115, 116, 117, 118, 119, 120, 121, 122, 123, 124, 125, 126, 127, 128, 129, 130, 131, 132, 133, 134, 135, 136] [(108, 0), (108, 21)] h0 h → 0 ≤ l5 → l5 ≤ 2000000000 → 0 ≤ l6 → l6 ≤ 1 → 0 ≤ l7 → l7 ≤ 10 → 0 ≤ a1 → a1 ≤ 11 → 0 ≤ a2 → a2 ≤ 3 → 1 ≤ a3 → a3 ≤ 1 → (ftI h0 h a1 a2 a3 l5) → (ftW h l6 l7) → 2 * (10 - l7) + (1) ≤ (n : Int) → m_Z oF M_X12_feet 194 [some (mR 108), none, none, none, some (mI (12 + a2)), some (mI l5), some (mI l6), some (mI l7)] [] h (m_QI (P_X12_feet3 h0 a1 a2 a3)))
set_option maxHeartbeats 4000000 in
set_option maxRecDepth 100000 in
theorem s_X12_feet3_194 (h0 : m_H) (a1 a2 a3 : Int) (G0 : GI h0) (hN : NP h0) (n : Nat) (ih : q_X12_feet3 h0 a1 a2 a3 n) : ∀ (l5 l6 l7 : Int) (h : m_H), GI h → FR [115, 116, 117, 118, 119, 120, 121, 122, 123, 124, 125, 126, 127, 128, 129, 130, 131, 132, 133, 134, 135, 136] [(108, 0), (108, 21)] h0 h → 0 ≤ l5 → l5 ≤ 2000000000 → 0 ≤ l6 → l6 ≤ 1 → 0 ≤ l7 → l7 ≤ 10 → 0 ≤ a1 → a1 ≤ 11 → 0 ≤ a2 → a2 ≤ 3 → 1 ≤ a3 → a3 ≤ 1 → (ftI h0 h a1 a2 a3 l5) → (ftW h l6 l7) → 2 * (10 - l7) + (1) ≤ ((n + 1 : Nat) : Int) → m_Z oF M_X12_feet 194 [some (mR 108), none, none, none, some (mI (12 + a2)), some (mI l5), some (mI l6), some (mI l7)] [] h (m_QI (P_X12_feet3 h0 a1 a2 a3)) := by
  intro l5 l6 l7 h G R v0 v1 v2 v3 v4 v5 v6 v7 v8 v9 v10 v11 i1 i2 hr
  refine z_iload (M := M_X12_feet) 194 dX12_feet_194 rfl ?_
  refine z_bipush (M := M_X12_feet) 196 dX12_feet_196 ?_
  refine z_icmp_ge (M := M_X12_feet) 198 dX12_feet_198 237 rfl (fun c1 => ?_) (fun c1 => ?_)
  · refine z_iload (M := M_X12_feet) 237 dX12_feet_237 rfl ?_
    refine z_iload (M := M_X12_feet) 239 dX12_feet_239 rfl ?_
    refine z_if_eq (M := M_X12_feet) 241 dX12_feet_241 258 rfl (fun c2 => ?_) (fun c2 => ?_)
    · refine z_iconst (M := M_X12_feet) 258 dX12_feet_258 ?_
      refine z_isubN (M := M_X12_feet) 259 dX12_feet_259 (by omega) (by omega) ?_
      refine z_istore (M := M_X12_feet) 260 dX12_feet_260 (ls' := [some (mR 108), none, none, none, some (mI (12 + a2)), some (mI (l5 - 0)), some (mI l6), some (mI l7)]) (by decide) rfl ?_
      refine z_iload (M := M_X12_feet) 262 dX12_feet_262 rfl ?_
      refine z_sipush (M := M_X12_feet) 264 dX12_feet_264 ?_
      refine z_icmp_le (M := M_X12_feet) 267 dX12_feet_267 276 rfl (fun c3 => ?_) (fun c3 => ?_)
      · refine z_iload (M := M_X12_feet) 276 dX12_feet_276 rfl ?_
        exact z_retI (M := M_X12_feet) 278 dX12_feet_278 rfl ⟨G, R, by omega, by omega, ft_end i1 i2 (by omega) (Or.inr ⟨rfl, fun z => by have := z.1; omega⟩) (by unfold cap; exact if_neg (by omega))⟩
      · refine z_sipush (M := M_X12_feet) 270 dX12_feet_270 ?_
        refine z_goto (M := M_X12_feet) 273 dX12_feet_273 278 rfl ?_
        exact z_retI (M := M_X12_feet) 278 dX12_feet_278 rfl ⟨G, R, by omega, by omega, ft_end i1 i2 (by omega) (Or.inr ⟨rfl, fun z => by have := z.1; omega⟩) (by unfold cap; exact if_pos (by omega))⟩
    · refine z_aload_n (M := M_X12_feet) 244 dX12_feet_244 rfl ?_
      refine z_getR (M := M_X12_feet) 245 dX12_feet_245 f_X12_67 o_108 rfl (g_108_31 G) ?_
      refine z_iload (M := M_X12_feet) 248 dX12_feet_248 rfl ?_
      refine z_zaldG (M := M_X12_feet) 250 dX12_feet_250 o_126 (by omega) (by omega) (g_126 G (by omega)) (fun x4 ex4 ax4 bx4 => ?_)
      refine z_if_eq (M := M_X12_feet) 251 dX12_feet_251 258 rfl (fun c5 => ?_) (fun c5 => ?_)
      · refine z_iconst (M := M_X12_feet) 258 dX12_feet_258 ?_
        refine z_isubN (M := M_X12_feet) 259 dX12_feet_259 (by omega) (by omega) ?_
        refine z_istore (M := M_X12_feet) 260 dX12_feet_260 (ls' := [some (mR 108), none, none, none, some (mI (12 + a2)), some (mI (l5 - 0)), some (mI l6), some (mI l7)]) (by decide) rfl ?_
        refine z_iload (M := M_X12_feet) 262 dX12_feet_262 rfl ?_
        refine z_sipush (M := M_X12_feet) 264 dX12_feet_264 ?_
        refine z_icmp_le (M := M_X12_feet) 267 dX12_feet_267 276 rfl (fun c6 => ?_) (fun c6 => ?_)
        · refine z_iload (M := M_X12_feet) 276 dX12_feet_276 rfl ?_
          exact z_retI (M := M_X12_feet) 278 dX12_feet_278 rfl ⟨G, R, by omega, by omega, ft_end i1 i2 (by omega) (Or.inr ⟨rfl, fun z => by have y := ex4.symm.trans z.2; omega⟩) (by unfold cap; exact if_neg (by omega))⟩
        · refine z_sipush (M := M_X12_feet) 270 dX12_feet_270 ?_
          refine z_goto (M := M_X12_feet) 273 dX12_feet_273 278 rfl ?_
          exact z_retI (M := M_X12_feet) 278 dX12_feet_278 rfl ⟨G, R, by omega, by omega, ft_end i1 i2 (by omega) (Or.inr ⟨rfl, fun z => by have y := ex4.symm.trans z.2; omega⟩) (by unfold cap; exact if_pos (by omega))⟩
      · refine z_iconst (M := M_X12_feet) 254 dX12_feet_254 ?_
        refine z_goto (M := M_X12_feet) 255 dX12_feet_255 259 rfl ?_
        refine z_isubN (M := M_X12_feet) 259 dX12_feet_259 (by omega) (by omega) ?_
        refine z_istore (M := M_X12_feet) 260 dX12_feet_260 (ls' := [some (mR 108), none, none, none, some (mI (12 + a2)), some (mI (l5 - 1)), some (mI l6), some (mI l7)]) (by decide) rfl ?_
        refine z_iload (M := M_X12_feet) 262 dX12_feet_262 rfl ?_
        refine z_sipush (M := M_X12_feet) 264 dX12_feet_264 ?_
        refine z_icmp_le (M := M_X12_feet) 267 dX12_feet_267 276 rfl (fun c7 => ?_) (fun c7 => ?_)
        · refine z_iload (M := M_X12_feet) 276 dX12_feet_276 rfl ?_
          exact z_retI (M := M_X12_feet) 278 dX12_feet_278 rfl ⟨G, R, by omega, by omega, ft_end i1 i2 (by omega) (Or.inl ⟨rfl, by omega, ex4.trans (by omega)⟩) (by unfold cap; exact if_neg (by omega))⟩
        · refine z_sipush (M := M_X12_feet) 270 dX12_feet_270 ?_
          refine z_goto (M := M_X12_feet) 273 dX12_feet_273 278 rfl ?_
          exact z_retI (M := M_X12_feet) 278 dX12_feet_278 rfl ⟨G, R, by omega, by omega, ft_end i1 i2 (by omega) (Or.inl ⟨rfl, by omega, ex4.trans (by omega)⟩) (by unfold cap; exact if_pos (by omega))⟩
  · refine z_iload (M := M_X12_feet) 201 dX12_feet_201 rfl ?_
    refine z_if_eq (M := M_X12_feet) 203 dX12_feet_203 228 rfl (fun c8 => ?_) (fun c8 => ?_)
    · refine z_iconst (M := M_X12_feet) 228 dX12_feet_228 ?_
      refine z_istore (M := M_X12_feet) 229 dX12_feet_229 (ls' := [some (mR 108), none, none, none, some (mI (12 + a2)), some (mI l5), some (mI 0), some (mI l7)]) (by decide) rfl ?_
      refine z_iincN (M := M_X12_feet) 231 dX12_feet_231 (ls' := [some (mR 108), none, none, none, some (mI (12 + a2)), some (mI l5), some (mI 0), some (mI (l7 + 1))]) (by decide) rfl (by (unfold m_32; decide)) (by omega) (by omega) rfl ?_
      refine z_goto (M := M_X12_feet) 234 dX12_feet_234 194 rfl ?_
      exact z_mask [true, false, false, false, true, true, true, true] rfl (ih l5 0 (l7 + 1) h G R (by omega) (by omega) (by omega) (by omega) (by omega) (by omega) (by omega) (by omega) (by omega) (by omega) (by omega) (by omega) i1 (ftW_0 i2 (by omega) (by omega)) (by omega))
    · refine z_aload_n (M := M_X12_feet) 206 dX12_feet_206 rfl ?_
      refine z_getR (M := M_X12_feet) 207 dX12_feet_207 f_X12_94 o_108 rfl (g_108_40 G) ?_
      refine z_iload (M := M_X12_feet) 210 dX12_feet_210 rfl ?_
      refine z_laldV (M := M_X12_feet) 212 dX12_feet_212 o_135 (by omega) (by omega) (fun x9 ex9 => ?_)
      refine z_aload_n (M := M_X12_feet) 213 dX12_feet_213 rfl ?_
      refine z_getR (M := M_X12_feet) 214 dX12_feet_214 f_X12_97 o_108 rfl (g_108_41 G) ?_
      refine z_iload (M := M_X12_feet) 217 dX12_feet_217 rfl ?_
      refine z_laldV (M := M_X12_feet) 219 dX12_feet_219 o_136 (by omega) (by omega) (fun x10 ex10 => ?_)
      refine z_lcmp (M := M_X12_feet) 220 dX12_feet_220 ?_
      refine z_if_ne (M := M_X12_feet) 221 dX12_feet_221 228 rfl (fun c11 => ?_) (fun c11 => ?_)
      · rw [m_cmp_eq] at c11
        refine z_iconst (M := M_X12_feet) 228 dX12_feet_228 ?_
        refine z_istore (M := M_X12_feet) 229 dX12_feet_229 (ls' := [some (mR 108), none, none, none, some (mI (12 + a2)), some (mI l5), some (mI 0), some (mI l7)]) (by decide) rfl ?_
        refine z_iincN (M := M_X12_feet) 231 dX12_feet_231 (ls' := [some (mR 108), none, none, none, some (mI (12 + a2)), some (mI l5), some (mI 0), some (mI (l7 + 1))]) (by decide) rfl (by (unfold m_32; decide)) (by omega) (by omega) rfl ?_
        refine z_goto (M := M_X12_feet) 234 dX12_feet_234 194 rfl ?_
        exact z_mask [true, false, false, false, true, true, true, true] rfl (ih l5 0 (l7 + 1) h G R (by omega) (by omega) (by omega) (by omega) (by omega) (by omega) (by omega) (by omega) (by omega) (by omega) (by omega) (by omega) i1 (ftW_n (by omega) ex9 ex10 c11) (by omega))
      · rw [m_cmp_eq] at c11
        refine z_iconst (M := M_X12_feet) 224 dX12_feet_224 ?_
        refine z_goto (M := M_X12_feet) 225 dX12_feet_225 229 rfl ?_
        refine z_istore (M := M_X12_feet) 229 dX12_feet_229 (ls' := [some (mR 108), none, none, none, some (mI (12 + a2)), some (mI l5), some (mI 1), some (mI l7)]) (by decide) rfl ?_
        refine z_iincN (M := M_X12_feet) 231 dX12_feet_231 (ls' := [some (mR 108), none, none, none, some (mI (12 + a2)), some (mI l5), some (mI 1), some (mI (l7 + 1))]) (by decide) rfl (by (unfold m_32; decide)) (by omega) (by omega) rfl ?_
        refine z_goto (M := M_X12_feet) 234 dX12_feet_234 194 rfl ?_
        exact z_mask [true, false, false, false, true, true, true, true] rfl (ih l5 1 (l7 + 1) h G R (by omega) (by omega) (by omega) (by omega) (by omega) (by omega) (by omega) (by omega) (by omega) (by omega) (by omega) (by omega) i1 (ftW_y i2 (by omega) (by omega) ex9 ex10 (by omega)) (by omega))
theorem a_X12_feet3 (h0 : m_H) (a1 a2 a3 : Int) (G0 : GI h0) (hN : NP h0) : ∀ n, q_X12_feet3 h0 a1 a2 a3 n := by
  intro n
  induction n with
  | zero => unfold q_X12_feet3; intros; omega
  | succ n ih => exact s_X12_feet3_194 h0 a1 a2 a3 G0 hN n ih
set_option maxHeartbeats 4000000 in
set_option maxRecDepth 100000 in
theorem c_X12_feet3 (h0 : m_H) (a1 a2 a3 : Int) (G0 : GI h0) (hN : NP h0) : m_CI M_X12_feet [mR 108, mI a1, mI a2, mI a3] h0 (P_X12_feet3 h0 a1 a2 a3) := by
  refine m_CI_of ⟨by decide, rfl, by simp [m_arg, m_isL, M_X12_feet], ⟨rfl, rfl⟩, rfl, rfl⟩ (ls := [some (mR 108), some (mI a1), some (mI a2), some (mI a3), none, none, none, none]) rfl ?_
  have ih := a_X12_feet3 h0 a1 a2 a3 G0 hN 28
  refine z_ok (fun _ _ ok => ?_)
  have oa1 : m_32 a1 := ok 1 _ rfl
  unfold m_32 at oa1
  have oa2 : m_32 a2 := ok 2 _ rfl
  unfold m_32 at oa2
  have oa3 : m_32 a3 := ok 3 _ rfl
  unfold m_32 at oa3
  refine z_aload_n (M := M_X12_feet) 0 dX12_feet_0 rfl ?_
  refine z_iconst (M := M_X12_feet) 1 dX12_feet_1 ?_
  refine z_putIH (M := M_X12_feet) 2 dX12_feet_2 p_X12_133 o_108 rfl (u_108_0 G0) ((FR.rf (cs := [115, 116, 117, 118, 119, 120, 121, 122, 123, 124, 125, 126, 127, 128, 129, 130, 131, 132, 133, 134, 135, 136]) (ss := [(108, 0), (108, 21)]) (h := h0)).up rfl) (fun h1 E1 G1 R1 => ?_)
  refine z_iload_n (M := M_X12_feet) 5 dX12_feet_5 rfl ?_
  refine z_i2l (M := M_X12_feet) 6 dX12_feet_6 ?_
  refine z_lconst (M := M_X12_feet) 7 dX12_feet_7 (v := 0) ?_
  refine z_ldc2 (M := M_X12_feet) 8 dX12_feet_8 k_X12_385 ?_
  refine z_sI (M := M_X12_feet) 11 dX12_feet_11 t_X12_in l_X12_143 (m_rr_of rfl) (rest := []) (c_X12_in h1 a1 0 11 G1) rfl rfl (Nat.le_of_ble_eq_true rfl) ⟨rfl, rfl⟩ (fun x1 h2 qx1 => ?_)
  obtain ⟨rfl, ⟨rfl, cx1⟩ | ⟨rfl, cx1⟩⟩ := qx1
  · refine z_if_eq_F (M := M_X12_feet) 14 dX12_feet_14 46 rfl (by omega) ?_
    refine z_iload_n (M := M_X12_feet) 17 dX12_feet_17 rfl ?_
    refine z_sI (M := M_X12_feet) 18 dX12_feet_18 t_X12_isKeeper l_X12_169 (m_rr_of rfl) (rest := []) (c_X12_isKeeper h1 a2 G1) rfl rfl (Nat.le_of_ble_eq_true rfl) ⟨rfl, rfl⟩ (fun x2 h3 qx2 => ?_)
    obtain ⟨rfl, ⟨rfl, cx2⟩ | ⟨rfl, cx2⟩⟩ := qx2
    · refine z_if_eq_F (M := M_X12_feet) 21 dX12_feet_21 46 rfl (by omega) ?_
      refine z_iload_n (M := M_X12_feet) 24 dX12_feet_24 rfl ?_
      refine z_i2l (M := M_X12_feet) 25 dX12_feet_25 ?_
      refine z_lconst (M := M_X12_feet) 26 dX12_feet_26 (v := 0) ?_
      refine z_lconst (M := M_X12_feet) 27 dX12_feet_27 (v := 1) ?_
      refine z_sI (M := M_X12_feet) 28 dX12_feet_28 t_X12_in l_X12_143 (m_rr_of rfl) (rest := []) (c_X12_in h1 a3 0 1 G1) rfl rfl (Nat.le_of_ble_eq_true rfl) ⟨rfl, rfl⟩ (fun x3 h4 qx3 => ?_)
      obtain ⟨rfl, ⟨rfl, cx3⟩ | ⟨rfl, cx3⟩⟩ := qx3
      · refine z_if_eq_F (M := M_X12_feet) 31 dX12_feet_31 46 rfl (by omega) ?_
        refine z_aload_n (M := M_X12_feet) 34 dX12_feet_34 rfl ?_
        refine z_iload_n (M := M_X12_feet) 35 dX12_feet_35 rfl ?_
        refine z_bipush (M := M_X12_feet) 36 dX12_feet_36 ?_
        refine z_iload_n (M := M_X12_feet) 38 dX12_feet_38 rfl ?_
        refine z_iaddN (M := M_X12_feet) 39 dX12_feet_39 (by omega) (by omega) ?_
        refine z_vI (M := M_X12_feet) 40 dX12_feet_40 t_X12_isAnswered l_X12_394 (m_rr_of rfl) (rest := []) (c_X12_isAnswered2 h1 a1 (12 + a2) G1 (NP.call hN R1 (fun _ => rfl) (fun _ => rfl) (fun _ => rfl))) o_108 rfl rfl rfl (Nat.le_of_ble_eq_true rfl) ⟨rfl, rfl⟩ (fun x4 h5 qx4 => ?_)
        obtain ⟨G5, S5, ax4, bx4, fx4_0, fx4_1⟩ := qx4
        have R5 := R1.call S5 (by decide +kernel)
        have e1_ : h1 110 = h0 110 := FR.row R1 (fun _ => rfl)
        have e5_ : h5 110 = h0 110 := FR.row R5 (fun _ => rfl)
        rw [e1_] at fx4_1
        refine z_if_ne (M := M_X12_feet) 43 dX12_feet_43 49 rfl (fun c5 => ?_) (fun c5 => ?_)
        · have an := fx4_0 (by omega)
          have an1 := an.1
          have an2 := an.2.1
          refine z_aload_n (M := M_X12_feet) 49 dX12_feet_49 rfl ?_
          refine z_iload_n (M := M_X12_feet) 50 dX12_feet_50 rfl ?_
          refine z_if_ne (M := M_X12_feet) 51 dX12_feet_51 61 rfl (fun c6 => ?_) (fun c6 => ?_)
          · refine z_iload_n (M := M_X12_feet) 61 dX12_feet_61 rfl ?_
            refine z_vV (M := M_X12_feet) 62 dX12_feet_62 t_X12_goFrom l_X12_397 (m_rr_of rfl) (rest := []) (c_X12_goFrom2 h5 a1 G5 ⟨by omega, by omega⟩ (NP.call hN R5 (fun _ => rfl) (fun _ => rfl) (fun _ => rfl)) (gG_f (gG_b an.2.2 R1 (fun _ => rfl)) R5 (fun _ => rfl))) o_108 rfl rfl rfl (Nat.le_of_ble_eq_true rfl) ⟨rfl, rfl⟩ (fun h6 qx7 => ?_)
            obtain ⟨G6, S6, fx7_0, fx7_1⟩ := qx7
            rw [e5_] at fx7_1
            have b_ := fx7_1 (12 + a2).toNat (by omega)
            have g_ := fx7_0 (12 + a2).toNat (by omega)
            have k_ := fx4_1.mp (by omega)
            have R6 := R5.call S6 (by decide +kernel)
            refine z_iload_n (M := M_X12_feet) 65 dX12_feet_65 rfl ?_
            refine z_if_ne_T (M := M_X12_feet) 66 dX12_feet_66 73 rfl (by omega) ?_
            refine z_bipush (M := M_X12_feet) 73 dX12_feet_73 ?_
            refine z_iload_n (M := M_X12_feet) 75 dX12_feet_75 rfl ?_
            refine z_iaddN (M := M_X12_feet) 76 dX12_feet_76 (by omega) (by omega) ?_
            refine z_istore (M := M_X12_feet) 77 dX12_feet_77 (ls' := [some (mR 108), some (mI a1), some (mI a2), some (mI a3), some (mI (12 + a2)), none, none, none]) (by decide) rfl ?_
            refine z_aload_n (M := M_X12_feet) 79 dX12_feet_79 rfl ?_
            refine z_getR (M := M_X12_feet) 80 dX12_feet_80 f_X12_70 o_108 rfl (g_108_32 G6) ?_
            refine z_iload (M := M_X12_feet) 83 dX12_feet_83 rfl ?_
            refine z_zaldG (M := M_X12_feet) 85 dX12_feet_85 o_127 (by omega) (by omega) (g_127 G6 (by omega)) (fun x8 ex8 ax8 bx8 => ?_)
            refine z_if_ne (M := M_X12_feet) 86 dX12_feet_86 99 rfl (fun c9 => ?_) (fun c9 => ?_)
            · refine z_iload_n (M := M_X12_feet) 99 dX12_feet_99 rfl ?_
              refine z_if_ne_T (M := M_X12_feet) 100 dX12_feet_100 128 rfl (by omega) ?_
              refine z_aload_n (M := M_X12_feet) 128 dX12_feet_128 rfl ?_
              refine z_aload_n (M := M_X12_feet) 129 dX12_feet_129 rfl ?_
              refine z_getR (M := M_X12_feet) 130 dX12_feet_130 f_X12_64 o_108 rfl (g_108_30 G6) ?_
              refine z_iconst (M := M_X12_feet) 133 dX12_feet_133 ?_
              refine z_iload (M := M_X12_feet) 134 dX12_feet_134 rfl ?_
              refine z_imulN (M := M_X12_feet) 136 dX12_feet_136 (by omega) (by omega) ?_
              refine z_aload_n (M := M_X12_feet) 137 dX12_feet_137 rfl ?_
              refine z_getR (M := M_X12_feet) 138 dX12_feet_138 f_X12_61 o_108 rfl (g_108_29 G6) ?_
              refine z_iconst (M := M_X12_feet) 141 dX12_feet_141 ?_
              refine z_iload (M := M_X12_feet) 142 dX12_feet_142 rfl ?_
              refine z_imulN (M := M_X12_feet) 144 dX12_feet_144 (by omega) (by omega) ?_
              refine z_iconst (M := M_X12_feet) 145 dX12_feet_145 ?_
              refine z_sipush (M := M_X12_feet) 146 dX12_feet_146 ?_
              refine z_vI (M := M_X12_feet) 149 dX12_feet_149 t_X12_share l_X12_402 (m_rr_of rfl) (rest := []) (c_X12_share2 h6 125 124 (5 * (12 + a2)) (5 * (12 + a2)) 1 2001 (Or.inr rfl) (Or.inl rfl) G6 ⟨by omega, by omega⟩ ⟨by omega, by omega⟩ ⟨by omega, by omega⟩ ⟨by omega, by omega⟩) o_108 rfl rfl rfl (Nat.le_of_ble_eq_true rfl) ⟨rfl, rfl⟩ (fun x10 h7 qx10 => ?_)
              obtain ⟨G7, S7, ax10, bx10, fx10⟩ := qx10
              have R7 := R6.call S7 (by decide +kernel)
              refine z_istore (M := M_X12_feet) 152 dX12_feet_152 (ls' := [some (mR 108), some (mI a1), some (mI a2), some (mI a3), some (mI (12 + a2)), some (mI x10), none, none]) (by decide) rfl ?_
              refine z_aload_n (M := M_X12_feet) 154 dX12_feet_154 rfl ?_
              refine z_getR (M := M_X12_feet) 155 dX12_feet_155 f_X12_94 o_108 rfl (g_108_40 G7) ?_
              refine z_aload_n (M := M_X12_feet) 158 dX12_feet_158 rfl ?_
              refine z_getR (M := M_X12_feet) 159 dX12_feet_159 f_X12_64 o_108 rfl (g_108_30 G7) ?_
              refine z_iconst (M := M_X12_feet) 162 dX12_feet_162 ?_
              refine z_iload (M := M_X12_feet) 163 dX12_feet_163 rfl ?_
              refine z_imulN (M := M_X12_feet) 165 dX12_feet_165 (by omega) (by omega) ?_
              refine z_lconst (M := M_X12_feet) 166 dX12_feet_166 (v := 1) ?_
              refine z_sV (M := M_X12_feet) 167 dX12_feet_167 t_X12_wide l_X12_387 (m_rr_of rfl) (rest := []) (c_X12_wide80x h7 135 125 (5 * (12 + a2)) 1 (Or.inl rfl) (Or.inr rfl) G7 ⟨by omega, by omega⟩ ⟨by omega, by omega⟩) rfl rfl (Nat.le_of_ble_eq_true rfl) ⟨rfl, rfl⟩ (fun h8 qx11 => ?_)
              obtain ⟨G8, S8, fx11_0, fx11_1⟩ := qx11
              have R8 := R7.call S8 (by decide +kernel)
              refine z_aload_n (M := M_X12_feet) 170 dX12_feet_170 rfl ?_
              refine z_getR (M := M_X12_feet) 171 dX12_feet_171 f_X12_97 o_108 rfl (g_108_41 G8) ?_
              refine z_aload_n (M := M_X12_feet) 174 dX12_feet_174 rfl ?_
              refine z_getR (M := M_X12_feet) 175 dX12_feet_175 f_X12_61 o_108 rfl (g_108_29 G8) ?_
              refine z_iconst (M := M_X12_feet) 178 dX12_feet_178 ?_
              refine z_iload (M := M_X12_feet) 179 dX12_feet_179 rfl ?_
              refine z_imulN (M := M_X12_feet) 181 dX12_feet_181 (by omega) (by omega) ?_
              refine z_iload (M := M_X12_feet) 182 dX12_feet_182 rfl ?_
              refine z_i2l (M := M_X12_feet) 184 dX12_feet_184 ?_
              refine z_sV (M := M_X12_feet) 185 dX12_feet_185 t_X12_wide l_X12_387 (m_rr_of rfl) (rest := []) (c_X12_wide80x h8 136 124 (5 * (12 + a2)) x10 (Or.inr rfl) (Or.inl rfl) G8 ⟨by omega, by omega⟩ ⟨by omega, by omega⟩) rfl rfl (Nat.le_of_ble_eq_true rfl) ⟨rfl, rfl⟩ (fun h9 qx12 => ?_)
              obtain ⟨G9, S9, fx12_0, fx12_1⟩ := qx12
              have R9 := R8.call S9 (by decide +kernel)
              refine z_iconst (M := M_X12_feet) 188 dX12_feet_188 ?_
              refine z_istore (M := M_X12_feet) 189 dX12_feet_189 (ls' := [some (mR 108), some (mI a1), some (mI a2), some (mI a3), some (mI (12 + a2)), some (mI x10), some (mI 1), none]) (by decide) rfl ?_
              refine z_iconst (M := M_X12_feet) 191 dX12_feet_191 ?_
              refine z_istore (M := M_X12_feet) 192 dX12_feet_192 (ls' := [some (mR 108), some (mI a1), some (mI a2), some (mI a3), some (mI (12 + a2)), some (mI x10), some (mI 1), some (mI 0)]) (by decide) rfl ?_
              exact z_mask [true, false, false, false, true, true, true, true] rfl (ih x10 1 0 h9 G9 R9 (by omega) (by omega) (by omega) (by omega) (by omega) (by omega) (by omega) (by omega) (by omega) (by omega) (by omega) (by omega) (ft_in (by omega) ⟨cx1, ⟨by omega, by omega⟩, k_.1, k_.2.2⟩ g_ b_ (by omega) fx10 S7 S8 S9 fx11_0 fx11_1 fx12_0 fx12_1) ⟨fun _ j hj => absurd hj (Nat.not_lt_zero _), fun _ => rfl⟩ (by omega))
            · refine z_iload_n (M := M_X12_feet) 89 dX12_feet_89 rfl ?_
              refine z_if_ne_T (M := M_X12_feet) 90 dX12_feet_90 97 rfl (by omega) ?_
              refine z_iconst (M := M_X12_feet) 97 dX12_feet_97 ?_
              exact z_retI (M := M_X12_feet) 98 dX12_feet_98 rfl ⟨G6, R6, by omega, by omega, Or.inr ⟨⟨⟨by omega, by omega⟩, ⟨cx1, ⟨by omega, by omega⟩, k_.1, k_.2.2⟩⟩, Or.inr ⟨by omega, (1, 0, 1), ⟨by have z := b_; rw [bOf_n ex8 (by omega)] at z; exact z, fun _ => rfl⟩, by decide⟩⟩⟩
          · refine z_bipush (M := M_X12_feet) 54 dX12_feet_54 ?_
            refine z_iload_n (M := M_X12_feet) 56 dX12_feet_56 rfl ?_
            refine z_iaddN (M := M_X12_feet) 57 dX12_feet_57 (by omega) (by omega) ?_
            refine z_goto (M := M_X12_feet) 58 dX12_feet_58 62 rfl ?_
            refine z_vV (M := M_X12_feet) 62 dX12_feet_62 t_X12_goFrom l_X12_397 (m_rr_of rfl) (rest := []) (c_X12_goFrom2 h5 (12 + a2) G5 ⟨by omega, by omega⟩ (NP.call hN R5 (fun _ => rfl) (fun _ => rfl) (fun _ => rfl)) (gG_f (gG_b an.2.2 R1 (fun _ => rfl)) R5 (fun _ => rfl))) o_108 rfl rfl rfl (Nat.le_of_ble_eq_true rfl) ⟨rfl, rfl⟩ (fun h10 qx13 => ?_)
            obtain ⟨G10, S10, fx13_0, fx13_1⟩ := qx13
            rw [e5_] at fx13_1
            have b_ := fx13_1 a1.toNat (by omega)
            have g_ := fx13_0 a1.toNat (by omega)
            have k_ := fx4_1.mp (by omega)
            have R10 := R5.call S10 (by decide +kernel)
            refine z_iload_n (M := M_X12_feet) 65 dX12_feet_65 rfl ?_
            refine z_if_ne_F (M := M_X12_feet) 66 dX12_feet_66 73 rfl (by omega) ?_
            refine z_iload_n (M := M_X12_feet) 69 dX12_feet_69 rfl ?_
            refine z_goto (M := M_X12_feet) 70 dX12_feet_70 77 rfl ?_
            refine z_istore (M := M_X12_feet) 77 dX12_feet_77 (ls' := [some (mR 108), some (mI a1), some (mI a2), some (mI a3), some (mI a1), none, none, none]) (by decide) rfl ?_
            refine z_aload_n (M := M_X12_feet) 79 dX12_feet_79 rfl ?_
            refine z_getR (M := M_X12_feet) 80 dX12_feet_80 f_X12_70 o_108 rfl (g_108_32 G10) ?_
            refine z_iload (M := M_X12_feet) 83 dX12_feet_83 rfl ?_
            refine z_zaldG (M := M_X12_feet) 85 dX12_feet_85 o_127 (by omega) (by omega) (g_127 G10 (by omega)) (fun x14 ex14 ax14 bx14 => ?_)
            refine z_if_ne (M := M_X12_feet) 86 dX12_feet_86 99 rfl (fun c15 => ?_) (fun c15 => ?_)
            · refine z_iload_n (M := M_X12_feet) 99 dX12_feet_99 rfl ?_
              refine z_if_ne_F (M := M_X12_feet) 100 dX12_feet_100 128 rfl (by omega) ?_
              refine z_aload_n (M := M_X12_feet) 103 dX12_feet_103 rfl ?_
              refine z_aload_n (M := M_X12_feet) 104 dX12_feet_104 rfl ?_
              refine z_getR (M := M_X12_feet) 105 dX12_feet_105 f_X12_61 o_108 rfl (g_108_29 G10) ?_
              refine z_iconst (M := M_X12_feet) 108 dX12_feet_108 ?_
              refine z_iload (M := M_X12_feet) 109 dX12_feet_109 rfl ?_
              refine z_imulN (M := M_X12_feet) 111 dX12_feet_111 (by omega) (by omega) ?_
              refine z_aload_n (M := M_X12_feet) 112 dX12_feet_112 rfl ?_
              refine z_getR (M := M_X12_feet) 113 dX12_feet_113 f_X12_64 o_108 rfl (g_108_30 G10) ?_
              refine z_iconst (M := M_X12_feet) 116 dX12_feet_116 ?_
              refine z_iload (M := M_X12_feet) 117 dX12_feet_117 rfl ?_
              refine z_imulN (M := M_X12_feet) 119 dX12_feet_119 (by omega) (by omega) ?_
              refine z_iconst (M := M_X12_feet) 120 dX12_feet_120 ?_
              refine z_sipush (M := M_X12_feet) 121 dX12_feet_121 ?_
              refine z_vI (M := M_X12_feet) 124 dX12_feet_124 t_X12_share l_X12_402 (m_rr_of rfl) (rest := []) (c_X12_share3 h10 124 125 (5 * a1) (5 * a1) 1 2000 (Or.inl rfl) (Or.inr rfl) G10 ⟨by omega, by omega⟩ ⟨by omega, by omega⟩ ⟨by omega, by omega⟩ ⟨by omega, by omega⟩) o_108 rfl rfl rfl (Nat.le_of_ble_eq_true rfl) ⟨rfl, rfl⟩ (fun x16 h11 qx16 => ?_)
              obtain ⟨G11, S11, ax16, bx16, fx16, cx16⟩ := qx16
              have R11 := R10.call S11 (by decide +kernel)
              exact z_retI (M := M_X12_feet) 127 dX12_feet_127 rfl ⟨G11, R11, by omega, by omega, Or.inr ⟨⟨⟨by omega, by omega⟩, ⟨cx1, ⟨by omega, by omega⟩, k_.1, k_.2.2⟩⟩, Or.inl ⟨by omega, (vS (h10 125) (5 * a1.toNat) 5, vS (h10 124) (5 * a1.toNat) 5, h10 126 a1.toNat), ⟨by have z := b_; rw [bOf_y ex14 (by omega)] at z; exact z, fun z => absurd (show vS (h10 124) (5 * a1.toNat) 5 = 0 from z) (by have y : 1 ≤ vS (h10 124) (5 * a1.toNat) 5 := (g_.2.2 (ex14.trans (by omega))).1.1; omega)⟩, ft_l (by have y : 1 ≤ vS (h10 125) (5 * a1.toNat) 5 := (g_.2.2 (ex14.trans (by omega))).2.1; show 0 < vS (h10 125) (5 * a1.toNat) 5; omega) (by have z := fx16; rw [at5 (by omega)] at z; exact z) cx16⟩⟩⟩
            · refine z_iload_n (M := M_X12_feet) 89 dX12_feet_89 rfl ?_
              refine z_if_ne_F (M := M_X12_feet) 90 dX12_feet_90 97 rfl (by omega) ?_
              refine z_iconst (M := M_X12_feet) 93 dX12_feet_93 ?_
              refine z_goto (M := M_X12_feet) 94 dX12_feet_94 98 rfl ?_
              exact z_retI (M := M_X12_feet) 98 dX12_feet_98 rfl ⟨G10, R10, by omega, by omega, Or.inr ⟨⟨⟨by omega, by omega⟩, ⟨cx1, ⟨by omega, by omega⟩, k_.1, k_.2.2⟩⟩, Or.inl ⟨by omega, (1, 0, 1), ⟨by have z := b_; rw [bOf_n ex14 (by omega)] at z; exact z, fun _ => rfl⟩, by decide⟩⟩⟩
        · refine z_bipush (M := M_X12_feet) 46 dX12_feet_46 ?_
          exact z_retI (M := M_X12_feet) 48 dX12_feet_48 rfl ⟨G5, R5, by omega, by omega, Or.inl ⟨fun z => absurd (fx4_1.mpr ⟨z.2.2.2.1, ⟨by omega, by omega, Or.inr (Or.inl (by omega))⟩, z.2.2.2.2⟩) (by omega), rfl⟩⟩
      · refine z_if_eq_T (M := M_X12_feet) 31 dX12_feet_31 46 rfl (by omega) ?_
        refine z_bipush (M := M_X12_feet) 46 dX12_feet_46 ?_
        exact z_retI (M := M_X12_feet) 48 dX12_feet_48 rfl ⟨G1, R1, by omega, by omega, Or.inl ⟨fun z => cx3 z.1, rfl⟩⟩
    · refine z_if_eq_T (M := M_X12_feet) 21 dX12_feet_21 46 rfl (by omega) ?_
      refine z_bipush (M := M_X12_feet) 46 dX12_feet_46 ?_
      exact z_retI (M := M_X12_feet) 48 dX12_feet_48 rfl ⟨G1, R1, by omega, by omega, Or.inl ⟨fun z => cx2 z.2.2.1, rfl⟩⟩
  · refine z_if_eq_T (M := M_X12_feet) 14 dX12_feet_14 46 rfl (by omega) ?_
    refine z_bipush (M := M_X12_feet) 46 dX12_feet_46 ?_
    exact z_retI (M := M_X12_feet) 48 dX12_feet_48 rfl ⟨G1, R1, by omega, by omega, Or.inl ⟨fun z => cx1 z.2.1, rfl⟩⟩
theorem LX.feet {h h1 : m_H} {a b w x y : Int} {cs : List Nat} {ss : List (Nat × Nat)} (G : GI h) (N : NP h) (S1 : FR cs ss h h1) (A : ftQ (h 110) a b w x) (B : ftQ (h1 110) a b w y) (o : out 110 110 cs ss = true) : x = y := by
  rw [rowz S1 (fr_out o (by decide) (by decide))] at B
  exact ft_eq (bR_ok G N) A B
