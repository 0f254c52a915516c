/-! part: reduced ratios -/
def gd (a b : Int) : Int := ((Nat.gcd a.toNat b.toNat : Nat) : Int)
theorem gd_0 {x : Int} (h : 0 ≤ x) : gd x 0 = x := by
  unfold gd
  rw [show (0 : Int).toNat = 0 from rfl, Nat.gcd_zero_right]; omega
theorem gd_c (a b : Int) : gd a b = gd b a := by unfold gd; rw [Nat.gcd_comm]
theorem gd_s {x y : Int} (hx : 0 ≤ x) (hy : 0 ≤ y) : gd y (x % y) = gd x y := by
  unfold gd
  rw [Int.toNat_emod hx hy, Nat.gcd_comm x.toNat, Nat.gcd_rec y.toNat x.toNat, Nat.gcd_comm]
theorem gd_p {a b : Int} (ha : 0 < a) : 0 < gd a b := by
  unfold gd
  have := Nat.gcd_pos_of_pos_left b.toNat (show 0 < a.toNat by omega)
  omega
theorem gd_m {m a b : Int} (hm : 0 ≤ m) (ha : 0 ≤ a) (hb : 0 ≤ b) : gd (m * a) (m * b) = m * gd a b := by
  unfold gd
  rw [Int.toNat_mul hm ha, Int.toNat_mul hm hb, Nat.gcd_mul_left, Int.natCast_mul, Int.toNat_of_nonneg hm]
theorem gd_dv {a : Int} (b : Int) (ha : 0 ≤ a) : ∃ k, a = gd a b * k := by
  obtain ⟨k, hk⟩ := Nat.gcd_dvd_left a.toNat b.toNat
  refine ⟨(k : Int), ?_⟩
  have e : ((a.toNat : Nat) : Int) = ((Nat.gcd a.toNat b.toNat * k : Nat) : Int) := congrArg _ hk
  rw [Int.natCast_mul, Int.toNat_of_nonneg ha] at e
  exact e
theorem gd_x {a : Int} (b : Int) (ha : 0 < a) : gd a b * (a / gd a b) = a := by
  obtain ⟨k, hk⟩ := gd_dv b (Int.le_of_lt ha)
  have g := gd_p (b := b) ha
  have q : a / gd a b = k := by
    have z := Int.mul_ediv_cancel_left k (Int.ne_of_gt g)
    rw [← hk] at z; exact z
  rw [q]; exact hk.symm
theorem rd_eq {t l t' l' : Int} (ht : 0 < t) (ht' : 0 < t') (hl : 0 ≤ l) (hl' : 0 ≤ l') (e : t * l' = t' * l) : t / gd t l = t' / gd t' l' ∧ l / gd t l = l' / gd t' l' := by
  have g := gd_p (b := l) ht
  have g' := gd_p (b := l') ht'
  have k : t * gd t' l' = t' * gd t l := by
    rw [← gd_m (Int.le_of_lt ht) (Int.le_of_lt ht') hl', ← gd_m (Int.le_of_lt ht') (Int.le_of_lt ht) hl, e, Int.mul_comm t t']
  refine ⟨sc_div g g' ?_, sc_div g g' ?_⟩
  · rw [Int.mul_comm (gd t l), Int.mul_comm (gd t' l')]; exact k.symm
  · refine Int.eq_of_mul_eq_mul_left (Int.ne_of_gt ht) ?_
    have k1 : t * (gd t l * l') = gd t l * (t * l') := by ac_rfl
    have k2 : t * (gd t' l' * l) = l * (t * gd t' l') := by ac_rfl
    rw [k1, k2, e, k]; ac_rfl
/-- Euclid's steps: few -/
def cdI (a b x y i : Int) : Prop := (0 ≤ x ∧ 0 ≤ y) ∧ gd x y = gd a b ∧ ((i = 0 ∧ x ≤ 1600000000 ∧ y ≤ 1600000000) ∨ (1 ≤ i ∧ y ≤ x ∧ x * y * (2 : Int) ^ (i - 1).toNat ≤ 4611686018427387904))
theorem cdI_s {a b x y i r : Int} (I : cdI a b x y i) (hy : y ≠ 0) (hi : 0 ≤ i) (e : x % y = r) : cdI a b y r (i + 1) := by
  obtain ⟨⟨x0, y0⟩, g, c⟩ := I
  have y1 : 0 < y := by omega
  have r0 := Int.emod_nonneg x hy
  have r1 := Int.emod_lt_of_pos x y1
  rw [e] at r0 r1
  refine ⟨⟨y0, r0⟩, by rw [← e, gd_s x0 y0]; exact g, Or.inr ⟨by omega, by omega, ?_⟩⟩
  rw [show i + 1 - 1 = i by omega]
  rcases c with ⟨i0, xw, yw⟩ | ⟨i1, yx, p⟩
  · subst i0
    have m := mul_bd y0 yw r0 (show r ≤ 1600000000 by omega)
    show y * r * (2 : Int) ^ 0 ≤ _
    rw [Int.pow_zero, Int.mul_one]
    omega
  · have hr : 2 * r ≤ x := by
      have d := Int.emod_def x y
      rw [e] at d
      have q : 1 ≤ x / y := Int.le_ediv_of_mul_le y1 (by omega)
      have m := Int.mul_le_mul_of_nonneg_left q y0
      omega
    have m := Int.mul_le_mul_of_nonneg_left hr y0
    have k : i.toNat = (i - 1).toNat + 1 := by omega
    rw [k, Int.pow_succ]
    have p2 : (0 : Int) ≤ (2 : Int) ^ (i - 1).toNat := Int.le_of_lt (Int.pow_pos (by decide))
    have m2 := Int.mul_le_mul_of_nonneg_right m p2
    have k1 : y * r * ((2 : Int) ^ (i - 1).toNat * 2) = y * (2 * r) * (2 : Int) ^ (i - 1).toNat := by ac_rfl
    rw [k1]
    rw [Int.mul_comm y x] at m2
    omega
theorem cdI_e {a b x y i : Int} (I : cdI a b x y i) (h : i = 200 ∨ y = 0) : gd a b = x := by
  obtain ⟨⟨x0, y0⟩, g, c⟩ := I
  have yz : y = 0 := by
    rcases h with z | z
    · subst z
      rcases c with ⟨z, _⟩ | ⟨_, yx, p⟩
      · omega
      · by_cases q : y = 0
        · exact q
        · exfalso
          have m := Int.mul_le_mul (show 1 ≤ x by omega) (show 1 ≤ y by omega) (by decide) x0
          have p2 : (0 : Int) ≤ (2 : Int) ^ (200 - 1 : Int).toNat := Int.le_of_lt (Int.pow_pos (by decide))
          have m2 := Int.mul_le_mul_of_nonneg_right m p2
          have k : (4611686018427387904 : Int) < (2 : Int) ^ (200 - 1 : Int).toNat := by decide
          omega
    · exact z
  rw [← g, yz, gd_0 x0]
abbrev P_X11_commonDivisor4 (h0 : m_H) (a0 a1 : Int) : Int → m_H → Prop := fun x h' => GI h' ∧ FR [] [] h0 h' ∧ gd a0 a1 = x
def q_X11_commonDivisor4 (h0 : m_H) (a0 a1 : Int) (n : Nat) : Prop := (∀ (l4 l6 l8 : Int) (h : m_H), GI h → FR [] [] h0 h → 0 ≤ l8 → l8 ≤ 200 → (cdI a0 a1 l4 l6 l8) → 2 * (200 - l8) + (1) ≤ (n : Int) → m_Z oF M_X11_commonDivisor 9 [none, none, none, none, some (mJ l4), none, some (mJ l6), none, some (mI l8), none, none] [] h (m_QJ (P_X11_commonDivisor4 h0 a0 a1)))
set_option maxHeartbeats 4000000 in
set_option maxRecDepth 100000 in
theorem s_X11_commonDivisor4_9 (h0 : m_H) (a0 a1 : Int) (G0 : GI h0) (p0 : 0 ≤ a0 ∧ a0 ≤ 1600000000) (p1 : 0 ≤ a1 ∧ a1 ≤ 1600000000) (n : Nat) (ih : q_X11_commonDivisor4 h0 a0 a1 n) : ∀ (l4 l6 l8 : Int) (h : m_H), GI h → FR [] [] h0 h → 0 ≤ l8 → l8 ≤ 200 → (cdI a0 a1 l4 l6 l8) → 2 * (200 - l8) + (1) ≤ ((n + 1 : Nat) : Int) → m_Z oF M_X11_commonDivisor 9 [none, none, none, none, some (mJ l4), none, some (mJ l6), none, some (mI l8), none, none] [] h (m_QJ (P_X11_commonDivisor4 h0 a0 a1)) := by
  intro l4 l6 l8 h G R v0 v1 i0 hr
  have i1 := i0.1
  refine z_iload (M := M_X11_commonDivisor) 9 dX11_commonDivisor_9 rfl ?_
  refine z_sipush (M := M_X11_commonDivisor) 11 dX11_commonDivisor_11 ?_
  refine z_icmp_ge (M := M_X11_commonDivisor) 14 dX11_commonDivisor_14 45 rfl (fun c1 => ?_) (fun c1 => ?_)
  · refine z_lload (M := M_X11_commonDivisor) 45 dX11_commonDivisor_45 rfl ?_
    exact z_retJ (M := M_X11_commonDivisor) 47 dX11_commonDivisor_47 rfl ⟨G, R, cdI_e i0 (Or.inl (by omega))⟩
  · refine z_lload (M := M_X11_commonDivisor) 17 dX11_commonDivisor_17 rfl ?_
    refine z_lconst (M := M_X11_commonDivisor) 19 dX11_commonDivisor_19 (v := 0) ?_
    refine z_lcmp (M := M_X11_commonDivisor) 20 dX11_commonDivisor_20 ?_
    refine z_if_eq (M := M_X11_commonDivisor) 21 dX11_commonDivisor_21 45 rfl (fun c2 => ?_) (fun c2 => ?_)
    · rw [m_cmp_eq] at c2
      refine z_lload (M := M_X11_commonDivisor) 45 dX11_commonDivisor_45 rfl ?_
      exact z_retJ (M := M_X11_commonDivisor) 47 dX11_commonDivisor_47 rfl ⟨G, R, cdI_e i0 (Or.inr (by omega))⟩
    · rw [m_cmp_eq] at c2
      refine z_lload (M := M_X11_commonDivisor) 24 dX11_commonDivisor_24 rfl ?_
      refine z_lload (M := M_X11_commonDivisor) 26 dX11_commonDivisor_26 rfl ?_
      refine z_lremN (M := M_X11_commonDivisor) 28 dX11_commonDivisor_28 (by omega) (by omega) ?_
      refine z_topJ (fun x3 ex3 => ?_)
      refine z_lstore (M := M_X11_commonDivisor) 29 dX11_commonDivisor_29 (ls' := [none, none, none, none, some (mJ l4), none, some (mJ l6), none, some (mI l8), some (mJ x3), none]) (by decide) rfl ?_
      refine z_lload (M := M_X11_commonDivisor) 31 dX11_commonDivisor_31 rfl ?_
      refine z_lstore (M := M_X11_commonDivisor) 33 dX11_commonDivisor_33 (ls' := [none, none, none, none, some (mJ l6), none, some (mJ l6), none, some (mI l8), some (mJ x3), none]) (by decide) rfl ?_
      refine z_lload (M := M_X11_commonDivisor) 35 dX11_commonDivisor_35 rfl ?_
      refine z_lstore (M := M_X11_commonDivisor) 37 dX11_commonDivisor_37 (ls' := [none, none, none, none, some (mJ l6), none, some (mJ x3), none, some (mI l8), some (mJ x3), none]) (by decide) rfl ?_
      refine z_iincN (M := M_X11_commonDivisor) 39 dX11_commonDivisor_39 (ls' := [none, none, none, none, some (mJ l6), none, some (mJ x3), none, some (mI (l8 + 1)), some (mJ x3), none]) (by decide) rfl (by (unfold m_32; decide)) (by omega) (by omega) rfl ?_
      refine z_goto (M := M_X11_commonDivisor) 42 dX11_commonDivisor_42 9 rfl ?_
      exact z_mask [false, false, false, false, true, false, true, false, true, false, false] rfl (ih l6 x3 (l8 + 1) h G R (by omega) (by omega) (cdI_s i0 (by omega) (by omega) ex3) (by omega))
theorem a_X11_commonDivisor4 (h0 : m_H) (a0 a1 : Int) (G0 : GI h0) (p0 : 0 ≤ a0 ∧ a0 ≤ 1600000000) (p1 : 0 ≤ a1 ∧ a1 ≤ 1600000000) : ∀ n, q_X11_commonDivisor4 h0 a0 a1 n := by
  intro n
  induction n with
  | zero => unfold q_X11_commonDivisor4; intros; omega
  | succ n ih => exact s_X11_commonDivisor4_9 h0 a0 a1 G0 p0 p1 n ih
set_option maxHeartbeats 4000000 in
set_option maxRecDepth 100000 in
theorem c_X11_commonDivisor4 (h0 : m_H) (a0 a1 : Int) (G0 : GI h0) (p0 : 0 ≤ a0 ∧ a0 ≤ 1600000000) (p1 : 0 ≤ a1 ∧ a1 ≤ 1600000000) : m_CJ M_X11_commonDivisor [mJ a0, mJ a1] h0 (P_X11_commonDivisor4 h0 a0 a1) := by
  refine m_CJ_of ⟨by decide, rfl, by simp [m_arg, m_isL, M_X11_commonDivisor], ⟨rfl, rfl⟩, rfl, rfl⟩ (ls := [some (mJ a0), none, some (mJ a1), none, none, none, none, none, none, none, none]) rfl ?_
  have ih := a_X11_commonDivisor4 h0 a0 a1 G0 p0 p1 408
  refine z_lload_n (M := M_X11_commonDivisor) 0 dX11_commonDivisor_0 rfl ?_
  refine z_lstore (M := M_X11_commonDivisor) 1 dX11_commonDivisor_1 (ls' := [some (mJ a0), none, some (mJ a1), none, some (mJ a0), none, none, none, none, none, none]) (by decide) rfl ?_
  refine z_lload_n (M := M_X11_commonDivisor) 3 dX11_commonDivisor_3 rfl ?_
  refine z_lstore (M := M_X11_commonDivisor) 4 dX11_commonDivisor_4 (ls' := [some (mJ a0), none, some (mJ a1), none, some (mJ a0), none, some (mJ a1), none, none, none, none]) (by decide) rfl ?_
  refine z_iconst (M := M_X11_commonDivisor) 6 dX11_commonDivisor_6 ?_
  refine z_istore (M := M_X11_commonDivisor) 7 dX11_commonDivisor_7 (ls' := [some (mJ a0), none, some (mJ a1), none, some (mJ a0), none, some (mJ a1), none, some (mI 0), none, none]) (by decide) rfl ?_
  exact z_mask [false, false, false, false, true, false, true, false, true, false, false] rfl (ih a0 a1 0 h0 G0 (FR.rf (cs := []) (ss := []) (h := h0)) (by omega) (by omega) ⟨⟨by omega, by omega⟩, rfl, Or.inl ⟨rfl, by omega, by omega⟩⟩ (by omega))
abbrev P_X7_isTheSame4 (h0 : m_H) : Int → m_H → Prop := fun x h' => GI h' ∧ FR [] [] h0 h' ∧ 0 ≤ x ∧ x ≤ 1 ∧ (x = 1 ↔ (bd h0 95).1 * (bd h0 94).1 = (bd h0 95).2.1 * (bd h0 94).2.1)
set_option maxHeartbeats 4000000 in
set_option maxRecDepth 100000 in
theorem c_X7_isTheSame4 (h0 : m_H) (G0 : GI h0) (q95 : (0 < h0 95 0 ∧ h0 95 0 ≤ 1600000000) ∧ 0 ≤ h0 95 1 ∧ h0 95 1 ≤ 1600000000) (q94 : (0 < h0 94 0 ∧ h0 94 0 ≤ 1600000000) ∧ 0 ≤ h0 94 1 ∧ h0 94 1 ≤ 1600000000) : m_CI M_X7_isTheSame [mR 93] h0 (P_X7_isTheSame4 h0) := by
  refine m_CI_of ⟨by decide, rfl, by simp [m_arg, m_isL, M_X7_isTheSame], ⟨rfl, rfl⟩, rfl, rfl⟩ (ls := [some (mR 93)]) rfl ?_
  refine z_aload_n (M := M_X7_isTheSame) 0 dX7_isTheSame_0 rfl ?_
  refine z_getR (M := M_X7_isTheSame) 1 dX7_isTheSame_1 f_X7_18 o_93 rfl (g_93_1 G0) ?_
  refine z_getJV (M := M_X7_isTheSame) 4 dX7_isTheSame_4 f_X7_33 o_95 rfl (fun x1 ex1 => ?_)
  rw [ex1] at q95
  refine z_aload_n (M := M_X7_isTheSame) 7 dX7_isTheSame_7 rfl ?_
  refine z_getR (M := M_X7_isTheSame) 8 dX7_isTheSame_8 f_X7_12 o_93 rfl (g_93_0 G0) ?_
  refine z_getJV (M := M_X7_isTheSame) 11 dX7_isTheSame_11 f_X7_33 o_94 rfl (fun x2 ex2 => ?_)
  rw [ex2] at q94
  have mx3 := mul_bd (x := x1) (y := x2) (X := 1600000000) (Y := 1600000000) (by omega) (by omega) (by omega) (by omega)
  refine z_lmulN (M := M_X7_isTheSame) 14 dX7_isTheSame_14 (by omega) (by omega) ?_
  refine z_topBJ (lo := 0) (hi := 2560000000000000000) ⟨by omega, by omega⟩ (fun x3 ex3 ax3 bx3 => ?_)
  refine z_aload_n (M := M_X7_isTheSame) 15 dX7_isTheSame_15 rfl ?_
  refine z_getR (M := M_X7_isTheSame) 16 dX7_isTheSame_16 f_X7_18 o_93 rfl (g_93_1 G0) ?_
  refine z_getJV (M := M_X7_isTheSame) 19 dX7_isTheSame_19 f_X7_29 o_95 rfl (fun x4 ex4 => ?_)
  rw [ex4] at q95
  refine z_aload_n (M := M_X7_isTheSame) 22 dX7_isTheSame_22 rfl ?_
  refine z_getR (M := M_X7_isTheSame) 23 dX7_isTheSame_23 f_X7_12 o_93 rfl (g_93_0 G0) ?_
  refine z_getJV (M := M_X7_isTheSame) 26 dX7_isTheSame_26 f_X7_29 o_94 rfl (fun x5 ex5 => ?_)
  rw [ex5] at q94
  have mx6 := mul_bd (x := x4) (y := x5) (X := 1600000000) (Y := 1600000000) (by omega) (by omega) (by omega) (by omega)
  refine z_lmulN (M := M_X7_isTheSame) 29 dX7_isTheSame_29 (by omega) (by omega) ?_
  refine z_topBJ (lo := 0) (hi := 2560000000000000000) ⟨by omega, by omega⟩ (fun x6 ex6 ax6 bx6 => ?_)
  refine z_lcmp (M := M_X7_isTheSame) 30 dX7_isTheSame_30 ?_
  refine z_if_ne (M := M_X7_isTheSame) 31 dX7_isTheSame_31 38 rfl (fun c7 => ?_) (fun c7 => ?_)
  · rw [m_cmp_eq] at c7
    refine z_iconst (M := M_X7_isTheSame) 38 dX7_isTheSame_38 ?_
    exact z_retZ (M := M_X7_isTheSame) 39 dX7_isTheSame_39 rfl (by omega) ⟨G0, (FR.rf (cs := []) (ss := []) (h := h0)), by omega, by omega, ⟨fun z => absurd z (by decide), fun z => absurd ((show h0 95 0 * h0 94 0 = h0 95 1 * h0 94 1 ↔ x3 = x6 by rw [ex1, ex2, ex4, ex5, ex3, ex6]).mp z) c7⟩⟩
  · rw [m_cmp_eq] at c7
    refine z_iconst (M := M_X7_isTheSame) 34 dX7_isTheSame_34 ?_
    refine z_goto (M := M_X7_isTheSame) 35 dX7_isTheSame_35 39 rfl ?_
    exact z_retZ (M := M_X7_isTheSame) 39 dX7_isTheSame_39 rfl (by omega) ⟨G0, (FR.rf (cs := []) (ss := []) (h := h0)), by omega, by omega, ⟨fun _ => (show h0 95 0 * h0 94 0 = h0 95 1 * h0 94 1 ↔ x3 = x6 by rw [ex1, ex2, ex4, ex5, ex3, ex6]).mpr (by omega), fun _ => rfl⟩⟩
def ptK (r : Nat → Int) (a b w : Int) : Prop := (0 ≤ w ∧ w ≤ 1) ∧ thr r a ∧ thr r b ∧ ¬ gain (bR r)
def ptV (B C : Int × Int × Int) (w x : Int) : Prop := (¬ C.1 * B.1 = C.2.1 * B.2.1 ∧ x = 0) ∨ (C.1 * B.1 = C.2.1 * B.2.1 ∧ ((w = 0 ∧ C.1 / gd C.1 C.2.1 = x) ∨ (w = 1 ∧ C.2.1 / gd C.1 C.2.1 = x)))
def ptQ (r : Nat → Int) (a b w x : Int) : Prop := (¬ ptK r a b w ∧ x = -2) ∨ (ptK r a b w ∧ ∃ B, BW (bR r) b.toNat a.toNat B ∧ ((B.2.1 = 0 ∧ x = 0) ∨ (B.2.1 ≠ 0 ∧ ∃ C, BW (bR r) a.toNat b.toNat C ∧ ptV B C w x)))
theorem pt_same {Ls : List gE} (hE : ∀ e ∈ Ls, gEo e) {a b : Nat} {B B' C C' : Int × Int × Int} (h : BW Ls b a B) (h' : BW Ls b a B') (g : BW Ls a b C) (g' : BW Ls a b C') (e : C.1 * B.1 = C.2.1 * B.2.1) : C'.1 * B'.1 = C'.2.1 * B'.2.1 := by
  have z1 := (BW_eq hE h h').2.1
  have z2 := (BW_eq hE g g').2.1
  have p : 0 < C.1 * B.1 := Int.mul_pos g.1.1 h.1.1
  have k1 : (C.1 * B.1) * (C'.2.1 * B'.2.1) = (C.1 * C'.2.1) * (B.1 * B'.2.1) := by ac_rfl
  have k2 : (C'.1 * C.2.1) * (B'.1 * B.2.1) = (C.2.1 * B.2.1) * (C'.1 * B'.1) := by ac_rfl
  rw [z1, z2, k2, ← e] at k1
  exact (Int.eq_of_mul_eq_mul_left (Int.ne_of_gt p) k1).symm
theorem pt_eq {r : Nat → Int} (hE : ∀ e ∈ bR r, gEo e) {a b w x y : Int} (h : ptQ r a b w x) (h' : ptQ r a b w y) : x = y := by
  rcases h with ⟨n, e⟩ | ⟨K, B, bb, h⟩
  · rcases h' with ⟨_, e'⟩ | ⟨K', _⟩
    · omega
    · exact absurd K' n
  · rcases h' with ⟨n', _⟩ | ⟨_, B', bb', h'⟩
    · exact absurd K n'
    · have z := (BW_eq hE bb bb').1
      rcases h with ⟨e, q⟩ | ⟨e, C, cc, v⟩ <;> rcases h' with ⟨e', q'⟩ | ⟨e', C', cc', v'⟩
      · omega
      · exact absurd (z.mp e) e'
      · exact absurd (z.mpr e') e
      · have rd := rd_eq cc.1.1 cc'.1.1 cc.1.2 cc'.1.2 (BW_eq hE cc cc').2.1
        rcases v with ⟨s, q⟩ | ⟨s, q⟩ <;> rcases v' with ⟨s', q'⟩ | ⟨s', q'⟩
        · omega
        · exact absurd (pt_same hE bb' bb cc' cc s') s
        · exact absurd (pt_same hE bb bb' cc cc' s) s'
        · rcases q with ⟨w0, q⟩ | ⟨w0, q⟩ <;> rcases q' with ⟨w1, q'⟩ | ⟨w1, q'⟩
          · rw [← q, ← q']; exact rd.1
          · omega
          · omega
          · rw [← q, ← q']; exact rd.2
theorem LX.part {h h1 : m_H} {a b w x y : Int} {cs : List Nat} {ss : List (Nat × Nat)} (G : GI h) (N : NP h) (S1 : FR cs ss h h1) (A : ptQ (h 110) a b w x) (B : ptQ (h1 110) a b w y) (o : out 110 110 cs ss = true) : x = y := by
  rw [rowz S1 (fr_out o (by decide) (by decide))] at B
  exact pt_eq (bR_ok G N) A B
theorem pt_of {B C : Int × Int × Int} {r : Nat → Int} {a b w x : Int} (K : ptK r a b w) (b1 : BW (bR r) b.toNat a.toNat B) (c1 : BW (bR r) a.toNat b.toNat C) (v : ptV B C w x) : ptQ r a b w x := by
  by_cases q : B.2.1 = 0
  · refine Or.inr ⟨K, B, b1, Or.inl ⟨q, ?_⟩⟩
    rcases v with ⟨_, e⟩ | ⟨e, _⟩
    · exact e
    · have p : 0 < C.1 * B.1 := Int.mul_pos c1.1.1 b1.1.1
      rw [q, Int.mul_zero] at e
      omega
  · exact Or.inr ⟨K, B, b1, Or.inr ⟨q, C, c1, v⟩⟩
abbrev P_X11_part3 (h0 : m_H) (a1 a2 a3 : Int) : Int → m_H → Prop := fun x h' => GI h' ∧ FR (csB ++ [39, 40, 41]) [] h0 h' ∧ ptQ (h0 110) a1 a2 a3 x
set_option maxHeartbeats 4000000 in
set_option maxRecDepth 100000 in
theorem c_X11_part3 (h0 : m_H) (a1 a2 a3 : Int) (G0 : GI h0) (hR : LR 1 h0 (h0 110)) (hN : NP h0) : m_CJ M_X11_part [mR 0, mI a1, mI a2, mI a3] h0 (P_X11_part3 h0 a1 a2 a3) := by
  refine m_CJ_of ⟨by decide, rfl, by simp [m_arg, m_isL, M_X11_part], ⟨rfl, rfl⟩, rfl, rfl⟩ (ls := [some (mR 0), some (mI a1), some (mI a2), some (mI a3), none]) rfl ?_
  refine z_ok (fun _ _ ok => ?_)
  have oa1 : m_32 a1 := ok 1 _ rfl
  unfold m_32 at oa1
  have oa2 : m_32 a2 := ok 2 _ rfl
  unfold m_32 at oa2
  have oa3 : m_32 a3 := ok 3 _ rfl
  unfold m_32 at oa3
  refine z_iload_n (M := M_X11_part) 0 dX11_part_0 rfl ?_
  refine z_iconst (M := M_X11_part) 1 dX11_part_1 ?_
  refine z_iconst (M := M_X11_part) 2 dX11_part_2 ?_
  refine z_sI (M := M_X11_part) 3 dX11_part_3 t_X11_within l_X11_112 (m_rr_of rfl) (rest := []) (c_X11_within h0 a3 0 1 G0) rfl rfl (Nat.le_of_ble_eq_true rfl) ⟨rfl, rfl⟩ (fun x1 h1 qx1 => ?_)
  obtain ⟨rfl, ⟨rfl, cx1⟩ | ⟨rfl, cx1⟩⟩ := qx1
  · refine z_if_eq_F (M := M_X11_part) 6 dX11_part_6 18 rfl (by omega) ?_
    refine z_aload_n (M := M_X11_part) 9 dX11_part_9 rfl ?_
    refine z_iload_n (M := M_X11_part) 10 dX11_part_10 rfl ?_
    refine z_iload_n (M := M_X11_part) 11 dX11_part_11 rfl ?_
    refine z_vI (M := M_X11_part) 12 dX11_part_12 t_X11_compare l_X11_211 (m_rr_of rfl) (rest := []) (c_X11_compare2 h0 a1 a2 G0 hR hN) o_0 rfl rfl rfl (Nat.le_of_ble_eq_true rfl) ⟨rfl, rfl⟩ (fun x2 h2 qx2 => ?_)
    obtain ⟨G2, S2, ax2, bx2, fx2⟩ := qx2
    have R2 := (FR.rf (cs := (csB ++ [39, 40, 41])) (ss := []) (h := h0)).call S2 (by decide +kernel)
    refine z_if_ne (M := M_X11_part) 15 dX11_part_15 22 rfl (fun c3 => ?_) (fun c3 => ?_)
    · have k_ : ptK (h0 110) a1 a2 a3 := ⟨cx1, fx2.1.mp (by omega)⟩
      have p_ := fx2.2 (by omega)
      have pb1_ : (0 < h2 95 0 ∧ h2 95 0 ≤ 1600000000) ∧ 0 ≤ h2 95 1 ∧ h2 95 1 ≤ 1600000000 := p_.1.2.1
      have pb2_ : (0 < h2 94 0 ∧ h2 94 0 ≤ 1600000000) ∧ 0 ≤ h2 94 1 ∧ h2 94 1 ≤ 1600000000 := p_.2.2.1
      refine z_aload_n (M := M_X11_part) 22 dX11_part_22 rfl ?_
      refine z_getR (M := M_X11_part) 23 dX11_part_23 f_X11_53 o_0 rfl (g_0_7 G2) ?_
      refine z_vI (M := M_X11_part) 26 dX11_part_26 t_X7_isTheSame l_X11_261 (m_rr_of rfl) (rest := []) (c_X7_isTheSame4 h2 G2 pb1_ pb2_) o_93 rfl rfl rfl (Nat.le_of_ble_eq_true rfl) ⟨rfl, rfl⟩ (fun x4 h3 qx4 => ?_)
      obtain ⟨G3, S3, ax4, bx4, fx4⟩ := qx4
      have e3_ := frE S3
      have R3 := R2.call S3 (by decide +kernel)
      refine z_if_ne (M := M_X11_part) 29 dX11_part_29 34 rfl (fun c5 => ?_) (fun c5 => ?_)
      · refine z_aload_n (M := M_X11_part) 34 dX11_part_34 rfl ?_
        refine z_getR (M := M_X11_part) 35 dX11_part_35 f_X11_53 o_0 rfl (g_0_7 G3) ?_
        refine z_getR (M := M_X11_part) 38 dX11_part_38 f_X11_237 o_93 rfl (g_93_1 G3) ?_
        refine z_astore (M := M_X11_part) 41 dX11_part_41 (ls' := [some (mR 0), some (mI a1), some (mI a2), some (mI a3), some (mR 95)]) (by decide) rfl ?_
        refine z_iload_n (M := M_X11_part) 43 dX11_part_43 rfl ?_
        refine z_if_ne (M := M_X11_part) 44 dX11_part_44 55 rfl (fun c6 => ?_) (fun c6 => ?_)
        · refine z_aload (M := M_X11_part) 55 dX11_part_55 rfl ?_
          refine z_getJV (M := M_X11_part) 57 dX11_part_57 f_X11_268 o_95 rfl (fun x7 ex7 => ?_)
          have ex7' := ex7
          rw [e3_] at ex7'
          have u7_ := pb1_
          rw [ex7'] at u7_
          refine z_aload (M := M_X11_part) 60 dX11_part_60 rfl ?_
          refine z_getJV (M := M_X11_part) 62 dX11_part_62 f_X11_264 o_95 rfl (fun x8 ex8 => ?_)
          have ex8' := ex8
          rw [e3_] at ex8'
          rw [ex8'] at u7_
          refine z_aload (M := M_X11_part) 65 dX11_part_65 rfl ?_
          refine z_getJE (M := M_X11_part) 67 dX11_part_67 f_X11_268 o_95 rfl ex7 ?_
          refine z_sJ (M := M_X11_part) 70 dX11_part_70 t_X11_commonDivisor l_X11_271 (m_rr_of rfl) (rest := [mJ x7]) (c_X11_commonDivisor4 h3 x8 x7 G3 ⟨by omega, by omega⟩ ⟨by omega, by omega⟩) rfl rfl (Nat.le_of_ble_eq_true rfl) ⟨rfl, rfl⟩ (fun x9 h4 qx9 => ?_)
          obtain ⟨G4, S4, fx9⟩ := qx9
          have gp_ := gd_p (a := x8) (b := x7) (by omega)
          have R4 := R3.call S4 (by decide +kernel)
          refine z_sJ (M := M_X11_part) 73 dX11_part_73 t_X11_quotient l_X11_275 (m_rr_of rfl) (rest := []) (c_X11_quotientQ h4 x7 x9 G4 (by omega) (by omega)) rfl rfl (Nat.le_of_ble_eq_true rfl) ⟨rfl, rfl⟩ (fun x10 h5 qx10 => ?_)
          obtain ⟨G5, S5, fx10⟩ := qx10
          have R5 := R4.call S5 (by decide +kernel)
          exact z_retJ (M := M_X11_part) 76 dX11_part_76 rfl ⟨G5, R5, pt_of k_ p_.2.1 p_.1.1 (Or.inr ⟨fx4.mp (by omega), Or.inr ⟨by omega, by show h2 95 1 / gd (h2 95 0) (h2 95 1) = _; rw [ex7', ex8', fx9]; exact fx10⟩⟩)⟩
        · refine z_aload (M := M_X11_part) 47 dX11_part_47 rfl ?_
          refine z_getJV (M := M_X11_part) 49 dX11_part_49 f_X11_264 o_95 rfl (fun x11 ex11 => ?_)
          have ex11' := ex11
          rw [e3_] at ex11'
          have u7_ := pb1_
          rw [ex11'] at u7_
          refine z_goto (M := M_X11_part) 52 dX11_part_52 60 rfl ?_
          refine z_aload (M := M_X11_part) 60 dX11_part_60 rfl ?_
          refine z_getJE (M := M_X11_part) 62 dX11_part_62 f_X11_264 o_95 rfl ex11 ?_
          refine z_aload (M := M_X11_part) 65 dX11_part_65 rfl ?_
          refine z_getJV (M := M_X11_part) 67 dX11_part_67 f_X11_268 o_95 rfl (fun x12 ex12 => ?_)
          have ex12' := ex12
          rw [e3_] at ex12'
          rw [ex12'] at u7_
          refine z_sJ (M := M_X11_part) 70 dX11_part_70 t_X11_commonDivisor l_X11_271 (m_rr_of rfl) (rest := [mJ x11]) (c_X11_commonDivisor4 h3 x11 x12 G3 ⟨by omega, by omega⟩ ⟨by omega, by omega⟩) rfl rfl (Nat.le_of_ble_eq_true rfl) ⟨rfl, rfl⟩ (fun x13 h6 qx13 => ?_)
          obtain ⟨G6, S6, fx13⟩ := qx13
          have gp_ := gd_p (a := x11) (b := x12) (by omega)
          have R6 := R3.call S6 (by decide +kernel)
          refine z_sJ (M := M_X11_part) 73 dX11_part_73 t_X11_quotient l_X11_275 (m_rr_of rfl) (rest := []) (c_X11_quotientQ h6 x11 x13 G6 (by omega) (by omega)) rfl rfl (Nat.le_of_ble_eq_true rfl) ⟨rfl, rfl⟩ (fun x14 h7 qx14 => ?_)
          obtain ⟨G7, S7, fx14⟩ := qx14
          have R7 := R6.call S7 (by decide +kernel)
          exact z_retJ (M := M_X11_part) 76 dX11_part_76 rfl ⟨G7, R7, pt_of k_ p_.2.1 p_.1.1 (Or.inr ⟨fx4.mp (by omega), Or.inl ⟨by omega, by show h2 95 0 / gd (h2 95 0) (h2 95 1) = _; rw [ex11', ex12', fx13]; exact fx14⟩⟩)⟩
      · refine z_lconst (M := M_X11_part) 32 dX11_part_32 (v := 0) ?_
        exact z_retJ (M := M_X11_part) 33 dX11_part_33 rfl ⟨G3, R3, pt_of k_ p_.2.1 p_.1.1 (Or.inl ⟨fun z => absurd (fx4.mpr z) (by omega), rfl⟩)⟩
    · refine z_ldc2 (M := M_X11_part) 18 dX11_part_18 k_X11_259 ?_
      exact z_retJ (M := M_X11_part) 21 dX11_part_21 rfl ⟨G2, R2, Or.inl ⟨fun z => absurd (fx2.1.mpr z.2) (by omega), rfl⟩⟩
  · refine z_if_eq_T (M := M_X11_part) 6 dX11_part_6 18 rfl (by omega) ?_
    refine z_ldc2 (M := M_X11_part) 18 dX11_part_18 k_X11_259 ?_
    exact z_retJ (M := M_X11_part) 21 dX11_part_21 rfl ⟨G0, (FR.rf (cs := (csB ++ [39, 40, 41])) (ss := []) (h := h0)), Or.inl ⟨fun z => cx1 z.1, rfl⟩⟩
theorem vS_three {f : Nat → Int} {a : Nat} (hd : ∀ j, j < 5 → 0 ≤ f (a + j) ∧ f (a + j) ≤ 99999999) (h2 : vS f a 5 ≤ 25091827216) : f (a + 2) = 0 ∧ f a + 100000000 * f (a + 1) = vS f a 5 ∧ f (a + 1) ≤ 251 := by
  have d0 : 0 ≤ f a ∧ f a ≤ 99999999 := hd 0 (by omega)
  have d1 := hd 1 (by omega); have d2 := hd 2 (by omega); have d3 := hd 3 (by omega); have d4 := hd 4 (by omega)
  simp only [vS, Nat.add_zero] at h2 ⊢
  omega
abbrev P_X12_whole124x (h0 : m_H) (a1 : Int) : Int → m_H → Prop := fun x h' => GI h' ∧ FR [] [] h0 h' ∧ x = vS (h0 124) a1.toNat 5
set_option maxHeartbeats 4000000 in
set_option maxRecDepth 100000 in
theorem c_X12_whole124x (h0 : m_H) (a1 : Int) (G0 : GI h0) (pa1 : 0 ≤ a1 ∧ a1 ≤ 77) (h75 : a1 ≤ 75) (hv : vS (h0 124) a1.toNat 5 ≤ 25091827216) : m_CJ M_X12_whole [mR 124, mI a1] h0 (P_X12_whole124x h0 a1) := by
  refine m_CJ_of ⟨by decide, rfl, by simp [m_arg, m_isL, M_X12_whole], ⟨rfl, rfl⟩, rfl, rfl⟩ (ls := [some (mR 124), some (mI a1)]) rfl ?_
  refine z_aload_n (M := M_X12_whole) 0 dX12_whole_0 rfl ?_
  refine z_iload_n (M := M_X12_whole) 1 dX12_whole_1 rfl ?_
  refine z_laldG (M := M_X12_whole) 2 dX12_whole_2 o_124 (by omega) (by omega) (g_124 G0 (by omega)) (fun x1 ex1 ax1 bx1 => ?_)
  refine z_ldc2 (M := M_X12_whole) 3 dX12_whole_3 k_X12_327 ?_
  refine z_aload_n (M := M_X12_whole) 6 dX12_whole_6 rfl ?_
  refine z_iload_n (M := M_X12_whole) 7 dX12_whole_7 rfl ?_
  refine z_iconst (M := M_X12_whole) 8 dX12_whole_8 ?_
  refine z_iaddN (M := M_X12_whole) 9 dX12_whole_9 (by omega) (by omega) ?_
  refine z_laldG (M := M_X12_whole) 10 dX12_whole_10 o_124 (by omega) (by omega) (g_124 G0 (by omega)) (fun x2 ex2 ax2 bx2 => ?_)
  refine z_ldc2 (M := M_X12_whole) 11 dX12_whole_11 k_X12_327 ?_
  refine z_aload_n (M := M_X12_whole) 14 dX12_whole_14 rfl ?_
  refine z_iload_n (M := M_X12_whole) 15 dX12_whole_15 rfl ?_
  refine z_iconst (M := M_X12_whole) 16 dX12_whole_16 ?_
  refine z_iaddN (M := M_X12_whole) 17 dX12_whole_17 (by omega) (by omega) ?_
  refine z_laldG (M := M_X12_whole) 18 dX12_whole_18 o_124 (by omega) (by omega) (g_124 G0 (by omega)) (fun x3 ex3 ax3 bx3 => ?_)
  obtain ⟨t1_, t2_, t3_⟩ := vS_three (fun j hj => g_124 G0 (by omega)) hv
  rw [show a1.toNat + 2 = (a1 + 2).toNat by omega, ex3] at t1_
  rw [show a1.toNat + 1 = (a1 + 1).toNat by omega, ex2] at t3_
  rw [show a1.toNat + 1 = (a1 + 1).toNat by omega, ex1, ex2] at t2_
  refine z_lmulN (M := M_X12_whole) 19 dX12_whole_19 (by omega) (by omega) ?_
  refine z_laddN (M := M_X12_whole) 20 dX12_whole_20 (by omega) (by omega) ?_
  refine z_lmulN (M := M_X12_whole) 21 dX12_whole_21 (by omega) (by omega) ?_
  refine z_laddN (M := M_X12_whole) 22 dX12_whole_22 (by omega) (by omega) ?_
  exact z_retJ (M := M_X12_whole) 23 dX12_whole_23 rfl ⟨G0, (FR.rf (cs := []) (ss := []) (h := h0)), by rw [← t2_, t1_]; omega⟩
abbrev P_X12_whole125x (h0 : m_H) (a1 : Int) : Int → m_H → Prop := fun x h' => GI h' ∧ FR [] [] h0 h' ∧ x = vS (h0 125) a1.toNat 5
set_option maxHeartbeats 4000000 in
set_option maxRecDepth 100000 in
theorem c_X12_whole125x (h0 : m_H) (a1 : Int) (G0 : GI h0) (pa1 : 0 ≤ a1 ∧ a1 ≤ 77) (h75 : a1 ≤ 75) (hv : vS (h0 125) a1.toNat 5 ≤ 25091827216) : m_CJ M_X12_whole [mR 125, mI a1] h0 (P_X12_whole125x h0 a1) := by
  refine m_CJ_of ⟨by decide, rfl, by simp [m_arg, m_isL, M_X12_whole], ⟨rfl, rfl⟩, rfl, rfl⟩ (ls := [some (mR 125), some (mI a1)]) rfl ?_
  refine z_aload_n (M := M_X12_whole) 0 dX12_whole_0 rfl ?_
  refine z_iload_n (M := M_X12_whole) 1 dX12_whole_1 rfl ?_
  refine z_laldG (M := M_X12_whole) 2 dX12_whole_2 o_125 (by omega) (by omega) (g_125 G0 (by omega)) (fun x1 ex1 ax1 bx1 => ?_)
  refine z_ldc2 (M := M_X12_whole) 3 dX12_whole_3 k_X12_327 ?_
  refine z_aload_n (M := M_X12_whole) 6 dX12_whole_6 rfl ?_
  refine z_iload_n (M := M_X12_whole) 7 dX12_whole_7 rfl ?_
  refine z_iconst (M := M_X12_whole) 8 dX12_whole_8 ?_
  refine z_iaddN (M := M_X12_whole) 9 dX12_whole_9 (by omega) (by omega) ?_
  refine z_laldG (M := M_X12_whole) 10 dX12_whole_10 o_125 (by omega) (by omega) (g_125 G0 (by omega)) (fun x2 ex2 ax2 bx2 => ?_)
  refine z_ldc2 (M := M_X12_whole) 11 dX12_whole_11 k_X12_327 ?_
  refine z_aload_n (M := M_X12_whole) 14 dX12_whole_14 rfl ?_
  refine z_iload_n (M := M_X12_whole) 15 dX12_whole_15 rfl ?_
  refine z_iconst (M := M_X12_whole) 16 dX12_whole_16 ?_
  refine z_iaddN (M := M_X12_whole) 17 dX12_whole_17 (by omega) (by omega) ?_
  refine z_laldG (M := M_X12_whole) 18 dX12_whole_18 o_125 (by omega) (by omega) (g_125 G0 (by omega)) (fun x3 ex3 ax3 bx3 => ?_)
  obtain ⟨t1_, t2_, t3_⟩ := vS_three (fun j hj => g_125 G0 (by omega)) hv
  rw [show a1.toNat + 2 = (a1 + 2).toNat by omega, ex3] at t1_
  rw [show a1.toNat + 1 = (a1 + 1).toNat by omega, ex2] at t3_
  rw [show a1.toNat + 1 = (a1 + 1).toNat by omega, ex1, ex2] at t2_
  refine z_lmulN (M := M_X12_whole) 19 dX12_whole_19 (by omega) (by omega) ?_
  refine z_laddN (M := M_X12_whole) 20 dX12_whole_20 (by omega) (by omega) ?_
  refine z_lmulN (M := M_X12_whole) 21 dX12_whole_21 (by omega) (by omega) ?_
  refine z_laddN (M := M_X12_whole) 22 dX12_whole_22 (by omega) (by omega) ?_
  exact z_retJ (M := M_X12_whole) 23 dX12_whole_23 rfl ⟨G0, (FR.rf (cs := []) (ss := []) (h := h0)), by rw [← t2_, t1_]; omega⟩
abbrev P_X12_whole138x (h0 : m_H) (a1 : Int) : Int → m_H → Prop := fun x h' => GI h' ∧ FR [] [] h0 h' ∧ x = vS (h0 138) a1.toNat 5
set_option maxHeartbeats 4000000 in
set_option maxRecDepth 100000 in
theorem c_X12_whole138x (h0 : m_H) (a1 : Int) (G0 : GI h0) (pa1 : 0 ≤ a1 ∧ a1 ≤ 17) (h75 : a1 ≤ 15) (hv : vS (h0 138) a1.toNat 5 ≤ 25091827216) : m_CJ M_X12_whole [mR 138, mI a1] h0 (P_X12_whole138x h0 a1) := by
  refine m_CJ_of ⟨by decide, rfl, by simp [m_arg, m_isL, M_X12_whole], ⟨rfl, rfl⟩, rfl, rfl⟩ (ls := [some (mR 138), some (mI a1)]) rfl ?_
  refine z_aload_n (M := M_X12_whole) 0 dX12_whole_0 rfl ?_
  refine z_iload_n (M := M_X12_whole) 1 dX12_whole_1 rfl ?_
  refine z_laldG (M := M_X12_whole) 2 dX12_whole_2 o_138 (by omega) (by omega) (g_138 G0 (by omega)) (fun x1 ex1 ax1 bx1 => ?_)
  refine z_ldc2 (M := M_X12_whole) 3 dX12_whole_3 k_X12_327 ?_
  refine z_aload_n (M := M_X12_whole) 6 dX12_whole_6 rfl ?_
  refine z_iload_n (M := M_X12_whole) 7 dX12_whole_7 rfl ?_
  refine z_iconst (M := M_X12_whole) 8 dX12_whole_8 ?_
  refine z_iaddN (M := M_X12_whole) 9 dX12_whole_9 (by omega) (by omega) ?_
  refine z_laldG (M := M_X12_whole) 10 dX12_whole_10 o_138 (by omega) (by omega) (g_138 G0 (by omega)) (fun x2 ex2 ax2 bx2 => ?_)
  refine z_ldc2 (M := M_X12_whole) 11 dX12_whole_11 k_X12_327 ?_
  refine z_aload_n (M := M_X12_whole) 14 dX12_whole_14 rfl ?_
  refine z_iload_n (M := M_X12_whole) 15 dX12_whole_15 rfl ?_
  refine z_iconst (M := M_X12_whole) 16 dX12_whole_16 ?_
  refine z_iaddN (M := M_X12_whole) 17 dX12_whole_17 (by omega) (by omega) ?_
  refine z_laldG (M := M_X12_whole) 18 dX12_whole_18 o_138 (by omega) (by omega) (g_138 G0 (by omega)) (fun x3 ex3 ax3 bx3 => ?_)
  obtain ⟨t1_, t2_, t3_⟩ := vS_three (fun j hj => g_138 G0 (by omega)) hv
  rw [show a1.toNat + 2 = (a1 + 2).toNat by omega, ex3] at t1_
  rw [show a1.toNat + 1 = (a1 + 1).toNat by omega, ex2] at t3_
  rw [show a1.toNat + 1 = (a1 + 1).toNat by omega, ex1, ex2] at t2_
  refine z_lmulN (M := M_X12_whole) 19 dX12_whole_19 (by omega) (by omega) ?_
  refine z_laddN (M := M_X12_whole) 20 dX12_whole_20 (by omega) (by omega) ?_
  refine z_lmulN (M := M_X12_whole) 21 dX12_whole_21 (by omega) (by omega) ?_
  refine z_laddN (M := M_X12_whole) 22 dX12_whole_22 (by omega) (by omega) ?_
  exact z_retJ (M := M_X12_whole) 23 dX12_whole_23 rfl ⟨G0, (FR.rf (cs := []) (ss := []) (h := h0)), by rw [← t2_, t1_]; omega⟩
abbrev P_X12_common4 (h0 : m_H) (a0 a1 : Int) : Int → m_H → Prop := fun x h' => GI h' ∧ FR [] [] h0 h' ∧ gd a0 a1 = x
def q_X12_common4 (h0 : m_H) (a0 a1 : Int) (n : Nat) : Prop := (∀ (l4 l6 : Int) (h : m_H), GI h → FR [] [] h0 h → ((0 ≤ l4 ∧ 0 ≤ l6) ∧ gd l4 l6 = gd a0 a1) → 2 * (((l6.natAbs : Nat) : Int)) + (1) ≤ (n : Int) → m_Z oF M_X12_common 6 [none, none, none, none, some (mJ l4), none, some (mJ l6), none, none, none] [] h (m_QJ (P_X12_common4 h0 a0 a1)))
set_option maxHeartbeats 4000000 in
set_option maxRecDepth 100000 in
theorem s_X12_common4_6 (h0 : m_H) (a0 a1 : Int) (G0 : GI h0) (p0 : 0 ≤ a0) (p1 : 0 ≤ a1) (n : Nat) (ih : q_X12_common4 h0 a0 a1 n) : ∀ (l4 l6 : Int) (h : m_H), GI h → FR [] [] h0 h → ((0 ≤ l4 ∧ 0 ≤ l6) ∧ gd l4 l6 = gd a0 a1) → 2 * (((l6.natAbs : Nat) : Int)) + (1) ≤ ((n + 1 : Nat) : Int) → m_Z oF M_X12_common 6 [none, none, none, none, some (mJ l4), none, some (mJ l6), none, none, none] [] h (m_QJ (P_X12_common4 h0 a0 a1)) := by
  intro l4 l6 h G R i0 hr
  refine z_lload (M := M_X12_common) 6 dX12_common_6 rfl ?_
  refine z_lconst (M := M_X12_common) 8 dX12_common_8 (v := 0) ?_
  refine z_lcmp (M := M_X12_common) 9 dX12_common_9 ?_
  refine z_if_eq (M := M_X12_common) 10 dX12_common_10 31 rfl (fun c1 => ?_) (fun c1 => ?_)
  · rw [m_cmp_eq] at c1
    refine z_lload (M := M_X12_common) 31 dX12_common_31 rfl ?_
    exact z_retJ (M := M_X12_common) 33 dX12_common_33 rfl ⟨G, R, by rw [← i0.2, show l6 = 0 by omega, gd_0 i0.1.1]⟩
  · rw [m_cmp_eq] at c1
    refine z_lload (M := M_X12_common) 13 dX12_common_13 rfl ?_
    refine z_lload (M := M_X12_common) 15 dX12_common_15 rfl ?_
    refine z_lrem (M := M_X12_common) 17 dX12_common_17 (by omega) ?_
    refine z_topJ (fun x2 ex2 => ?_)
    have tm := tm_lt (by omega) ex2
    refine z_lstore (M := M_X12_common) 18 dX12_common_18 (ls' := [none, none, none, none, some (mJ l4), none, some (mJ l6), none, some (mJ x2), none]) (by decide) rfl ?_
    refine z_lload (M := M_X12_common) 20 dX12_common_20 rfl ?_
    refine z_lstore (M := M_X12_common) 22 dX12_common_22 (ls' := [none, none, none, none, some (mJ l6), none, some (mJ l6), none, some (mJ x2), none]) (by decide) rfl ?_
    refine z_lload (M := M_X12_common) 24 dX12_common_24 rfl ?_
    refine z_lstore (M := M_X12_common) 26 dX12_common_26 (ls' := [none, none, none, none, some (mJ l6), none, some (mJ x2), none, some (mJ x2), none]) (by decide) rfl ?_
    refine z_goto (M := M_X12_common) 28 dX12_common_28 6 rfl ?_
    exact z_mask [false, false, false, false, true, false, true, false, false, false] rfl (ih l6 x2 h G R ⟨⟨i0.1.2, by rw [← ex2, Int.tmod_eq_emod_of_nonneg i0.1.1]; exact Int.emod_nonneg _ (by omega)⟩, by rw [← ex2, Int.tmod_eq_emod_of_nonneg i0.1.1, gd_s i0.1.1 i0.1.2]; exact i0.2⟩ (by omega))
theorem a_X12_common4 (h0 : m_H) (a0 a1 : Int) (G0 : GI h0) (p0 : 0 ≤ a0) (p1 : 0 ≤ a1) : ∀ n, q_X12_common4 h0 a0 a1 n := by
  intro n
  induction n with
  | zero => unfold q_X12_common4; intros; omega
  | succ n ih => exact s_X12_common4_6 h0 a0 a1 G0 p0 p1 n ih
set_option maxHeartbeats 4000000 in
set_option maxRecDepth 100000 in
theorem c_X12_common4 (h0 : m_H) (a0 a1 : Int) (G0 : GI h0) (p0 : 0 ≤ a0) (p1 : 0 ≤ a1) : m_CJ M_X12_common [mJ a0, mJ a1] h0 (P_X12_common4 h0 a0 a1) := by
  refine m_CJ_of ⟨by decide, rfl, by simp [m_arg, m_isL, M_X12_common], ⟨rfl, rfl⟩, rfl, rfl⟩ (ls := [some (mJ a0), none, some (mJ a1), none, none, none, none, none, none, none]) rfl ?_
  have ih := a_X12_common4 h0 a0 a1 G0 p0 p1 18446744073709551624
  refine z_ok (fun _ _ ok => ?_)
  have oa1 : m_64 a1 := ok 2 _ rfl
  unfold m_64 at oa1
  refine z_lload_n (M := M_X12_common) 0 dX12_common_0 rfl ?_
  refine z_lstore (M := M_X12_common) 1 dX12_common_1 (ls' := [some (mJ a0), none, some (mJ a1), none, some (mJ a0), none, none, none, none, none]) (by decide) rfl ?_
  refine z_lload_n (M := M_X12_common) 3 dX12_common_3 rfl ?_
  refine z_lstore (M := M_X12_common) 4 dX12_common_4 (ls' := [some (mJ a0), none, some (mJ a1), none, some (mJ a0), none, some (mJ a1), none, none, none]) (by decide) rfl ?_
  exact z_mask [false, false, false, false, true, false, true, false, false, false] rfl (ih a0 a1 h0 G0 (FR.rf (cs := []) (ss := []) (h := h0)) ⟨⟨p0, p1⟩, rfl⟩ (by omega))
theorem pt_ref {L1 T1 L2 T2 : Int} (a : 0 < L1) (b : 0 < T1) (c : 0 < L2) (d : 0 < T2) : (T2 * T1 = L2 * L1 ↔ (L1 / gd L1 T1 = T2 / gd T2 L2 ∧ T1 / gd L1 T1 = L2 / gd T2 L2)) := by
  constructor
  · intro e
    exact rd_eq a d (Int.le_of_lt b) (Int.le_of_lt c) (by rw [Int.mul_comm L1 L2]; exact e.symm)
  · rintro ⟨e1, e2⟩
    have x1 := gd_x T1 a
    have x2 := gd_x L1 b
    have x3 := gd_x L2 d
    have x4 := gd_x T2 c
    rw [gd_c T1 L1, e2] at x2
    rw [e1] at x1
    rw [gd_c L2 T2] at x4
    generalize T2 / gd T2 L2 = p at *
    generalize L2 / gd T2 L2 = q at *
    generalize gd L1 T1 = u at *
    generalize gd T2 L2 = v at *
    rw [← x1, ← x2, ← x3, ← x4]
    ac_rfl
abbrev P_X12_part3 (h0 : m_H) (a1 a2 a3 : Int) : Int → m_H → Prop := fun x h' => GI h' ∧ FR [115, 116, 117, 118, 119, 120, 121, 122, 123, 124, 125, 126, 127, 128, 129, 130, 131, 132, 133, 134] [(108, 0), (108, 21)] h0 h' ∧ ptQ (h0 110) a1 a2 a3 x
set_option maxHeartbeats 4000000 in
set_option maxRecDepth 100000 in
theorem c_X12_part3 (h0 : m_H) (a1 a2 a3 : Int) (G0 : GI h0) (hN : NP h0) : m_CJ M_X12_part [mR 108, mI a1, mI a2, mI a3] h0 (P_X12_part3 h0 a1 a2 a3) := by
  refine m_CJ_of ⟨by decide, rfl, by simp [m_arg, m_isL, M_X12_part], ⟨rfl, rfl⟩, rfl, rfl⟩ (ls := [some (mR 108), some (mI a1), some (mI a2), some (mI a3), none, none, none, none, none, none, none, none, none, none, none, none]) rfl ?_
  refine z_ok (fun _ _ ok => ?_)
  have oa1 : m_32 a1 := ok 1 _ rfl
  unfold m_32 at oa1
  have oa2 : m_32 a2 := ok 2 _ rfl
  unfold m_32 at oa2
  have oa3 : m_32 a3 := ok 3 _ rfl
  unfold m_32 at oa3
  refine z_aload_n (M := M_X12_part) 0 dX12_part_0 rfl ?_
  refine z_iconst (M := M_X12_part) 1 dX12_part_1 ?_
  refine z_putIH (M := M_X12_part) 2 dX12_part_2 p_X12_133 o_108 rfl (u_108_0 G0) ((FR.rf (cs := [115, 116, 117, 118, 119, 120, 121, 122, 123, 124, 125, 126, 127, 128, 129, 130, 131, 132, 133, 134]) (ss := [(108, 0), (108, 21)]) (h := h0)).up rfl) (fun h1 E1 G1 R1 => ?_)
  refine z_iload_n (M := M_X12_part) 5 dX12_part_5 rfl ?_
  refine z_i2l (M := M_X12_part) 6 dX12_part_6 ?_
  refine z_lconst (M := M_X12_part) 7 dX12_part_7 (v := 0) ?_
  refine z_lconst (M := M_X12_part) 8 dX12_part_8 (v := 1) ?_
  refine z_sI (M := M_X12_part) 9 dX12_part_9 t_X12_in l_X12_143 (m_rr_of rfl) (rest := []) (c_X12_in h1 a3 0 1 G1) rfl rfl (Nat.le_of_ble_eq_true rfl) ⟨rfl, rfl⟩ (fun x1 h2 qx1 => ?_)
  obtain ⟨rfl, ⟨rfl, cx1⟩ | ⟨rfl, cx1⟩⟩ := qx1
  · refine z_if_eq_F (M := M_X12_part) 12 dX12_part_12 24 rfl (by omega) ?_
    refine z_aload_n (M := M_X12_part) 15 dX12_part_15 rfl ?_
    refine z_iload_n (M := M_X12_part) 16 dX12_part_16 rfl ?_
    refine z_iload_n (M := M_X12_part) 17 dX12_part_17 rfl ?_
    refine z_vI (M := M_X12_part) 18 dX12_part_18 t_X12_isAnswered l_X12_394 (m_rr_of rfl) (rest := []) (c_X12_isAnswered2 h1 a1 a2 G1 (NP.call hN R1 (fun _ => rfl) (fun _ => rfl) (fun _ => rfl))) o_108 rfl rfl rfl (Nat.le_of_ble_eq_true rfl) ⟨rfl, rfl⟩ (fun x2 h3 qx2 => ?_)
    obtain ⟨G3, S3, ax2, bx2, fx2_0, fx2_1⟩ := qx2
    have R3 := R1.call S3 (by decide +kernel)
    rw [(FR.row R1 (fun _ => rfl) : h1 110 = h0 110)] at fx2_1
    have e3_ : h3 110 = h0 110 := FR.row R3 (fun _ => rfl)
    refine z_if_ne (M := M_X12_part) 21 dX12_part_21 28 rfl (fun c3 => ?_) (fun c3 => ?_)
    · have an := fx2_0 (by omega)
      have an1 := an.1
      have an2 := an.2.1
      refine z_aload_n (M := M_X12_part) 28 dX12_part_28 rfl ?_
      refine z_iload_n (M := M_X12_part) 29 dX12_part_29 rfl ?_
      refine z_vV (M := M_X12_part) 30 dX12_part_30 t_X12_goFrom l_X12_397 (m_rr_of rfl) (rest := []) (c_X12_goFrom2 h3 a2 G3 ⟨by omega, by omega⟩ (NP.call hN R3 (fun _ => rfl) (fun _ => rfl) (fun _ => rfl)) (gG_f (gG_b an.2.2 R1 (fun _ => rfl)) R3 (fun _ => rfl))) o_108 rfl rfl rfl (Nat.le_of_ble_eq_true rfl) ⟨rfl, rfl⟩ (fun h4 qx4 => ?_)
      obtain ⟨G4, S4, fx4_0, fx4_1⟩ := qx4
      rw [e3_] at fx4_1
      have b_ := fx4_1 a1.toNat (by omega)
      have g_ := fx4_0 a1.toNat (by omega)
      have k_ : ptK (h0 110) a1 a2 a3 := ⟨cx1, fx2_1.mp (by omega)⟩
      have R4 := R3.call S4 (by decide +kernel)
      refine z_aload_n (M := M_X12_part) 33 dX12_part_33 rfl ?_
      refine z_getR (M := M_X12_part) 34 dX12_part_34 f_X12_70 o_108 rfl (g_108_32 G4) ?_
      refine z_iload_n (M := M_X12_part) 37 dX12_part_37 rfl ?_
      refine z_zaldG (M := M_X12_part) 38 dX12_part_38 o_127 (by omega) (by omega) (g_127 G4 (by omega)) (fun x5 ex5 ax5 bx5 => ?_)
      refine z_if_ne (M := M_X12_part) 39 dX12_part_39 44 rfl (fun c6 => ?_) (fun c6 => ?_)
      · have u_ := g_.2.2 (ex5.trans (by omega))
        have u1_ : 1 ≤ vS (h4 124) (5 * a1.toNat) 5 := u_.1.1
        have u2_ : vS (h4 124) (5 * a1.toNat) 5 ≤ 25091827216 := u_.1.2
        have u3_ : 1 ≤ vS (h4 125) (5 * a1.toNat) 5 := u_.2.1
        have u4_ : vS (h4 125) (5 * a1.toNat) 5 ≤ 25091827216 := u_.2.2
        rw [bOf_y ex5 (by omega)] at b_
        have a5_ : (5 * a1).toNat = 5 * a1.toNat := at5 (by omega)
        refine z_aload_n (M := M_X12_part) 44 dX12_part_44 rfl ?_
        refine z_getR (M := M_X12_part) 45 dX12_part_45 f_X12_61 o_108 rfl (g_108_29 G4) ?_
        refine z_iconst (M := M_X12_part) 48 dX12_part_48 ?_
        refine z_iload_n (M := M_X12_part) 49 dX12_part_49 rfl ?_
        refine z_imulN (M := M_X12_part) 50 dX12_part_50 (by omega) (by omega) ?_
        refine z_sJ (M := M_X12_part) 51 dX12_part_51 t_X12_whole l_X12_439 (m_rr_of rfl) (rest := []) (c_X12_whole124x h4 (5 * a1) G4 ⟨by omega, by omega⟩ (by omega) (by rw [a5_]; exact u2_)) rfl rfl (Nat.le_of_ble_eq_true rfl) ⟨rfl, rfl⟩ (fun x7 h5 qx7 => ?_)
        obtain ⟨G5, S5, fx7_0⟩ := qx7
        rw [a5_] at fx7_0
        have e5_ := frE S5
        have R5 := R4.call S5 (by decide +kernel)
        refine z_lstore (M := M_X12_part) 54 dX12_part_54 (ls' := [some (mR 108), some (mI a1), some (mI a2), some (mI a3), some (mJ x7), none, none, none, none, none, none, none, none, none, none, none]) (by decide) rfl ?_
        refine z_aload_n (M := M_X12_part) 56 dX12_part_56 rfl ?_
        refine z_getR (M := M_X12_part) 57 dX12_part_57 f_X12_64 o_108 rfl (g_108_30 G5) ?_
        refine z_iconst (M := M_X12_part) 60 dX12_part_60 ?_
        refine z_iload_n (M := M_X12_part) 61 dX12_part_61 rfl ?_
        refine z_imulN (M := M_X12_part) 62 dX12_part_62 (by omega) (by omega) ?_
        refine z_sJ (M := M_X12_part) 63 dX12_part_63 t_X12_whole l_X12_439 (m_rr_of rfl) (rest := []) (c_X12_whole125x h5 (5 * a1) G5 ⟨by omega, by omega⟩ (by omega) (by rw [a5_, e5_]; exact u4_)) rfl rfl (Nat.le_of_ble_eq_true rfl) ⟨rfl, rfl⟩ (fun x8 h6 qx8 => ?_)
        obtain ⟨G6, S6, fx8_0⟩ := qx8
        rw [a5_, e5_] at fx8_0
        rw [← fx7_0, ← fx8_0] at b_
        rw [← fx7_0] at u1_ u2_
        rw [← fx8_0] at u3_ u4_
        have R6 := R5.call S6 (by decide +kernel)
        refine z_lstore (M := M_X12_part) 66 dX12_part_66 (ls' := [some (mR 108), some (mI a1), some (mI a2), some (mI a3), some (mJ x7), none, some (mJ x8), none, none, none, none, none, none, none, none, none]) (by decide) rfl ?_
        refine z_lload (M := M_X12_part) 68 dX12_part_68 rfl ?_
        refine z_lload (M := M_X12_part) 70 dX12_part_70 rfl ?_
        refine z_sJ (M := M_X12_part) 72 dX12_part_72 t_X12_common l_X12_443 (m_rr_of rfl) (rest := []) (c_X12_common4 h6 x7 x8 G6 (by omega) (by omega)) rfl rfl (Nat.le_of_ble_eq_true rfl) ⟨rfl, rfl⟩ (fun x9 h7 qx9 => ?_)
        obtain ⟨G7, S7, fx9_0⟩ := qx9
        have gp_ := gd_p (a := x7) (b := x8) (by omega)
        have R7 := R6.call S7 (by decide +kernel)
        refine z_lstore (M := M_X12_part) 75 dX12_part_75 (ls' := [some (mR 108), some (mI a1), some (mI a2), some (mI a3), some (mJ x7), none, some (mJ x8), none, some (mJ x9), none, none, none, none, none, none, none]) (by decide) rfl ?_
        have du := (ga_dgi G4 fx4_0 (by omega) (by omega) ex5 (by omega)).1
        have wu := u1_
        have wc : x9 ≠ 0 := by omega
        have e7_ : h7 110 = h0 110 := FR.row R7 (fun _ => rfl)
        refine z_aload_n (M := M_X12_part) 77 dX12_part_77 rfl ?_
        refine z_iload_n (M := M_X12_part) 78 dX12_part_78 rfl ?_
        refine z_vV (M := M_X12_part) 79 dX12_part_79 t_X12_goFrom l_X12_397 (m_rr_of rfl) (rest := []) (c_X12_goFrom2 h7 a1 G7 ⟨by omega, by omega⟩ (NP.call hN R7 (fun _ => rfl) (fun _ => rfl) (fun _ => rfl)) (gG_f (gG_b an.2.2 R1 (fun _ => rfl)) R7 (fun _ => rfl))) o_108 rfl rfl rfl (Nat.le_of_ble_eq_true rfl) ⟨rfl, rfl⟩ (fun h8 qx10 => ?_)
        obtain ⟨G8, S8, fx10_0, fx10_1⟩ := qx10
        rw [e7_] at fx10_1
        have d_ := fx10_1 a2.toNat (by omega)
        have g2_ := fx10_0 a2.toNat (by omega)
        have R8 := R7.call S8 (by decide +kernel)
        refine z_aload_n (M := M_X12_part) 82 dX12_part_82 rfl ?_
        refine z_getR (M := M_X12_part) 83 dX12_part_83 f_X12_70 o_108 rfl (g_108_32 G8) ?_
        refine z_iload_n (M := M_X12_part) 86 dX12_part_86 rfl ?_
        refine z_zaldG (M := M_X12_part) 87 dX12_part_87 o_127 (by omega) (by omega) (g_127 G8 (by omega)) (fun x11 ex11 ax11 bx11 => ?_)
        refine z_if_ne (M := M_X12_part) 88 dX12_part_88 93 rfl (fun c12 => ?_) (fun c12 => ?_)
        · have v_ := g2_.2.2 (ex11.trans (by omega))
          have v1_ : 1 ≤ vS (h8 124) (5 * a2.toNat) 5 := v_.1.1
          have v2_ : vS (h8 124) (5 * a2.toNat) 5 ≤ 25091827216 := v_.1.2
          have v3_ : 1 ≤ vS (h8 125) (5 * a2.toNat) 5 := v_.2.1
          have v4_ : vS (h8 125) (5 * a2.toNat) 5 ≤ 25091827216 := v_.2.2
          rw [bOf_y ex11 (by omega)] at d_
          have a6_ : (5 * a2).toNat = 5 * a2.toNat := at5 (by omega)
          refine z_aload_n (M := M_X12_part) 93 dX12_part_93 rfl ?_
          refine z_getR (M := M_X12_part) 94 dX12_part_94 f_X12_61 o_108 rfl (g_108_29 G8) ?_
          refine z_iconst (M := M_X12_part) 97 dX12_part_97 ?_
          refine z_iload_n (M := M_X12_part) 98 dX12_part_98 rfl ?_
          refine z_imulN (M := M_X12_part) 99 dX12_part_99 (by omega) (by omega) ?_
          refine z_sJ (M := M_X12_part) 100 dX12_part_100 t_X12_whole l_X12_439 (m_rr_of rfl) (rest := []) (c_X12_whole124x h8 (5 * a2) G8 ⟨by omega, by omega⟩ (by omega) (by rw [a6_]; exact v2_)) rfl rfl (Nat.le_of_ble_eq_true rfl) ⟨rfl, rfl⟩ (fun x13 h9 qx13 => ?_)
          obtain ⟨G9, S9, fx13_0⟩ := qx13
          rw [a6_] at fx13_0
          have e9_ := frE S9
          have R9 := R8.call S9 (by decide +kernel)
          refine z_lstore (M := M_X12_part) 103 dX12_part_103 (ls' := [some (mR 108), some (mI a1), some (mI a2), some (mI a3), some (mJ x7), none, some (mJ x8), none, some (mJ x9), none, some (mJ x13), none, none, none, none, none]) (by decide) rfl ?_
          refine z_aload_n (M := M_X12_part) 105 dX12_part_105 rfl ?_
          refine z_getR (M := M_X12_part) 106 dX12_part_106 f_X12_64 o_108 rfl (g_108_30 G9) ?_
          refine z_iconst (M := M_X12_part) 109 dX12_part_109 ?_
          refine z_iload_n (M := M_X12_part) 110 dX12_part_110 rfl ?_
          refine z_imulN (M := M_X12_part) 111 dX12_part_111 (by omega) (by omega) ?_
          refine z_sJ (M := M_X12_part) 112 dX12_part_112 t_X12_whole l_X12_439 (m_rr_of rfl) (rest := []) (c_X12_whole125x h9 (5 * a2) G9 ⟨by omega, by omega⟩ (by omega) (by rw [a6_, e9_]; exact v4_)) rfl rfl (Nat.le_of_ble_eq_true rfl) ⟨rfl, rfl⟩ (fun x14 h10 qx14 => ?_)
          obtain ⟨G10, S10, fx14_0⟩ := qx14
          rw [a6_, e9_] at fx14_0
          rw [← fx13_0, ← fx14_0] at d_
          rw [← fx13_0] at v1_ v2_
          rw [← fx14_0] at v3_ v4_
          have R10 := R9.call S10 (by decide +kernel)
          refine z_lstore (M := M_X12_part) 115 dX12_part_115 (ls' := [some (mR 108), some (mI a1), some (mI a2), some (mI a3), some (mJ x7), none, some (mJ x8), none, some (mJ x9), none, some (mJ x13), none, some (mJ x14), none, none, none]) (by decide) rfl ?_
          refine z_lload (M := M_X12_part) 117 dX12_part_117 rfl ?_
          refine z_lload (M := M_X12_part) 119 dX12_part_119 rfl ?_
          refine z_sJ (M := M_X12_part) 121 dX12_part_121 t_X12_common l_X12_443 (m_rr_of rfl) (rest := []) (c_X12_common4 h10 x13 x14 G10 (by omega) (by omega)) rfl rfl (Nat.le_of_ble_eq_true rfl) ⟨rfl, rfl⟩ (fun x15 h11 qx15 => ?_)
          obtain ⟨G11, S11, fx15_0⟩ := qx15
          have gp2_ := gd_p (a := x13) (b := x14) (by omega)
          have R11 := R10.call S11 (by decide +kernel)
          refine z_lstore (M := M_X12_part) 124 dX12_part_124 (ls' := [some (mR 108), some (mI a1), some (mI a2), some (mI a3), some (mJ x7), none, some (mJ x8), none, some (mJ x9), none, some (mJ x13), none, some (mJ x14), none, some (mJ x15), none]) (by decide) rfl ?_
          have db := (ga_dgi G8 fx10_0 (by omega) (by omega) ex11 (by omega)).1
          have wb := v1_
          have wd : x15 ≠ 0 := by omega
          have pe_ := pt_ref (L1 := x7) (T1 := x8) (L2 := x13) (T2 := x14) (by omega) (by omega) (by omega) (by omega)
          rw [fx9_0, gd_c x14 x13, fx15_0] at pe_
          refine z_lload (M := M_X12_part) 126 dX12_part_126 rfl ?_
          refine z_lload (M := M_X12_part) 128 dX12_part_128 rfl ?_
          refine z_ldivN (M := M_X12_part) 130 dX12_part_130 (by omega) (by omega) ?_
          refine z_topJ (fun x16 ex16 => ?_)
          refine z_lload (M := M_X12_part) 131 dX12_part_131 rfl ?_
          refine z_lload (M := M_X12_part) 133 dX12_part_133 rfl ?_
          refine z_ldivN (M := M_X12_part) 135 dX12_part_135 (by omega) (by omega) ?_
          refine z_topJ (fun x17 ex17 => ?_)
          refine z_lcmp (M := M_X12_part) 136 dX12_part_136 ?_
          refine z_if_ne (M := M_X12_part) 137 dX12_part_137 154 rfl (fun c18 => ?_) (fun c18 => ?_)
          · rw [m_cmp_eq] at c18
            refine z_lconst (M := M_X12_part) 154 dX12_part_154 (v := 0) ?_
            exact z_retJ (M := M_X12_part) 155 dX12_part_155 rfl ⟨G11, R11, pt_of k_ b_ d_ (Or.inl ⟨fun z => absurd (by have y := (pe_.mp z).1; rw [ex16, ex17] at y; exact y) c18, rfl⟩)⟩
          · rw [m_cmp_eq] at c18
            refine z_lload (M := M_X12_part) 140 dX12_part_140 rfl ?_
            refine z_lload (M := M_X12_part) 142 dX12_part_142 rfl ?_
            refine z_ldivN (M := M_X12_part) 144 dX12_part_144 (by omega) (by omega) ?_
            refine z_topJ (fun x19 ex19 => ?_)
            refine z_lload (M := M_X12_part) 145 dX12_part_145 rfl ?_
            refine z_lload (M := M_X12_part) 147 dX12_part_147 rfl ?_
            refine z_ldivN (M := M_X12_part) 149 dX12_part_149 (by omega) (by omega) ?_
            refine z_topJ (fun x20 ex20 => ?_)
            refine z_lcmp (M := M_X12_part) 150 dX12_part_150 ?_
            refine z_if_eq (M := M_X12_part) 151 dX12_part_151 156 rfl (fun c21 => ?_) (fun c21 => ?_)
            · rw [m_cmp_eq] at c21
              refine z_iload_n (M := M_X12_part) 156 dX12_part_156 rfl ?_
              refine z_if_ne (M := M_X12_part) 157 dX12_part_157 168 rfl (fun c22 => ?_) (fun c22 => ?_)
              · refine z_lload (M := M_X12_part) 168 dX12_part_168 rfl ?_
                refine z_lload (M := M_X12_part) 170 dX12_part_170 rfl ?_
                refine z_ldivN (M := M_X12_part) 172 dX12_part_172 (by omega) (by omega) ?_
                refine z_topJ (fun x23 ex23 => ?_)
                exact z_retJ (M := M_X12_part) 173 dX12_part_173 rfl ⟨G11, R11, pt_of k_ b_ d_ (Or.inr ⟨(show x14 * x8 = x13 * x7 from pe_.mpr ⟨by rw [ex16, ex17]; omega, by rw [ex19, ex20]; omega⟩), Or.inr ⟨by omega, by show x13 / gd x14 x13 = _; rw [(show gd x14 x13 = x15 by rw [gd_c]; exact fx15_0), ex20, ← ex23, ex19]; omega⟩⟩)⟩
              · refine z_lload (M := M_X12_part) 160 dX12_part_160 rfl ?_
                refine z_lload (M := M_X12_part) 162 dX12_part_162 rfl ?_
                refine z_ldivN (M := M_X12_part) 164 dX12_part_164 (by omega) (by omega) ?_
                refine z_topJ (fun x24 ex24 => ?_)
                refine z_goto (M := M_X12_part) 165 dX12_part_165 173 rfl ?_
                exact z_retJ (M := M_X12_part) 173 dX12_part_173 rfl ⟨G11, R11, pt_of k_ b_ d_ (Or.inr ⟨(show x14 * x8 = x13 * x7 from pe_.mpr ⟨by rw [ex16, ex17]; omega, by rw [ex19, ex20]; omega⟩), Or.inl ⟨by omega, by show x14 / gd x14 x13 = _; rw [(show gd x14 x13 = x15 by rw [gd_c]; exact fx15_0), ex17, ← ex24, ex16]; omega⟩⟩)⟩
            · rw [m_cmp_eq] at c21
              refine z_lconst (M := M_X12_part) 154 dX12_part_154 (v := 0) ?_
              exact z_retJ (M := M_X12_part) 155 dX12_part_155 rfl ⟨G11, R11, pt_of k_ b_ d_ (Or.inl ⟨fun z => absurd (by have y := (pe_.mp z).2; rw [ex19, ex20] at y; exact y) c21, rfl⟩)⟩
        · refine z_lconst (M := M_X12_part) 91 dX12_part_91 (v := 0) ?_
          exact z_retJ (M := M_X12_part) 92 dX12_part_92 rfl ⟨G8, R8, pt_of k_ b_ (by have z := d_; rw [bOf_n ex11 (by omega)] at z; exact z) (Or.inl ⟨fun z => by have y : (1 : Int) * x8 = 0 * x7 := z; omega, rfl⟩)⟩
      · refine z_lconst (M := M_X12_part) 42 dX12_part_42 (v := 0) ?_
        exact z_retJ (M := M_X12_part) 43 dX12_part_43 rfl ⟨G4, R4, Or.inr ⟨k_, _, b_, Or.inl ⟨by rw [bOf_n ex5 (by omega)], rfl⟩⟩⟩
    · refine z_ldc2 (M := M_X12_part) 24 dX12_part_24 k_X12_437 ?_
      exact z_retJ (M := M_X12_part) 27 dX12_part_27 rfl ⟨G3, R3, Or.inl ⟨fun z => absurd (fx2_1.mpr z.2) (by omega), rfl⟩⟩
  · refine z_if_eq_T (M := M_X12_part) 12 dX12_part_12 24 rfl (by omega) ?_
    refine z_ldc2 (M := M_X12_part) 24 dX12_part_24 k_X12_437 ?_
    exact z_retJ (M := M_X12_part) 27 dX12_part_27 rfl ⟨G1, R1, Or.inl ⟨fun z => cx1 z.1, rfl⟩⟩
