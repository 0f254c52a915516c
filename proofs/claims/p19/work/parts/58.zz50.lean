/-! lay, area: fractions compared quotient by quotient -/
def sg3 (u v : Int) : Int := if u < v then -1 else if u = v then 0 else 1
theorem sg3_a (k u v : Int) : sg3 (k + u) (k + v) = sg3 u v := by
  unfold sg3
  by_cases c : u < v
  · rw [if_pos c, if_pos (by omega)]
  · rw [if_neg c, if_neg (by omega)]
    by_cases d : u = v
    · rw [if_pos d, if_pos (by omega)]
    · rw [if_neg d, if_neg (by omega)]
theorem sg3_n (u v : Int) : sg3 v u = -(sg3 u v) := by
  unfold sg3
  split <;> split <;> (try split) <;> (try split) <;> omega
theorem sg3_b (u v : Int) : -1 ≤ sg3 u v ∧ sg3 u v ≤ 1 := by
  unfold sg3
  split
  · omega
  · split <;> omega
theorem cf_lt {x y z w : Int} (hy : 1 ≤ y) (hw : 1 ≤ w) (h : x / y < z / w) : x * w < z * y := by
  have h1 := Int.lt_mul_ediv_self_add (x := x) (k := y) (by omega)
  have h2 := Int.mul_ediv_self_le (x := z) (k := w) (by omega)
  have m1 := Int.mul_le_mul_of_nonneg_left (show x / y + 1 ≤ z / w by omega) (show 0 ≤ y by omega)
  rw [Int.mul_add, Int.mul_one] at m1
  have m2 := Int.mul_le_mul_of_nonneg_right (show x + 1 ≤ y * (z / w) by omega) (show 0 ≤ w by omega)
  rw [Int.add_mul, Int.one_mul] at m2
  have m3 := Int.mul_le_mul_of_nonneg_left h2 (show 0 ≤ y by omega)
  have k : y * (z / w) * w = y * (w * (z / w)) := by ac_rfl
  rw [k] at m2
  rw [Int.mul_comm z y]
  omega
theorem cf_q {x y z w : Int} (hy : 1 ≤ y) (hw : 1 ≤ w) (h : x / y ≠ z / w) : sg3 (x * w) (z * y) = sg3 (x / y) (z / w) := by
  unfold sg3
  rcases Int.lt_trichotomy (x / y) (z / w) with g | g | g
  · rw [if_pos g, if_pos (cf_lt hy hw g)]
  · exact absurd g h
  · have a := cf_lt hw hy g
    rw [if_neg (by omega), if_neg (by omega), if_neg (by omega), if_neg (by omega)]
theorem cf_r {x y z w : Int} (h : x / y = z / w) : sg3 (x * w) (z * y) = sg3 (x % y * w) (z % w * y) := by
  have e1 := Int.mul_ediv_add_emod x y
  have e2 := Int.mul_ediv_add_emod z w
  have k1 : x * w = y * w * (z / w) + x % y * w := by
    conv => lhs; rw [← e1, Int.add_mul, h]
    rw [Int.mul_right_comm]
  have k2 : z * y = y * w * (z / w) + z % w * y := by
    conv => lhs; rw [← e2, Int.add_mul]
    congr 1
    ac_rfl
  rw [k1, k2, sg3_a]
theorem cf_0 {a b y w : Int} (hy : 1 ≤ y) (hw : 1 ≤ w) (ha : 0 ≤ a) (hb : 0 ≤ b) (h : a = 0 ∨ b = 0) : sg3 (a * w) (b * y) = sg3 a b := by
  rcases h with h | h
  · subst h
    rw [Int.zero_mul]
    by_cases g : b = 0
    · subst g; rw [Int.zero_mul]
    · have m := Int.mul_pos (show 0 < b by omega) (show 0 < y by omega)
      unfold sg3
      rw [if_pos m, if_pos (by omega)]
  · subst h
    rw [Int.zero_mul]
    by_cases g : a = 0
    · subst g; rw [Int.zero_mul]
    · have m := Int.mul_pos (show 0 < a by omega) (show 0 < w by omega)
      unfold sg3
      rw [if_neg (by omega), if_neg (by omega), if_neg (by omega), if_neg (by omega)]
def cfI (a b c d x y z w s i : Int) : Prop := ((0 ≤ x ∧ 1 ≤ y) ∧ 0 ≤ z ∧ 1 ≤ w) ∧ ((s = 1 ∨ s = -1) ∧ s * sg3 (x * w) (z * y) = sg3 (a * d) (c * b)) ∧ ((i = 0 ∧ x ≤ 4611686018427387904 ∧ y ≤ 4611686018427387904) ∨ (1 ≤ i ∧ y ≤ x ∧ x * y * (2 : Int) ^ (i - 1).toNat ≤ 21267647932558653966460912964485513216))
theorem cfI_x {a b c d x y z w s i : Int} (I : cfI a b c d x y z w s i) (h : 200 ≤ i) : False := by
  obtain ⟨⟨⟨x0, y0⟩, _⟩, _, c⟩ := I
  rcases c with ⟨q, _⟩ | ⟨_, yx, p⟩
  · omega
  · have m := Int.mul_le_mul (show 1 ≤ x by omega) y0 (by decide) x0
    have p2 : (0 : Int) ≤ (2 : Int) ^ (i - 1).toNat := Int.le_of_lt (Int.pow_pos (by decide))
    have m2 := Int.mul_le_mul_of_nonneg_right m p2
    have k : (i - 1).toNat = 199 + (i - 200).toNat := by omega
    have m3 : (1 : Int) ≤ (2 : Int) ^ (i - 200).toNat := by have := Int.pow_pos (n := 2) (m := (i - 200).toNat) (by decide); omega
    have m4 := Int.mul_le_mul_of_nonneg_left m3 (show (0 : Int) ≤ (2 : Int) ^ 199 by decide)
    rw [k, Int.pow_add] at m2 p
    have k2 : (21267647932558653966460912964485513216 : Int) < (2 : Int) ^ 199 := by decide
    omega
theorem cf_w {s y : Int} (hs : s = 1 ∨ s = -1) (h : -1 ≤ y ∧ y ≤ 1) : m_w (s * y) = s * y := by
  rcases hs with e | e <;> subst e
  · rw [Int.one_mul]; exact m_w_id (by omega) (by omega)
  · rw [Int.neg_mul, Int.one_mul]; exact m_w_id (by omega) (by omega)
theorem cfI_q {a b c d x y z w s i q1 q2 o v : Int} (I : cfI a b c d x y z w s i) (e1 : x / y = q1) (e2 : z / w = q2) (eo : o = sg3 q1 q2) (n : ¬ o = 0) (ev : m_w (s * o) = v) : v = sg3 (a * d) (c * b) := by
  obtain ⟨⟨⟨x0, y0⟩, z0, w0⟩, ⟨hs, h⟩, _⟩ := I
  have ne : x / y ≠ z / w := fun g => n (by rw [eo, ← e1, ← e2, g]; unfold sg3; rw [if_neg (by omega), if_pos rfl])
  rw [← ev, cf_w hs (by rw [eo]; exact sg3_b _ _), ← h, cf_q y0 w0 ne, e1, e2, eo]
theorem cf_eq {q1 q2 o : Int} (eo : o = sg3 q1 q2) (z : o = 0) : q1 = q2 := by
  rw [z] at eo
  unfold sg3 at eo
  by_cases c : q1 < q2
  · rw [if_pos c] at eo; omega
  · rw [if_neg c] at eo
    by_cases d : q1 = q2
    · exact d
    · rw [if_neg d] at eo; omega
theorem cfI_0 {a b c d x y z w s i q1 q2 o r1 r2 u v : Int} (I : cfI a b c d x y z w s i) (e1 : x / y = q1) (e2 : z / w = q2) (eo : o = sg3 q1 q2) (n : o = 0) (f1 : x % y = r1) (f2 : z % w = r2) (g : r1 = 0 ∨ r2 = 0) (eu : u = sg3 r1 r2) (ev : m_w (s * u) = v) : v = sg3 (a * d) (c * b) := by
  obtain ⟨⟨⟨x0, y0⟩, z0, w0⟩, ⟨hs, h⟩, _⟩ := I
  have eq := cf_eq eo n
  have p1 := Int.emod_nonneg x (show y ≠ 0 by omega)
  have p2 := Int.emod_nonneg z (show w ≠ 0 by omega)
  rw [← ev, cf_w hs (by rw [eu]; exact sg3_b _ _), ← h, cf_r (by rw [e1, e2, eq]), f1, f2, cf_0 y0 w0 (by omega) (by omega) g, eu]
theorem cfI_s {a b c d x y z w s i q1 q2 o r1 r2 : Int} (I : cfI a b c d x y z w s i) (hi : 0 ≤ i) (e1 : x / y = q1) (e2 : z / w = q2) (eo : o = sg3 q1 q2) (n : o = 0) (f1 : x % y = r1) (f2 : z % w = r2) (g1 : ¬ r1 = 0) (g2 : ¬ r2 = 0) : cfI a b c d y r1 w r2 (-s) (i + 1) := by
  obtain ⟨⟨⟨x0, y0⟩, z0, w0⟩, ⟨hs, h⟩, k⟩ := I
  have eq := cf_eq eo n
  have p1 := Int.emod_nonneg x (show y ≠ 0 by omega)
  have p2 := Int.emod_nonneg z (show w ≠ 0 by omega)
  have l1 := Int.emod_lt_of_pos x (show 0 < y by omega)
  rw [f1] at p1 l1
  rw [f2] at p2
  refine ⟨⟨⟨by omega, by omega⟩, by omega, by omega⟩, ⟨by omega, ?_⟩, Or.inr ⟨by omega, by omega, ?_⟩⟩
  · rw [← h, cf_r (x := x) (y := y) (z := z) (w := w) (by rw [e1, e2, eq]), f1, f2, Int.mul_comm y r2, Int.mul_comm w r1, sg3_n]
    rw [Int.neg_mul_neg]
  · rw [show i + 1 - 1 = i by omega]
    rcases k with ⟨i0, xw, yw⟩ | ⟨i1, yx, p⟩
    · subst i0
      have m := mul_bd (X := 4611686018427387904) (Y := 4611686018427387904) (show 0 ≤ y by omega) yw p1 (show r1 ≤ 4611686018427387904 by omega)
      show y * r1 * (2 : Int) ^ 0 ≤ _
      rw [Int.pow_zero, Int.mul_one]
      omega
    · have hr : 2 * r1 ≤ x := by
        have d := Int.emod_def x y
        rw [f1] at d
        have q : 1 ≤ x / y := Int.le_ediv_of_mul_le (by omega) (by omega)
        have m := Int.mul_le_mul_of_nonneg_left q (show 0 ≤ y by omega)
        omega
      have m := Int.mul_le_mul_of_nonneg_left hr (show 0 ≤ y by omega)
      have k : i.toNat = (i - 1).toNat + 1 := by omega
      rw [k, Int.pow_succ]
      have pp : (0 : Int) ≤ (2 : Int) ^ (i - 1).toNat := Int.le_of_lt (Int.pow_pos (by decide))
      have m2 := Int.mul_le_mul_of_nonneg_right m pp
      have k1 : y * r1 * ((2 : Int) ^ (i - 1).toNat * 2) = y * (2 * r1) * (2 : Int) ^ (i - 1).toNat := by ac_rfl
      rw [k1]
      rw [Int.mul_comm y x] at m2
      omega
abbrev P_J13_compare2 (h0 : m_H) (a0 a1 : Int) : Int → m_H → Prop := fun x h' => GI h' ∧ FR [] [] h0 h' ∧ (-1) ≤ x ∧ x ≤ 1 ∧ x = sg3 a0 a1
set_option maxHeartbeats 4000000 in
set_option maxRecDepth 100000 in
theorem c_J13_compare2 (h0 : m_H) (a0 a1 : Int) (G0 : GI h0) : m_CI M_J13_compare_74951 [mJ a0, mJ a1] h0 (P_J13_compare2 h0 a0 a1) := by
  refine m_CI_of ⟨by decide, rfl, by simp [m_arg, m_isL, M_J13_compare_74951], ⟨rfl, rfl⟩, rfl, rfl⟩ (ls := [some (mJ a0), none, some (mJ a1), none]) rfl ?_
  refine z_lload_n (M := M_J13_compare_74951) 0 dJ13_compare_74951_0 rfl ?_
  refine z_lload_n (M := M_J13_compare_74951) 1 dJ13_compare_74951_1 rfl ?_
  refine z_lcmp (M := M_J13_compare_74951) 2 dJ13_compare_74951_2 ?_
  refine z_if_ge (M := M_J13_compare_74951) 3 dJ13_compare_74951_3 10 rfl (fun c1 => ?_) (fun c1 => ?_)
  · rw [m_cmp_ge] at c1
    refine z_lload_n (M := M_J13_compare_74951) 10 dJ13_compare_74951_10 rfl ?_
    refine z_lload_n (M := M_J13_compare_74951) 11 dJ13_compare_74951_11 rfl ?_
    refine z_lcmp (M := M_J13_compare_74951) 12 dJ13_compare_74951_12 ?_
    refine z_if_ne (M := M_J13_compare_74951) 13 dJ13_compare_74951_13 20 rfl (fun c2 => ?_) (fun c2 => ?_)
    · rw [m_cmp_eq] at c2
      refine z_iconst (M := M_J13_compare_74951) 20 dJ13_compare_74951_20 ?_
      exact z_retI (M := M_J13_compare_74951) 21 dJ13_compare_74951_21 rfl ⟨G0, (FR.rf (cs := []) (ss := []) (h := h0)), by omega, by omega, (by unfold sg3; rw [if_neg (by omega), if_neg (by omega)])⟩
    · rw [m_cmp_eq] at c2
      refine z_iconst (M := M_J13_compare_74951) 16 dJ13_compare_74951_16 ?_
      refine z_goto (M := M_J13_compare_74951) 17 dJ13_compare_74951_17 21 rfl ?_
      exact z_retI (M := M_J13_compare_74951) 21 dJ13_compare_74951_21 rfl ⟨G0, (FR.rf (cs := []) (ss := []) (h := h0)), by omega, by omega, (by unfold sg3; rw [if_neg (by omega), if_pos (by omega)])⟩
  · rw [m_cmp_ge] at c1
    refine z_iconst (M := M_J13_compare_74951) 6 dJ13_compare_74951_6 ?_
    refine z_goto (M := M_J13_compare_74951) 7 dJ13_compare_74951_7 21 rfl ?_
    exact z_retI (M := M_J13_compare_74951) 21 dJ13_compare_74951_21 rfl ⟨G0, (FR.rf (cs := []) (ss := []) (h := h0)), by omega, by omega, (by unfold sg3; rw [if_pos (by omega)])⟩
abbrev P_X11_compareFractions2 (h0 : m_H) (a0 a1 a2 a3 : Int) : Int → m_H → Prop := fun x h' => GI h' ∧ FR [] [] h0 h' ∧ x = sg3 (a0 * a3) (a2 * a1)
def q_X11_compareFractions2 (h0 : m_H) (a0 a1 a2 a3 : Int) (n : Nat) : Prop := (∀ (l8 l10 l12 l14 l16 l17 : Int) (h : m_H), GI h → FR [] [] h0 h → (-1) ≤ l16 → l16 ≤ 1 → 0 ≤ l17 → l17 ≤ 200 → (cfI a0 a1 a2 a3 l8 l10 l12 l14 l16 l17) → 2 * (200 - l17) + (1) ≤ (n : Int) → m_Z oF M_X11_compareFractions 20 [none, none, none, none, none, none, none, none, some (mJ l8), none, some (mJ l10), none, some (mJ l12), none, some (mJ l14), none, some (mI l16), some (mI l17), none, none, none, none, none] [] h (m_QI (P_X11_compareFractions2 h0 a0 a1 a2 a3)))
set_option maxHeartbeats 4000000 in
set_option maxRecDepth 100000 in
theorem s_X11_compareFractions2_20 (h0 : m_H) (a0 a1 a2 a3 : Int) (G0 : GI h0) (p0 : 0 ≤ a0 ∧ a0 ≤ 4611686018427387904) (p1 : 1 ≤ a1 ∧ a1 ≤ 4611686018427387904) (p2 : 0 ≤ a2) (p3 : 1 ≤ a3) (n : Nat) (ih : q_X11_compareFractions2 h0 a0 a1 a2 a3 n) : ∀ (l8 l10 l12 l14 l16 l17 : Int) (h : m_H), GI h → FR [] [] h0 h → (-1) ≤ l16 → l16 ≤ 1 → 0 ≤ l17 → l17 ≤ 200 → (cfI a0 a1 a2 a3 l8 l10 l12 l14 l16 l17) → 2 * (200 - l17) + (1) ≤ ((n + 1 : Nat) : Int) → m_Z oF M_X11_compareFractions 20 [none, none, none, none, none, none, none, none, some (mJ l8), none, some (mJ l10), none, some (mJ l12), none, some (mJ l14), none, some (mI l16), some (mI l17), none, none, none, none, none] [] h (m_QI (P_X11_compareFractions2 h0 a0 a1 a2 a3)) := by
  intro l8 l10 l12 l14 l16 l17 h G R v0 v1 v2 v3 i1 hr
  have i2 := i1.1
  refine z_iload (M := M_X11_compareFractions) 20 dX11_compareFractions_20 rfl ?_
  refine z_sipush (M := M_X11_compareFractions) 22 dX11_compareFractions_22 ?_
  refine z_icmp_ge (M := M_X11_compareFractions) 25 dX11_compareFractions_25 134 rfl (fun c1 => ?_) (fun c1 => ?_)
  · refine z_iconst (M := M_X11_compareFractions) 134 dX11_compareFractions_134 ?_
    exact z_retI (M := M_X11_compareFractions) 135 dX11_compareFractions_135 rfl ⟨G, R, (cfI_x i1 (by omega)).elim⟩
  · refine z_lload (M := M_X11_compareFractions) 28 dX11_compareFractions_28 rfl ?_
    refine z_lconst (M := M_X11_compareFractions) 30 dX11_compareFractions_30 (v := 0) ?_
    refine z_lcmp (M := M_X11_compareFractions) 31 dX11_compareFractions_31 ?_
    refine z_if_le (M := M_X11_compareFractions) 32 dX11_compareFractions_32 134 rfl (fun c2 => ?_) (fun c2 => ?_)
    · rw [m_cmp_le] at c2
      refine z_iconst (M := M_X11_compareFractions) 134 dX11_compareFractions_134 ?_
      exact z_retI (M := M_X11_compareFractions) 135 dX11_compareFractions_135 rfl ⟨G, R, absurd i1.1.1.2 (by omega)⟩
    · rw [m_cmp_le] at c2
      refine z_lload (M := M_X11_compareFractions) 35 dX11_compareFractions_35 rfl ?_
      refine z_lconst (M := M_X11_compareFractions) 37 dX11_compareFractions_37 (v := 0) ?_
      refine z_lcmp (M := M_X11_compareFractions) 38 dX11_compareFractions_38 ?_
      refine z_if_le (M := M_X11_compareFractions) 39 dX11_compareFractions_39 134 rfl (fun c3 => ?_) (fun c3 => ?_)
      · rw [m_cmp_le] at c3
        refine z_iconst (M := M_X11_compareFractions) 134 dX11_compareFractions_134 ?_
        exact z_retI (M := M_X11_compareFractions) 135 dX11_compareFractions_135 rfl ⟨G, R, absurd i1.1.2.2 (by omega)⟩
      · rw [m_cmp_le] at c3
        refine z_lload (M := M_X11_compareFractions) 42 dX11_compareFractions_42 rfl ?_
        refine z_lload (M := M_X11_compareFractions) 44 dX11_compareFractions_44 rfl ?_
        refine z_ldivN (M := M_X11_compareFractions) 46 dX11_compareFractions_46 (by omega) (by omega) ?_
        refine z_topJ (fun x4 ex4 => ?_)
        refine z_lload (M := M_X11_compareFractions) 47 dX11_compareFractions_47 rfl ?_
        refine z_lload (M := M_X11_compareFractions) 49 dX11_compareFractions_49 rfl ?_
        refine z_ldivN (M := M_X11_compareFractions) 51 dX11_compareFractions_51 (by omega) (by omega) ?_
        refine z_topJ (fun x5 ex5 => ?_)
        refine z_sI (M := M_X11_compareFractions) 52 dX11_compareFractions_52 t_J13_compare_74951 l_X11_443 (m_rr_of rfl) (rest := []) (c_J13_compare2 h x4 x5 G) rfl rfl (Nat.le_of_ble_eq_true rfl) ⟨rfl, rfl⟩ (fun x6 h1 qx6 => ?_)
        obtain ⟨G1, S1, ax6, bx6, fx6⟩ := qx6
        have R1 := R.call S1 (by decide +kernel)
        refine z_istore (M := M_X11_compareFractions) 55 dX11_compareFractions_55 (ls' := [none, none, none, none, none, none, none, none, some (mJ l8), none, some (mJ l10), none, some (mJ l12), none, some (mJ l14), none, some (mI l16), some (mI l17), some (mI x6), none, none, none, none]) (by decide) rfl ?_
        refine z_lload (M := M_X11_compareFractions) 57 dX11_compareFractions_57 rfl ?_
        refine z_lload (M := M_X11_compareFractions) 59 dX11_compareFractions_59 rfl ?_
        refine z_lremN (M := M_X11_compareFractions) 61 dX11_compareFractions_61 (by omega) (by omega) ?_
        refine z_topJ (fun x7 ex7 => ?_)
        refine z_lstore (M := M_X11_compareFractions) 62 dX11_compareFractions_62 (ls' := [none, none, none, none, none, none, none, none, some (mJ l8), none, some (mJ l10), none, some (mJ l12), none, some (mJ l14), none, some (mI l16), some (mI l17), some (mI x6), some (mJ x7), none, none, none]) (by decide) rfl ?_
        refine z_lload (M := M_X11_compareFractions) 64 dX11_compareFractions_64 rfl ?_
        refine z_lload (M := M_X11_compareFractions) 66 dX11_compareFractions_66 rfl ?_
        refine z_lremN (M := M_X11_compareFractions) 68 dX11_compareFractions_68 (by omega) (by omega) ?_
        refine z_topJ (fun x8 ex8 => ?_)
        refine z_lstore (M := M_X11_compareFractions) 69 dX11_compareFractions_69 (ls' := [none, none, none, none, none, none, none, none, some (mJ l8), none, some (mJ l10), none, some (mJ l12), none, some (mJ l14), none, some (mI l16), some (mI l17), some (mI x6), some (mJ x7), none, some (mJ x8), none]) (by decide) rfl ?_
        refine z_iload (M := M_X11_compareFractions) 71 dX11_compareFractions_71 rfl ?_
        refine z_if_eq (M := M_X11_compareFractions) 73 dX11_compareFractions_73 82 rfl (fun c9 => ?_) (fun c9 => ?_)
        · refine z_lload (M := M_X11_compareFractions) 82 dX11_compareFractions_82 rfl ?_
          refine z_lconst (M := M_X11_compareFractions) 84 dX11_compareFractions_84 (v := 0) ?_
          refine z_lcmp (M := M_X11_compareFractions) 85 dX11_compareFractions_85 ?_
          refine z_if_eq (M := M_X11_compareFractions) 86 dX11_compareFractions_86 96 rfl (fun c10 => ?_) (fun c10 => ?_)
          · rw [m_cmp_eq] at c10
            refine z_iload (M := M_X11_compareFractions) 96 dX11_compareFractions_96 rfl ?_
            refine z_lload (M := M_X11_compareFractions) 98 dX11_compareFractions_98 rfl ?_
            refine z_lload (M := M_X11_compareFractions) 100 dX11_compareFractions_100 rfl ?_
            refine z_sI (M := M_X11_compareFractions) 102 dX11_compareFractions_102 t_J13_compare_74951 l_X11_443 (m_rr_of rfl) (rest := [mI l16]) (c_J13_compare2 h1 x7 x8 G1) rfl rfl (Nat.le_of_ble_eq_true rfl) ⟨rfl, rfl⟩ (fun x11 h2 qx11 => ?_)
            obtain ⟨G2, S2, ax11, bx11, fx11⟩ := qx11
            have R2 := R1.call S2 (by decide +kernel)
            refine z_imul (M := M_X11_compareFractions) 105 dX11_compareFractions_105 ?_
            refine z_topm (fun x12 ex12 ox12 => ?_)
            unfold m_32 at ox12
            exact z_retI (M := M_X11_compareFractions) 106 dX11_compareFractions_106 rfl ⟨G2, R2, cfI_0 i1 ex4 ex5 fx6 c9 ex7 ex8 (Or.inl c10) fx11 ex12⟩
          · rw [m_cmp_eq] at c10
            refine z_lload (M := M_X11_compareFractions) 89 dX11_compareFractions_89 rfl ?_
            refine z_lconst (M := M_X11_compareFractions) 91 dX11_compareFractions_91 (v := 0) ?_
            refine z_lcmp (M := M_X11_compareFractions) 92 dX11_compareFractions_92 ?_
            refine z_if_ne (M := M_X11_compareFractions) 93 dX11_compareFractions_93 107 rfl (fun c13 => ?_) (fun c13 => ?_)
            · rw [m_cmp_eq] at c13
              refine z_lload (M := M_X11_compareFractions) 107 dX11_compareFractions_107 rfl ?_
              refine z_lstore (M := M_X11_compareFractions) 109 dX11_compareFractions_109 (ls' := [none, none, none, none, none, none, none, none, some (mJ l10), none, some (mJ l10), none, some (mJ l12), none, some (mJ l14), none, some (mI l16), some (mI l17), some (mI x6), some (mJ x7), none, some (mJ x8), none]) (by decide) rfl ?_
              refine z_lload (M := M_X11_compareFractions) 111 dX11_compareFractions_111 rfl ?_
              refine z_lstore (M := M_X11_compareFractions) 113 dX11_compareFractions_113 (ls' := [none, none, none, none, none, none, none, none, some (mJ l10), none, some (mJ l10), none, some (mJ l14), none, some (mJ l14), none, some (mI l16), some (mI l17), some (mI x6), some (mJ x7), none, some (mJ x8), none]) (by decide) rfl ?_
              refine z_lload (M := M_X11_compareFractions) 115 dX11_compareFractions_115 rfl ?_
              refine z_lstore (M := M_X11_compareFractions) 117 dX11_compareFractions_117 (ls' := [none, none, none, none, none, none, none, none, some (mJ l10), none, some (mJ x7), none, some (mJ l14), none, some (mJ l14), none, some (mI l16), some (mI l17), some (mI x6), some (mJ x7), none, some (mJ x8), none]) (by decide) rfl ?_
              refine z_lload (M := M_X11_compareFractions) 119 dX11_compareFractions_119 rfl ?_
              refine z_lstore (M := M_X11_compareFractions) 121 dX11_compareFractions_121 (ls' := [none, none, none, none, none, none, none, none, some (mJ l10), none, some (mJ x7), none, some (mJ l14), none, some (mJ x8), none, some (mI l16), some (mI l17), some (mI x6), some (mJ x7), none, some (mJ x8), none]) (by decide) rfl ?_
              refine z_iload (M := M_X11_compareFractions) 123 dX11_compareFractions_123 rfl ?_
              refine z_inegN (M := M_X11_compareFractions) 125 dX11_compareFractions_125 (by omega) (by omega) ?_
              refine z_istore (M := M_X11_compareFractions) 126 dX11_compareFractions_126 (ls' := [none, none, none, none, none, none, none, none, some (mJ l10), none, some (mJ x7), none, some (mJ l14), none, some (mJ x8), none, some (mI (-l16)), some (mI l17), some (mI x6), some (mJ x7), none, some (mJ x8), none]) (by decide) rfl ?_
              refine z_iincN (M := M_X11_compareFractions) 128 dX11_compareFractions_128 (ls' := [none, none, none, none, none, none, none, none, some (mJ l10), none, some (mJ x7), none, some (mJ l14), none, some (mJ x8), none, some (mI (-l16)), some (mI (l17 + 1)), some (mI x6), some (mJ x7), none, some (mJ x8), none]) (by decide) rfl (by (unfold m_32; decide)) (by omega) (by omega) rfl ?_
              refine z_goto (M := M_X11_compareFractions) 131 dX11_compareFractions_131 20 rfl ?_
              exact z_mask [false, false, false, false, false, false, false, false, true, false, true, false, true, false, true, false, true, true, false, false, false, false, false] rfl (ih l10 x7 l14 x8 (-l16) (l17 + 1) h1 G1 R1 (by omega) (by omega) (by omega) (by omega) (cfI_s i1 (by omega) ex4 ex5 fx6 c9 ex7 ex8 c10 c13) (by omega))
            · rw [m_cmp_eq] at c13
              refine z_iload (M := M_X11_compareFractions) 96 dX11_compareFractions_96 rfl ?_
              refine z_lload (M := M_X11_compareFractions) 98 dX11_compareFractions_98 rfl ?_
              refine z_lload (M := M_X11_compareFractions) 100 dX11_compareFractions_100 rfl ?_
              refine z_sI (M := M_X11_compareFractions) 102 dX11_compareFractions_102 t_J13_compare_74951 l_X11_443 (m_rr_of rfl) (rest := [mI l16]) (c_J13_compare2 h1 x7 x8 G1) rfl rfl (Nat.le_of_ble_eq_true rfl) ⟨rfl, rfl⟩ (fun x14 h3 qx14 => ?_)
              obtain ⟨G3, S3, ax14, bx14, fx14⟩ := qx14
              have R3 := R1.call S3 (by decide +kernel)
              refine z_imul (M := M_X11_compareFractions) 105 dX11_compareFractions_105 ?_
              refine z_topm (fun x15 ex15 ox15 => ?_)
              unfold m_32 at ox15
              exact z_retI (M := M_X11_compareFractions) 106 dX11_compareFractions_106 rfl ⟨G3, R3, cfI_0 i1 ex4 ex5 fx6 c9 ex7 ex8 (Or.inr c13) fx14 ex15⟩
        · refine z_iload (M := M_X11_compareFractions) 76 dX11_compareFractions_76 rfl ?_
          refine z_iload (M := M_X11_compareFractions) 78 dX11_compareFractions_78 rfl ?_
          refine z_imul (M := M_X11_compareFractions) 80 dX11_compareFractions_80 ?_
          refine z_topm (fun x16 ex16 ox16 => ?_)
          unfold m_32 at ox16
          exact z_retI (M := M_X11_compareFractions) 81 dX11_compareFractions_81 rfl ⟨G1, R1, cfI_q i1 ex4 ex5 fx6 c9 ex16⟩
theorem a_X11_compareFractions2 (h0 : m_H) (a0 a1 a2 a3 : Int) (G0 : GI h0) (p0 : 0 ≤ a0 ∧ a0 ≤ 4611686018427387904) (p1 : 1 ≤ a1 ∧ a1 ≤ 4611686018427387904) (p2 : 0 ≤ a2) (p3 : 1 ≤ a3) : ∀ n, q_X11_compareFractions2 h0 a0 a1 a2 a3 n := by
  intro n
  induction n with
  | zero => unfold q_X11_compareFractions2; intros; omega
  | succ n ih => exact s_X11_compareFractions2_20 h0 a0 a1 a2 a3 G0 p0 p1 p2 p3 n ih
set_option maxHeartbeats 4000000 in
set_option maxRecDepth 100000 in
theorem c_X11_compareFractions2 (h0 : m_H) (a0 a1 a2 a3 : Int) (G0 : GI h0) (p0 : 0 ≤ a0 ∧ a0 ≤ 4611686018427387904) (p1 : 1 ≤ a1 ∧ a1 ≤ 4611686018427387904) (p2 : 0 ≤ a2) (p3 : 1 ≤ a3) : m_CI M_X11_compareFractions [mJ a0, mJ a1, mJ a2, mJ a3] h0 (P_X11_compareFractions2 h0 a0 a1 a2 a3) := by
  refine m_CI_of ⟨by decide, rfl, by simp [m_arg, m_isL, M_X11_compareFractions], ⟨rfl, rfl⟩, rfl, rfl⟩ (ls := [some (mJ a0), none, some (mJ a1), none, some (mJ a2), none, some (mJ a3), none, none, none, none, none, none, none, none, none, none, none, none, none, none, none, none]) rfl ?_
  have ih := a_X11_compareFractions2 h0 a0 a1 a2 a3 G0 p0 p1 p2 p3 408
  refine z_lload_n (M := M_X11_compareFractions) 0 dX11_compareFractions_0 rfl ?_
  refine z_lstore (M := M_X11_compareFractions) 1 dX11_compareFractions_1 (ls' := [some (mJ a0), none, some (mJ a1), none, some (mJ a2), none, some (mJ a3), none, some (mJ a0), none, none, none, none, none, none, none, none, none, none, none, none, none, none]) (by decide) rfl ?_
  refine z_lload_n (M := M_X11_compareFractions) 3 dX11_compareFractions_3 rfl ?_
  refine z_lstore (M := M_X11_compareFractions) 4 dX11_compareFractions_4 (ls' := [some (mJ a0), none, some (mJ a1), none, some (mJ a2), none, some (mJ a3), none, some (mJ a0), none, some (mJ a1), none, none, none, none, none, none, none, none, none, none, none, none]) (by decide) rfl ?_
  refine z_lload (M := M_X11_compareFractions) 6 dX11_compareFractions_6 rfl ?_
  refine z_lstore (M := M_X11_compareFractions) 8 dX11_compareFractions_8 (ls' := [some (mJ a0), none, some (mJ a1), none, some (mJ a2), none, some (mJ a3), none, some (mJ a0), none, some (mJ a1), none, some (mJ a2), none, none, none, none, none, none, none, none, none, none]) (by decide) rfl ?_
  refine z_lload (M := M_X11_compareFractions) 10 dX11_compareFractions_10 rfl ?_
  refine z_lstore (M := M_X11_compareFractions) 12 dX11_compareFractions_12 (ls' := [some (mJ a0), none, some (mJ a1), none, some (mJ a2), none, some (mJ a3), none, some (mJ a0), none, some (mJ a1), none, some (mJ a2), none, some (mJ a3), none, none, none, none, none, none, none, none]) (by decide) rfl ?_
  refine z_iconst (M := M_X11_compareFractions) 14 dX11_compareFractions_14 ?_
  refine z_istore (M := M_X11_compareFractions) 15 dX11_compareFractions_15 (ls' := [some (mJ a0), none, some (mJ a1), none, some (mJ a2), none, some (mJ a3), none, some (mJ a0), none, some (mJ a1), none, some (mJ a2), none, some (mJ a3), none, some (mI 1), none, none, none, none, none, none]) (by decide) rfl ?_
  refine z_iconst (M := M_X11_compareFractions) 17 dX11_compareFractions_17 ?_
  refine z_istore (M := M_X11_compareFractions) 18 dX11_compareFractions_18 (ls' := [some (mJ a0), none, some (mJ a1), none, some (mJ a2), none, some (mJ a3), none, some (mJ a0), none, some (mJ a1), none, some (mJ a2), none, some (mJ a3), none, some (mI 1), some (mI 0), none, none, none, none, none]) (by decide) rfl ?_
  exact z_mask [false, false, false, false, false, false, false, false, true, false, true, false, true, false, true, false, true, true, false, false, false, false, false] rfl (ih a0 a1 a2 a3 1 0 h0 G0 (FR.rf (cs := []) (ss := []) (h := h0)) (by omega) (by omega) (by omega) (by omega) ⟨⟨⟨by omega, by omega⟩, by omega, by omega⟩, ⟨Or.inl rfl, Int.one_mul _⟩, Or.inl ⟨rfl, by omega, by omega⟩⟩ (by omega))
abbrev P_X11_remainder2 (h0 : m_H) (a0 a1 : Int) : Int → m_H → Prop := fun x h' => GI h' ∧ FR [] [] h0 h' ∧ a0 % a1 = x
set_option maxHeartbeats 4000000 in
set_option maxRecDepth 100000 in
theorem c_X11_remainder2 (h0 : m_H) (a0 a1 : Int) (G0 : GI h0) (q0 : 0 ≤ a0) (q1 : 0 < a1) : m_CJ M_X11_remainder [mJ a0, mJ a1] h0 (P_X11_remainder2 h0 a0 a1) := by
  refine m_CJ_of ⟨by decide, rfl, by simp [m_arg, m_isL, M_X11_remainder], ⟨rfl, rfl⟩, rfl, rfl⟩ (ls := [some (mJ a0), none, some (mJ a1), none]) rfl ?_
  refine z_lload_n (M := M_X11_remainder) 0 dX11_remainder_0 rfl ?_
  refine z_lconst (M := M_X11_remainder) 1 dX11_remainder_1 (v := 0) ?_
  refine z_lcmp (M := M_X11_remainder) 2 dX11_remainder_2 ?_
  refine z_if_ne (M := M_X11_remainder) 3 dX11_remainder_3 10 rfl (fun c1 => ?_) (fun c1 => ?_)
  · rw [m_cmp_eq] at c1
    refine z_lload_n (M := M_X11_remainder) 10 dX11_remainder_10 rfl ?_
    refine z_lload_n (M := M_X11_remainder) 11 dX11_remainder_11 rfl ?_
    refine z_lremN (M := M_X11_remainder) 12 dX11_remainder_12 q0 (by omega) ?_
    refine z_topJ (fun x2 ex2 => ?_)
    exact z_retJ (M := M_X11_remainder) 13 dX11_remainder_13 rfl ⟨G0, (FR.rf (cs := []) (ss := []) (h := h0)), ex2⟩
  · rw [m_cmp_eq] at c1
    refine z_lconst (M := M_X11_remainder) 6 dX11_remainder_6 (v := 0) ?_
    refine z_goto (M := M_X11_remainder) 7 dX11_remainder_7 13 rfl ?_
    exact z_retJ (M := M_X11_remainder) 13 dX11_remainder_13 rfl ⟨G0, (FR.rf (cs := []) (ss := []) (h := h0)), absurd c1 (by omega)⟩
/-! the total -/
def toT (h : m_H) (k : Int) (P Q : Nat → Int) (o : Int) : Prop := h 96 2 = k ∧ (∀ j : Nat, j < 3 → h 97 j = P j ∧ h 98 j = Q j) ∧ h 96 3 = o
def toU (P : Nat → Int) (k a : Int) : Nat → Int := fun j => if j = k.toNat then a else P j
def toO (o a : Int) : Int := if o ≠ 0 then 1 else if a = 0 then 0 else 1
def adQ (a b c : Int) (h0 h' : m_H) : Prop := (b = 0 ∧ h' 96 4 = 1) ∨ (b ≠ 0 ∧ h' 96 4 = h0 96 4 ∧ ∀ (k : Int) (P Q : Nat → Int) (o : Int), toT h0 k P Q o → 0 ≤ k → k ≤ 2 → toT h' (k + 1) (toU P k a) (toU Q k b) (toO o c))
theorem ad_ok {h0 h1 h2 h3 h4 : m_H} {a b c x v : Int} (E1 : h1 = m_up h0 97 x.toNat a) (E2 : h2 = m_up h1 98 x.toNat b) (E3 : h3 = m_up h2 96 3 v) (E4 : h4 = m_up h3 96 2 (x + 1)) (ex : h0 96 2 = x) (ev : v = toO (h0 96 3) c) (n : b ≠ 0) : adQ a b c h0 h4 := by
  refine Or.inr ⟨n, ?_, fun k P Q o T k0 k2 => ?_⟩
  · rw [upN E4 (by decide), upN E3 (by decide), upN E2 (fun q => absurd q.1 (by decide)), upN E1 (fun q => absurd q.1 (by decide))]
  · obtain ⟨t1, t2, t3⟩ := T
    have kx : k = x := t1.symm.trans ex
    subst kx
    refine ⟨upE E4, fun j hj => ?_, ?_⟩
    · obtain ⟨u1, u2⟩ := t2 j hj
      unfold toU
      constructor
      · rw [upN E4 (fun q => absurd q.1 (by decide)), upN E3 (fun q => absurd q.1 (by decide)), upN E2 (fun q => absurd q.1 (by decide))]
        by_cases g : j = k.toNat
        · rw [if_pos g, g]; exact upE E1
        · rw [if_neg g, upN E1 (fun q => g q.2)]; exact u1
      · rw [upN E4 (fun q => absurd q.1 (by decide)), upN E3 (fun q => absurd q.1 (by decide))]
        by_cases g : j = k.toNat
        · rw [if_pos g, g]; exact upE E2
        · rw [if_neg g, upN E2 (fun q => g q.2), upN E1 (fun q => absurd q.1 (by decide))]; exact u2
    · rw [upN E4 (by decide), upE E3, ev, t3]
abbrev P_X10_clear2 (h0 : m_H) : m_H → Prop := fun h' => GI h' ∧ FR [97, 98] [(96, 2), (96, 3), (96, 4)] h0 h' ∧ toT h' 0 (fun _ => 0) (fun _ => 1) 0 ∧ h' 96 4 = 0
def q_X10_clear2 (h0 : m_H) (n : Nat) : Prop := (∀ (l1 : Int) (h : m_H), GI h → FR [97, 98] [(96, 2), (96, 3), (96, 4)] h0 h → 0 ≤ l1 → l1 ≤ 3 → (∀ j : Nat, (j : Int) < l1 → h 97 j = 0 ∧ h 98 j = 1) → 2 * (3 - l1) + (1) ≤ (n : Int) → m_Z oF M_X10_clear 2 [some (mR 96), some (mI l1)] [] h (m_QV (P_X10_clear2 h0)))
set_option maxHeartbeats 4000000 in
set_option maxRecDepth 100000 in
theorem s_X10_clear2_2 (h0 : m_H) (G0 : GI h0) (n : Nat) (ih : q_X10_clear2 h0 n) : ∀ (l1 : Int) (h : m_H), GI h → FR [97, 98] [(96, 2), (96, 3), (96, 4)] h0 h → 0 ≤ l1 → l1 ≤ 3 → (∀ j : Nat, (j : Int) < l1 → h 97 j = 0 ∧ h 98 j = 1) → 2 * (3 - l1) + (1) ≤ ((n + 1 : Nat) : Int) → m_Z oF M_X10_clear 2 [some (mR 96), some (mI l1)] [] h (m_QV (P_X10_clear2 h0)) := by
  intro l1 h G R v0 v1 i1 hr
  refine z_iload_n (M := M_X10_clear) 2 dX10_clear_2 rfl ?_
  refine z_iconst (M := M_X10_clear) 3 dX10_clear_3 ?_
  refine z_icmp_ge (M := M_X10_clear) 4 dX10_clear_4 27 rfl (fun c1 => ?_) (fun c1 => ?_)
  · refine z_aload_n (M := M_X10_clear) 27 dX10_clear_27 rfl ?_
    refine z_iconst (M := M_X10_clear) 28 dX10_clear_28 ?_
    refine z_putIH (M := M_X10_clear) 29 dX10_clear_29 p_X10_18 o_96 rfl (u_96_2 G (by omega) (by omega)) (R.up rfl) (fun h1 E1 G1 R1 => ?_)
    refine z_aload_n (M := M_X10_clear) 32 dX10_clear_32 rfl ?_
    refine z_iconst (M := M_X10_clear) 33 dX10_clear_33 ?_
    refine z_putZH (M := M_X10_clear) 34 dX10_clear_34 p_X10_22 o_96 rfl (by omega) (u_96_3 G1 (by omega) (by omega)) (R1.up rfl) (fun h2 E2 G2 R2 => ?_)
    refine z_aload_n (M := M_X10_clear) 37 dX10_clear_37 rfl ?_
    refine z_iconst (M := M_X10_clear) 38 dX10_clear_38 ?_
    refine z_putZH (M := M_X10_clear) 39 dX10_clear_39 p_X10_26 o_96 rfl (by omega) (u_96_4 G2 (by omega) (by omega)) (R2.up rfl) (fun h3 E3 G3 R3 => ?_)
    exact z_retV (M := M_X10_clear) 42 dX10_clear_42 rfl ⟨G3, R3, ⟨(upN E3 (by decide)).trans ((upN E2 (by decide)).trans (upE E1)), fun j hj => (by rw [upN E3 (fun q => absurd q.1 (by decide)), upN E2 (fun q => absurd q.1 (by decide)), upN E1 (fun q => absurd q.1 (by decide)), upN E3 (fun q => absurd q.1 (by decide)), upN E2 (fun q => absurd q.1 (by decide)), upN E1 (fun q => absurd q.1 (by decide))]; exact i1 j (by omega)), (upN E3 (by decide)).trans (upE E2)⟩, upE E3⟩
  · refine z_aload_n (M := M_X10_clear) 7 dX10_clear_7 rfl ?_
    refine z_getR (M := M_X10_clear) 8 dX10_clear_8 f_X10_9 o_96 rfl (g_96_0 G) ?_
    refine z_iload_n (M := M_X10_clear) 11 dX10_clear_11 rfl ?_
    refine z_lconst (M := M_X10_clear) 12 dX10_clear_12 (v := 0) ?_
    refine z_lastH (M := M_X10_clear) 13 dX10_clear_13 o_97 (by omega) (by omega) (u_97 G) (R.up rfl) (fun h4 E4 G4 R4 => ?_)
    refine z_aload_n (M := M_X10_clear) 14 dX10_clear_14 rfl ?_
    refine z_getR (M := M_X10_clear) 15 dX10_clear_15 f_X10_15 o_96 rfl (g_96_1 G4) ?_
    refine z_iload_n (M := M_X10_clear) 18 dX10_clear_18 rfl ?_
    refine z_lconst (M := M_X10_clear) 19 dX10_clear_19 (v := 1) ?_
    refine z_lastH (M := M_X10_clear) 20 dX10_clear_20 o_98 (by omega) (by omega) (u_98 G4) (R4.up rfl) (fun h5 E5 G5 R5 => ?_)
    refine z_iincN (M := M_X10_clear) 21 dX10_clear_21 (ls' := [some (mR 96), some (mI (l1 + 1))]) (by decide) rfl (by (unfold m_32; decide)) (by omega) (by omega) rfl ?_
    refine z_goto (M := M_X10_clear) 24 dX10_clear_24 2 rfl ?_
    exact z_mask [true, true] rfl (ih (l1 + 1) h5 G5 R5 (by omega) (by omega) (fun j hj => by by_cases g : j = l1.toNat; rw [g, upN E5 (fun q => absurd q.1 (by decide)), upE E4, upE E5]; exact ⟨rfl, rfl⟩; rw [upN E5 (fun q => absurd q.1 (by decide)), upN E4 (fun q => g q.2), upN E5 (fun q => g q.2), upN E4 (fun q => absurd q.1 (by decide))]; exact i1 j (by omega)) (by omega))
theorem a_X10_clear2 (h0 : m_H) (G0 : GI h0) : ∀ n, q_X10_clear2 h0 n := by
  intro n
  induction n with
  | zero => unfold q_X10_clear2; intros; omega
  | succ n ih => exact s_X10_clear2_2 h0 G0 n ih
set_option maxHeartbeats 4000000 in
set_option maxRecDepth 100000 in
theorem c_X10_clear2 (h0 : m_H) (G0 : GI h0) : m_CV M_X10_clear [mR 96] h0 (P_X10_clear2 h0) := by
  refine m_CV_of ⟨by decide, rfl, by simp [m_arg, m_isL, M_X10_clear], ⟨rfl, rfl⟩, rfl, rfl⟩ (ls := [some (mR 96), none]) rfl ?_
  have ih := a_X10_clear2 h0 G0 14
  refine z_iconst (M := M_X10_clear) 0 dX10_clear_0 ?_
  refine z_istore_n (M := M_X10_clear) 1 dX10_clear_1 (ls' := [some (mR 96), some (mI 0)]) (by decide) rfl ?_
  exact z_mask [true, true] rfl (ih 0 h0 G0 (FR.rf (cs := [97, 98]) (ss := [(96, 2), (96, 3), (96, 4)]) (h := h0)) (by omega) (by omega) (fun j hj => by omega) (by omega))
abbrev P_X10_add2 (h0 : m_H) (a1 a2 a3 : Int) : m_H → Prop := fun h' => GI h' ∧ FR [97, 98] [(96, 2), (96, 3), (96, 4)] h0 h' ∧ adQ a1 a2 a3 h0 h'
set_option maxHeartbeats 4000000 in
set_option maxRecDepth 100000 in
theorem c_X10_add2 (h0 : m_H) (a1 a2 a3 : Int) (G0 : GI h0) (pa3 : 0 ≤ a3 ∧ a3 ≤ 1) : m_CV M_X10_add [mR 96, mJ a1, mJ a2, mI a3] h0 (P_X10_add2 h0 a1 a2 a3) := by
  refine m_CV_of ⟨by decide, rfl, by simp [m_arg, m_isL, M_X10_add], ⟨rfl, rfl⟩, rfl, rfl⟩ (ls := [some (mR 96), some (mJ a1), none, some (mJ a2), none, some (mI a3)]) rfl ?_
  refine z_lload_n (M := M_X10_add) 0 dX10_add_0 rfl ?_
  refine z_lconst (M := M_X10_add) 1 dX10_add_1 (v := 0) ?_
  refine z_lcmp (M := M_X10_add) 2 dX10_add_2 ?_
  refine z_if_ne (M := M_X10_add) 3 dX10_add_3 14 rfl (fun c1 => ?_) (fun c1 => ?_)
  · rw [m_cmp_eq] at c1
    refine z_aload_n (M := M_X10_add) 14 dX10_add_14 rfl ?_
    refine z_getIG (M := M_X10_add) 15 dX10_add_15 f_X10_18 o_96 (by decide) (g_96_2 G0) (fun x2 ex2 ax2 bx2 => ?_)
    refine z_iconst (M := M_X10_add) 18 dX10_add_18 ?_
    refine z_icmp_ge (M := M_X10_add) 19 dX10_add_19 73 rfl (fun c3 => ?_) (fun c3 => ?_)
    · exact z_retV (M := M_X10_add) 73 dX10_add_73 rfl ⟨G0, (FR.rf (cs := [97, 98]) (ss := [(96, 2), (96, 3), (96, 4)]) (h := h0)), Or.inr ⟨c1, rfl, fun k P Q o T k0 k2 => absurd T.1 (by omega)⟩⟩
    · refine z_aload_n (M := M_X10_add) 22 dX10_add_22 rfl ?_
      refine z_getR (M := M_X10_add) 23 dX10_add_23 f_X10_9 o_96 rfl (g_96_0 G0) ?_
      refine z_aload_n (M := M_X10_add) 26 dX10_add_26 rfl ?_
      refine z_getIE (M := M_X10_add) 27 dX10_add_27 f_X10_18 o_96 (by decide) ex2 ?_
      refine z_lload_n (M := M_X10_add) 30 dX10_add_30 rfl ?_
      refine z_lastH (M := M_X10_add) 31 dX10_add_31 o_97 (by omega) (by omega) (u_97 G0) ((FR.rf (cs := [97, 98]) (ss := [(96, 2), (96, 3), (96, 4)]) (h := h0)).up rfl) (fun h1 E1 G1 R1 => ?_)
      refine z_aload_n (M := M_X10_add) 32 dX10_add_32 rfl ?_
      refine z_getR (M := M_X10_add) 33 dX10_add_33 f_X10_15 o_96 rfl (g_96_1 G1) ?_
      refine z_aload_n (M := M_X10_add) 36 dX10_add_36 rfl ?_
      refine z_getIE (M := M_X10_add) 37 dX10_add_37 f_X10_18 o_96 (by decide) ((upN E1 (fun q => absurd q.1 (by decide))).trans ex2) ?_
      refine z_lload_n (M := M_X10_add) 40 dX10_add_40 rfl ?_
      refine z_lastH (M := M_X10_add) 41 dX10_add_41 o_98 (by omega) (by omega) (u_98 G1) (R1.up rfl) (fun h2 E2 G2 R2 => ?_)
      refine z_aload_n (M := M_X10_add) 42 dX10_add_42 rfl ?_
      refine z_aload_n (M := M_X10_add) 43 dX10_add_43 rfl ?_
      refine z_getIG (M := M_X10_add) 44 dX10_add_44 f_X10_22 o_96 (by decide) (g_96_3 G2) (fun x4 ex4 ax4 bx4 => ?_)
      refine z_if_ne (M := M_X10_add) 47 dX10_add_47 55 rfl (fun c5 => ?_) (fun c5 => ?_)
      · refine z_iconst (M := M_X10_add) 55 dX10_add_55 ?_
        refine z_goto (M := M_X10_add) 56 dX10_add_56 60 rfl ?_
        refine z_putZH (M := M_X10_add) 60 dX10_add_60 p_X10_22 o_96 rfl (by omega) (u_96_3 G2 (by omega) (by omega)) (R2.up rfl) (fun h3 E3 G3 R3 => ?_)
        refine z_aload_n (M := M_X10_add) 63 dX10_add_63 rfl ?_
        refine z_dup (M := M_X10_add) 64 dX10_add_64 rfl ?_
        refine z_getIE (M := M_X10_add) 65 dX10_add_65 f_X10_18 o_96 (by decide) ((upN E3 (fun q => absurd q.2 (by decide))).trans ((upN E2 (fun q => absurd q.1 (by decide))).trans ((upN E1 (fun q => absurd q.1 (by decide))).trans ex2))) ?_
        refine z_iconst (M := M_X10_add) 68 dX10_add_68 ?_
        refine z_iaddN (M := M_X10_add) 69 dX10_add_69 (by omega) (by omega) ?_
        refine z_putIH (M := M_X10_add) 70 dX10_add_70 p_X10_18 o_96 rfl (u_96_2 G3 (by omega) (by omega)) (R3.up rfl) (fun h4 E4 G4 R4 => ?_)
        exact z_retV (M := M_X10_add) 73 dX10_add_73 rfl ⟨G4, R4, ad_ok E1 E2 E3 E4 ex2 (by have z : h0 96 3 = x4 := ((upN E1 (fun q => absurd q.1 (by decide))).symm.trans ((upN E2 (fun q => absurd q.1 (by decide))).symm.trans ex4)); unfold toO; rw [z]; rw [if_pos c5]) c1⟩
      · refine z_iload (M := M_X10_add) 50 dX10_add_50 rfl ?_
        refine z_if_eq (M := M_X10_add) 52 dX10_add_52 59 rfl (fun c6 => ?_) (fun c6 => ?_)
        · refine z_iconst (M := M_X10_add) 59 dX10_add_59 ?_
          refine z_putZH (M := M_X10_add) 60 dX10_add_60 p_X10_22 o_96 rfl (by omega) (u_96_3 G2 (by omega) (by omega)) (R2.up rfl) (fun h5 E5 G5 R5 => ?_)
          refine z_aload_n (M := M_X10_add) 63 dX10_add_63 rfl ?_
          refine z_dup (M := M_X10_add) 64 dX10_add_64 rfl ?_
          refine z_getIE (M := M_X10_add) 65 dX10_add_65 f_X10_18 o_96 (by decide) ((upN E5 (fun q => absurd q.2 (by decide))).trans ((upN E2 (fun q => absurd q.1 (by decide))).trans ((upN E1 (fun q => absurd q.1 (by decide))).trans ex2))) ?_
          refine z_iconst (M := M_X10_add) 68 dX10_add_68 ?_
          refine z_iaddN (M := M_X10_add) 69 dX10_add_69 (by omega) (by omega) ?_
          refine z_putIH (M := M_X10_add) 70 dX10_add_70 p_X10_18 o_96 rfl (u_96_2 G5 (by omega) (by omega)) (R5.up rfl) (fun h6 E6 G6 R6 => ?_)
          exact z_retV (M := M_X10_add) 73 dX10_add_73 rfl ⟨G6, R6, ad_ok E1 E2 E5 E6 ex2 (by have z : h0 96 3 = x4 := ((upN E1 (fun q => absurd q.1 (by decide))).symm.trans ((upN E2 (fun q => absurd q.1 (by decide))).symm.trans ex4)); unfold toO; rw [z]; rw [if_neg (by omega), if_pos c6]) c1⟩
        · refine z_iconst (M := M_X10_add) 55 dX10_add_55 ?_
          refine z_goto (M := M_X10_add) 56 dX10_add_56 60 rfl ?_
          refine z_putZH (M := M_X10_add) 60 dX10_add_60 p_X10_22 o_96 rfl (by omega) (u_96_3 G2 (by omega) (by omega)) (R2.up rfl) (fun h7 E7 G7 R7 => ?_)
          refine z_aload_n (M := M_X10_add) 63 dX10_add_63 rfl ?_
          refine z_dup (M := M_X10_add) 64 dX10_add_64 rfl ?_
          refine z_getIE (M := M_X10_add) 65 dX10_add_65 f_X10_18 o_96 (by decide) ((upN E7 (fun q => absurd q.2 (by decide))).trans ((upN E2 (fun q => absurd q.1 (by decide))).trans ((upN E1 (fun q => absurd q.1 (by decide))).trans ex2))) ?_
          refine z_iconst (M := M_X10_add) 68 dX10_add_68 ?_
          refine z_iaddN (M := M_X10_add) 69 dX10_add_69 (by omega) (by omega) ?_
          refine z_putIH (M := M_X10_add) 70 dX10_add_70 p_X10_18 o_96 rfl (u_96_2 G7 (by omega) (by omega)) (R7.up rfl) (fun h8 E8 G8 R8 => ?_)
          exact z_retV (M := M_X10_add) 73 dX10_add_73 rfl ⟨G8, R8, ad_ok E1 E2 E7 E8 ex2 (by have z : h0 96 3 = x4 := ((upN E1 (fun q => absurd q.1 (by decide))).symm.trans ((upN E2 (fun q => absurd q.1 (by decide))).symm.trans ex4)); unfold toO; rw [z]; rw [if_neg (by omega), if_neg c6]) c1⟩
  · rw [m_cmp_eq] at c1
    refine z_aload_n (M := M_X10_add) 6 dX10_add_6 rfl ?_
    refine z_iconst (M := M_X10_add) 7 dX10_add_7 ?_
    refine z_putZH (M := M_X10_add) 8 dX10_add_8 p_X10_26 o_96 rfl (by omega) (u_96_4 G0 (by omega) (by omega)) ((FR.rf (cs := [97, 98]) (ss := [(96, 2), (96, 3), (96, 4)]) (h := h0)).up rfl) (fun h9 E9 G9 R9 => ?_)
    refine z_goto (M := M_X10_add) 11 dX10_add_11 73 rfl ?_
    exact z_retV (M := M_X10_add) 73 dX10_add_73 rfl ⟨G9, R9, Or.inl ⟨c1, upE E9⟩⟩
/-! the sum of three fractions, in wholes -/
def suN (P Q : Nat → Int) : Int := P 0 * (Q 1 * Q 2) + P 1 * (Q 0 * Q 2) + P 2 * (Q 0 * Q 1)
def suD (Q : Nat → Int) : Int := Q 0 * Q 1 * Q 2
def suB (P Q : Nat → Int) : Prop := ∀ j : Nat, j < 3 → (0 ≤ P j ∧ P j ≤ 1600000000) ∧ 1 ≤ Q j ∧ Q j ≤ 1600000000
def suW (P Q : Nat → Int) (l v : Int) : Prop := (l = 0 ∧ v = 0) ∨ (l = 1 ∧ v = P 0 / Q 0) ∨ (l = 2 ∧ v = P 0 / Q 0 + P 1 / Q 1) ∨ (l = 3 ∧ v = P 0 / Q 0 + P 1 / Q 1 + P 2 / Q 2)
theorem su_q {P Q : Nat → Int} (B : suB P Q) {j : Nat} (hj : j < 3) : 0 ≤ P j / Q j ∧ P j / Q j ≤ 1600000000 := by
  obtain ⟨⟨a, b⟩, c, d⟩ := B j hj
  have e := Int.ediv_nonneg a (show 0 ≤ Q j by omega)
  have f := Int.ediv_le_self (a := P j) (Q j) a
  omega
theorem suW_b {P Q : Nat → Int} {l v : Int} (B : suB P Q) (I : suW P Q l v) : 0 ≤ v ∧ v ≤ 1600000000 * l := by
  have q0 := su_q B (j := 0) (by decide)
  have q1 := su_q B (j := 1) (by decide)
  have q2 := su_q B (j := 2) (by decide)
  rcases I with ⟨a, b⟩ | ⟨a, b⟩ | ⟨a, b⟩ | ⟨a, b⟩ <;> subst a <;> omega
theorem suW_s {P Q : Nat → Int} {l v x : Int} (I : suW P Q l v) (h0 : 0 ≤ l) (h : l ≤ 2) (e : P l.toNat / Q l.toNat = x) : suW P Q (l + 1) (v + x) := by
  rcases I with ⟨a, b⟩ | ⟨a, b⟩ | ⟨a, b⟩ | ⟨a, b⟩ <;> subst a
  · exact Or.inr (Or.inl ⟨rfl, by rw [← e, b, Int.zero_add]; rfl⟩)
  · exact Or.inr (Or.inr (Or.inl ⟨rfl, by rw [← e, b]; rfl⟩))
  · exact Or.inr (Or.inr (Or.inr ⟨rfl, by rw [← e, b]; rfl⟩))
  · omega
theorem su_sum {t0 l0 t1 l1 t2 l2 q0 q1 q2 r0 r1 r2 q r : Int} (e0 : l0 * q0 + r0 = t0) (e1 : l1 * q1 + r1 = t1) (e2 : l2 * q2 + r2 = t2) (e : l0 * l1 * q + r = r0 * l1 + r1 * l0) : t0 * (l1 * l2) + t1 * (l0 * l2) + t2 * (l0 * l1) = (q0 + q1 + q2 + q) * (l0 * l1 * l2) + (r * l2 + r2 * (l0 * l1)) := by
  have k : (r0 * l1 + r1 * l0) * l2 = (l0 * l1 * q + r) * l2 := by rw [e]
  rw [← e0, ← e1, ← e2]
  simp only [Int.add_mul, Int.mul_add] at k ⊢
  have c1 : l0 * q0 * (l1 * l2) = q0 * (l0 * l1 * l2) := by ac_rfl
  have c2 : l1 * q1 * (l0 * l2) = q1 * (l0 * l1 * l2) := by ac_rfl
  have c3 : l2 * q2 * (l0 * l1) = q2 * (l0 * l1 * l2) := by ac_rfl
  have c4 : r0 * (l1 * l2) = r0 * l1 * l2 := by ac_rfl
  have c5 : r1 * (l0 * l2) = r1 * l0 * l2 := by ac_rfl
  have c6 : l0 * l1 * q * l2 = q * (l0 * l1 * l2) := by ac_rfl
  rw [c1, c2, c3, c4, c5]
  rw [c6] at k
  omega
theorem gn_val {N D V u o : Int} (hD : 0 < D) (e : N = V * D + u) (u0 : 0 ≤ u) (u2 : u < 2 * D) : gnG N D o = if D ≤ u then (if u = D ∧ o = 1 then V else V + 1) else (if u = 0 ∧ o = 1 then V - 1 else V) := by
  have dv : ∀ {v : Int}, v * D ≤ N → N < (v + 1) * D → N / D = v := fun {v} h1 h2 => dv_eq hD (by rw [Int.mul_comm]; exact h1) (by rw [Int.mul_comm]; exact h2)
  unfold gnG
  by_cases c : D ≤ u
  · have q : N / D = V + 1 := dv (by rw [Int.add_mul, Int.one_mul]; omega) (by rw [Int.add_mul, Int.one_mul, Int.add_mul, Int.one_mul]; omega)
    rw [q, if_pos c, Int.add_mul, Int.one_mul]
    by_cases d : u = D
    · by_cases f : o = 1
      · rw [if_pos ⟨f, by omega⟩, if_pos ⟨d, f⟩]; omega
      · rw [if_neg (fun z => f z.1), if_neg (fun z => f z.2)]
    · rw [if_neg (fun z => d (by omega)), if_neg (fun z => d z.1)]
  · have q : N / D = V := dv (by omega) (by rw [Int.add_mul, Int.one_mul]; omega)
    rw [q, if_neg c]
    by_cases d : u = 0
    · by_cases f : o = 1
      · rw [if_pos ⟨f, by omega⟩, if_pos ⟨d, f⟩]
      · rw [if_neg (fun z => f z.1), if_neg (fun z => f z.2)]
    · rw [if_neg (fun z => d (by omega)), if_neg (fun z => d z.1)]
theorem su_ng {x14 x16 x18 x11 x17 x19 : Int} (f : x19 = sg3 (x14 * x16) (x18 * x11)) (e : x16 - x17 = x18) (h1 : 0 < x11) (h2 : 0 < x16) : x14 = 0 → x17 = 0 → x19 < 0 := by
  intro a b
  have m := Int.mul_pos (show 0 < x18 by omega) h1
  rw [f, a, Int.zero_mul]
  unfold sg3
  rw [if_pos m]
  decide
theorem su_val {P Q : Nat → Int} {o t0 l0 t1 l1 t2 l2 v r0 r1 a c rs lo q V rest lr d s : Int} (B : suB P Q) (I : suW P Q 3 v) (p0 : P 0 = t0) (q0 : Q 0 = l0) (p1 : P 1 = t1) (q1 : Q 1 = l1) (p2 : P 2 = t2) (q2 : Q 2 = l2) (f0 : t0 % l0 = r0) (f1 : t1 % l1 = r1) (ea : r0 * l1 = a) (ec : r1 * l0 = c) (ers : a + c = rs) (elo : l0 * l1 = lo) (eq : rs / lo = q) (eV : v + q = V) (er : rs % lo = rest) (f2 : t2 % l2 = lr) (ed : l2 - lr = d) (es : s = sg3 (rest * l2) (d * lo)) : gnG (suN P Q) (suD Q) o = if 0 ≤ s then (if s = 0 ∧ o = 1 then V else V + 1) else (if (rest = 0 ∧ lr = 0) ∧ o = 1 then V - 1 else V) := by
  obtain ⟨⟨b1, b2⟩, b3, b4⟩ := B 0 (by decide)
  obtain ⟨⟨c1, c2⟩, c3, c4⟩ := B 1 (by decide)
  obtain ⟨⟨d1, d2⟩, d3, d4⟩ := B 2 (by decide)
  rw [p0] at b1 b2
  rw [q0] at b3 b4
  rw [p1] at c1 c2
  rw [q1] at c3 c4
  rw [p2] at d1 d2
  rw [q2] at d3 d4
  have V' : v = t0 / l0 + t1 / l1 + t2 / l2 := by
    rcases I with ⟨z, _⟩ | ⟨z, _⟩ | ⟨z, _⟩ | ⟨_, z⟩
    · omega
    · omega
    · omega
    · rw [z, p0, q0, p1, q1, p2, q2]
  have hlo : 0 < lo := by rw [← elo]; exact Int.mul_pos (by omega) (by omega)
  have m0 := Int.emod_nonneg t0 (show l0 ≠ 0 by omega)
  have n0 := Int.emod_lt_of_pos t0 (show 0 < l0 by omega)
  have m1 := Int.emod_nonneg t1 (show l1 ≠ 0 by omega)
  have n1 := Int.emod_lt_of_pos t1 (show 0 < l1 by omega)
  have m2 := Int.emod_nonneg t2 (show l2 ≠ 0 by omega)
  have n2 := Int.emod_lt_of_pos t2 (show 0 < l2 by omega)
  have m3 := Int.emod_nonneg rs (show lo ≠ 0 by omega)
  have n3 := Int.emod_lt_of_pos rs hlo
  rw [f0] at m0 n0
  rw [f1] at m1 n1
  rw [f2] at m2 n2
  rw [er] at m3 n3
  have e := su_sum (Int.mul_ediv_add_emod t0 l0) (Int.mul_ediv_add_emod t1 l1) (Int.mul_ediv_add_emod t2 l2) (show l0 * l1 * (rs / lo) + rs % lo = (t0 % l0) * l1 + (t1 % l1) * l0 by rw [elo, Int.mul_ediv_add_emod, f0, f1, ea, ec, ers])
  rw [eq, er, f2, elo, ← V', eV] at e
  have hD : 0 < lo * l2 := Int.mul_pos hlo (by omega)
  have u1 := Int.mul_nonneg m3 (show 0 ≤ l2 by omega)
  have u2 := Int.mul_nonneg m2 (show 0 ≤ lo by omega)
  have u3 := Int.mul_le_mul_of_nonneg_right (show rest + 1 ≤ lo by omega) (show 0 ≤ l2 by omega)
  have u4 := Int.mul_le_mul_of_nonneg_right (show lr + 1 ≤ l2 by omega) (show 0 ≤ lo by omega)
  rw [Int.add_mul, Int.one_mul] at u3 u4
  rw [Int.mul_comm l2 lo] at u4
  have ed' : d * lo = lo * l2 - lr * lo := by rw [← ed, Int.sub_mul, Int.mul_comm l2 lo]
  have G := gn_val (N := suN P Q) (D := suD Q) (V := V) (u := rest * l2 + lr * lo) (o := o) (by unfold suD; rw [q0, q1, q2, elo]; exact hD) (by unfold suN suD; rw [p0, q0, p1, q1, p2, q2, elo]; exact e) (by omega) (by unfold suD; rw [q0, q1, q2, elo]; omega)
  have hDe : suD Q = lo * l2 := by unfold suD; rw [q0, q1, q2, elo]
  rw [hDe] at G
  rw [hDe, G]
  have s1 : (0 ≤ s ↔ lo * l2 ≤ rest * l2 + lr * lo) ∧ (s = 0 ↔ rest * l2 + lr * lo = lo * l2) := by
    rw [es, ed']
    unfold sg3
    by_cases g : rest * l2 < lo * l2 - lr * lo
    · rw [if_pos g]; constructor <;> constructor <;> intro z <;> omega
    · rw [if_neg g]
      by_cases f : rest * l2 = lo * l2 - lr * lo
      · rw [if_pos f]; constructor <;> constructor <;> intro z <;> omega
      · rw [if_neg f]; constructor <;> constructor <;> intro z <;> omega
  have s2 : rest * l2 + lr * lo = 0 ↔ (rest = 0 ∧ lr = 0) := by
    constructor
    · intro z
      have z1 : rest * l2 = 0 := by omega
      have z2 : lr * lo = 0 := by omega
      exact ⟨(Int.mul_eq_zero.mp z1).elim id (fun y => by omega), (Int.mul_eq_zero.mp z2).elim id (fun y => by omega)⟩
    · rintro ⟨z1, z2⟩
      rw [z1, z2, Int.zero_mul, Int.zero_mul]; rfl
  by_cases g : 0 ≤ s
  · rw [if_pos g, if_pos (s1.1.mp g)]
    by_cases f : s = 0 ∧ o = 1
    · rw [if_pos f, if_pos ⟨s1.2.mp f.1, f.2⟩]
    · rw [if_neg f, if_neg (fun z => f ⟨s1.2.mpr z.1, z.2⟩)]
  · rw [if_neg g, if_neg (fun z => g (s1.1.mpr z))]
    by_cases f : (rest = 0 ∧ lr = 0) ∧ o = 1
    · rw [if_pos f, if_pos ⟨s2.mpr f.1, f.2⟩]
    · rw [if_neg f, if_neg (fun z => f ⟨s2.mp z.1, z.2⟩)]
abbrev P_X10_sum2 (h0 : m_H) : Int → m_H → Prop := fun x h' => GI h' ∧ FR [] [] h0 h' ∧ ((h0 96 4 ≠ 0 ∧ x = -1) ∨ (h0 96 4 = 0 ∧ x = gnG (suN (h0 97) (h0 98)) (suD (h0 98)) (h0 96 3)))
def q_X10_sum2 (h0 : m_H) (n : Nat) : Prop := (∀ (l1 l3 : Int) (h : m_H), GI h → FR [] [] h0 h → 0 ≤ l3 → l3 ≤ 3 → (h0 96 4 = 0 ∧ suW (h0 97) (h0 98) l3 l1) → 2 * (3 - l3) + (2) ≤ (n : Int) → m_Z oF M_X10_sum 15 [some (mR 96), some (mJ l1), none, some (mI l3), none, none, none, none, none, none, none, none, none] [] h (m_QJ (P_X10_sum2 h0))) ∧ (∀ (l1 : Int) (h : m_H), GI h → FR [] [] h0 h → (h0 96 4 = 0 ∧ l1 = gnG (suN (h0 97) (h0 98)) (suD (h0 98)) (h0 96 3)) → (1) ≤ (n : Int) → m_Z oF M_X10_sum 220 [none, some (mJ l1), none, none, none, none, none, none, none, none, none, none, none] [] h (m_QJ (P_X10_sum2 h0)))
set_option maxHeartbeats 4000000 in
set_option maxRecDepth 100000 in
theorem s_X10_sum2_15 (h0 : m_H) (G0 : GI h0) (hb : h0 96 4 = 0 → suB (h0 97) (h0 98)) (n : Nat) (ih : q_X10_sum2 h0 n) : ∀ (l1 l3 : Int) (h : m_H), GI h → FR [] [] h0 h → 0 ≤ l3 → l3 ≤ 3 → (h0 96 4 = 0 ∧ suW (h0 97) (h0 98) l3 l1) → 2 * (3 - l3) + (2) ≤ ((n + 1 : Nat) : Int) → m_Z oF M_X10_sum 15 [some (mR 96), some (mJ l1), none, some (mI l3), none, none, none, none, none, none, none, none, none] [] h (m_QJ (P_X10_sum2 h0)) := by
  intro l1 l3 h G R v0 v1 i1 hr
  have e_ := frE R
  have b_ := hb i1.1
  have w_ := suW_b b_ i1.2
  refine z_iload_n (M := M_X10_sum) 15 dX10_sum_15 rfl ?_
  refine z_iconst (M := M_X10_sum) 16 dX10_sum_16 ?_
  refine z_icmp_ge (M := M_X10_sum) 17 dX10_sum_17 44 rfl (fun c1 => ?_) (fun c1 => ?_)
  · refine z_aload_n (M := M_X10_sum) 44 dX10_sum_44 rfl ?_
    refine z_getR (M := M_X10_sum) 45 dX10_sum_45 f_X10_9 o_96 rfl (g_96_0 G) ?_
    refine z_iconst (M := M_X10_sum) 48 dX10_sum_48 ?_
    refine z_laldV (M := M_X10_sum) 49 dX10_sum_49 o_97 (by omega) (by omega) (fun x2 ex2 => ?_)
    have v2_ : h0 97 0 = x2 := (by have z := ex2; rw [e_] at z; exact z)
    have p2_ := (b_ 0 (by omega)).1; rw [v2_] at p2_
    refine z_aload_n (M := M_X10_sum) 50 dX10_sum_50 rfl ?_
    refine z_getR (M := M_X10_sum) 51 dX10_sum_51 f_X10_15 o_96 rfl (g_96_1 G) ?_
    refine z_iconst (M := M_X10_sum) 54 dX10_sum_54 ?_
    refine z_laldV (M := M_X10_sum) 55 dX10_sum_55 o_98 (by omega) (by omega) (fun x3 ex3 => ?_)
    have v3_ : h0 98 0 = x3 := (by have z := ex3; rw [e_] at z; exact z)
    have p3_ := (b_ 0 (by omega)).2; rw [v3_] at p3_
    refine z_nJ (M := M_X10_sum) 56 dX10_sum_56 t_X11_remainder l_X10_35 (m_rr_of rfl) (rest := []) (c_X11_remainder2 h x2 x3 G (by omega) (by omega)) rfl rfl (Nat.le_of_ble_eq_true rfl) ⟨rfl, rfl⟩ (fun x4 h1 qx4 => ?_)
    obtain ⟨G1, S1, fx4⟩ := qx4
    have m4_ := Int.emod_nonneg x2 (show x3 ≠ 0 by omega)
    have n4_ := Int.emod_lt_of_pos x2 (show 0 < x3 by omega)
    rw [fx4] at m4_ n4_
    have R1 := R.call S1 (by decide +kernel)
    refine z_aload_n (M := M_X10_sum) 59 dX10_sum_59 rfl ?_
    refine z_getR (M := M_X10_sum) 60 dX10_sum_60 f_X10_15 o_96 rfl (g_96_1 G1) ?_
    refine z_iconst (M := M_X10_sum) 63 dX10_sum_63 ?_
    refine z_laldV (M := M_X10_sum) 64 dX10_sum_64 o_98 (by omega) (by omega) (fun x5 ex5 => ?_)
    have v5_ : h0 98 1 = x5 := (by have z := ex5; rw [frE S1] at z; rw [e_] at z; exact z)
    have p5_ := (b_ 1 (by omega)).2; rw [v5_] at p5_
    have mx6 := mul_bd (x := x4) (y := x5) (X := 1600000000) (Y := 1600000000) (by omega) (by omega) (by omega) (by omega)
    refine z_lmulN (M := M_X10_sum) 65 dX10_sum_65 (by omega) (by omega) ?_
    refine z_topBJ (lo := 0) (hi := 2560000000000000000) ⟨by omega, by omega⟩ (fun x6 ex6 ax6 bx6 => ?_)
    refine z_aload_n (M := M_X10_sum) 66 dX10_sum_66 rfl ?_
    refine z_getR (M := M_X10_sum) 67 dX10_sum_67 f_X10_9 o_96 rfl (g_96_0 G1) ?_
    refine z_iconst (M := M_X10_sum) 70 dX10_sum_70 ?_
    refine z_laldV (M := M_X10_sum) 71 dX10_sum_71 o_97 (by omega) (by omega) (fun x7 ex7 => ?_)
    have v7_ : h0 97 1 = x7 := (by have z := ex7; rw [frE S1] at z; rw [e_] at z; exact z)
    have p7_ := (b_ 1 (by omega)).1; rw [v7_] at p7_
    refine z_aload_n (M := M_X10_sum) 72 dX10_sum_72 rfl ?_
    refine z_getR (M := M_X10_sum) 73 dX10_sum_73 f_X10_15 o_96 rfl (g_96_1 G1) ?_
    refine z_iconst (M := M_X10_sum) 76 dX10_sum_76 ?_
    refine z_laldE (M := M_X10_sum) 77 dX10_sum_77 o_98 (by omega) (by omega) ex5 ?_
    refine z_nJ (M := M_X10_sum) 78 dX10_sum_78 t_X11_remainder l_X10_35 (m_rr_of rfl) (rest := [mJ x6]) (c_X11_remainder2 h1 x7 x5 G1 (by omega) (by omega)) rfl rfl (Nat.le_of_ble_eq_true rfl) ⟨rfl, rfl⟩ (fun x8 h2 qx8 => ?_)
    obtain ⟨G2, S2, fx8⟩ := qx8
    have m8_ := Int.emod_nonneg x7 (show x5 ≠ 0 by omega)
    have n8_ := Int.emod_lt_of_pos x7 (show 0 < x5 by omega)
    rw [fx8] at m8_ n8_
    have R2 := R1.call S2 (by decide +kernel)
    refine z_aload_n (M := M_X10_sum) 81 dX10_sum_81 rfl ?_
    refine z_getR (M := M_X10_sum) 82 dX10_sum_82 f_X10_15 o_96 rfl (g_96_1 G2) ?_
    refine z_iconst (M := M_X10_sum) 85 dX10_sum_85 ?_
    refine z_laldE (M := M_X10_sum) 86 dX10_sum_86 o_98 (by omega) (by omega) ((S2 98 0 rfl).trans ((S1 98 0 rfl).trans ex3)) ?_
    have mx9 := mul_bd (x := x8) (y := x3) (X := 1600000000) (Y := 1600000000) (by omega) (by omega) (by omega) (by omega)
    refine z_lmulN (M := M_X10_sum) 87 dX10_sum_87 (by omega) (by omega) ?_
    refine z_topBJ (lo := 0) (hi := 2560000000000000000) ⟨by omega, by omega⟩ (fun x9 ex9 ax9 bx9 => ?_)
    refine z_laddN (M := M_X10_sum) 88 dX10_sum_88 (by omega) (by omega) ?_
    refine z_topJ (fun x10 ex10 => ?_)
    refine z_lstore_n (M := M_X10_sum) 89 dX10_sum_89 (ls' := [some (mR 96), some (mJ l1), none, some (mJ x10), none, none, none, none, none, none, none, none, none]) (by decide) rfl ?_
    refine z_aload_n (M := M_X10_sum) 90 dX10_sum_90 rfl ?_
    refine z_getR (M := M_X10_sum) 91 dX10_sum_91 f_X10_15 o_96 rfl (g_96_1 G2) ?_
    refine z_iconst (M := M_X10_sum) 94 dX10_sum_94 ?_
    refine z_laldE (M := M_X10_sum) 95 dX10_sum_95 o_98 (by omega) (by omega) ((S2 98 0 rfl).trans ((S1 98 0 rfl).trans ex3)) ?_
    refine z_aload_n (M := M_X10_sum) 96 dX10_sum_96 rfl ?_
    refine z_getR (M := M_X10_sum) 97 dX10_sum_97 f_X10_15 o_96 rfl (g_96_1 G2) ?_
    refine z_iconst (M := M_X10_sum) 100 dX10_sum_100 ?_
    refine z_laldE (M := M_X10_sum) 101 dX10_sum_101 o_98 (by omega) (by omega) ((S2 98 1 rfl).trans ex5) ?_
    have mx11 := mul_bd (x := x3) (y := x5) (X := 1600000000) (Y := 1600000000) (by omega) (by omega) (by omega) (by omega)
    refine z_lmulN (M := M_X10_sum) 102 dX10_sum_102 (by omega) (by omega) ?_
    refine z_topBJ (lo := 0) (hi := 2560000000000000000) ⟨by omega, by omega⟩ (fun x11 ex11 ax11 bx11 => ?_)
    have p11_ : 0 < x11 := (by rw [← ex11]; exact Int.mul_pos (by omega) (by omega))
    refine z_lstore (M := M_X10_sum) 103 dX10_sum_103 (ls' := [some (mR 96), some (mJ l1), none, some (mJ x10), none, some (mJ x11), none, none, none, none, none, none, none]) (by decide) rfl ?_
    refine z_lload_n (M := M_X10_sum) 105 dX10_sum_105 rfl ?_
    refine z_lload_n (M := M_X10_sum) 106 dX10_sum_106 rfl ?_
    refine z_lload (M := M_X10_sum) 107 dX10_sum_107 rfl ?_
    refine z_nJ (M := M_X10_sum) 109 dX10_sum_109 t_X11_quotient l_X10_31 (m_rr_of rfl) (rest := [mJ l1]) (c_X11_quotientQ h2 x10 x11 G2 (by omega) (by omega)) rfl rfl (Nat.le_of_ble_eq_true rfl) ⟨rfl, rfl⟩ (fun x12 h3 qx12 => ?_)
    obtain ⟨G3, S3, fx12⟩ := qx12
    have q12_ := ediv_bd (x := x10) (y := x11) (hi := 5120000000000000000) (by omega) (by omega) (by omega)
    rw [fx12] at q12_
    have R3 := R2.call S3 (by decide +kernel)
    refine z_laddN (M := M_X10_sum) 112 dX10_sum_112 (by omega) (by omega) ?_
    refine z_topJ (fun x13 ex13 => ?_)
    refine z_lstore_n (M := M_X10_sum) 113 dX10_sum_113 (ls' := [some (mR 96), some (mJ x13), none, some (mJ x10), none, some (mJ x11), none, none, none, none, none, none, none]) (by decide) rfl ?_
    refine z_lload_n (M := M_X10_sum) 114 dX10_sum_114 rfl ?_
    refine z_lload (M := M_X10_sum) 115 dX10_sum_115 rfl ?_
    refine z_nJ (M := M_X10_sum) 117 dX10_sum_117 t_X11_remainder l_X10_35 (m_rr_of rfl) (rest := []) (c_X11_remainder2 h3 x10 x11 G3 (by omega) (by omega)) rfl rfl (Nat.le_of_ble_eq_true rfl) ⟨rfl, rfl⟩ (fun x14 h4 qx14 => ?_)
    obtain ⟨G4, S4, fx14⟩ := qx14
    have m14_ := Int.emod_nonneg x10 (show x11 ≠ 0 by omega)
    have n14_ := Int.emod_lt_of_pos x10 (show 0 < x11 by omega)
    rw [fx14] at m14_ n14_
    have R4 := R3.call S4 (by decide +kernel)
    refine z_lstore (M := M_X10_sum) 120 dX10_sum_120 (ls' := [some (mR 96), some (mJ x13), none, some (mJ x10), none, some (mJ x11), none, some (mJ x14), none, none, none, none, none]) (by decide) rfl ?_
    refine z_aload_n (M := M_X10_sum) 122 dX10_sum_122 rfl ?_
    refine z_getR (M := M_X10_sum) 123 dX10_sum_123 f_X10_9 o_96 rfl (g_96_0 G4) ?_
    refine z_iconst (M := M_X10_sum) 126 dX10_sum_126 ?_
    refine z_laldV (M := M_X10_sum) 127 dX10_sum_127 o_97 (by omega) (by omega) (fun x15 ex15 => ?_)
    have v15_ : h0 97 2 = x15 := (by have z := ex15; rw [frE S4] at z; rw [frE S3] at z; rw [frE S2] at z; rw [frE S1] at z; rw [e_] at z; exact z)
    have p15_ := (b_ 2 (by omega)).1; rw [v15_] at p15_
    refine z_aload_n (M := M_X10_sum) 128 dX10_sum_128 rfl ?_
    refine z_getR (M := M_X10_sum) 129 dX10_sum_129 f_X10_15 o_96 rfl (g_96_1 G4) ?_
    refine z_iconst (M := M_X10_sum) 132 dX10_sum_132 ?_
    refine z_laldV (M := M_X10_sum) 133 dX10_sum_133 o_98 (by omega) (by omega) (fun x16 ex16 => ?_)
    have v16_ : h0 98 2 = x16 := (by have z := ex16; rw [frE S4] at z; rw [frE S3] at z; rw [frE S2] at z; rw [frE S1] at z; rw [e_] at z; exact z)
    have p16_ := (b_ 2 (by omega)).2; rw [v16_] at p16_
    refine z_nJ (M := M_X10_sum) 134 dX10_sum_134 t_X11_remainder l_X10_35 (m_rr_of rfl) (rest := []) (c_X11_remainder2 h4 x15 x16 G4 (by omega) (by omega)) rfl rfl (Nat.le_of_ble_eq_true rfl) ⟨rfl, rfl⟩ (fun x17 h5 qx17 => ?_)
    obtain ⟨G5, S5, fx17⟩ := qx17
    have m17_ := Int.emod_nonneg x15 (show x16 ≠ 0 by omega)
    have n17_ := Int.emod_lt_of_pos x15 (show 0 < x16 by omega)
    rw [fx17] at m17_ n17_
    have R5 := R4.call S5 (by decide +kernel)
    refine z_lstore (M := M_X10_sum) 137 dX10_sum_137 (ls' := [some (mR 96), some (mJ x13), none, some (mJ x10), none, some (mJ x11), none, some (mJ x14), none, some (mJ x17), none, none, none]) (by decide) rfl ?_
    refine z_lload (M := M_X10_sum) 139 dX10_sum_139 rfl ?_
    refine z_lload (M := M_X10_sum) 141 dX10_sum_141 rfl ?_
    refine z_aload_n (M := M_X10_sum) 143 dX10_sum_143 rfl ?_
    refine z_getR (M := M_X10_sum) 144 dX10_sum_144 f_X10_15 o_96 rfl (g_96_1 G5) ?_
    refine z_iconst (M := M_X10_sum) 147 dX10_sum_147 ?_
    refine z_laldE (M := M_X10_sum) 148 dX10_sum_148 o_98 (by omega) (by omega) ((S5 98 2 rfl).trans ex16) ?_
    refine z_lload (M := M_X10_sum) 149 dX10_sum_149 rfl ?_
    refine z_lsubN (M := M_X10_sum) 151 dX10_sum_151 (by omega) (by omega) ?_
    refine z_topJ (fun x18 ex18 => ?_)
    refine z_aload_n (M := M_X10_sum) 152 dX10_sum_152 rfl ?_
    refine z_getR (M := M_X10_sum) 153 dX10_sum_153 f_X10_15 o_96 rfl (g_96_1 G5) ?_
    refine z_iconst (M := M_X10_sum) 156 dX10_sum_156 ?_
    refine z_laldE (M := M_X10_sum) 157 dX10_sum_157 o_98 (by omega) (by omega) ((S5 98 2 rfl).trans ex16) ?_
    refine z_nI (M := M_X10_sum) 158 dX10_sum_158 t_X11_compareFractions l_X10_38 (m_rr_of rfl) (rest := []) (c_X11_compareFractions2 h5 x14 x11 x18 x16 G5 ⟨by omega, by omega⟩ ⟨by omega, by omega⟩ (by omega) (by omega)) rfl rfl (Nat.le_of_ble_eq_true rfl) ⟨rfl, rfl⟩ (fun x19 h6 qx19 => ?_)
    obtain ⟨G6, S6, fx19⟩ := qx19
    have sb_ := sg3_b (x14 * x16) (x18 * x11)
    rw [← fx19] at sb_
    have i2_ := i1.2
    rw [show l3 = 3 by omega] at i2_
    have o_ : h6 96 3 = h0 96 3 := (by rw [frE S6, frE S5, frE S4, frE S3, frE S2, frE S1, e_])
    have sv_ := su_val (o := h0 96 3) b_ i2_ v2_ v3_ v7_ v5_ v15_ v16_ fx4 fx8 ex6 ex9 ex10 ex11 fx12 ex13 fx14 fx17 ex18 fx19
    have z19_ := su_ng fx19 ex18 p11_ (by omega)
    have R6 := R5.call S6 (by decide +kernel)
    refine z_ok (fun ox19 _ _ => ?_)
    have ox19 := ox19.1; unfold m_ok m_32 at ox19
    refine z_istore (M := M_X10_sum) 161 dX10_sum_161 (ls' := [some (mR 96), some (mJ x13), none, some (mJ x10), none, some (mJ x11), none, some (mJ x14), none, some (mJ x17), none, some (mI x19), none]) (by decide) rfl ?_
    refine z_iload (M := M_X10_sum) 163 dX10_sum_163 rfl ?_
    refine z_if_eq (M := M_X10_sum) 165 dX10_sum_165 182 rfl (fun c20 => ?_) (fun c20 => ?_)
    · refine z_iconst (M := M_X10_sum) 182 dX10_sum_182 ?_
      refine z_goto (M := M_X10_sum) 183 dX10_sum_183 187 rfl ?_
      refine z_istore (M := M_X10_sum) 187 dX10_sum_187 (ls' := [some (mR 96), some (mJ x13), none, some (mJ x10), none, some (mJ x11), none, some (mJ x14), none, some (mJ x17), none, some (mI x19), some (mI 1)]) (by decide) rfl ?_
      refine z_lload_n (M := M_X10_sum) 189 dX10_sum_189 rfl ?_
      refine z_iload (M := M_X10_sum) 190 dX10_sum_190 rfl ?_
      refine z_if_lt_F (M := M_X10_sum) 192 dX10_sum_192 199 rfl (by omega) ?_
      refine z_lconst (M := M_X10_sum) 195 dX10_sum_195 (v := 1) ?_
      refine z_goto (M := M_X10_sum) 196 dX10_sum_196 200 rfl ?_
      refine z_laddN (M := M_X10_sum) 200 dX10_sum_200 (by omega) (by omega) ?_
      refine z_topJ (fun x21 ex21 => ?_)
      refine z_lstore_n (M := M_X10_sum) 201 dX10_sum_201 (ls' := [some (mR 96), some (mJ x21), none, some (mJ x10), none, some (mJ x11), none, some (mJ x14), none, some (mJ x17), none, some (mI x19), some (mI 1)]) (by decide) rfl ?_
      refine z_aload_n (M := M_X10_sum) 202 dX10_sum_202 rfl ?_
      refine z_getIG (M := M_X10_sum) 203 dX10_sum_203 f_X10_22 o_96 (by decide) (g_96_3 G6) (fun x22 ex22 ax22 bx22 => ?_)
      refine z_if_eq (M := M_X10_sum) 206 dX10_sum_206 220 rfl (fun c23 => ?_) (fun c23 => ?_)
      · exact z_mask [false, true, false, false, false, false, false, false, false, false, false, false, false] rfl (ih.2 x21 h6 G6 R6 ⟨i1.1, (by rw [sv_]; split <;> split <;> omega)⟩ (by omega))
      · refine z_iload (M := M_X10_sum) 209 dX10_sum_209 rfl ?_
        refine z_if_eq_F (M := M_X10_sum) 211 dX10_sum_211 220 rfl (by omega) ?_
        refine z_lload_n (M := M_X10_sum) 214 dX10_sum_214 rfl ?_
        refine z_lconst (M := M_X10_sum) 215 dX10_sum_215 (v := 1) ?_
        refine z_lsubN (M := M_X10_sum) 216 dX10_sum_216 (by omega) (by omega) ?_
        refine z_topJ (fun x24 ex24 => ?_)
        refine z_goto (M := M_X10_sum) 217 dX10_sum_217 221 rfl ?_
        exact z_retJ (M := M_X10_sum) 221 dX10_sum_221 rfl ⟨G6, R6, Or.inr ⟨i1.1, (by rw [sv_]; split <;> split <;> omega)⟩⟩
    · refine z_lload (M := M_X10_sum) 168 dX10_sum_168 rfl ?_
      refine z_lconst (M := M_X10_sum) 170 dX10_sum_170 (v := 0) ?_
      refine z_lcmp (M := M_X10_sum) 171 dX10_sum_171 ?_
      refine z_if_ne (M := M_X10_sum) 172 dX10_sum_172 186 rfl (fun c25 => ?_) (fun c25 => ?_)
      · rw [m_cmp_eq] at c25
        refine z_iconst (M := M_X10_sum) 186 dX10_sum_186 ?_
        refine z_istore (M := M_X10_sum) 187 dX10_sum_187 (ls' := [some (mR 96), some (mJ x13), none, some (mJ x10), none, some (mJ x11), none, some (mJ x14), none, some (mJ x17), none, some (mI x19), some (mI 0)]) (by decide) rfl ?_
        refine z_lload_n (M := M_X10_sum) 189 dX10_sum_189 rfl ?_
        refine z_iload (M := M_X10_sum) 190 dX10_sum_190 rfl ?_
        refine z_if_lt (M := M_X10_sum) 192 dX10_sum_192 199 rfl (fun c26 => ?_) (fun c26 => ?_)
        · refine z_lconst (M := M_X10_sum) 199 dX10_sum_199 (v := 0) ?_
          refine z_laddN (M := M_X10_sum) 200 dX10_sum_200 (by omega) (by omega) ?_
          refine z_topJ (fun x27 ex27 => ?_)
          refine z_lstore_n (M := M_X10_sum) 201 dX10_sum_201 (ls' := [some (mR 96), some (mJ x27), none, some (mJ x10), none, some (mJ x11), none, some (mJ x14), none, some (mJ x17), none, some (mI x19), some (mI 0)]) (by decide) rfl ?_
          refine z_aload_n (M := M_X10_sum) 202 dX10_sum_202 rfl ?_
          refine z_getIG (M := M_X10_sum) 203 dX10_sum_203 f_X10_22 o_96 (by decide) (g_96_3 G6) (fun x28 ex28 ax28 bx28 => ?_)
          refine z_if_eq (M := M_X10_sum) 206 dX10_sum_206 220 rfl (fun c29 => ?_) (fun c29 => ?_)
          · exact z_mask [false, true, false, false, false, false, false, false, false, false, false, false, false] rfl (ih.2 x27 h6 G6 R6 ⟨i1.1, (by rw [sv_]; split <;> split <;> omega)⟩ (by omega))
          · refine z_iload (M := M_X10_sum) 209 dX10_sum_209 rfl ?_
            refine z_if_eq_T (M := M_X10_sum) 211 dX10_sum_211 220 rfl (by omega) ?_
            exact z_mask [false, true, false, false, false, false, false, false, false, false, false, false, false] rfl (ih.2 x27 h6 G6 R6 ⟨i1.1, (by rw [sv_]; split <;> split <;> omega)⟩ (by omega))
        · refine z_lconst (M := M_X10_sum) 195 dX10_sum_195 (v := 1) ?_
          refine z_goto (M := M_X10_sum) 196 dX10_sum_196 200 rfl ?_
          refine z_laddN (M := M_X10_sum) 200 dX10_sum_200 (by omega) (by omega) ?_
          refine z_topJ (fun x30 ex30 => ?_)
          refine z_lstore_n (M := M_X10_sum) 201 dX10_sum_201 (ls' := [some (mR 96), some (mJ x30), none, some (mJ x10), none, some (mJ x11), none, some (mJ x14), none, some (mJ x17), none, some (mI x19), some (mI 0)]) (by decide) rfl ?_
          refine z_aload_n (M := M_X10_sum) 202 dX10_sum_202 rfl ?_
          refine z_getIG (M := M_X10_sum) 203 dX10_sum_203 f_X10_22 o_96 (by decide) (g_96_3 G6) (fun x31 ex31 ax31 bx31 => ?_)
          refine z_if_eq (M := M_X10_sum) 206 dX10_sum_206 220 rfl (fun c32 => ?_) (fun c32 => ?_)
          · exact z_mask [false, true, false, false, false, false, false, false, false, false, false, false, false] rfl (ih.2 x30 h6 G6 R6 ⟨i1.1, (by rw [sv_]; split <;> split <;> omega)⟩ (by omega))
          · refine z_iload (M := M_X10_sum) 209 dX10_sum_209 rfl ?_
            refine z_if_eq_T (M := M_X10_sum) 211 dX10_sum_211 220 rfl (by omega) ?_
            exact z_mask [false, true, false, false, false, false, false, false, false, false, false, false, false] rfl (ih.2 x30 h6 G6 R6 ⟨i1.1, (by rw [sv_]; split <;> split <;> omega)⟩ (by omega))
      · rw [m_cmp_eq] at c25
        refine z_lload (M := M_X10_sum) 175 dX10_sum_175 rfl ?_
        refine z_lconst (M := M_X10_sum) 177 dX10_sum_177 (v := 0) ?_
        refine z_lcmp (M := M_X10_sum) 178 dX10_sum_178 ?_
        refine z_if_ne (M := M_X10_sum) 179 dX10_sum_179 186 rfl (fun c33 => ?_) (fun c33 => ?_)
        · rw [m_cmp_eq] at c33
          refine z_iconst (M := M_X10_sum) 186 dX10_sum_186 ?_
          refine z_istore (M := M_X10_sum) 187 dX10_sum_187 (ls' := [some (mR 96), some (mJ x13), none, some (mJ x10), none, some (mJ x11), none, some (mJ x14), none, some (mJ x17), none, some (mI x19), some (mI 0)]) (by decide) rfl ?_
          refine z_lload_n (M := M_X10_sum) 189 dX10_sum_189 rfl ?_
          refine z_iload (M := M_X10_sum) 190 dX10_sum_190 rfl ?_
          refine z_if_lt (M := M_X10_sum) 192 dX10_sum_192 199 rfl (fun c34 => ?_) (fun c34 => ?_)
          · refine z_lconst (M := M_X10_sum) 199 dX10_sum_199 (v := 0) ?_
            refine z_laddN (M := M_X10_sum) 200 dX10_sum_200 (by omega) (by omega) ?_
            refine z_topJ (fun x35 ex35 => ?_)
            refine z_lstore_n (M := M_X10_sum) 201 dX10_sum_201 (ls' := [some (mR 96), some (mJ x35), none, some (mJ x10), none, some (mJ x11), none, some (mJ x14), none, some (mJ x17), none, some (mI x19), some (mI 0)]) (by decide) rfl ?_
            refine z_aload_n (M := M_X10_sum) 202 dX10_sum_202 rfl ?_
            refine z_getIG (M := M_X10_sum) 203 dX10_sum_203 f_X10_22 o_96 (by decide) (g_96_3 G6) (fun x36 ex36 ax36 bx36 => ?_)
            refine z_if_eq (M := M_X10_sum) 206 dX10_sum_206 220 rfl (fun c37 => ?_) (fun c37 => ?_)
            · exact z_mask [false, true, false, false, false, false, false, false, false, false, false, false, false] rfl (ih.2 x35 h6 G6 R6 ⟨i1.1, (by rw [sv_]; split <;> split <;> omega)⟩ (by omega))
            · refine z_iload (M := M_X10_sum) 209 dX10_sum_209 rfl ?_
              refine z_if_eq_T (M := M_X10_sum) 211 dX10_sum_211 220 rfl (by omega) ?_
              exact z_mask [false, true, false, false, false, false, false, false, false, false, false, false, false] rfl (ih.2 x35 h6 G6 R6 ⟨i1.1, (by rw [sv_]; split <;> split <;> omega)⟩ (by omega))
          · refine z_lconst (M := M_X10_sum) 195 dX10_sum_195 (v := 1) ?_
            refine z_goto (M := M_X10_sum) 196 dX10_sum_196 200 rfl ?_
            refine z_laddN (M := M_X10_sum) 200 dX10_sum_200 (by omega) (by omega) ?_
            refine z_topJ (fun x38 ex38 => ?_)
            refine z_lstore_n (M := M_X10_sum) 201 dX10_sum_201 (ls' := [some (mR 96), some (mJ x38), none, some (mJ x10), none, some (mJ x11), none, some (mJ x14), none, some (mJ x17), none, some (mI x19), some (mI 0)]) (by decide) rfl ?_
            refine z_aload_n (M := M_X10_sum) 202 dX10_sum_202 rfl ?_
            refine z_getIG (M := M_X10_sum) 203 dX10_sum_203 f_X10_22 o_96 (by decide) (g_96_3 G6) (fun x39 ex39 ax39 bx39 => ?_)
            refine z_if_eq (M := M_X10_sum) 206 dX10_sum_206 220 rfl (fun c40 => ?_) (fun c40 => ?_)
            · exact z_mask [false, true, false, false, false, false, false, false, false, false, false, false, false] rfl (ih.2 x38 h6 G6 R6 ⟨i1.1, (by rw [sv_]; split <;> split <;> omega)⟩ (by omega))
            · refine z_iload (M := M_X10_sum) 209 dX10_sum_209 rfl ?_
              refine z_if_eq_T (M := M_X10_sum) 211 dX10_sum_211 220 rfl (by omega) ?_
              exact z_mask [false, true, false, false, false, false, false, false, false, false, false, false, false] rfl (ih.2 x38 h6 G6 R6 ⟨i1.1, (by rw [sv_]; split <;> split <;> omega)⟩ (by omega))
        · rw [m_cmp_eq] at c33
          refine z_iconst (M := M_X10_sum) 182 dX10_sum_182 ?_
          refine z_goto (M := M_X10_sum) 183 dX10_sum_183 187 rfl ?_
          refine z_istore (M := M_X10_sum) 187 dX10_sum_187 (ls' := [some (mR 96), some (mJ x13), none, some (mJ x10), none, some (mJ x11), none, some (mJ x14), none, some (mJ x17), none, some (mI x19), some (mI 1)]) (by decide) rfl ?_
          refine z_lload_n (M := M_X10_sum) 189 dX10_sum_189 rfl ?_
          refine z_iload (M := M_X10_sum) 190 dX10_sum_190 rfl ?_
          refine z_if_lt (M := M_X10_sum) 192 dX10_sum_192 199 rfl (fun c41 => ?_) (fun c41 => ?_)
          · refine z_lconst (M := M_X10_sum) 199 dX10_sum_199 (v := 0) ?_
            refine z_laddN (M := M_X10_sum) 200 dX10_sum_200 (by omega) (by omega) ?_
            refine z_topJ (fun x42 ex42 => ?_)
            refine z_lstore_n (M := M_X10_sum) 201 dX10_sum_201 (ls' := [some (mR 96), some (mJ x42), none, some (mJ x10), none, some (mJ x11), none, some (mJ x14), none, some (mJ x17), none, some (mI x19), some (mI 1)]) (by decide) rfl ?_
            refine z_aload_n (M := M_X10_sum) 202 dX10_sum_202 rfl ?_
            refine z_getIG (M := M_X10_sum) 203 dX10_sum_203 f_X10_22 o_96 (by decide) (g_96_3 G6) (fun x43 ex43 ax43 bx43 => ?_)
            refine z_if_eq (M := M_X10_sum) 206 dX10_sum_206 220 rfl (fun c44 => ?_) (fun c44 => ?_)
            · exact z_mask [false, true, false, false, false, false, false, false, false, false, false, false, false] rfl (ih.2 x42 h6 G6 R6 ⟨i1.1, (by rw [sv_]; split <;> split <;> omega)⟩ (by omega))
            · refine z_iload (M := M_X10_sum) 209 dX10_sum_209 rfl ?_
              refine z_if_eq_F (M := M_X10_sum) 211 dX10_sum_211 220 rfl (by omega) ?_
              refine z_lload_n (M := M_X10_sum) 214 dX10_sum_214 rfl ?_
              refine z_lconst (M := M_X10_sum) 215 dX10_sum_215 (v := 1) ?_
              refine z_lsubN (M := M_X10_sum) 216 dX10_sum_216 (by omega) (by omega) ?_
              refine z_topJ (fun x45 ex45 => ?_)
              refine z_goto (M := M_X10_sum) 217 dX10_sum_217 221 rfl ?_
              exact z_retJ (M := M_X10_sum) 221 dX10_sum_221 rfl ⟨G6, R6, Or.inr ⟨i1.1, (by rw [sv_]; split <;> split <;> omega)⟩⟩
          · refine z_lconst (M := M_X10_sum) 195 dX10_sum_195 (v := 1) ?_
            refine z_goto (M := M_X10_sum) 196 dX10_sum_196 200 rfl ?_
            refine z_laddN (M := M_X10_sum) 200 dX10_sum_200 (by omega) (by omega) ?_
            refine z_topJ (fun x46 ex46 => ?_)
            refine z_lstore_n (M := M_X10_sum) 201 dX10_sum_201 (ls' := [some (mR 96), some (mJ x46), none, some (mJ x10), none, some (mJ x11), none, some (mJ x14), none, some (mJ x17), none, some (mI x19), some (mI 1)]) (by decide) rfl ?_
            refine z_aload_n (M := M_X10_sum) 202 dX10_sum_202 rfl ?_
            refine z_getIG (M := M_X10_sum) 203 dX10_sum_203 f_X10_22 o_96 (by decide) (g_96_3 G6) (fun x47 ex47 ax47 bx47 => ?_)
            refine z_if_eq (M := M_X10_sum) 206 dX10_sum_206 220 rfl (fun c48 => ?_) (fun c48 => ?_)
            · exact z_mask [false, true, false, false, false, false, false, false, false, false, false, false, false] rfl (ih.2 x46 h6 G6 R6 ⟨i1.1, (by rw [sv_]; split <;> split <;> omega)⟩ (by omega))
            · refine z_iload (M := M_X10_sum) 209 dX10_sum_209 rfl ?_
              refine z_if_eq_F (M := M_X10_sum) 211 dX10_sum_211 220 rfl (by omega) ?_
              refine z_lload_n (M := M_X10_sum) 214 dX10_sum_214 rfl ?_
              refine z_lconst (M := M_X10_sum) 215 dX10_sum_215 (v := 1) ?_
              refine z_lsubN (M := M_X10_sum) 216 dX10_sum_216 (by omega) (by omega) ?_
              refine z_topJ (fun x49 ex49 => ?_)
              refine z_goto (M := M_X10_sum) 217 dX10_sum_217 221 rfl ?_
              exact z_retJ (M := M_X10_sum) 221 dX10_sum_221 rfl ⟨G6, R6, Or.inr ⟨i1.1, (by rw [sv_]; split <;> split <;> omega)⟩⟩
  · refine z_lload_n (M := M_X10_sum) 20 dX10_sum_20 rfl ?_
    refine z_aload_n (M := M_X10_sum) 21 dX10_sum_21 rfl ?_
    refine z_getR (M := M_X10_sum) 22 dX10_sum_22 f_X10_9 o_96 rfl (g_96_0 G) ?_
    refine z_iload_n (M := M_X10_sum) 25 dX10_sum_25 rfl ?_
    refine z_laldV (M := M_X10_sum) 26 dX10_sum_26 o_97 (by omega) (by omega) (fun x50 ex50 => ?_)
    have v50_ : h0 97 l3.toNat = x50 := (by have z := ex50; rw [e_] at z; exact z)
    have p50_ := (b_ l3.toNat (by omega)).1; rw [v50_] at p50_
    refine z_aload_n (M := M_X10_sum) 27 dX10_sum_27 rfl ?_
    refine z_getR (M := M_X10_sum) 28 dX10_sum_28 f_X10_15 o_96 rfl (g_96_1 G) ?_
    refine z_iload_n (M := M_X10_sum) 31 dX10_sum_31 rfl ?_
    refine z_laldV (M := M_X10_sum) 32 dX10_sum_32 o_98 (by omega) (by omega) (fun x51 ex51 => ?_)
    have v51_ : h0 98 l3.toNat = x51 := (by have z := ex51; rw [e_] at z; exact z)
    have p51_ := (b_ l3.toNat (by omega)).2; rw [v51_] at p51_
    refine z_nJ (M := M_X10_sum) 33 dX10_sum_33 t_X11_quotient l_X10_31 (m_rr_of rfl) (rest := [mJ l1]) (c_X11_quotientQ h x50 x51 G (by omega) (by omega)) rfl rfl (Nat.le_of_ble_eq_true rfl) ⟨rfl, rfl⟩ (fun x52 h7 qx52 => ?_)
    obtain ⟨G7, S7, fx52⟩ := qx52
    have q52_ := ediv_bd (x := x50) (y := x51) (hi := 1600000000) (by omega) (by omega) (by omega)
    rw [fx52] at q52_
    have R7 := R.call S7 (by decide +kernel)
    refine z_laddN (M := M_X10_sum) 36 dX10_sum_36 (by omega) (by omega) ?_
    refine z_topJ (fun x53 ex53 => ?_)
    refine z_lstore_n (M := M_X10_sum) 37 dX10_sum_37 (ls' := [some (mR 96), some (mJ x53), none, some (mI l3), none, none, none, none, none, none, none, none, none]) (by decide) rfl ?_
    refine z_iincN (M := M_X10_sum) 38 dX10_sum_38 (ls' := [some (mR 96), some (mJ x53), none, some (mI (l3 + 1)), none, none, none, none, none, none, none, none, none]) (by decide) rfl (by (unfold m_32; decide)) (by omega) (by omega) rfl ?_
    refine z_goto (M := M_X10_sum) 41 dX10_sum_41 15 rfl ?_
    exact z_mask [true, true, false, true, false, false, false, false, false, false, false, false, false] rfl (ih.1 x53 (l3 + 1) h7 G7 R7 (by omega) (by omega) ⟨i1.1, by have z := suW_s (x := x52) i1.2 (by omega) (by omega) (by rw [v50_, v51_]; exact fx52); rw [ex53] at z; exact z⟩ (by omega))
set_option maxHeartbeats 4000000 in
set_option maxRecDepth 100000 in
theorem s_X10_sum2_220 (h0 : m_H) (G0 : GI h0) (hb : h0 96 4 = 0 → suB (h0 97) (h0 98)) (n : Nat) (ih : q_X10_sum2 h0 n) : ∀ (l1 : Int) (h : m_H), GI h → FR [] [] h0 h → (h0 96 4 = 0 ∧ l1 = gnG (suN (h0 97) (h0 98)) (suD (h0 98)) (h0 96 3)) → (1) ≤ ((n + 1 : Nat) : Int) → m_Z oF M_X10_sum 220 [none, some (mJ l1), none, none, none, none, none, none, none, none, none, none, none] [] h (m_QJ (P_X10_sum2 h0)) := by
  intro l1 h G R i1 hr
  refine z_lload_n (M := M_X10_sum) 220 dX10_sum_220 rfl ?_
  exact z_retJ (M := M_X10_sum) 221 dX10_sum_221 rfl ⟨G, R, Or.inr i1⟩
theorem a_X10_sum2 (h0 : m_H) (G0 : GI h0) (hb : h0 96 4 = 0 → suB (h0 97) (h0 98)) : ∀ n, q_X10_sum2 h0 n := by
  intro n
  induction n with
  | zero => unfold q_X10_sum2; refine ⟨?_, ?_⟩ <;> (intros; omega)
  | succ n ih => exact ⟨s_X10_sum2_15 h0 G0 hb n ih, s_X10_sum2_220 h0 G0 hb n ih⟩
set_option maxHeartbeats 4000000 in
set_option maxRecDepth 100000 in
theorem c_X10_sum2 (h0 : m_H) (G0 : GI h0) (hb : h0 96 4 = 0 → suB (h0 97) (h0 98)) : m_CJ M_X10_sum [mR 96] h0 (P_X10_sum2 h0) := by
  refine m_CJ_of ⟨by decide, rfl, by simp [m_arg, m_isL, M_X10_sum], ⟨rfl, rfl⟩, rfl, rfl⟩ (ls := [some (mR 96), none, none, none, none, none, none, none, none, none, none, none, none]) rfl ?_
  have ih := a_X10_sum2 h0 G0 hb 15
  refine z_aload_n (M := M_X10_sum) 0 dX10_sum_0 rfl ?_
  refine z_getIG (M := M_X10_sum) 1 dX10_sum_1 f_X10_26 o_96 (by decide) (g_96_4 G0) (fun x1 ex1 ax1 bx1 => ?_)
  refine z_if_eq (M := M_X10_sum) 4 dX10_sum_4 11 rfl (fun c2 => ?_) (fun c2 => ?_)
  · refine z_lconst (M := M_X10_sum) 11 dX10_sum_11 (v := 0) ?_
    refine z_lstore_n (M := M_X10_sum) 12 dX10_sum_12 (ls' := [some (mR 96), some (mJ 0), none, none, none, none, none, none, none, none, none, none, none]) (by decide) rfl ?_
    refine z_iconst (M := M_X10_sum) 13 dX10_sum_13 ?_
    refine z_istore_n (M := M_X10_sum) 14 dX10_sum_14 (ls' := [some (mR 96), some (mJ 0), none, some (mI 0), none, none, none, none, none, none, none, none, none]) (by decide) rfl ?_
    exact z_mask [true, true, false, true, false, false, false, false, false, false, false, false, false] rfl (ih.1 0 0 h0 G0 (FR.rf (cs := []) (ss := []) (h := h0)) (by omega) (by omega) ⟨ex1.trans c2, Or.inl ⟨rfl, rfl⟩⟩ (by omega))
  · refine z_ldc2 (M := M_X10_sum) 7 dX10_sum_7 k_X10_29 ?_
    exact z_retJ (M := M_X10_sum) 10 dX10_sum_10 rfl ⟨G0, (FR.rf (cs := []) (ss := []) (h := h0)), Or.inl ⟨fun z => c2 (ex1.symm.trans z), rfl⟩⟩
abbrev P_X10_product2 (h0 : m_H) : Int → m_H → Prop := fun x h' => GI h' ∧ FR [] [] h0 h' ∧ ((h0 96 4 ≠ 0 ∧ x = -1) ∨ (h0 96 4 = 0 ∧ x = gnG (h0 97 0 * h0 97 1) (h0 98 0 * h0 98 1) (h0 96 3)))
set_option maxHeartbeats 4000000 in
set_option maxRecDepth 100000 in
theorem c_X10_product2 (h0 : m_H) (G0 : GI h0) (hb : h0 96 4 = 0 → suB (h0 97) (h0 98)) : m_CJ M_X10_product [mR 96] h0 (P_X10_product2 h0) := by
  refine m_CJ_of ⟨by decide, rfl, by simp [m_arg, m_isL, M_X10_product], ⟨rfl, rfl⟩, rfl, rfl⟩ (ls := [some (mR 96), none, none, none, none, none, none]) rfl ?_
  refine z_aload_n (M := M_X10_product) 0 dX10_product_0 rfl ?_
  refine z_getIG (M := M_X10_product) 1 dX10_product_1 f_X10_26 o_96 (by decide) (g_96_4 G0) (fun x1 ex1 ax1 bx1 => ?_)
  refine z_if_eq (M := M_X10_product) 4 dX10_product_4 11 rfl (fun c2 => ?_) (fun c2 => ?_)
  · refine z_aload_n (M := M_X10_product) 11 dX10_product_11 rfl ?_
    refine z_getR (M := M_X10_product) 12 dX10_product_12 f_X10_9 o_96 rfl (g_96_0 G0) ?_
    refine z_iconst (M := M_X10_product) 15 dX10_product_15 ?_
    refine z_laldV (M := M_X10_product) 16 dX10_product_16 o_97 (by omega) (by omega) (fun x3 ex3 => ?_)
    have b_ := hb (ex1.trans c2)
    have v3_ : h0 97 0 = x3 := ex3
    have p3_ := (b_ 0 (by decide)).1; rw [v3_] at p3_
    refine z_aload_n (M := M_X10_product) 17 dX10_product_17 rfl ?_
    refine z_getR (M := M_X10_product) 18 dX10_product_18 f_X10_9 o_96 rfl (g_96_0 G0) ?_
    refine z_iconst (M := M_X10_product) 21 dX10_product_21 ?_
    refine z_laldV (M := M_X10_product) 22 dX10_product_22 o_97 (by omega) (by omega) (fun x4 ex4 => ?_)
    have v4_ : h0 97 1 = x4 := ex4
    have p4_ := (b_ 1 (by decide)).1; rw [v4_] at p4_
    have mx5 := mul_bd (x := x3) (y := x4) (X := 1600000000) (Y := 1600000000) (by omega) (by omega) (by omega) (by omega)
    refine z_lmulN (M := M_X10_product) 23 dX10_product_23 (by omega) (by omega) ?_
    refine z_topBJ (lo := 0) (hi := 2560000000000000000) ⟨by omega, by omega⟩ (fun x5 ex5 ax5 bx5 => ?_)
    refine z_lstore_n (M := M_X10_product) 24 dX10_product_24 (ls' := [some (mR 96), some (mJ x5), none, none, none, none, none]) (by decide) rfl ?_
    refine z_aload_n (M := M_X10_product) 25 dX10_product_25 rfl ?_
    refine z_getR (M := M_X10_product) 26 dX10_product_26 f_X10_15 o_96 rfl (g_96_1 G0) ?_
    refine z_iconst (M := M_X10_product) 29 dX10_product_29 ?_
    refine z_laldV (M := M_X10_product) 30 dX10_product_30 o_98 (by omega) (by omega) (fun x6 ex6 => ?_)
    have v6_ : h0 98 0 = x6 := ex6
    have p6_ := (b_ 0 (by decide)).2; rw [v6_] at p6_
    refine z_aload_n (M := M_X10_product) 31 dX10_product_31 rfl ?_
    refine z_getR (M := M_X10_product) 32 dX10_product_32 f_X10_15 o_96 rfl (g_96_1 G0) ?_
    refine z_iconst (M := M_X10_product) 35 dX10_product_35 ?_
    refine z_laldV (M := M_X10_product) 36 dX10_product_36 o_98 (by omega) (by omega) (fun x7 ex7 => ?_)
    have v7_ : h0 98 1 = x7 := ex7
    have p7_ := (b_ 1 (by decide)).2; rw [v7_] at p7_
    have mx8 := mul_bd (x := x6) (y := x7) (X := 1600000000) (Y := 1600000000) (by omega) (by omega) (by omega) (by omega)
    refine z_lmulN (M := M_X10_product) 37 dX10_product_37 (by omega) (by omega) ?_
    refine z_topBJ (lo := 0) (hi := 2560000000000000000) ⟨by omega, by omega⟩ (fun x8 ex8 ax8 bx8 => ?_)
    have p8_ : 0 < x8 := (by rw [← ex8]; exact Int.mul_pos (by omega) (by omega))
    refine z_lstore_n (M := M_X10_product) 38 dX10_product_38 (ls' := [some (mR 96), some (mJ x5), none, some (mJ x8), none, none, none]) (by decide) rfl ?_
    refine z_lload_n (M := M_X10_product) 39 dX10_product_39 rfl ?_
    refine z_lload_n (M := M_X10_product) 40 dX10_product_40 rfl ?_
    refine z_nJ (M := M_X10_product) 41 dX10_product_41 t_X11_quotient l_X10_31 (m_rr_of rfl) (rest := []) (c_X11_quotientQ h0 x5 x8 G0 (by omega) (by omega)) rfl rfl (Nat.le_of_ble_eq_true rfl) ⟨rfl, rfl⟩ (fun x9 h1 qx9 => ?_)
    obtain ⟨G1, S1, fx9⟩ := qx9
    have q9_ := ediv_bd (x := x5) (y := x8) (hi := 2560000000000000000) (by omega) (by omega) (by omega)
    rw [fx9] at q9_
    have o_ : h1 96 3 = h0 96 3 := S1 96 3 rfl
    have le_ := Int.mul_ediv_self_le (x := x5) (k := x8) (by omega)
    rw [fx9, Int.mul_comm] at le_
    have ge_ := Int.mul_nonneg q9_.1 (Int.le_of_lt p8_)
    have R1 := (FR.rf (cs := []) (ss := []) (h := h0)).call S1 (by decide +kernel)
    refine z_lstore (M := M_X10_product) 44 dX10_product_44 (ls' := [some (mR 96), some (mJ x5), none, some (mJ x8), none, some (mJ x9), none]) (by decide) rfl ?_
    refine z_aload_n (M := M_X10_product) 46 dX10_product_46 rfl ?_
    refine z_getIG (M := M_X10_product) 47 dX10_product_47 f_X10_22 o_96 (by decide) (g_96_3 G1) (fun x10 ex10 ax10 bx10 => ?_)
    refine z_if_eq (M := M_X10_product) 50 dX10_product_50 69 rfl (fun c11 => ?_) (fun c11 => ?_)
    · refine z_lload (M := M_X10_product) 69 dX10_product_69 rfl ?_
      exact z_retJ (M := M_X10_product) 71 dX10_product_71 rfl ⟨G1, R1, Or.inr ⟨ex1.trans c2, by unfold gnG; rw [v3_, v4_, v6_, v7_, ex5, ex8, fx9, ← o_, ex10]; rw [if_neg (fun z => absurd z.1 (by omega))]⟩⟩
    · refine z_lload (M := M_X10_product) 53 dX10_product_53 rfl ?_
      refine z_lload_n (M := M_X10_product) 55 dX10_product_55 rfl ?_
      refine z_lmulN (M := M_X10_product) 56 dX10_product_56 (by omega) (by omega) ?_
      refine z_topJ (fun x12 ex12 => ?_)
      refine z_lload_n (M := M_X10_product) 57 dX10_product_57 rfl ?_
      refine z_lcmp (M := M_X10_product) 58 dX10_product_58 ?_
      refine z_if_ne (M := M_X10_product) 59 dX10_product_59 69 rfl (fun c13 => ?_) (fun c13 => ?_)
      · rw [m_cmp_eq] at c13
        refine z_lload (M := M_X10_product) 69 dX10_product_69 rfl ?_
        exact z_retJ (M := M_X10_product) 71 dX10_product_71 rfl ⟨G1, R1, Or.inr ⟨ex1.trans c2, by unfold gnG; rw [v3_, v4_, v6_, v7_, ex5, ex8, fx9, ← o_, ex10]; rw [if_neg (fun z => c13 (ex12.symm.trans z.2))]⟩⟩
      · rw [m_cmp_eq] at c13
        refine z_lload (M := M_X10_product) 62 dX10_product_62 rfl ?_
        refine z_lconst (M := M_X10_product) 64 dX10_product_64 (v := 1) ?_
        refine z_lsubN (M := M_X10_product) 65 dX10_product_65 (by omega) (by omega) ?_
        refine z_topJ (fun x14 ex14 => ?_)
        refine z_goto (M := M_X10_product) 66 dX10_product_66 71 rfl ?_
        exact z_retJ (M := M_X10_product) 71 dX10_product_71 rfl ⟨G1, R1, Or.inr ⟨ex1.trans c2, by unfold gnG; rw [v3_, v4_, v6_, v7_, ex5, ex8, fx9, ← o_, ex10]; rw [if_pos ⟨by omega, ex12.trans c13⟩]; exact ex14.symm⟩⟩
  · refine z_ldc2 (M := M_X10_product) 7 dX10_product_7 k_X10_29 ?_
    exact z_retJ (M := M_X10_product) 10 dX10_product_10 rfl ⟨G0, (FR.rf (cs := []) (ss := []) (h := h0)), Or.inl ⟨fun z => c2 (ex1.symm.trans z), rfl⟩⟩
