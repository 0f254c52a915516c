/-! between -/
def mlQ (x t l : Int) : Prop := (0 ≤ x ∧ x ≤ 2000000000) ∧ t * x ≤ 1000000 * l ∧ (x < 2000000000 → 1000000 * l < t * (x + 1))
def gtQ (x : Int) (B : Int × Int × Int) : Prop := (B.2.1 = 0 ∧ x = -1) ∨ (B.2.1 ≠ 0 ∧ mlQ x B.2.1 B.1)
def ynQ (x : Int) (B : Int × Int × Int) : Prop := (x = 1 ∧ B.2.1 ≠ 0 ∧ B.2.2 ≠ 1) ∨ (x = 0 ∧ ¬ (B.2.1 ≠ 0 ∧ B.2.2 ≠ 1))
def btQ (r : Nat → Int) (a b w x : Int) : Prop := (¬ ((0 ≤ w ∧ w ≤ 3) ∧ thr r a ∧ thr r b ∧ ¬ gain (bR r)) ∧ x = -2) ∨ (((0 ≤ w ∧ w ≤ 3) ∧ thr r a ∧ thr r b ∧ ¬ gain (bR r)) ∧ ((∃ B, BW (bR r) b.toNat a.toNat B ∧ ((w = 0 ∧ mlQ x B.1 B.2.1) ∨ (w = 2 ∧ ynQ x B))) ∨ (∃ B, BW (bR r) a.toNat b.toNat B ∧ ((w = 1 ∧ gtQ x B) ∨ (w = 3 ∧ ynQ x B)))))
theorem ml_le {x y t l t' l' : Int} (ht : 0 < t) (ht' : 0 < t') (e : t * l' = t' * l) (h : mlQ x t l) (h' : mlQ y t' l') : y ≤ x := by
  rcases Int.lt_or_le x y with g | g
  · exfalso
    have a := h.2.2 (by have := h'.1.2; omega)
    have b := h'.2.1
    have m1 := Int.mul_le_mul_of_nonneg_left b (Int.le_of_lt ht)
    have k1 : t * (t' * y) = t' * (t * y) := by ac_rfl
    have k2 : t * (1000000 * l') = 1000000 * (t * l') := by ac_rfl
    have k3 : t' * (1000000 * l) = 1000000 * (t' * l) := by ac_rfl
    have m2 : t * y ≤ 1000000 * l := Int.le_of_mul_le_mul_left (show t' * (t * y) ≤ t' * (1000000 * l) by omega) ht'
    have m3 := Int.mul_le_mul_of_nonneg_left (show x + 1 ≤ y by omega) (Int.le_of_lt ht)
    omega
  · exact g
theorem ml_eq {x y t l t' l' : Int} (ht : 0 < t) (ht' : 0 < t') (e : t * l' = t' * l) (h : mlQ x t l) (h' : mlQ y t' l') : x = y := by
  have a := ml_le ht ht' e h h'
  have b := ml_le ht' ht e.symm h' h
  omega
theorem yn_eq {Ls : List gE} (hE : ∀ e ∈ Ls, gEo e) {a b : Nat} {B B' : Int × Int × Int} (h : BW Ls a b B) (h' : BW Ls a b B') {x y : Int} (u : ynQ x B) (v : ynQ y B') : x = y := by
  obtain ⟨z1, z2, z3⟩ := BW_eq hE h h'
  have k : (B.2.1 ≠ 0 ∧ B.2.2 ≠ 1) ↔ (B'.2.1 ≠ 0 ∧ B'.2.2 ≠ 1) := by
    constructor
    · rintro ⟨p, q⟩; exact ⟨fun z => p (z1.mpr z), fun z => q ((z3 p).mpr z)⟩
    · rintro ⟨p, q⟩
      have p' : B.2.1 ≠ 0 := fun z => p (z1.mp z)
      exact ⟨p', fun z => q ((z3 p').mp z)⟩
  rcases u with ⟨u1, u2⟩ | ⟨u1, u2⟩ <;> rcases v with ⟨v1, v2⟩ | ⟨v1, v2⟩
  · omega
  · exact absurd (k.mp u2) v2
  · exact absurd (k.mpr v2) u2
  · omega
theorem gt_eq {Ls : List gE} (hE : ∀ e ∈ Ls, gEo e) {a b : Nat} {B B' : Int × Int × Int} (h : BW Ls a b B) (h' : BW Ls a b B') {x y : Int} (u : gtQ x B) (v : gtQ y B') : x = y := by
  obtain ⟨z1, z2, z3⟩ := BW_eq hE h h'
  rcases u with ⟨u1, u2⟩ | ⟨u1, u2⟩ <;> rcases v with ⟨v1, v2⟩ | ⟨v1, v2⟩
  · omega
  · exact absurd (z1.mp u1) v1
  · exact absurd (z1.mpr v1) u1
  · have p1 := h.1.2
    have p2 := h'.1.2
    exact ml_eq (by omega) (by omega) (by rw [Int.mul_comm B.2.1, Int.mul_comm B'.2.1]; exact z2.symm) u2 v2
theorem bt_eq {r : Nat → Int} (hE : ∀ e ∈ bR r, gEo e) {a b w x y : Int} (h : btQ r a b w x) (h' : btQ r a b w y) : x = y := by
  rcases h with ⟨n, e⟩ | ⟨k, h⟩
  · rcases h' with ⟨_, e'⟩ | ⟨k', _⟩
    · omega
    · exact absurd k' n
  · rcases h' with ⟨n', _⟩ | ⟨_, h'⟩
    · exact absurd k n'
    · rcases h with ⟨B, b1, b2⟩ | ⟨B, b1, b2⟩ <;> rcases h' with ⟨B', c1, c2⟩ | ⟨B', c1, c2⟩
      · rcases b2 with ⟨p, q⟩ | ⟨p, q⟩ <;> rcases c2 with ⟨p', q'⟩ | ⟨p', q'⟩
        · have z := (BW_eq hE b1 c1).2.1
          exact ml_eq b1.1.1 c1.1.1 z q q'
        · omega
        · omega
        · exact yn_eq hE b1 c1 q q'
      · omega
      · omega
      · rcases b2 with ⟨p, q⟩ | ⟨p, q⟩ <;> rcases c2 with ⟨p', q'⟩ | ⟨p', q'⟩
        · exact gt_eq hE b1 c1 q q'
        · omega
        · omega
        · exact yn_eq hE b1 c1 q q'
/-- a quotient, capped -/
theorem ml_of {t l q x : Int} (ht : 0 < t) (hl : 0 ≤ l) (eq : 1000000 * l / t = q) (ex : (if 2000000000 < q then 2000000000 else q) = x) : mlQ x t l := by
  have a := Int.mul_ediv_self_le (x := 1000000 * l) (k := t) (by omega)
  have b := Int.lt_mul_ediv_self_add (x := 1000000 * l) (k := t) ht
  have c := Int.ediv_nonneg (a := 1000000 * l) (b := t) (by omega) (by omega)
  rw [eq] at a b c
  by_cases g : 2000000000 < q
  · rw [if_pos g] at ex
    subst ex
    have m := Int.mul_le_mul_of_nonneg_left (Int.le_of_lt g) (Int.le_of_lt ht)
    exact ⟨⟨by decide, by decide⟩, by omega, fun z => absurd z (by decide)⟩
  · rw [if_neg g] at ex
    subst ex
    refine ⟨⟨c, by omega⟩, a, fun _ => ?_⟩
    rw [Int.mul_add, Int.mul_one]; exact b
theorem ml_sh {S L x U : Int} (e : S = U * 1000000) (a : 0 ≤ x) (b : x ≤ 2000000000) (h : shQ x S L 2000000000) : mlQ x L U := by
  subst e
  obtain ⟨h1, h2⟩ := h
  exact ⟨⟨a, b⟩, by omega, fun z => by have := h2 z; omega⟩
abbrev P_X11_quotientQ (h0 : m_H) (a0 a1 : Int) : Int → m_H → Prop := fun x h' => GI h' ∧ FR [] [] h0 h' ∧ a0 / a1 = x
set_option maxHeartbeats 4000000 in
set_option maxRecDepth 100000 in
theorem c_X11_quotientQ (h0 : m_H) (a0 a1 : Int) (G0 : GI h0) (q0 : 0 ≤ a0) (q1 : 0 < a1) : m_CJ M_X11_quotient [mJ a0, mJ a1] h0 (P_X11_quotientQ h0 a0 a1) := by
  refine m_CJ_of ⟨by decide, rfl, by simp [m_arg, m_isL, M_X11_quotient], ⟨rfl, rfl⟩, rfl, rfl⟩ (ls := [some (mJ a0), none, some (mJ a1), none]) rfl ?_
  refine z_lload_n (M := M_X11_quotient) 0 dX11_quotient_0 rfl ?_
  refine z_lconst (M := M_X11_quotient) 1 dX11_quotient_1 (v := 0) ?_
  refine z_lcmp (M := M_X11_quotient) 2 dX11_quotient_2 ?_
  refine z_if_ne (M := M_X11_quotient) 3 dX11_quotient_3 10 rfl (fun c1 => ?_) (fun c1 => ?_)
  · rw [m_cmp_eq] at c1
    refine z_lload_n (M := M_X11_quotient) 10 dX11_quotient_10 rfl ?_
    refine z_lload_n (M := M_X11_quotient) 11 dX11_quotient_11 rfl ?_
    refine z_ldivN (M := M_X11_quotient) 12 dX11_quotient_12 q0 q1 ?_
    refine z_topJ (fun x2 ex2 => ?_)
    exact z_retJ (M := M_X11_quotient) 13 dX11_quotient_13 rfl ⟨G0, (FR.rf (cs := []) (ss := []) (h := h0)), ex2⟩
  · rw [m_cmp_eq] at c1
    refine z_lconst (M := M_X11_quotient) 6 dX11_quotient_6 (v := 0) ?_
    refine z_goto (M := M_X11_quotient) 7 dX11_quotient_7 13 rfl ?_
    exact z_retJ (M := M_X11_quotient) 13 dX11_quotient_13 rfl ⟨G0, (FR.rf (cs := []) (ss := []) (h := h0)), absurd c1 (by omega)⟩
abbrev P_X11_atMost2 (h0 : m_H) (a0 a1 : Int) : Int → m_H → Prop := fun x h' => GI h' ∧ FR [] [] h0 h' ∧ (if a1 < a0 then a1 else a0) = x
set_option maxHeartbeats 4000000 in
set_option maxRecDepth 100000 in
theorem c_X11_atMost2 (h0 : m_H) (a0 a1 : Int) (G0 : GI h0) (q0 : -2147483648 ≤ a0) (q1 : 0 ≤ a1 ∧ a1 ≤ 2147483647) : m_CI M_X11_atMost [mJ a0, mJ a1] h0 (P_X11_atMost2 h0 a0 a1) := by
  refine m_CI_of ⟨by decide, rfl, by simp [m_arg, m_isL, M_X11_atMost], ⟨rfl, rfl⟩, rfl, rfl⟩ (ls := [some (mJ a0), none, some (mJ a1), none]) rfl ?_
  refine z_lload_n (M := M_X11_atMost) 0 dX11_atMost_0 rfl ?_
  refine z_lload_n (M := M_X11_atMost) 1 dX11_atMost_1 rfl ?_
  refine z_minJ (M := M_X11_atMost) 2 dX11_atMost_2 ml_X11_438 (rest := []) (Nat.le_of_ble_eq_true rfl) (Nat.le_of_ble_eq_true rfl) ?_
  refine z_topJ (fun x1 ex1 => ?_)
  refine z_l2iN (M := M_X11_atMost) 5 dX11_atMost_5 (by rw [← ex1]; split <;> omega) (by rw [← ex1]; split <;> omega) ?_
  exact z_retI (M := M_X11_atMost) 6 dX11_atMost_6 rfl ⟨G0, (FR.rf (cs := []) (ss := []) (h := h0)), ex1⟩
abbrev P_X7_leastMillionths2 (h0 : m_H) : Int → m_H → Prop := fun x h' => GI h' ∧ FR [] [] h0 h' ∧ 0 ≤ x ∧ 1000000 * h0 94 1 / h0 94 0 = x
set_option maxHeartbeats 4000000 in
set_option maxRecDepth 100000 in
theorem c_X7_leastMillionths2 (h0 : m_H) (G0 : GI h0) (q : ((0 < h0 94 0 ∧ h0 94 0 ≤ 1600000000) ∧ 0 ≤ h0 94 1 ∧ h0 94 1 ≤ 1600000000)) : m_CJ M_X7_leastMillionths [mR 93] h0 (P_X7_leastMillionths2 h0) := by
  refine m_CJ_of ⟨by decide, rfl, by simp [m_arg, m_isL, M_X7_leastMillionths], ⟨rfl, rfl⟩, rfl, rfl⟩ (ls := [some (mR 93)]) rfl ?_
  refine z_ldc2 (M := M_X7_leastMillionths) 0 dX7_leastMillionths_0 k_X7_27 ?_
  refine z_aload_n (M := M_X7_leastMillionths) 3 dX7_leastMillionths_3 rfl ?_
  refine z_getR (M := M_X7_leastMillionths) 4 dX7_leastMillionths_4 f_X7_12 o_93 rfl (g_93_0 G0) ?_
  refine z_getJV (M := M_X7_leastMillionths) 7 dX7_leastMillionths_7 f_X7_29 o_94 rfl (fun x1 ex1 => ?_)
  rw [ex1] at q
  have mx2 := mul_bd (x := 1000000) (y := x1) (X := 1000000) (Y := 1600000000) (by omega) (by omega) (by omega) (by omega)
  refine z_lmulN (M := M_X7_leastMillionths) 10 dX7_leastMillionths_10 (by omega) (by omega) ?_
  refine z_topBJ (lo := 0) (hi := 1600000000000000) ⟨by omega, by omega⟩ (fun x2 ex2 ax2 bx2 => ?_)
  refine z_aload_n (M := M_X7_leastMillionths) 11 dX7_leastMillionths_11 rfl ?_
  refine z_getR (M := M_X7_leastMillionths) 12 dX7_leastMillionths_12 f_X7_12 o_93 rfl (g_93_0 G0) ?_
  refine z_getJV (M := M_X7_leastMillionths) 15 dX7_leastMillionths_15 f_X7_33 o_94 rfl (fun x3 ex3 => ?_)
  rw [ex3] at q
  refine z_nJ (M := M_X7_leastMillionths) 18 dX7_leastMillionths_18 t_X11_quotient l_X7_36 (m_rr_of rfl) (rest := []) (c_X11_quotientQ h0 x2 x3 G0 (by omega) (by omega)) rfl rfl (Nat.le_of_ble_eq_true rfl) ⟨rfl, rfl⟩ (fun x4 h1 qx4 => ?_)
  obtain ⟨G1, S1, fx4⟩ := qx4
  have R1 := (FR.rf (cs := []) (ss := []) (h := h0)).call S1 (by decide +kernel)
  exact z_retJ (M := M_X7_leastMillionths) 21 dX7_leastMillionths_21 rfl ⟨G1, R1, by rw [← fx4]; exact Int.ediv_nonneg (by omega) (by omega), by rw [ex1, ex3, ex2]; exact fx4⟩
abbrev P_X7_greatestMillionths2 (h0 : m_H) : Int → m_H → Prop := fun x h' => GI h' ∧ FR [] [] h0 h' ∧ -1 ≤ x ∧ ((h0 95 1 = 0 ∧ x = -1) ∨ (h0 95 1 ≠ 0 ∧ 1000000 * h0 95 0 / h0 95 1 = x))
set_option maxHeartbeats 4000000 in
set_option maxRecDepth 100000 in
theorem c_X7_greatestMillionths2 (h0 : m_H) (G0 : GI h0) (q : ((0 < h0 95 0 ∧ h0 95 0 ≤ 1600000000) ∧ 0 ≤ h0 95 1 ∧ h0 95 1 ≤ 1600000000)) : m_CJ M_X7_greatestMillionths [mR 93] h0 (P_X7_greatestMillionths2 h0) := by
  refine m_CJ_of ⟨by decide, rfl, by simp [m_arg, m_isL, M_X7_greatestMillionths], ⟨rfl, rfl⟩, rfl, rfl⟩ (ls := [some (mR 93)]) rfl ?_
  refine z_aload_n (M := M_X7_greatestMillionths) 0 dX7_greatestMillionths_0 rfl ?_
  refine z_getR (M := M_X7_greatestMillionths) 1 dX7_greatestMillionths_1 f_X7_18 o_93 rfl (g_93_1 G0) ?_
  refine z_getJV (M := M_X7_greatestMillionths) 4 dX7_greatestMillionths_4 f_X7_29 o_95 rfl (fun x1 ex1 => ?_)
  rw [ex1] at q
  refine z_lconst (M := M_X7_greatestMillionths) 7 dX7_greatestMillionths_7 (v := 0) ?_
  refine z_lcmp (M := M_X7_greatestMillionths) 8 dX7_greatestMillionths_8 ?_
  refine z_if_ne (M := M_X7_greatestMillionths) 9 dX7_greatestMillionths_9 18 rfl (fun c2 => ?_) (fun c2 => ?_)
  · rw [m_cmp_eq] at c2
    refine z_ldc2 (M := M_X7_greatestMillionths) 18 dX7_greatestMillionths_18 k_X7_27 ?_
    refine z_aload_n (M := M_X7_greatestMillionths) 21 dX7_greatestMillionths_21 rfl ?_
    refine z_getR (M := M_X7_greatestMillionths) 22 dX7_greatestMillionths_22 f_X7_18 o_93 rfl (g_93_1 G0) ?_
    refine z_getJV (M := M_X7_greatestMillionths) 25 dX7_greatestMillionths_25 f_X7_33 o_95 rfl (fun x3 ex3 => ?_)
    rw [ex3] at q
    have mx4 := mul_bd (x := 1000000) (y := x3) (X := 1000000) (Y := 1600000000) (by omega) (by omega) (by omega) (by omega)
    refine z_lmulN (M := M_X7_greatestMillionths) 28 dX7_greatestMillionths_28 (by omega) (by omega) ?_
    refine z_topBJ (lo := 0) (hi := 1600000000000000) ⟨by omega, by omega⟩ (fun x4 ex4 ax4 bx4 => ?_)
    refine z_aload_n (M := M_X7_greatestMillionths) 29 dX7_greatestMillionths_29 rfl ?_
    refine z_getR (M := M_X7_greatestMillionths) 30 dX7_greatestMillionths_30 f_X7_18 o_93 rfl (g_93_1 G0) ?_
    refine z_getJE (M := M_X7_greatestMillionths) 33 dX7_greatestMillionths_33 f_X7_29 o_95 rfl ex1 ?_
    refine z_nJ (M := M_X7_greatestMillionths) 36 dX7_greatestMillionths_36 t_X11_quotient l_X7_36 (m_rr_of rfl) (rest := []) (c_X11_quotientQ h0 x4 x1 G0 (by omega) (by omega)) rfl rfl (Nat.le_of_ble_eq_true rfl) ⟨rfl, rfl⟩ (fun x5 h1 qx5 => ?_)
    obtain ⟨G1, S1, fx5⟩ := qx5
    have R1 := (FR.rf (cs := []) (ss := []) (h := h0)).call S1 (by decide +kernel)
    exact z_retJ (M := M_X7_greatestMillionths) 39 dX7_greatestMillionths_39 rfl ⟨G1, R1, by have z := Int.ediv_nonneg (a := x4) (b := x1) (by omega) (by omega); omega, Or.inr ⟨by rw [ex1]; exact c2, by rw [ex1, ex3, ex4]; exact fx5⟩⟩
  · rw [m_cmp_eq] at c2
    refine z_ldc2 (M := M_X7_greatestMillionths) 12 dX7_greatestMillionths_12 k_X7_40 ?_
    refine z_goto (M := M_X7_greatestMillionths) 15 dX7_greatestMillionths_15 39 rfl ?_
    exact z_retJ (M := M_X7_greatestMillionths) 39 dX7_greatestMillionths_39 rfl ⟨G0, (FR.rf (cs := []) (ss := []) (h := h0)), by omega, Or.inl ⟨by rw [ex1]; omega, rfl⟩⟩
abbrev P_X11_between3 (h0 : m_H) (a1 a2 a3 : Int) : Int → m_H → Prop := fun x h' => GI h' ∧ FR (csB ++ [39, 40, 41]) [] h0 h' ∧ btQ (h0 110) a1 a2 a3 x
set_option maxHeartbeats 4000000 in
set_option maxRecDepth 100000 in
theorem c_X11_between3 (h0 : m_H) (a1 a2 a3 : Int) (G0 : GI h0) (hR : LR 1 h0 (h0 110)) (hN : NP h0) : m_CI M_X11_between [mR 0, mI a1, mI a2, mI a3] h0 (P_X11_between3 h0 a1 a2 a3) := by
  refine m_CI_of ⟨by decide, rfl, by simp [m_arg, m_isL, M_X11_between], ⟨rfl, rfl⟩, rfl, rfl⟩ (ls := [some (mR 0), some (mI a1), some (mI a2), some (mI a3)]) rfl ?_
  refine z_ok (fun _ _ ok => ?_)
  have oa1 : m_32 a1 := ok 1 _ rfl
  unfold m_32 at oa1
  have oa2 : m_32 a2 := ok 2 _ rfl
  unfold m_32 at oa2
  have oa3 : m_32 a3 := ok 3 _ rfl
  unfold m_32 at oa3
  refine z_iload_n (M := M_X11_between) 0 dX11_between_0 rfl ?_
  refine z_iconst (M := M_X11_between) 1 dX11_between_1 ?_
  refine z_iconst (M := M_X11_between) 2 dX11_between_2 ?_
  refine z_sI (M := M_X11_between) 3 dX11_between_3 t_X11_within l_X11_112 (m_rr_of rfl) (rest := []) (c_X11_within h0 a3 0 3 G0) rfl rfl (Nat.le_of_ble_eq_true rfl) ⟨rfl, rfl⟩ (fun x1 h1 qx1 => ?_)
  obtain ⟨rfl, ⟨rfl, cx1⟩ | ⟨rfl, cx1⟩⟩ := qx1
  · refine z_if_eq_F (M := M_X11_between) 6 dX11_between_6 18 rfl (by omega) ?_
    refine z_aload_n (M := M_X11_between) 9 dX11_between_9 rfl ?_
    refine z_iload_n (M := M_X11_between) 10 dX11_between_10 rfl ?_
    refine z_iload_n (M := M_X11_between) 11 dX11_between_11 rfl ?_
    refine z_vI (M := M_X11_between) 12 dX11_between_12 t_X11_compare l_X11_211 (m_rr_of rfl) (rest := []) (c_X11_compare2 h0 a1 a2 G0 hR hN) o_0 rfl rfl rfl (Nat.le_of_ble_eq_true rfl) ⟨rfl, rfl⟩ (fun x2 h2 qx2 => ?_)
    obtain ⟨G2, S2, ax2, bx2, fx2⟩ := qx2
    have R2 := (FR.rf (cs := (csB ++ [39, 40, 41])) (ss := []) (h := h0)).call S2 (by decide +kernel)
    refine z_if_ne (M := M_X11_between) 15 dX11_between_15 21 rfl (fun c3 => ?_) (fun c3 => ?_)
    · have k_ := fx2.1.mp (by omega)
      have p_ := fx2.2 (by omega)
      have pb1_ : (0 < h2 95 0 ∧ h2 95 0 ≤ 1600000000) ∧ 0 ≤ h2 95 1 ∧ h2 95 1 ≤ 1600000000 := p_.1.2.1
      have pb2_ : (0 < h2 94 0 ∧ h2 94 0 ≤ 1600000000) ∧ 0 ≤ h2 94 1 ∧ h2 94 1 ≤ 1600000000 := p_.2.2.1
      refine z_iload_n (M := M_X11_between) 21 dX11_between_21 rfl ?_
      by_cases c4 : a3 = 0 ∨ a3 = 1 ∨ a3 = 2
      · rcases c4 with c4_0 | c4_1 | c4_2
        · refine z_tabIn (M := M_X11_between) 22 dX11_between_22 (off := 26) 48 (by omega) (by omega) (by rw [c4_0]; rfl) rfl ?_
          refine z_aload_n (M := M_X11_between) 48 dX11_between_48 rfl ?_
          refine z_getR (M := M_X11_between) 49 dX11_between_49 f_X11_53 o_0 rfl (g_0_7 G2) ?_
          refine z_vJ (M := M_X11_between) 52 dX11_between_52 t_X7_leastMillionths l_X11_214 (m_rr_of rfl) (rest := []) (c_X7_leastMillionths2 h2 G2 pb2_) o_93 rfl rfl rfl (Nat.le_of_ble_eq_true rfl) ⟨rfl, rfl⟩ (fun x5 h3 qx5 => ?_)
          obtain ⟨G3, S3, ax5, fx5⟩ := qx5
          have R3 := R2.call S3 (by decide +kernel)
          refine z_ldc2 (M := M_X11_between) 55 dX11_between_55 k_X11_218 ?_
          refine z_sI (M := M_X11_between) 58 dX11_between_58 t_X11_atMost l_X11_220 (m_rr_of rfl) (rest := []) (c_X11_atMost2 h3 x5 2000000000 G3 (by omega) ⟨by omega, by omega⟩) rfl rfl (Nat.le_of_ble_eq_true rfl) ⟨rfl, rfl⟩ (fun x6 h4 qx6 => ?_)
          obtain ⟨G4, S4, fx6⟩ := qx6
          have R4 := R3.call S4 (by decide +kernel)
          refine z_ok (fun ox6 _ _ => ?_)
          have ox6 := ox6.1; unfold m_ok m_32 at ox6
          exact z_retI (M := M_X11_between) 61 dX11_between_61 rfl ⟨G4, R4, Or.inr ⟨⟨⟨by omega, by omega⟩, k_⟩, Or.inl ⟨_, p_.2.1, Or.inl ⟨c4_0, ml_of pb2_.1.1 pb2_.2.1 fx5 fx6⟩⟩⟩⟩
        · refine z_tabIn (M := M_X11_between) 22 dX11_between_22 (off := 40) 62 (by omega) (by omega) (by rw [c4_1]; rfl) rfl ?_
          refine z_aload_n (M := M_X11_between) 62 dX11_between_62 rfl ?_
          refine z_getR (M := M_X11_between) 63 dX11_between_63 f_X11_53 o_0 rfl (g_0_7 G2) ?_
          refine z_vJ (M := M_X11_between) 66 dX11_between_66 t_X7_greatestMillionths l_X11_224 (m_rr_of rfl) (rest := []) (c_X7_greatestMillionths2 h2 G2 pb1_) o_93 rfl rfl rfl (Nat.le_of_ble_eq_true rfl) ⟨rfl, rfl⟩ (fun x7 h5 qx7 => ?_)
          obtain ⟨G5, S5, ax7, fx7⟩ := qx7
          have R5 := R2.call S5 (by decide +kernel)
          refine z_ldc2 (M := M_X11_between) 69 dX11_between_69 k_X11_218 ?_
          refine z_sI (M := M_X11_between) 72 dX11_between_72 t_X11_atMost l_X11_220 (m_rr_of rfl) (rest := []) (c_X11_atMost2 h5 x7 2000000000 G5 (by omega) ⟨by omega, by omega⟩) rfl rfl (Nat.le_of_ble_eq_true rfl) ⟨rfl, rfl⟩ (fun x8 h6 qx8 => ?_)
          obtain ⟨G6, S6, fx8⟩ := qx8
          have R6 := R5.call S6 (by decide +kernel)
          refine z_ok (fun ox8 _ _ => ?_)
          have ox8 := ox8.1; unfold m_ok m_32 at ox8
          exact z_retI (M := M_X11_between) 75 dX11_between_75 rfl ⟨G6, R6, Or.inr ⟨⟨⟨by omega, by omega⟩, k_⟩, Or.inr ⟨_, p_.1.1, Or.inl ⟨c4_1, by rcases fx7 with ⟨z1, z2⟩ | ⟨z1, z2⟩; exact Or.inl ⟨z1, by rw [← fx8, z2]; rfl⟩; exact Or.inr ⟨z1, ml_of (by have z3 : h2 95 1 ≠ 0 := z1; have z4 := pb1_.2.1; show 0 < h2 95 1; omega) (Int.le_of_lt pb1_.1.1) z2 fx8⟩⟩⟩⟩⟩
        · refine z_tabIn (M := M_X11_between) 22 dX11_between_22 (off := 54) 76 (by omega) (by omega) (by rw [c4_2]; rfl) rfl ?_
          refine z_aload_n (M := M_X11_between) 76 dX11_between_76 rfl ?_
          refine z_getR (M := M_X11_between) 77 dX11_between_77 f_X11_53 o_0 rfl (g_0_7 G2) ?_
          refine z_getR (M := M_X11_between) 80 dX11_between_80 f_X11_227 o_93 rfl (g_93_0 G2) ?_
          refine z_getIG (M := M_X11_between) 83 dX11_between_83 f_X11_231 o_94 (by decide) (g_94_2 G2) (fun x9 ex9 ax9 bx9 => ?_)
          refine z_if_eq (M := M_X11_between) 86 dX11_between_86 93 rfl (fun c10 => ?_) (fun c10 => ?_)
          · refine z_iconst (M := M_X11_between) 93 dX11_between_93 ?_
            exact z_retI (M := M_X11_between) 94 dX11_between_94 rfl ⟨G2, R2, Or.inr ⟨⟨⟨by omega, by omega⟩, k_⟩, Or.inl ⟨_, p_.2.1, Or.inr ⟨c4_2, Or.inl ⟨rfl, fun z => absurd (p_.2.2.2.1 z) (by show h2 94 2 ≠ 1; omega), by show h2 94 2 ≠ 1; omega⟩⟩⟩⟩⟩
          · refine z_iconst (M := M_X11_between) 89 dX11_between_89 ?_
            refine z_goto (M := M_X11_between) 90 dX11_between_90 94 rfl ?_
            exact z_retI (M := M_X11_between) 94 dX11_between_94 rfl ⟨G2, R2, Or.inr ⟨⟨⟨by omega, by omega⟩, k_⟩, Or.inl ⟨_, p_.2.1, Or.inr ⟨c4_2, Or.inr ⟨rfl, fun z => absurd (show h2 94 2 = 1 by omega) z.2⟩⟩⟩⟩⟩
      · refine z_tabOut (M := M_X11_between) 22 dX11_between_22 95 (by omega) rfl ?_
        refine z_aload_n (M := M_X11_between) 95 dX11_between_95 rfl ?_
        refine z_getR (M := M_X11_between) 96 dX11_between_96 f_X11_53 o_0 rfl (g_0_7 G2) ?_
        refine z_getR (M := M_X11_between) 99 dX11_between_99 f_X11_237 o_93 rfl (g_93_1 G2) ?_
        refine z_getIG (M := M_X11_between) 102 dX11_between_102 f_X11_231 o_95 (by decide) (g_95_2 G2) (fun x11 ex11 ax11 bx11 => ?_)
        refine z_if_eq (M := M_X11_between) 105 dX11_between_105 112 rfl (fun c12 => ?_) (fun c12 => ?_)
        · refine z_iconst (M := M_X11_between) 112 dX11_between_112 ?_
          exact z_retI (M := M_X11_between) 113 dX11_between_113 rfl ⟨G2, R2, Or.inr ⟨⟨⟨by omega, by omega⟩, k_⟩, Or.inr ⟨_, p_.1.1, Or.inr ⟨by omega, Or.inl ⟨rfl, fun z => absurd (p_.1.2.2.1 z) (by show h2 95 2 ≠ 1; omega), by show h2 95 2 ≠ 1; omega⟩⟩⟩⟩⟩
        · refine z_iconst (M := M_X11_between) 108 dX11_between_108 ?_
          refine z_goto (M := M_X11_between) 109 dX11_between_109 113 rfl ?_
          exact z_retI (M := M_X11_between) 113 dX11_between_113 rfl ⟨G2, R2, Or.inr ⟨⟨⟨by omega, by omega⟩, k_⟩, Or.inr ⟨_, p_.1.1, Or.inr ⟨by omega, Or.inr ⟨rfl, fun z => absurd (show h2 95 2 = 1 by omega) z.2⟩⟩⟩⟩⟩
    · refine z_bipush (M := M_X11_between) 18 dX11_between_18 ?_
      exact z_retI (M := M_X11_between) 20 dX11_between_20 rfl ⟨G2, R2, Or.inl ⟨fun z => absurd (fx2.1.mpr z.2) (by omega), rfl⟩⟩
  · refine z_if_eq_T (M := M_X11_between) 6 dX11_between_6 18 rfl (by omega) ?_
    refine z_bipush (M := M_X11_between) 18 dX11_between_18 ?_
    exact z_retI (M := M_X11_between) 20 dX11_between_20 rfl ⟨G0, (FR.rf (cs := (csB ++ [39, 40, 41])) (ss := []) (h := h0)), Or.inl ⟨fun z => cx1 z.1, rfl⟩⟩
theorem bOf_y {h : m_H} {l : Nat} {x : Int} (e : h 127 l = x) (c : x = 1) : bOf (aS h l) = (vS (h 125) (5 * l) 5, vS (h 124) (5 * l) 5, h 126 l) := by
  unfold bOf
  rw [if_pos (show (aS h l).2.2 = 1 from e.trans c)]
  rfl
theorem bOf_n {h : m_H} {l : Nat} {x : Int} (e : h 127 l = x) (c : x ≠ 1) : bOf (aS h l) = (1, 0, 1) := by
  unfold bOf
  rw [if_neg (show ¬ (aS h l).2.2 = 1 from fun z => c (e.symm.trans z))]
theorem at5 {a : Int} (h : 0 ≤ a) : (5 * a).toNat = 5 * a.toNat := by omega
abbrev P_X12_between3 (h0 : m_H) (a1 a2 a3 : Int) : Int → m_H → Prop := fun x h' => GI h' ∧ FR [115, 116, 117, 118, 119, 120, 121, 122, 123, 124, 125, 126, 127, 128, 129, 130, 131, 132, 133, 134, 135, 136] [(108, 0), (108, 21)] h0 h' ∧ (-2) ≤ x ∧ x ≤ 2000000000 ∧ btQ (h0 110) a1 a2 a3 x
set_option maxHeartbeats 4000000 in
set_option maxRecDepth 100000 in
theorem c_X12_between3 (h0 : m_H) (a1 a2 a3 : Int) (G0 : GI h0) (hN : NP h0) : m_CI M_X12_between [mR 108, mI a1, mI a2, mI a3] h0 (P_X12_between3 h0 a1 a2 a3) := by
  refine m_CI_of ⟨by decide, rfl, by simp [m_arg, m_isL, M_X12_between], ⟨rfl, rfl⟩, rfl, rfl⟩ (ls := [some (mR 108), some (mI a1), some (mI a2), some (mI a3), none, none]) rfl ?_
  refine z_ok (fun _ _ ok => ?_)
  have oa1 : m_32 a1 := ok 1 _ rfl
  unfold m_32 at oa1
  have oa2 : m_32 a2 := ok 2 _ rfl
  unfold m_32 at oa2
  have oa3 : m_32 a3 := ok 3 _ rfl
  unfold m_32 at oa3
  refine z_aload_n (M := M_X12_between) 0 dX12_between_0 rfl ?_
  refine z_iconst (M := M_X12_between) 1 dX12_between_1 ?_
  refine z_putIH (M := M_X12_between) 2 dX12_between_2 p_X12_133 o_108 rfl (u_108_0 G0) ((FR.rf (cs := [115, 116, 117, 118, 119, 120, 121, 122, 123, 124, 125, 126, 127, 128, 129, 130, 131, 132, 133, 134, 135, 136]) (ss := [(108, 0), (108, 21)]) (h := h0)).up rfl) (fun h1 E1 G1 R1 => ?_)
  refine z_iload_n (M := M_X12_between) 5 dX12_between_5 rfl ?_
  refine z_i2l (M := M_X12_between) 6 dX12_between_6 ?_
  refine z_lconst (M := M_X12_between) 7 dX12_between_7 (v := 0) ?_
  refine z_ldc2 (M := M_X12_between) 8 dX12_between_8 k_X12_152 ?_
  refine z_sI (M := M_X12_between) 11 dX12_between_11 t_X12_in l_X12_143 (m_rr_of rfl) (rest := []) (c_X12_in h1 a3 0 3 G1) rfl rfl (Nat.le_of_ble_eq_true rfl) ⟨rfl, rfl⟩ (fun x1 h2 qx1 => ?_)
  obtain ⟨rfl, ⟨rfl, cx1⟩ | ⟨rfl, cx1⟩⟩ := qx1
  · refine z_if_eq_F (M := M_X12_between) 14 dX12_between_14 26 rfl (by omega) ?_
    refine z_aload_n (M := M_X12_between) 17 dX12_between_17 rfl ?_
    refine z_iload_n (M := M_X12_between) 18 dX12_between_18 rfl ?_
    refine z_iload_n (M := M_X12_between) 19 dX12_between_19 rfl ?_
    refine z_vI (M := M_X12_between) 20 dX12_between_20 t_X12_isAnswered l_X12_394 (m_rr_of rfl) (rest := []) (c_X12_isAnswered2 h1 a1 a2 G1 (NP.call hN R1 (fun _ => rfl) (fun _ => rfl) (fun _ => rfl))) o_108 rfl rfl rfl (Nat.le_of_ble_eq_true rfl) ⟨rfl, rfl⟩ (fun x2 h3 qx2 => ?_)
    obtain ⟨G3, S3, ax2, bx2, fx2_0, fx2_1⟩ := qx2
    have R3 := R1.call S3 (by decide +kernel)
    have e1_ : h1 110 = h0 110 := FR.row R1 (fun _ => rfl)
    have e3_ : h3 110 = h0 110 := FR.row R3 (fun _ => rfl)
    rw [e1_] at fx2_1
    refine z_if_ne (M := M_X12_between) 23 dX12_between_23 29 rfl (fun c3 => ?_) (fun c3 => ?_)
    · have an := fx2_0 (by omega)
      have an1 := an.1
      have an2 := an.2.1
      refine z_iload_n (M := M_X12_between) 29 dX12_between_29 rfl ?_
      refine z_iconst (M := M_X12_between) 30 dX12_between_30 ?_
      refine z_iremN (M := M_X12_between) 31 dX12_between_31 (by omega) (by omega) ?_
      refine z_topBI (lo := 0) (hi := 1) ⟨by omega, by omega⟩ (fun x4 ex4 ax4 bx4 => ?_)
      refine z_if_ne (M := M_X12_between) 32 dX12_between_32 39 rfl (fun c5 => ?_) (fun c5 => ?_)
      · refine z_iconst (M := M_X12_between) 39 dX12_between_39 ?_
        refine z_istore (M := M_X12_between) 40 dX12_between_40 (ls' := [some (mR 108), some (mI a1), some (mI a2), some (mI a3), some (mI 0), none]) (by decide) rfl ?_
        refine z_aload_n (M := M_X12_between) 42 dX12_between_42 rfl ?_
        refine z_iload (M := M_X12_between) 43 dX12_between_43 rfl ?_
        refine z_if_eq_T (M := M_X12_between) 45 dX12_between_45 52 rfl (by omega) ?_
        refine z_iload_n (M := M_X12_between) 52 dX12_between_52 rfl ?_
        refine z_vV (M := M_X12_between) 53 dX12_between_53 t_X12_goFrom l_X12_397 (m_rr_of rfl) (rest := []) (c_X12_goFrom2 h3 a1 G3 ⟨by omega, by omega⟩ (NP.call hN R3 (fun _ => rfl) (fun _ => rfl) (fun _ => rfl)) (gG_f (gG_b an.2.2 R1 (fun _ => rfl)) R3 (fun _ => rfl))) o_108 rfl rfl rfl (Nat.le_of_ble_eq_true rfl) ⟨rfl, rfl⟩ (fun h4 qx6 => ?_)
        obtain ⟨G4, S4, fx6_0, fx6_1⟩ := qx6
        rw [e3_] at fx6_1
        have b_ := fx6_1 a2.toNat (by omega)
        have g_ := fx6_0 a2.toNat (by omega)
        have k_ := fx2_1.mp (by omega)
        have R4 := R3.call S4 (by decide +kernel)
        refine z_iload (M := M_X12_between) 56 dX12_between_56 rfl ?_
        refine z_if_eq_T (M := M_X12_between) 58 dX12_between_58 65 rfl (by omega) ?_
        refine z_iload_n (M := M_X12_between) 65 dX12_between_65 rfl ?_
        refine z_istore (M := M_X12_between) 66 dX12_between_66 (ls' := [some (mR 108), some (mI a1), some (mI a2), some (mI a3), some (mI 0), some (mI a2)]) (by decide) rfl ?_
        refine z_iload_n (M := M_X12_between) 68 dX12_between_68 rfl ?_
        refine z_iconst (M := M_X12_between) 69 dX12_between_69 ?_
        refine z_icmp_le (M := M_X12_between) 70 dX12_between_70 99 rfl (fun c7 => ?_) (fun c7 => ?_)
        · refine z_aload_n (M := M_X12_between) 99 dX12_between_99 rfl ?_
          refine z_getR (M := M_X12_between) 100 dX12_between_100 f_X12_70 o_108 rfl (g_108_32 G4) ?_
          refine z_iload (M := M_X12_between) 103 dX12_between_103 rfl ?_
          refine z_zaldG (M := M_X12_between) 105 dX12_between_105 o_127 (by omega) (by omega) (g_127 G4 (by omega)) (fun x8 ex8 ax8 bx8 => ?_)
          refine z_if_ne (M := M_X12_between) 106 dX12_between_106 120 rfl (fun c9 => ?_) (fun c9 => ?_)
          · refine z_iload (M := M_X12_between) 120 dX12_between_120 rfl ?_
            refine z_if_eq_T (M := M_X12_between) 122 dX12_between_122 154 rfl (by omega) ?_
            refine z_aload_n (M := M_X12_between) 154 dX12_between_154 rfl ?_
            refine z_aload_n (M := M_X12_between) 155 dX12_between_155 rfl ?_
            refine z_getR (M := M_X12_between) 156 dX12_between_156 f_X12_64 o_108 rfl (g_108_30 G4) ?_
            refine z_iconst (M := M_X12_between) 159 dX12_between_159 ?_
            refine z_iload (M := M_X12_between) 160 dX12_between_160 rfl ?_
            refine z_imulN (M := M_X12_between) 162 dX12_between_162 (by omega) (by omega) ?_
            refine z_aload_n (M := M_X12_between) 163 dX12_between_163 rfl ?_
            refine z_getR (M := M_X12_between) 164 dX12_between_164 f_X12_61 o_108 rfl (g_108_29 G4) ?_
            refine z_iconst (M := M_X12_between) 167 dX12_between_167 ?_
            refine z_iload (M := M_X12_between) 168 dX12_between_168 rfl ?_
            refine z_imulN (M := M_X12_between) 170 dX12_between_170 (by omega) (by omega) ?_
            refine z_ldcw (M := M_X12_between) 171 dX12_between_171 k_X12_400 ?_
            refine z_ldcw (M := M_X12_between) 174 dX12_between_174 k_X12_401 ?_
            refine z_vI (M := M_X12_between) 177 dX12_between_177 t_X12_share l_X12_402 (m_rr_of rfl) (rest := []) (c_X12_share2 h4 125 124 (5 * a2) (5 * a2) 1000000 2000000000 (Or.inr rfl) (Or.inl rfl) G4 ⟨by omega, by omega⟩ ⟨by omega, by omega⟩ ⟨by omega, by omega⟩ ⟨by omega, by omega⟩) o_108 rfl rfl rfl (Nat.le_of_ble_eq_true rfl) ⟨rfl, rfl⟩ (fun x10 h5 qx10 => ?_)
            obtain ⟨G5, S5, ax10, bx10, fx10⟩ := qx10
            have R5 := R4.call S5 (by decide +kernel)
            exact z_retI (M := M_X12_between) 180 dX12_between_180 rfl ⟨G5, R5, by omega, by omega, Or.inr ⟨⟨⟨by omega, by omega⟩, k_⟩, Or.inr ⟨_, (by have z := b_; rw [bOf_y ex8 (by omega)] at z; exact z), Or.inl ⟨by omega, Or.inr ⟨(show vS (h4 124) (5 * a2.toNat) 5 ≠ 0 by have z : 1 ≤ vS (h4 124) (5 * a2.toNat) 5 := (g_.2.2 (ex8.trans (by omega))).1.1; omega), ml_sh rfl (by omega) (by omega) (by have z := fx10; rw [at5 (by omega)] at z; exact z)⟩⟩⟩⟩⟩
          · refine z_iload (M := M_X12_between) 109 dX12_between_109 rfl ?_
            refine z_if_eq_T (M := M_X12_between) 111 dX12_between_111 118 rfl (by omega) ?_
            refine z_iconst (M := M_X12_between) 118 dX12_between_118 ?_
            exact z_retI (M := M_X12_between) 119 dX12_between_119 rfl ⟨G4, R4, by omega, by omega, Or.inr ⟨⟨⟨by omega, by omega⟩, k_⟩, Or.inr ⟨_, (by have z := b_; rw [bOf_n ex8 (by omega)] at z; exact z), Or.inl ⟨by omega, Or.inl ⟨rfl, rfl⟩⟩⟩⟩⟩
        · refine z_aload_n (M := M_X12_between) 73 dX12_between_73 rfl ?_
          refine z_getR (M := M_X12_between) 74 dX12_between_74 f_X12_70 o_108 rfl (g_108_32 G4) ?_
          refine z_iload (M := M_X12_between) 77 dX12_between_77 rfl ?_
          refine z_zaldG (M := M_X12_between) 79 dX12_between_79 o_127 (by omega) (by omega) (g_127 G4 (by omega)) (fun x11 ex11 ax11 bx11 => ?_)
          refine z_if_eq (M := M_X12_between) 80 dX12_between_80 97 rfl (fun c12 => ?_) (fun c12 => ?_)
          · refine z_iconst (M := M_X12_between) 97 dX12_between_97 ?_
            exact z_retI (M := M_X12_between) 98 dX12_between_98 rfl ⟨G4, R4, by omega, by omega, Or.inr ⟨⟨⟨by omega, by omega⟩, k_⟩, Or.inr ⟨_, (by have z := b_; rw [bOf_n ex11 (by omega)] at z; exact z), Or.inr ⟨by omega, Or.inr ⟨rfl, fun z => z.1 rfl⟩⟩⟩⟩⟩
          · refine z_aload_n (M := M_X12_between) 83 dX12_between_83 rfl ?_
            refine z_getR (M := M_X12_between) 84 dX12_between_84 f_X12_67 o_108 rfl (g_108_31 G4) ?_
            refine z_iload (M := M_X12_between) 87 dX12_between_87 rfl ?_
            refine z_zaldG (M := M_X12_between) 89 dX12_between_89 o_126 (by omega) (by omega) (g_126 G4 (by omega)) (fun x13 ex13 ax13 bx13 => ?_)
            refine z_if_ne (M := M_X12_between) 90 dX12_between_90 97 rfl (fun c14 => ?_) (fun c14 => ?_)
            · refine z_iconst (M := M_X12_between) 97 dX12_between_97 ?_
              exact z_retI (M := M_X12_between) 98 dX12_between_98 rfl ⟨G4, R4, by omega, by omega, Or.inr ⟨⟨⟨by omega, by omega⟩, k_⟩, Or.inr ⟨_, (by have z := b_; rw [bOf_y ex11 (by omega)] at z; exact z), Or.inr ⟨by omega, Or.inr ⟨rfl, fun z => z.2 (show h4 126 a2.toNat = 1 by omega)⟩⟩⟩⟩⟩
            · refine z_iconst (M := M_X12_between) 93 dX12_between_93 ?_
              refine z_goto (M := M_X12_between) 94 dX12_between_94 98 rfl ?_
              exact z_retI (M := M_X12_between) 98 dX12_between_98 rfl ⟨G4, R4, by omega, by omega, Or.inr ⟨⟨⟨by omega, by omega⟩, k_⟩, Or.inr ⟨_, (by have z := b_; rw [bOf_y ex11 (by omega)] at z; exact z), Or.inr ⟨by omega, Or.inl ⟨rfl, (show vS (h4 124) (5 * a2.toNat) 5 ≠ 0 by have z : 1 ≤ vS (h4 124) (5 * a2.toNat) 5 := (g_.2.2 (ex11.trans (by omega))).1.1; omega), fun z => absurd (ex13.symm.trans z) (by omega)⟩⟩⟩⟩⟩
      · refine z_iconst (M := M_X12_between) 35 dX12_between_35 ?_
        refine z_goto (M := M_X12_between) 36 dX12_between_36 40 rfl ?_
        refine z_istore (M := M_X12_between) 40 dX12_between_40 (ls' := [some (mR 108), some (mI a1), some (mI a2), some (mI a3), some (mI 1), none]) (by decide) rfl ?_
        refine z_aload_n (M := M_X12_between) 42 dX12_between_42 rfl ?_
        refine z_iload (M := M_X12_between) 43 dX12_between_43 rfl ?_
        refine z_if_eq_F (M := M_X12_between) 45 dX12_between_45 52 rfl (by omega) ?_
        refine z_iload_n (M := M_X12_between) 48 dX12_between_48 rfl ?_
        refine z_goto (M := M_X12_between) 49 dX12_between_49 53 rfl ?_
        refine z_vV (M := M_X12_between) 53 dX12_between_53 t_X12_goFrom l_X12_397 (m_rr_of rfl) (rest := []) (c_X12_goFrom2 h3 a2 G3 ⟨by omega, by omega⟩ (NP.call hN R3 (fun _ => rfl) (fun _ => rfl) (fun _ => rfl)) (gG_f (gG_b an.2.2 R1 (fun _ => rfl)) R3 (fun _ => rfl))) o_108 rfl rfl rfl (Nat.le_of_ble_eq_true rfl) ⟨rfl, rfl⟩ (fun h6 qx15 => ?_)
        obtain ⟨G6, S6, fx15_0, fx15_1⟩ := qx15
        rw [e3_] at fx15_1
        have b_ := fx15_1 a1.toNat (by omega)
        have g_ := fx15_0 a1.toNat (by omega)
        have k_ := fx2_1.mp (by omega)
        have R6 := R3.call S6 (by decide +kernel)
        refine z_iload (M := M_X12_between) 56 dX12_between_56 rfl ?_
        refine z_if_eq_F (M := M_X12_between) 58 dX12_between_58 65 rfl (by omega) ?_
        refine z_iload_n (M := M_X12_between) 61 dX12_between_61 rfl ?_
        refine z_goto (M := M_X12_between) 62 dX12_between_62 66 rfl ?_
        refine z_istore (M := M_X12_between) 66 dX12_between_66 (ls' := [some (mR 108), some (mI a1), some (mI a2), some (mI a3), some (mI 1), some (mI a1)]) (by decide) rfl ?_
        refine z_iload_n (M := M_X12_between) 68 dX12_between_68 rfl ?_
        refine z_iconst (M := M_X12_between) 69 dX12_between_69 ?_
        refine z_icmp_le (M := M_X12_between) 70 dX12_between_70 99 rfl (fun c16 => ?_) (fun c16 => ?_)
        · refine z_aload_n (M := M_X12_between) 99 dX12_between_99 rfl ?_
          refine z_getR (M := M_X12_between) 100 dX12_between_100 f_X12_70 o_108 rfl (g_108_32 G6) ?_
          refine z_iload (M := M_X12_between) 103 dX12_between_103 rfl ?_
          refine z_zaldG (M := M_X12_between) 105 dX12_between_105 o_127 (by omega) (by omega) (g_127 G6 (by omega)) (fun x17 ex17 ax17 bx17 => ?_)
          refine z_if_ne (M := M_X12_between) 106 dX12_between_106 120 rfl (fun c18 => ?_) (fun c18 => ?_)
          · refine z_iload (M := M_X12_between) 120 dX12_between_120 rfl ?_
            refine z_if_eq_F (M := M_X12_between) 122 dX12_between_122 154 rfl (by omega) ?_
            refine z_aload_n (M := M_X12_between) 125 dX12_between_125 rfl ?_
            refine z_aload_n (M := M_X12_between) 126 dX12_between_126 rfl ?_
            refine z_getR (M := M_X12_between) 127 dX12_between_127 f_X12_61 o_108 rfl (g_108_29 G6) ?_
            refine z_iconst (M := M_X12_between) 130 dX12_between_130 ?_
            refine z_iload (M := M_X12_between) 131 dX12_between_131 rfl ?_
            refine z_imulN (M := M_X12_between) 133 dX12_between_133 (by omega) (by omega) ?_
            refine z_aload_n (M := M_X12_between) 134 dX12_between_134 rfl ?_
            refine z_getR (M := M_X12_between) 135 dX12_between_135 f_X12_64 o_108 rfl (g_108_30 G6) ?_
            refine z_iconst (M := M_X12_between) 138 dX12_between_138 ?_
            refine z_iload (M := M_X12_between) 139 dX12_between_139 rfl ?_
            refine z_imulN (M := M_X12_between) 141 dX12_between_141 (by omega) (by omega) ?_
            refine z_ldcw (M := M_X12_between) 142 dX12_between_142 k_X12_400 ?_
            refine z_ldcw (M := M_X12_between) 145 dX12_between_145 k_X12_401 ?_
            refine z_vI (M := M_X12_between) 148 dX12_between_148 t_X12_share l_X12_402 (m_rr_of rfl) (rest := []) (c_X12_share2 h6 124 125 (5 * a1) (5 * a1) 1000000 2000000000 (Or.inl rfl) (Or.inr rfl) G6 ⟨by omega, by omega⟩ ⟨by omega, by omega⟩ ⟨by omega, by omega⟩ ⟨by omega, by omega⟩) o_108 rfl rfl rfl (Nat.le_of_ble_eq_true rfl) ⟨rfl, rfl⟩ (fun x19 h7 qx19 => ?_)
            obtain ⟨G7, S7, ax19, bx19, fx19⟩ := qx19
            have R7 := R6.call S7 (by decide +kernel)
            refine z_goto (M := M_X12_between) 151 dX12_between_151 180 rfl ?_
            exact z_retI (M := M_X12_between) 180 dX12_between_180 rfl ⟨G7, R7, by omega, by omega, Or.inr ⟨⟨⟨by omega, by omega⟩, k_⟩, Or.inl ⟨_, (by have z := b_; rw [bOf_y ex17 (by omega)] at z; exact z), Or.inl ⟨by omega, ml_sh rfl (by omega) (by omega) (by have z := fx19; rw [at5 (by omega)] at z; exact z)⟩⟩⟩⟩
          · refine z_iload (M := M_X12_between) 109 dX12_between_109 rfl ?_
            refine z_if_eq_F (M := M_X12_between) 111 dX12_between_111 118 rfl (by omega) ?_
            refine z_iconst (M := M_X12_between) 114 dX12_between_114 ?_
            refine z_goto (M := M_X12_between) 115 dX12_between_115 119 rfl ?_
            exact z_retI (M := M_X12_between) 119 dX12_between_119 rfl ⟨G6, R6, by omega, by omega, Or.inr ⟨⟨⟨by omega, by omega⟩, k_⟩, Or.inl ⟨_, (by have z := b_; rw [bOf_n ex17 (by omega)] at z; exact z), Or.inl ⟨by omega, ⟨by decide, by decide⟩, by decide, fun _ => by decide⟩⟩⟩⟩
        · refine z_aload_n (M := M_X12_between) 73 dX12_between_73 rfl ?_
          refine z_getR (M := M_X12_between) 74 dX12_between_74 f_X12_70 o_108 rfl (g_108_32 G6) ?_
          refine z_iload (M := M_X12_between) 77 dX12_between_77 rfl ?_
          refine z_zaldG (M := M_X12_between) 79 dX12_between_79 o_127 (by omega) (by omega) (g_127 G6 (by omega)) (fun x20 ex20 ax20 bx20 => ?_)
          refine z_if_eq (M := M_X12_between) 80 dX12_between_80 97 rfl (fun c21 => ?_) (fun c21 => ?_)
          · refine z_iconst (M := M_X12_between) 97 dX12_between_97 ?_
            exact z_retI (M := M_X12_between) 98 dX12_between_98 rfl ⟨G6, R6, by omega, by omega, Or.inr ⟨⟨⟨by omega, by omega⟩, k_⟩, Or.inl ⟨_, (by have z := b_; rw [bOf_n ex20 (by omega)] at z; exact z), Or.inr ⟨by omega, Or.inr ⟨rfl, fun z => z.1 rfl⟩⟩⟩⟩⟩
          · refine z_aload_n (M := M_X12_between) 83 dX12_between_83 rfl ?_
            refine z_getR (M := M_X12_between) 84 dX12_between_84 f_X12_67 o_108 rfl (g_108_31 G6) ?_
            refine z_iload (M := M_X12_between) 87 dX12_between_87 rfl ?_
            refine z_zaldG (M := M_X12_between) 89 dX12_between_89 o_126 (by omega) (by omega) (g_126 G6 (by omega)) (fun x22 ex22 ax22 bx22 => ?_)
            refine z_if_ne (M := M_X12_between) 90 dX12_between_90 97 rfl (fun c23 => ?_) (fun c23 => ?_)
            · refine z_iconst (M := M_X12_between) 97 dX12_between_97 ?_
              exact z_retI (M := M_X12_between) 98 dX12_between_98 rfl ⟨G6, R6, by omega, by omega, Or.inr ⟨⟨⟨by omega, by omega⟩, k_⟩, Or.inl ⟨_, (by have z := b_; rw [bOf_y ex20 (by omega)] at z; exact z), Or.inr ⟨by omega, Or.inr ⟨rfl, fun z => z.2 (show h6 126 a1.toNat = 1 by omega)⟩⟩⟩⟩⟩
            · refine z_iconst (M := M_X12_between) 93 dX12_between_93 ?_
              refine z_goto (M := M_X12_between) 94 dX12_between_94 98 rfl ?_
              exact z_retI (M := M_X12_between) 98 dX12_between_98 rfl ⟨G6, R6, by omega, by omega, Or.inr ⟨⟨⟨by omega, by omega⟩, k_⟩, Or.inl ⟨_, (by have z := b_; rw [bOf_y ex20 (by omega)] at z; exact z), Or.inr ⟨by omega, Or.inl ⟨rfl, (show vS (h6 124) (5 * a1.toNat) 5 ≠ 0 by have z : 1 ≤ vS (h6 124) (5 * a1.toNat) 5 := (g_.2.2 (ex20.trans (by omega))).1.1; omega), fun z => absurd (ex22.symm.trans z) (by omega)⟩⟩⟩⟩⟩
    · refine z_bipush (M := M_X12_between) 26 dX12_between_26 ?_
      exact z_retI (M := M_X12_between) 28 dX12_between_28 rfl ⟨G3, R3, by omega, by omega, Or.inl ⟨fun z => absurd (fx2_1.mpr z.2) (by omega), rfl⟩⟩
  · refine z_if_eq_T (M := M_X12_between) 14 dX12_between_14 26 rfl (by omega) ?_
    refine z_bipush (M := M_X12_between) 26 dX12_between_26 ?_
    exact z_retI (M := M_X12_between) 28 dX12_between_28 rfl ⟨G1, R1, by omega, by omega, Or.inl ⟨fun z => cx1 z.1, rfl⟩⟩
theorem LX.between {h h1 : m_H} {a b w x y : Int} {cs : List Nat} {ss : List (Nat × Nat)} (G : GI h) (N : NP h) (S1 : FR cs ss h h1) (A : btQ (h 110) a b w x) (B : btQ (h1 110) a b w y) (o : out 110 110 cs ss = true) : x = y := by
  rw [rowz S1 (fr_out o (by decide) (by decide))] at B
  exact bt_eq (bR_ok G N) A B
