/-! the weeks drawn, the best trade -/
def lcg (s : Int) : Int := (s * 1103 + 12345) % 1000003
def dS (s : Int) : Nat → Int
  | 0 => s
  | w + 1 => lcg (dS s w)
def dr (s : Int) (w : Nat) : Int := dS s (w + 1) % 4
theorem dr_b (s : Int) (w : Nat) : 0 ≤ dr s w ∧ dr s w ≤ 3 := by unfold dr; omega
theorem dS_st {a l2 l3 x : Int} (i0 : l2 = dS a l3.toNat) (h : 0 ≤ l3) (e : (l2 * 1103 + 12345) % 1000003 = x) : x = dS a (l3 + 1).toNat := by
  have q : (l3 + 1).toNat = l3.toNat + 1 := by omega
  rw [q, ← e, i0]; rfl
theorem dr_st {a l2 l3 x2 x3 : Int} {c : Nat} {h h' : m_H} (i0 : l2 = dS a l3.toNat) (i1 : ∀ j : Nat, (j : Int) < l3 → h c j = dr a j) (p : 0 ≤ l3) (e2 : (l2 * 1103 + 12345) % 1000003 = x2) (e3 : x2 % 4 = x3) (E : h' = m_up h c l3.toNat x3) : ∀ j : Nat, (j : Int) < l3 + 1 → h' c j = dr a j := by
  intro j hj
  by_cases q : j = l3.toNat
  · have z := dS_st i0 p e2
    have q1 : (l3 + 1).toNat = j + 1 := by omega
    rw [← q] at E
    rw [upE E, ← e3, z, q1]; rfl
  · rw [upN E (fun z => q z.2)]; exact i1 j (by omega)
def bsS (f : Nat → Int) (p : Nat) (t : Int × Int × Int) : Int × Int × Int := if p / 32 < p % 32 ∧ t.1 < f (p % 32) - f (p / 32) then (f (p % 32) - f (p / 32), ((p / 32 : Nat) : Int), ((p % 32 : Nat) : Int)) else t
def bs (f : Nat → Int) : Nat → Int × Int × Int
  | 0 => (0, -1, -1)
  | p + 1 => bsS f p (bs f p)
theorem bs_congr {f g : Nat → Int} (e : ∀ w, w < 32 → f w = g w) : ∀ p, p ≤ 1024 → bs f p = bs g p
  | 0, _ => rfl
  | p + 1, hp => by
    show bsS f p (bs f p) = bsS g p (bs g p)
    rw [bs_congr e p (by omega)]
    unfold bsS
    rw [e (p % 32) (by omega), e (p / 32) (by omega)]
theorem bs_skip {f : Nat → Int} {b : Nat} : ∀ k, k ≤ b + 1 → k ≤ 32 → bs f (32 * b + k) = bs f (32 * b)
  | 0, _, _ => rfl
  | k + 1, h1, h2 => by
    show bsS f (32 * b + k) (bs f (32 * b + k)) = _
    rw [bs_skip k (by omega) (by omega)]
    unfold bsS
    rw [if_neg (by omega)]
theorem bs_at {f : Nat → Int} {b k : Nat} (hk : k < 32) (hb : b < k) : bs f (32 * b + (k + 1)) = if (bs f (32 * b + k)).1 < f k - f b then (f k - f b, (b : Int), (k : Int)) else bs f (32 * b + k) := by
  show bsS f (32 * b + k) (bs f (32 * b + k)) = _
  unfold bsS
  have e1 : (32 * b + k) / 32 = b := by omega
  have e2 : (32 * b + k) % 32 = k := by omega
  rw [e1, e2]
  by_cases q : (bs f (32 * b + k)).1 < f k - f b
  · rw [if_pos ⟨hb, q⟩, if_pos q]
  · rw [if_neg (fun z => q z.2), if_neg q]
def bI (c : Int) (f : Nat → Int) (p : Nat) (m b s : Int) : Prop := m = c * (bs f p).1 ∧ b = (bs f p).2.1 ∧ s = (bs f p).2.2
theorem bI_0 {c : Int} {f : Nat → Int} {b s : Int} (e1 : b = -1) (e2 : s = -1) : bI c f (32 * (0 : Int).toNat) 0 b s := ⟨(Int.mul_zero c).symm, e1, e2⟩
theorem bI_in {c m b s b' s' l : Int} {f : Nat → Int} (i : bI c f (32 * l.toNat) m b s) (e2 : b' = b) (e3 : s' = s) (h0 : 0 ≤ l) (h1 : l ≤ 31) : bI c f (32 * l.toNat + (l + 1).toNat) m b' s' := by
  unfold bI at i ⊢
  rw [bs_skip (l + 1).toNat (by omega) (by omega), e2, e3]; exact i
theorem bI_out {c m b s l k : Int} {f : Nat → Int} (i : bI c f (32 * l.toNat + k.toNat) m b s) (hk : k = 32) (h0 : 0 ≤ l) : bI c f (32 * (l + 1).toNat) m b s := by
  have q : 32 * (l + 1).toNat = 32 * l.toNat + k.toNat := by omega
  rw [q]; exact i
theorem bI_no {c m b s b' s' l k d : Int} {f : Nat → Int} (i : bI c f (32 * l.toNat + k.toNat) m b s) (e2 : b' = b) (e3 : s' = s) (h0 : 0 ≤ l) (h1 : l < k) (h2 : k < 32) (hc : 1 ≤ c) (ed : d = f k.toNat - f l.toNat) (q : c * d ≤ m) : bI c f (32 * l.toNat + (k + 1).toNat) m b' s' := by
  have q1 : (k + 1).toNat = k.toNat + 1 := by omega
  obtain ⟨i1, i2, i3⟩ := i
  unfold bI
  have z : ¬ (bs f (32 * l.toNat + k.toNat)).1 < f k.toNat - f l.toNat := by
    intro z
    rw [← ed] at z
    have := Int.mul_lt_mul_of_pos_left z (show 0 < c by omega)
    omega
  rw [q1, bs_at (by omega) (by omega), if_neg z, e2, e3]
  exact ⟨i1, i2, i3⟩
theorem bI_yes {c m b s b' s' l k d : Int} {f : Nat → Int} (i : bI c f (32 * l.toNat + k.toNat) m b s) (e2 : b' = l) (e3 : s' = k) (h0 : 0 ≤ l) (h1 : l < k) (h2 : k < 32) (hc : 1 ≤ c) (ed : d = f k.toNat - f l.toNat) (q : ¬ c * d ≤ m) : bI c f (32 * l.toNat + (k + 1).toNat) (c * d) b' s' := by
  have q1 : (k + 1).toNat = k.toNat + 1 := by omega
  obtain ⟨i1, i2, i3⟩ := i
  unfold bI
  have z : (bs f (32 * l.toNat + k.toNat)).1 < f k.toNat - f l.toNat := by
    rw [← ed]
    rw [i1] at q
    exact Int.lt_of_mul_lt_mul_left (by omega) (show 0 ≤ c by omega)
  rw [q1, bs_at (by omega) (by omega), if_pos z, e2, e3, ed]
  exact ⟨rfl, by show l = ((l.toNat : Nat) : Int); omega, by show k = ((k.toNat : Nat) : Int); omega⟩
theorem one_m {c d m : Int} (hc : c = 1) (q : d ≤ m) : c * d ≤ m := by rw [hc, Int.one_mul]; exact q
theorem one_n {c d m : Int} (hc : c = 1) (q : ¬ d ≤ m) : ¬ c * d ≤ m := by rw [hc, Int.one_mul]; exact q
theorem mul_s {a d : Int} (h1 : 1 ≤ a) (h2 : a ≤ 99) (h3 : -9999 ≤ d) (h4 : d ≤ 9999) : -989901 ≤ a * d ∧ a * d ≤ 989901 := by
  have u := Int.mul_le_mul_of_nonneg_left h4 (show 0 ≤ a by omega)
  have v := Int.mul_le_mul_of_nonneg_left h3 (show 0 ≤ a by omega)
  omega
def fC (h : m_H) (L : Nat) (a : Int) : Nat → Int := fun w => h (L + 7) a.toNat / h (L + 7) (12 + h 106 w).toNat
def fM (h : m_H) (a : Int) : Nat → Int := fun w => h 110 (60 + a).toNat / h 110 (72 + h 147 w).toNat
theorem frC {L : Nat} (hL : isL L) (j : Nat) : fr [] [(105, 2), (105, 3)] (L + 7) j = false := by
  refine fr_ne (fun c hc => by cases hc) (fun p hp => ?_) j
  simp only [List.mem_cons, List.not_mem_nil, or_false] at hp
  unfold isL at hL
  rcases hp with rfl | rfl
  · show 105 ≠ _; omega
  · show 105 ≠ _; omega
theorem fC_at {h0 h : m_H} {L : Nat} {a k x2 x3 : Int} (hL : isL L) (R : FR [] [(105, 2), (105, 3)] h0 h) (ex : h 106 k.toNat = x2) (ef : h (L + 7) a.toNat / h (L + 7) (12 + x2).toNat = x3) : x3 = fC h0 L a k.toNat := by
  have e1 : h 106 k.toNat = h0 106 k.toNat := R 106 _ rfl
  unfold fC
  rw [← e1, ex, ← ef, R _ _ (frC hL _), R _ _ (frC hL _)]
theorem fM_at {h0 h : m_H} {cs : List Nat} {ss : List (Nat × Nat)} {a k x2 x3 d : Int} (R : FR cs ss h0 h) (e0 : ∀ j, fr cs ss 110 j = false) (ex : h 147 k.toNat = x2) (ed : h 147 k.toNat = dr d k.toNat) (ef : h 110 (60 + a).toNat / h 110 (72 + x2).toNat = x3) : x3 = h0 110 (60 + a).toNat / h0 110 (72 + dr d k.toNat).toNat := by
  rw [← ed, ex, ← ef, R _ _ (e0 _), R _ _ (e0 _)]
abbrev P_X4_wholeFeet2 (h0 : m_H) (L : Nat) (a1 a2 : Int) : Int → m_H → Prop := fun x h' => GI h' ∧ FR [] [] h0 h' ∧ 0 ≤ x ∧ x ≤ 9999 ∧ h0 (L + 7) a1.toNat / h0 (L + 7) (12 + a2).toNat = x
set_option maxHeartbeats 4000000 in
set_option maxRecDepth 100000 in
theorem c_X4_wholeFeet2 (h0 : m_H) (L : Nat) (a1 a2 : Int) (hL : isL L) (G0 : GI h0) (pa1 : 0 ≤ a1 ∧ a1 ≤ 11) (pa2 : 0 ≤ a2 ∧ a2 ≤ 3) : m_CI M_X4_wholeFeet [mR L, mI a1, mI a2] h0 (P_X4_wholeFeet2 h0 L a1 a2) := by
  refine m_CI_of ⟨by decide, rfl, by simp [m_arg, m_isL, M_X4_wholeFeet], ⟨rfl, rfl⟩, rfl, rfl⟩ (ls := [some (mR L), some (mI a1), some (mI a2)]) rfl ?_
  refine z_aload_n (M := M_X4_wholeFeet) 0 dX4_wholeFeet_0 rfl ?_
  refine z_getR (M := M_X4_wholeFeet) 1 dX4_wholeFeet_1 f_X4_30 (oL hL) rfl (rL_6 hL G0) ?_
  refine z_iload_n (M := M_X4_wholeFeet) 4 dX4_wholeFeet_4 rfl ?_
  refine z_ialdG (M := M_X4_wholeFeet) 5 dX4_wholeFeet_5 (oL_7 hL) (by omega) (by omega) (gL_7 hL G0 (by omega)) (fun x1 ex1 ax1 bx1 => ?_)
  refine z_i2l (M := M_X4_wholeFeet) 6 dX4_wholeFeet_6 ?_
  refine z_aload_n (M := M_X4_wholeFeet) 7 dX4_wholeFeet_7 rfl ?_
  refine z_getR (M := M_X4_wholeFeet) 8 dX4_wholeFeet_8 f_X4_30 (oL hL) rfl (rL_6 hL G0) ?_
  refine z_bipush (M := M_X4_wholeFeet) 11 dX4_wholeFeet_11 ?_
  refine z_iload_n (M := M_X4_wholeFeet) 13 dX4_wholeFeet_13 rfl ?_
  refine z_iaddN (M := M_X4_wholeFeet) 14 dX4_wholeFeet_14 (by omega) (by omega) ?_
  refine z_ialdG (M := M_X4_wholeFeet) 15 dX4_wholeFeet_15 (oL_7 hL) (by omega) (by omega) (gL_7 hL G0 (by omega)) (fun x2 ex2 ax2 bx2 => ?_)
  refine z_i2l (M := M_X4_wholeFeet) 16 dX4_wholeFeet_16 ?_
  refine z_nJ (M := M_X4_wholeFeet) 17 dX4_wholeFeet_17 t_X11_quotient l_X4_84 (m_rr_of rfl) (rest := []) (c_X11_quotient2 h0 x1 x2 G0 (by omega) (by omega)) rfl rfl (Nat.le_of_ble_eq_true rfl) ⟨rfl, rfl⟩ (fun x3 h1 qx3 => ?_)
  obtain ⟨G1, S1, rfl⟩ := qx3
  have bq := ediv_bd (x := x1) (y := x2) (hi := 9999) (by omega) (by omega) (by omega)
  have R1 := (FR.rf (cs := []) (ss := []) (h := h0)).call S1 (by decide +kernel)
  refine z_l2iN (M := M_X4_wholeFeet) 20 dX4_wholeFeet_20 (by omega) (by omega) ?_
  exact z_retI (M := M_X4_wholeFeet) 21 dX4_wholeFeet_21 rfl ⟨G1, R1, bq.1, bq.2, by rw [ex1, ex2]⟩
abbrev P_X12_feetOf2 (h0 : m_H) (a1 a2 : Int) : Int → m_H → Prop := fun x h' => GI h' ∧ FR [] [] h0 h' ∧ 0 ≤ x ∧ x ≤ 9999 ∧ h0 110 (60 + a1).toNat / h0 110 (72 + a2).toNat = x
set_option maxHeartbeats 4000000 in
set_option maxRecDepth 100000 in
theorem c_X12_feetOf2 (h0 : m_H) (a1 a2 : Int) (G0 : GI h0) (pa1 : 0 ≤ a1 ∧ a1 ≤ 11) (pa2 : 0 ≤ a2 ∧ a2 ≤ 3) : m_CI M_X12_feetOf [mR 108, mI a1, mI a2] h0 (P_X12_feetOf2 h0 a1 a2) := by
  refine m_CI_of ⟨by decide, rfl, by simp [m_arg, m_isL, M_X12_feetOf], ⟨rfl, rfl⟩, rfl, rfl⟩ (ls := [some (mR 108), some (mI a1), some (mI a2)]) rfl ?_
  refine z_aload_n (M := M_X12_feetOf) 0 dX12_feetOf_0 rfl ?_
  refine z_getR (M := M_X12_feetOf) 1 dX12_feetOf_1 f_X12_13 o_108 rfl (g_108_3 G0) ?_
  refine z_bipush (M := M_X12_feetOf) 4 dX12_feetOf_4 ?_
  refine z_iload_n (M := M_X12_feetOf) 6 dX12_feetOf_6 rfl ?_
  refine z_iaddN (M := M_X12_feetOf) 7 dX12_feetOf_7 (by omega) (by omega) ?_
  refine z_ialdG (M := M_X12_feetOf) 8 dX12_feetOf_8 o_110 (by omega) (by omega) (gw_l G0 (by omega) (by omega)) (fun x1 ex1 ax1 bx1 => ?_)
  refine z_aload_n (M := M_X12_feetOf) 9 dX12_feetOf_9 rfl ?_
  refine z_getR (M := M_X12_feetOf) 10 dX12_feetOf_10 f_X12_13 o_108 rfl (g_108_3 G0) ?_
  refine z_bipush (M := M_X12_feetOf) 13 dX12_feetOf_13 ?_
  refine z_iload_n (M := M_X12_feetOf) 15 dX12_feetOf_15 rfl ?_
  refine z_iaddN (M := M_X12_feetOf) 16 dX12_feetOf_16 (by omega) (by omega) ?_
  refine z_ialdG (M := M_X12_feetOf) 17 dX12_feetOf_17 o_110 (by omega) (by omega) (gw_l G0 (by omega) (by omega)) (fun x2 ex2 ax2 bx2 => ?_)
  refine z_idivN (M := M_X12_feetOf) 18 dX12_feetOf_18 (by omega) (by omega) ?_
  refine z_topBI (lo := 0) (hi := 9999) (ediv_bd (by omega) (by omega) (by omega)) (fun x3 ex3 ax3 bx3 => ?_)
  exact z_retI (M := M_X12_feetOf) 19 dX12_feetOf_19 rfl ⟨G0, (FR.rf (cs := []) (ss := []) (h := h0)), by omega, by omega, by rw [ex1, ex2, ex3]⟩
theorem bI_one {f : Nat → Int} {p : Nat} {m b s : Int} (i : bI 1 f p (1 * m) b s) : bI 1 f p m b s := by rw [Int.one_mul] at i; exact i
theorem tl_e {h0 h1 h2 : m_H} {x y : Int} (E2 : h2 = m_up h1 105 3 y) (E1 : h1 = m_up h0 105 2 x) : h2 105 2 = x := (upN E2 (fun q => absurd q.2 (by decide))).trans (upE E1)
theorem tl_e2 {h0 h1 h2 : m_H} {x y : Int} (E1 : h1 = m_up h0 105 2 x) (E2 : h2 = m_up h1 105 3 y) : h2 105 2 = x := tl_e E2 E1
theorem tl_e3 {h0 h1 h2 : m_H} {x y : Int} (E1 : h1 = m_up h0 108 61 x) (E2 : h2 = m_up h1 108 62 y) : h2 108 61 = x := (upN E2 (fun q => absurd q.2 (by decide))).trans (upE E1)
abbrev P_X5_draw2 (h0 : m_H) (a1 : Int) : m_H → Prop := fun h' => GI h' ∧ FR [106] [(105, 1)] h0 h' ∧ (∀ j, j < 32 → h' 106 j = dr a1 j) ∧ h' 105 1 = 1
def q_X5_draw2 (h0 : m_H) (a1 : Int) (n : Nat) : Prop := (∀ (l2 l3 : Int) (h : m_H), GI h → FR [106] [(105, 1)] h0 h → 0 ≤ l2 → l2 ≤ 1000002 → 0 ≤ l3 → l3 ≤ 32 → (l2 = dS a1 l3.toNat) → (∀ j : Nat, (j : Int) < l3 → h 106 j = dr a1 j) → 2 * (32 - l3) + (1) ≤ (n : Int) → m_Z oF M_X5_draw 4 [some (mR 105), none, some (mI l2), some (mI l3)] [] h (m_QV (P_X5_draw2 h0 a1)))
set_option maxHeartbeats 4000000 in
set_option maxRecDepth 100000 in
theorem s_X5_draw2_4 (h0 : m_H) (a1 : Int) (G0 : GI h0) (pa1 : 0 ≤ a1 ∧ a1 ≤ 1000000) (n : Nat) (ih : q_X5_draw2 h0 a1 n) : ∀ (l2 l3 : Int) (h : m_H), GI h → FR [106] [(105, 1)] h0 h → 0 ≤ l2 → l2 ≤ 1000002 → 0 ≤ l3 → l3 ≤ 32 → (l2 = dS a1 l3.toNat) → (∀ j : Nat, (j : Int) < l3 → h 106 j = dr a1 j) → 2 * (32 - l3) + (1) ≤ ((n + 1 : Nat) : Int) → m_Z oF M_X5_draw 4 [some (mR 105), none, some (mI l2), some (mI l3)] [] h (m_QV (P_X5_draw2 h0 a1)) := by
  intro l2 l3 h G R v0 v1 v2 v3 i0 i1 hr
  refine z_iload_n (M := M_X5_draw) 4 dX5_draw_4 rfl ?_
  refine z_bipush (M := M_X5_draw) 5 dX5_draw_5 ?_
  refine z_icmp_ge (M := M_X5_draw) 7 dX5_draw_7 38 rfl (fun c1 => ?_) (fun c1 => ?_)
  · refine z_aload_n (M := M_X5_draw) 38 dX5_draw_38 rfl ?_
    refine z_iconst (M := M_X5_draw) 39 dX5_draw_39 ?_
    refine z_putZH (M := M_X5_draw) 40 dX5_draw_40 p_X5_16 o_105 rfl (by omega) (u_105_1 G (by omega) (by omega)) (R.up rfl) (fun h1 E1 G1 R1 => ?_)
    exact z_retV (M := M_X5_draw) 43 dX5_draw_43 rfl ⟨G1, R1, fun j hj => (tl_o E1 (by decide) j).trans (i1 j (by omega)), upE E1⟩
  · refine z_iload_n (M := M_X5_draw) 10 dX5_draw_10 rfl ?_
    refine z_sipush (M := M_X5_draw) 11 dX5_draw_11 ?_
    refine z_imulN (M := M_X5_draw) 14 dX5_draw_14 (by omega) (by omega) ?_
    refine z_sipush (M := M_X5_draw) 15 dX5_draw_15 ?_
    refine z_iaddN (M := M_X5_draw) 18 dX5_draw_18 (by omega) (by omega) ?_
    refine z_ldc (M := M_X5_draw) 19 dX5_draw_19 k_X5_15 ?_
    refine z_iremN (M := M_X5_draw) 21 dX5_draw_21 (by omega) (by omega) ?_
    refine z_topBI (lo := 0) (hi := 1000002) ⟨by omega, by omega⟩ (fun x2 ex2 ax2 bx2 => ?_)
    refine z_istore_n (M := M_X5_draw) 22 dX5_draw_22 (ls' := [some (mR 105), none, some (mI x2), some (mI l3)]) (by decide) rfl ?_
    refine z_aload_n (M := M_X5_draw) 23 dX5_draw_23 rfl ?_
    refine z_getR (M := M_X5_draw) 24 dX5_draw_24 f_X5_9 o_105 rfl (g_105_0 G) ?_
    refine z_iload_n (M := M_X5_draw) 27 dX5_draw_27 rfl ?_
    refine z_iload_n (M := M_X5_draw) 28 dX5_draw_28 rfl ?_
    refine z_iconst (M := M_X5_draw) 29 dX5_draw_29 ?_
    refine z_iremN (M := M_X5_draw) 30 dX5_draw_30 (by omega) (by omega) ?_
    refine z_topBI (lo := 0) (hi := 3) ⟨by omega, by omega⟩ (fun x3 ex3 ax3 bx3 => ?_)
    refine z_iastH (M := M_X5_draw) 31 dX5_draw_31 o_106 (by omega) (by omega) (u_106 G (by omega) (by omega)) (R.up rfl) (fun h2 E2 G2 R2 => ?_)
    refine z_iincN (M := M_X5_draw) 32 dX5_draw_32 (ls' := [some (mR 105), none, some (mI x2), some (mI (l3 + 1))]) (by decide) rfl (by (unfold m_32; decide)) (by omega) (by omega) rfl ?_
    refine z_goto (M := M_X5_draw) 35 dX5_draw_35 4 rfl ?_
    exact z_mask [true, false, true, true] rfl (ih x2 (l3 + 1) h2 G2 R2 (by omega) (by omega) (by omega) (by omega) (dS_st i0 (by omega) ex2) (dr_st i0 i1 (by omega) ex2 ex3 E2) (by omega))
theorem a_X5_draw2 (h0 : m_H) (a1 : Int) (G0 : GI h0) (pa1 : 0 ≤ a1 ∧ a1 ≤ 1000000) : ∀ n, q_X5_draw2 h0 a1 n := by
  intro n
  induction n with
  | zero => unfold q_X5_draw2; intros; omega
  | succ n ih => exact s_X5_draw2_4 h0 a1 G0 pa1 n ih
set_option maxHeartbeats 4000000 in
set_option maxRecDepth 100000 in
theorem c_X5_draw2 (h0 : m_H) (a1 : Int) (G0 : GI h0) (pa1 : 0 ≤ a1 ∧ a1 ≤ 1000000) : m_CV M_X5_draw [mR 105, mI a1] h0 (P_X5_draw2 h0 a1) := by
  refine m_CV_of ⟨by decide, rfl, by simp [m_arg, m_isL, M_X5_draw], ⟨rfl, rfl⟩, rfl, rfl⟩ (ls := [some (mR 105), some (mI a1), none, none]) rfl ?_
  have ih := a_X5_draw2 h0 a1 G0 pa1 72
  refine z_iload_n (M := M_X5_draw) 0 dX5_draw_0 rfl ?_
  refine z_istore_n (M := M_X5_draw) 1 dX5_draw_1 (ls' := [some (mR 105), some (mI a1), some (mI a1), none]) (by decide) rfl ?_
  refine z_iconst (M := M_X5_draw) 2 dX5_draw_2 ?_
  refine z_istore_n (M := M_X5_draw) 3 dX5_draw_3 (ls' := [some (mR 105), some (mI a1), some (mI a1), some (mI 0)]) (by decide) rfl ?_
  exact z_mask [true, false, true, true] rfl (ih a1 0 h0 G0 (FR.rf (cs := [106]) (ss := [(105, 1)]) (h := h0)) (by omega) (by omega) (by omega) (by omega) rfl (fun j hj => by omega) (by omega))
abbrev P_X5_bestTrade2 (h0 : m_H) (L : Nat) (a2 : Int) : Int → m_H → Prop := fun x h' => GI h' ∧ FR [] [(105, 2), (105, 3)] h0 h' ∧ 0 ≤ x ∧ x ≤ 9999 ∧ bI 1 (fC h0 L a2) 1024 x (h' 105 2) (h' 105 3)
def q_X5_bestTrade2 (h0 : m_H) (L : Nat) (a2 : Int) (n : Nat) : Prop := (∀ (l3 l4 : Int) (h : m_H), GI h → FR [] [(105, 2), (105, 3)] h0 h → 0 ≤ l3 → l3 ≤ 9999 → 0 ≤ l4 → l4 ≤ 32 → (bI 1 (fC h0 L a2) (32 * l4.toNat) l3 (h 105 2) (h 105 3)) → 67 * (32 - l4) + (66) ≤ (n : Int) → m_Z oF M_X5_bestTrade 15 [some (mR 105), some (mR L), some (mI a2), some (mI l3), some (mI l4), none, none, none] [] h (m_QI (P_X5_bestTrade2 h0 L a2))) ∧ (∀ (l3 l4 l5 l6 : Int) (h : m_H), GI h → FR [] [(105, 2), (105, 3)] h0 h → 0 ≤ l3 → l3 ≤ 9999 → 0 ≤ l4 → l4 ≤ 31 → 0 ≤ l5 → l5 ≤ 9999 → 1 ≤ l6 → l6 ≤ 32 → (bI 1 (fC h0 L a2) (32 * l4.toNat + l6.toNat) l3 (h 105 2) (h 105 3)) → (l5 = fC h0 L a2 l4.toNat) → (l4 < l6) → 67 * (32 - l4) + 2 * (32 - l6) + (1) ≤ (n : Int) → m_Z oF M_X5_bestTrade 42 [some (mR 105), some (mR L), some (mI a2), some (mI l3), some (mI l4), some (mI l5), some (mI l6), none] [] h (m_QI (P_X5_bestTrade2 h0 L a2)))
set_option maxHeartbeats 4000000 in
set_option maxRecDepth 100000 in
theorem s_X5_bestTrade2_15 (h0 : m_H) (L : Nat) (a2 : Int) (hL : isL L) (G0 : GI h0) (pa2 : 0 ≤ a2 ∧ a2 ≤ 5) (n : Nat) (ih : q_X5_bestTrade2 h0 L a2 n) : ∀ (l3 l4 : Int) (h : m_H), GI h → FR [] [(105, 2), (105, 3)] h0 h → 0 ≤ l3 → l3 ≤ 9999 → 0 ≤ l4 → l4 ≤ 32 → (bI 1 (fC h0 L a2) (32 * l4.toNat) l3 (h 105 2) (h 105 3)) → 67 * (32 - l4) + (66) ≤ ((n + 1 : Nat) : Int) → m_Z oF M_X5_bestTrade 15 [some (mR 105), some (mR L), some (mI a2), some (mI l3), some (mI l4), none, none, none] [] h (m_QI (P_X5_bestTrade2 h0 L a2)) := by
  intro l3 l4 h G R v0 v1 v2 v3 i0 hr
  refine z_iload (M := M_X5_bestTrade) 15 dX5_bestTrade_15 rfl ?_
  refine z_bipush (M := M_X5_bestTrade) 17 dX5_bestTrade_17 ?_
  refine z_icmp_ge (M := M_X5_bestTrade) 19 dX5_bestTrade_19 99 rfl (fun c1 => ?_) (fun c1 => ?_)
  · refine z_iload_n (M := M_X5_bestTrade) 99 dX5_bestTrade_99 rfl ?_
    exact z_retI (M := M_X5_bestTrade) 100 dX5_bestTrade_100 rfl ⟨G, R, by omega, by omega, by have q : 32 * l4.toNat = 1024 := (by omega); rw [← q]; exact i0⟩
  · refine z_aload_n (M := M_X5_bestTrade) 22 dX5_bestTrade_22 rfl ?_
    refine z_iload_n (M := M_X5_bestTrade) 23 dX5_bestTrade_23 rfl ?_
    refine z_aload_n (M := M_X5_bestTrade) 24 dX5_bestTrade_24 rfl ?_
    refine z_getR (M := M_X5_bestTrade) 25 dX5_bestTrade_25 f_X5_9 o_105 rfl (g_105_0 G) ?_
    refine z_iload (M := M_X5_bestTrade) 28 dX5_bestTrade_28 rfl ?_
    refine z_ialdG (M := M_X5_bestTrade) 30 dX5_bestTrade_30 o_106 (by omega) (by omega) (g_106 G (by omega)) (fun x2 ex2 ax2 bx2 => ?_)
    refine z_vI (M := M_X5_bestTrade) 31 dX5_bestTrade_31 t_X4_wholeFeet l_X5_27 (m_rr_of rfl) (rest := []) (c_X4_wholeFeet2 h L a2 x2 hL G ⟨by omega, by omega⟩ ⟨by omega, by omega⟩) (oL hL) rfl rfl rfl (Nat.le_of_ble_eq_true rfl) ⟨rfl, rfl⟩ (fun x3 h1 qx3 => ?_)
    obtain ⟨G1, S1, ax3, bx3, fx3_0⟩ := qx3
    have R1 := R.call S1 (by decide +kernel)
    refine z_istore (M := M_X5_bestTrade) 34 dX5_bestTrade_34 (ls' := [some (mR 105), some (mR L), some (mI a2), some (mI l3), some (mI l4), some (mI x3), none, none]) (by decide) rfl ?_
    refine z_iload (M := M_X5_bestTrade) 36 dX5_bestTrade_36 rfl ?_
    refine z_iconst (M := M_X5_bestTrade) 38 dX5_bestTrade_38 ?_
    refine z_iaddN (M := M_X5_bestTrade) 39 dX5_bestTrade_39 (by omega) (by omega) ?_
    refine z_istore (M := M_X5_bestTrade) 40 dX5_bestTrade_40 (ls' := [some (mR 105), some (mR L), some (mI a2), some (mI l3), some (mI l4), some (mI x3), some (mI (l4 + 1)), none]) (by decide) rfl ?_
    exact z_mask [true, true, true, true, true, true, true, false] rfl (ih.2 l3 l4 x3 (l4 + 1) h1 G1 R1 (by omega) (by omega) (by omega) (by omega) (by omega) (by omega) (by omega) (by omega) (bI_in i0 (S1 105 2 rfl) (S1 105 3 rfl) (by omega) (by omega)) (fC_at hL R ex2 fx3_0) (by omega) (by omega))
set_option maxHeartbeats 4000000 in
set_option maxRecDepth 100000 in
theorem s_X5_bestTrade2_42 (h0 : m_H) (L : Nat) (a2 : Int) (hL : isL L) (G0 : GI h0) (pa2 : 0 ≤ a2 ∧ a2 ≤ 5) (n : Nat) (ih : q_X5_bestTrade2 h0 L a2 n) : ∀ (l3 l4 l5 l6 : Int) (h : m_H), GI h → FR [] [(105, 2), (105, 3)] h0 h → 0 ≤ l3 → l3 ≤ 9999 → 0 ≤ l4 → l4 ≤ 31 → 0 ≤ l5 → l5 ≤ 9999 → 1 ≤ l6 → l6 ≤ 32 → (bI 1 (fC h0 L a2) (32 * l4.toNat + l6.toNat) l3 (h 105 2) (h 105 3)) → (l5 = fC h0 L a2 l4.toNat) → (l4 < l6) → 67 * (32 - l4) + 2 * (32 - l6) + (1) ≤ ((n + 1 : Nat) : Int) → m_Z oF M_X5_bestTrade 42 [some (mR 105), some (mR L), some (mI a2), some (mI l3), some (mI l4), some (mI l5), some (mI l6), none] [] h (m_QI (P_X5_bestTrade2 h0 L a2)) := by
  intro l3 l4 l5 l6 h G R v0 v1 v2 v3 v4 v5 v6 v7 i0 i1 i2 hr
  refine z_iload (M := M_X5_bestTrade) 42 dX5_bestTrade_42 rfl ?_
  refine z_bipush (M := M_X5_bestTrade) 44 dX5_bestTrade_44 ?_
  refine z_icmp_ge (M := M_X5_bestTrade) 46 dX5_bestTrade_46 93 rfl (fun c1 => ?_) (fun c1 => ?_)
  · refine z_iincN (M := M_X5_bestTrade) 93 dX5_bestTrade_93 (ls' := [some (mR 105), some (mR L), some (mI a2), some (mI l3), some (mI (l4 + 1)), some (mI l5), some (mI l6), none]) (by decide) rfl (by (unfold m_32; decide)) (by omega) (by omega) rfl ?_
    refine z_goto (M := M_X5_bestTrade) 96 dX5_bestTrade_96 15 rfl ?_
    exact z_mask [true, true, true, true, true, false, false, false] rfl (ih.1 l3 (l4 + 1) h G R (by omega) (by omega) (by omega) (by omega) (bI_out i0 (by omega) (by omega)) (by omega))
  · refine z_aload_n (M := M_X5_bestTrade) 49 dX5_bestTrade_49 rfl ?_
    refine z_iload_n (M := M_X5_bestTrade) 50 dX5_bestTrade_50 rfl ?_
    refine z_aload_n (M := M_X5_bestTrade) 51 dX5_bestTrade_51 rfl ?_
    refine z_getR (M := M_X5_bestTrade) 52 dX5_bestTrade_52 f_X5_9 o_105 rfl (g_105_0 G) ?_
    refine z_iload (M := M_X5_bestTrade) 55 dX5_bestTrade_55 rfl ?_
    refine z_ialdG (M := M_X5_bestTrade) 57 dX5_bestTrade_57 o_106 (by omega) (by omega) (g_106 G (by omega)) (fun x2 ex2 ax2 bx2 => ?_)
    refine z_vI (M := M_X5_bestTrade) 58 dX5_bestTrade_58 t_X4_wholeFeet l_X5_27 (m_rr_of rfl) (rest := []) (c_X4_wholeFeet2 h L a2 x2 hL G ⟨by omega, by omega⟩ ⟨by omega, by omega⟩) (oL hL) rfl rfl rfl (Nat.le_of_ble_eq_true rfl) ⟨rfl, rfl⟩ (fun x3 h1 qx3 => ?_)
    obtain ⟨G1, S1, ax3, bx3, fx3_0⟩ := qx3
    have R1 := R.call S1 (by decide +kernel)
    refine z_iload (M := M_X5_bestTrade) 61 dX5_bestTrade_61 rfl ?_
    refine z_isubN (M := M_X5_bestTrade) 63 dX5_bestTrade_63 (by omega) (by omega) ?_
    refine z_istore (M := M_X5_bestTrade) 64 dX5_bestTrade_64 (ls' := [some (mR 105), some (mR L), some (mI a2), some (mI l3), some (mI l4), some (mI l5), some (mI l6), some (mI (x3 - l5))]) (by decide) rfl ?_
    refine z_iload (M := M_X5_bestTrade) 66 dX5_bestTrade_66 rfl ?_
    refine z_iload_n (M := M_X5_bestTrade) 68 dX5_bestTrade_68 rfl ?_
    refine z_icmp_le (M := M_X5_bestTrade) 69 dX5_bestTrade_69 87 rfl (fun c4 => ?_) (fun c4 => ?_)
    · refine z_iincN (M := M_X5_bestTrade) 87 dX5_bestTrade_87 (ls' := [some (mR 105), some (mR L), some (mI a2), some (mI l3), some (mI l4), some (mI l5), some (mI (l6 + 1)), some (mI (x3 - l5))]) (by decide) rfl (by (unfold m_32; decide)) (by omega) (by omega) rfl ?_
      refine z_goto (M := M_X5_bestTrade) 90 dX5_bestTrade_90 42 rfl ?_
      exact z_mask [true, true, true, true, true, true, true, false] rfl (ih.2 l3 l4 l5 (l6 + 1) h1 G1 R1 (by omega) (by omega) (by omega) (by omega) (by omega) (by omega) (by omega) (by omega) (bI_no i0 (S1 105 2 rfl) (S1 105 3 rfl) (by omega) (by omega) (by omega) (by omega) (by rw [← i1, ← fC_at hL R ex2 fx3_0]) (one_m rfl (by omega))) i1 (by omega) (by omega))
    · refine z_iload (M := M_X5_bestTrade) 72 dX5_bestTrade_72 rfl ?_
      refine z_istore_n (M := M_X5_bestTrade) 74 dX5_bestTrade_74 (ls' := [some (mR 105), some (mR L), some (mI a2), some (mI (x3 - l5)), some (mI l4), some (mI l5), some (mI l6), some (mI (x3 - l5))]) (by decide) rfl ?_
      refine z_aload_n (M := M_X5_bestTrade) 75 dX5_bestTrade_75 rfl ?_
      refine z_iload (M := M_X5_bestTrade) 76 dX5_bestTrade_76 rfl ?_
      refine z_putIH (M := M_X5_bestTrade) 78 dX5_bestTrade_78 p_X5_20 o_105 rfl (u_105_2 G1) (R1.up rfl) (fun h2 E2 G2 R2 => ?_)
      refine z_aload_n (M := M_X5_bestTrade) 81 dX5_bestTrade_81 rfl ?_
      refine z_iload (M := M_X5_bestTrade) 82 dX5_bestTrade_82 rfl ?_
      refine z_putIH (M := M_X5_bestTrade) 84 dX5_bestTrade_84 p_X5_24 o_105 rfl (u_105_3 G2) (R2.up rfl) (fun h3 E3 G3 R3 => ?_)
      refine z_iincN (M := M_X5_bestTrade) 87 dX5_bestTrade_87 (ls' := [some (mR 105), some (mR L), some (mI a2), some (mI (x3 - l5)), some (mI l4), some (mI l5), some (mI (l6 + 1)), some (mI (x3 - l5))]) (by decide) rfl (by (unfold m_32; decide)) (by omega) (by omega) rfl ?_
      refine z_goto (M := M_X5_bestTrade) 90 dX5_bestTrade_90 42 rfl ?_
      exact z_mask [true, true, true, true, true, true, true, false] rfl (ih.2 (x3 - l5) l4 l5 (l6 + 1) h3 G3 R3 (by omega) (by omega) (by omega) (by omega) (by omega) (by omega) (by omega) (by omega) (bI_one (bI_yes (c := 1) i0 (tl_e2 E2 E3) (upE E3) (by omega) (by omega) (by omega) (by omega) (by rw [← i1, ← fC_at hL R ex2 fx3_0]) (one_n rfl (by omega)))) i1 (by omega) (by omega))
theorem a_X5_bestTrade2 (h0 : m_H) (L : Nat) (a2 : Int) (hL : isL L) (G0 : GI h0) (pa2 : 0 ≤ a2 ∧ a2 ≤ 5) : ∀ n, q_X5_bestTrade2 h0 L a2 n := by
  intro n
  induction n with
  | zero => unfold q_X5_bestTrade2; refine ⟨?_, ?_⟩ <;> (intros; omega)
  | succ n ih => exact ⟨s_X5_bestTrade2_15 h0 L a2 hL G0 pa2 n ih, s_X5_bestTrade2_42 h0 L a2 hL G0 pa2 n ih⟩
set_option maxHeartbeats 4000000 in
set_option maxRecDepth 100000 in
theorem c_X5_bestTrade2 (h0 : m_H) (L : Nat) (a2 : Int) (hL : isL L) (G0 : GI h0) (pa2 : 0 ≤ a2 ∧ a2 ≤ 5) : m_CI M_X5_bestTrade [mR 105, mR L, mI a2] h0 (P_X5_bestTrade2 h0 L a2) := by
  refine m_CI_of ⟨by decide, rfl, by simp [m_arg, m_isL, M_X5_bestTrade], ⟨rfl, rfl⟩, rfl, rfl⟩ (ls := [some (mR 105), some (mR L), some (mI a2), none, none, none, none, none]) rfl ?_
  have ih := a_X5_bestTrade2 h0 L a2 hL G0 pa2 2217
  refine z_iconst (M := M_X5_bestTrade) 0 dX5_bestTrade_0 ?_
  refine z_istore_n (M := M_X5_bestTrade) 1 dX5_bestTrade_1 (ls' := [some (mR 105), some (mR L), some (mI a2), some (mI 0), none, none, none, none]) (by decide) rfl ?_
  refine z_aload_n (M := M_X5_bestTrade) 2 dX5_bestTrade_2 rfl ?_
  refine z_iconst (M := M_X5_bestTrade) 3 dX5_bestTrade_3 ?_
  refine z_putIH (M := M_X5_bestTrade) 4 dX5_bestTrade_4 p_X5_20 o_105 rfl (u_105_2 G0) ((FR.rf (cs := []) (ss := [(105, 2), (105, 3)]) (h := h0)).up rfl) (fun h1 E1 G1 R1 => ?_)
  refine z_aload_n (M := M_X5_bestTrade) 7 dX5_bestTrade_7 rfl ?_
  refine z_iconst (M := M_X5_bestTrade) 8 dX5_bestTrade_8 ?_
  refine z_putIH (M := M_X5_bestTrade) 9 dX5_bestTrade_9 p_X5_24 o_105 rfl (u_105_3 G1) (R1.up rfl) (fun h2 E2 G2 R2 => ?_)
  refine z_iconst (M := M_X5_bestTrade) 12 dX5_bestTrade_12 ?_
  refine z_istore (M := M_X5_bestTrade) 13 dX5_bestTrade_13 (ls' := [some (mR 105), some (mR L), some (mI a2), some (mI 0), some (mI 0), none, none, none]) (by decide) rfl ?_
  exact z_mask [true, true, true, true, true, false, false, false] rfl (ih.1 0 0 h2 G2 R2 (by omega) (by omega) (by omega) (by omega) (bI_0 ((tl_e E2 E1)) (upE E2)) (by omega))
def yrQ (g : Int → Int) (c o s : Nat) (a1 a2 a3 x : Int) (h0 h' : m_H) : Prop := ((a1 < 0 ∨ 1000000 < a1 ∨ a2 < 0 ∨ 5 < a2 ∨ a3 < 1 ∨ 99 < a3) ∧ x = -1 ∧ (∀ j, h' c j = h0 c j) ∧ h' o s = h0 o s ∧ h' o (s + 1) = h0 o (s + 1) ∧ h' o (s + 2) = h0 o (s + 2)) ∨ (0 ≤ a1 ∧ a1 ≤ 1000000 ∧ 0 ≤ a2 ∧ a2 ≤ 5 ∧ 1 ≤ a3 ∧ a3 ≤ 99 ∧ (∀ j, j < 32 → h' c j = dr a1 j) ∧ h' o s = 1 ∧ bI a3 (fun w => g (dr a1 w)) 1024 x (h' o (s + 1)) (h' o (s + 2)))
theorem yrC_ok {a1 a2 a3 x : Int} {h0 h4 h5 h6 : m_H} {cs' : List Nat} {ss' : List (Nat × Nat)} (p1 : 0 ≤ a1) (p2 : a1 ≤ 1000000) (p3 : 0 ≤ a2) (p4 : a2 ≤ 5) (p5 : 1 ≤ a3) (p6 : a3 ≤ 99) (S4 : FR [106] [(105, 1)] h0 h4) (D4 : ∀ j, j < 32 → h4 106 j = dr a1 j) (d4 : h4 105 1 = 1) (S5 : FR [] [(105, 2), (105, 3)] h4 h5) (B5 : bI 1 (fC h4 1 a2) 1024 x (h5 105 2) (h5 105 3)) (S6 : FR cs' ss' h5 h6) (e1 : ∀ j, fr cs' ss' 105 j = false) (e2 : ∀ j, fr cs' ss' 106 j = false) : yrQ (fun k => h0 8 a2.toNat / h0 8 (12 + k).toNat) 106 105 1 a1 a2 a3 (a3 * x) h0 h6 := by
  refine Or.inr ⟨p1, p2, p3, p4, p5, p6, fun j hj => (S6 _ _ (e2 j)).trans ((S5 106 j rfl).trans (D4 j hj)), (S6 _ _ (e1 1)).trans ((S5 105 1 rfl).trans d4), ?_⟩
  have c : bs (fC h4 1 a2) 1024 = bs (fun w => h0 8 a2.toNat / h0 8 (12 + dr a1 w).toNat) 1024 := bs_congr (fun w hw => by
    unfold fC
    rw [D4 w hw]
    show h4 8 _ / h4 8 _ = _
    rw [S4 8 _ rfl, S4 8 _ rfl]) 1024 (Nat.le_refl _)
  unfold bI at B5 ⊢
  rw [c, Int.one_mul] at B5
  rw [S6 _ _ (e1 _), S6 _ _ (e1 _)]
  exact ⟨by rw [B5.1], B5.2.1, B5.2.2⟩
abbrev P_X11_year2 (h0 : m_H) (a1 a2 a3 : Int) : Int → m_H → Prop := fun x h' => GI h' ∧ FR [106, 107] [(0, 14), (105, 1), (105, 2), (105, 3)] h0 h' ∧ yrQ (fun k => h0 8 a2.toNat / h0 8 (12 + k).toNat) 106 105 1 a1 a2 a3 x h0 h'
set_option maxHeartbeats 4000000 in
set_option maxRecDepth 100000 in
theorem c_X11_year2 (h0 : m_H) (a1 a2 a3 : Int) (G0 : GI h0) : m_CI M_X11_year [mR 0, mI a1, mI a2, mI a3] h0 (P_X11_year2 h0 a1 a2 a3) := by
  refine m_CI_of ⟨by decide, rfl, by simp [m_arg, m_isL, M_X11_year], ⟨rfl, rfl⟩, rfl, rfl⟩ (ls := [some (mR 0), some (mI a1), some (mI a2), some (mI a3)]) rfl ?_
  refine z_ok (fun _ _ ok => ?_)
  have oa1 : m_32 a1 := ok 1 _ rfl
  unfold m_32 at oa1
  have oa2 : m_32 a2 := ok 2 _ rfl
  unfold m_32 at oa2
  have oa3 : m_32 a3 := ok 3 _ rfl
  unfold m_32 at oa3
  refine z_iload_n (M := M_X11_year) 0 dX11_year_0 rfl ?_
  refine z_iconst (M := M_X11_year) 1 dX11_year_1 ?_
  refine z_ldcw (M := M_X11_year) 2 dX11_year_2 k_X11_392 ?_
  refine z_sI (M := M_X11_year) 5 dX11_year_5 t_X11_within l_X11_112 (m_rr_of rfl) (rest := []) (c_X11_within h0 a1 0 1000000 G0) rfl rfl (Nat.le_of_ble_eq_true rfl) ⟨rfl, rfl⟩ (fun x1 h1 qx1 => ?_)
  obtain ⟨rfl, ⟨rfl, cx1⟩ | ⟨rfl, cx1⟩⟩ := qx1
  · refine z_if_eq_F (M := M_X11_year) 8 dX11_year_8 28 rfl (by omega) ?_
    refine z_iload_n (M := M_X11_year) 11 dX11_year_11 rfl ?_
    refine z_sI (M := M_X11_year) 12 dX11_year_12 t_X11_isThing l_X11_126 (m_rr_of rfl) (rest := []) (c_X11_isThing h0 a2 G0) rfl rfl (Nat.le_of_ble_eq_true rfl) ⟨rfl, rfl⟩ (fun x2 h2 qx2 => ?_)
    obtain ⟨rfl, ⟨rfl, cx2⟩ | ⟨rfl, cx2⟩⟩ := qx2
    · refine z_if_eq_F (M := M_X11_year) 15 dX11_year_15 28 rfl (by omega) ?_
      refine z_iload_n (M := M_X11_year) 18 dX11_year_18 rfl ?_
      refine z_iconst (M := M_X11_year) 19 dX11_year_19 ?_
      refine z_bipush (M := M_X11_year) 20 dX11_year_20 ?_
      refine z_sI (M := M_X11_year) 22 dX11_year_22 t_X11_within l_X11_112 (m_rr_of rfl) (rest := []) (c_X11_within h0 a3 1 99 G0) rfl rfl (Nat.le_of_ble_eq_true rfl) ⟨rfl, rfl⟩ (fun x3 h3 qx3 => ?_)
      obtain ⟨rfl, ⟨rfl, cx3⟩ | ⟨rfl, cx3⟩⟩ := qx3
      · refine z_if_ne_T (M := M_X11_year) 25 dX11_year_25 34 rfl (by omega) ?_
        refine z_aload_n (M := M_X11_year) 34 dX11_year_34 rfl ?_
        refine z_getR (M := M_X11_year) 35 dX11_year_35 f_X11_90 o_0 rfl (g_0_12 G0) ?_
        refine z_iload_n (M := M_X11_year) 38 dX11_year_38 rfl ?_
        refine z_vV (M := M_X11_year) 39 dX11_year_39 t_X5_draw l_X11_393 (m_rr_of rfl) (rest := []) (c_X5_draw2 h0 a1 G0 ⟨by omega, by omega⟩) o_105 rfl rfl rfl (Nat.le_of_ble_eq_true rfl) ⟨rfl, rfl⟩ (fun h4 qx4 => ?_)
        obtain ⟨G4, S4, D4, d4⟩ := qx4
        have R4 := (FR.rf (cs := [106, 107]) (ss := [(0, 14), (105, 1), (105, 2), (105, 3)]) (h := h0)).call S4 (by decide +kernel)
        refine z_aload_n (M := M_X11_year) 42 dX11_year_42 rfl ?_
        refine z_iload_n (M := M_X11_year) 43 dX11_year_43 rfl ?_
        refine z_aload_n (M := M_X11_year) 44 dX11_year_44 rfl ?_
        refine z_getR (M := M_X11_year) 45 dX11_year_45 f_X11_90 o_0 rfl (g_0_12 G4) ?_
        refine z_aload_n (M := M_X11_year) 48 dX11_year_48 rfl ?_
        refine z_getR (M := M_X11_year) 49 dX11_year_49 f_X11_12 o_0 rfl (g_0_0 G4) ?_
        refine z_iload_n (M := M_X11_year) 52 dX11_year_52 rfl ?_
        refine z_vI (M := M_X11_year) 53 dX11_year_53 t_X5_bestTrade l_X11_396 (m_rr_of rfl) (rest := [mI a3, mR 0]) (c_X5_bestTrade2 h4 1 a2 (Or.inl rfl) G4 ⟨by omega, by omega⟩) o_105 rfl rfl rfl (Nat.le_of_ble_eq_true rfl) ⟨rfl, rfl⟩ (fun x5 h5 qx5 => ?_)
        obtain ⟨G5, S5, ax5, bx5, B5⟩ := qx5
        have R5 := R4.call S5 (by decide +kernel)
        have mb := mul_s (a := a3) (d := x5) (by omega) (by omega) (by omega) (by omega)
        refine z_imulN (M := M_X11_year) 56 dX11_year_56 (by omega) (by omega) ?_
        refine z_vI (M := M_X11_year) 57 dX11_year_57 t_X11_accept l_X11_123 (m_rr_of rfl) (rest := []) (c_X11_accept h5 (a3 * x5) G5) o_0 rfl rfl rfl (Nat.le_of_ble_eq_true rfl) ⟨rfl, rfl⟩ (fun x7 h6 qx7 => ?_)
        obtain ⟨G6, S6, rfl⟩ := qx7
        have R6 := R5.call S6 (by decide +kernel)
        exact z_retI (M := M_X11_year) 60 dX11_year_60 rfl ⟨G6, R6, yrC_ok (by omega) (by omega) (by omega) (by omega) (by omega) (by omega) S4 D4 d4 S5 B5 S6 (fun _ => rfl) (fun _ => rfl)⟩
      · refine z_if_ne_F (M := M_X11_year) 25 dX11_year_25 34 rfl (by omega) ?_
        refine z_aload_n (M := M_X11_year) 28 dX11_year_28 rfl ?_
        refine z_iconst (M := M_X11_year) 29 dX11_year_29 ?_
        refine z_vI (M := M_X11_year) 30 dX11_year_30 t_X11_refuse l_X11_116 (m_rr_of rfl) (rest := []) (c_X11_refuse h0 (-1) G0 ⟨by omega, by omega⟩) o_0 rfl rfl rfl (Nat.le_of_ble_eq_true rfl) ⟨rfl, rfl⟩ (fun x8 h7 qx8 => ?_)
        obtain ⟨G7, S7, rfl⟩ := qx8
        have R7 := (FR.rf (cs := [106, 107]) (ss := [(0, 14), (105, 1), (105, 2), (105, 3)]) (h := h0)).call S7 (by decide +kernel)
        exact z_retI (M := M_X11_year) 33 dX11_year_33 rfl ⟨G7, R7, Or.inl ⟨by omega, rfl, fun j => S7 106 j rfl, S7 105 1 rfl, S7 105 2 rfl, S7 105 3 rfl⟩⟩
    · refine z_if_eq_T (M := M_X11_year) 15 dX11_year_15 28 rfl (by omega) ?_
      refine z_aload_n (M := M_X11_year) 28 dX11_year_28 rfl ?_
      refine z_iconst (M := M_X11_year) 29 dX11_year_29 ?_
      refine z_vI (M := M_X11_year) 30 dX11_year_30 t_X11_refuse l_X11_116 (m_rr_of rfl) (rest := []) (c_X11_refuse h0 (-1) G0 ⟨by omega, by omega⟩) o_0 rfl rfl rfl (Nat.le_of_ble_eq_true rfl) ⟨rfl, rfl⟩ (fun x9 h8 qx9 => ?_)
      obtain ⟨G8, S8, rfl⟩ := qx9
      have R8 := (FR.rf (cs := [106, 107]) (ss := [(0, 14), (105, 1), (105, 2), (105, 3)]) (h := h0)).call S8 (by decide +kernel)
      exact z_retI (M := M_X11_year) 33 dX11_year_33 rfl ⟨G8, R8, Or.inl ⟨by omega, rfl, fun j => S8 106 j rfl, S8 105 1 rfl, S8 105 2 rfl, S8 105 3 rfl⟩⟩
  · refine z_if_eq_T (M := M_X11_year) 8 dX11_year_8 28 rfl (by omega) ?_
    refine z_aload_n (M := M_X11_year) 28 dX11_year_28 rfl ?_
    refine z_iconst (M := M_X11_year) 29 dX11_year_29 ?_
    refine z_vI (M := M_X11_year) 30 dX11_year_30 t_X11_refuse l_X11_116 (m_rr_of rfl) (rest := []) (c_X11_refuse h0 (-1) G0 ⟨by omega, by omega⟩) o_0 rfl rfl rfl (Nat.le_of_ble_eq_true rfl) ⟨rfl, rfl⟩ (fun x10 h9 qx10 => ?_)
    obtain ⟨G9, S9, rfl⟩ := qx10
    have R9 := (FR.rf (cs := [106, 107]) (ss := [(0, 14), (105, 1), (105, 2), (105, 3)]) (h := h0)).call S9 (by decide +kernel)
    exact z_retI (M := M_X11_year) 33 dX11_year_33 rfl ⟨G9, R9, Or.inl ⟨by omega, rfl, fun j => S9 106 j rfl, S9 105 1 rfl, S9 105 2 rfl, S9 105 3 rfl⟩⟩
def trQ (c o s : Nat) (a1 x : Int) (h0 : m_H) : Prop := ((h0 o s = 0 ∨ a1 < 0 ∨ 33 < a1) ∧ x = -1) ∨ (h0 o s ≠ 0 ∧ a1 = 0 ∧ h0 o (s + 1) = x) ∨ (h0 o s ≠ 0 ∧ a1 = 1 ∧ h0 o (s + 2) = x) ∨ (h0 o s ≠ 0 ∧ 2 ≤ a1 ∧ a1 ≤ 33 ∧ h0 c (a1 - 2).toNat = x)
abbrev P_X11_trade2 (h0 : m_H) (a1 : Int) : Int → m_H → Prop := fun x h' => GI h' ∧ FR [] [] h0 h' ∧ trQ 106 105 1 a1 x h0
set_option maxHeartbeats 4000000 in
set_option maxRecDepth 100000 in
theorem c_X11_trade2 (h0 : m_H) (a1 : Int) (G0 : GI h0) : m_CI M_X11_trade [mR 0, mI a1] h0 (P_X11_trade2 h0 a1) := by
  refine m_CI_of ⟨by decide, rfl, by simp [m_arg, m_isL, M_X11_trade], ⟨rfl, rfl⟩, rfl, rfl⟩ (ls := [some (mR 0), some (mI a1)]) rfl ?_
  refine z_ok (fun _ _ ok => ?_)
  have oa1 : m_32 a1 := ok 1 _ rfl
  unfold m_32 at oa1
  refine z_aload_n (M := M_X11_trade) 0 dX11_trade_0 rfl ?_
  refine z_getR (M := M_X11_trade) 1 dX11_trade_1 f_X11_90 o_0 rfl (g_0_12 G0) ?_
  refine z_getIG (M := M_X11_trade) 4 dX11_trade_4 f_X11_399 o_105 (by decide) (g_105_1 G0) (fun x1 ex1 ax1 bx1 => ?_)
  refine z_if_ne (M := M_X11_trade) 7 dX11_trade_7 12 rfl (fun c2 => ?_) (fun c2 => ?_)
  · refine z_iload_n (M := M_X11_trade) 12 dX11_trade_12 rfl ?_
    refine z_if_ne (M := M_X11_trade) 13 dX11_trade_13 24 rfl (fun c3 => ?_) (fun c3 => ?_)
    · refine z_iload_n (M := M_X11_trade) 24 dX11_trade_24 rfl ?_
      refine z_iconst (M := M_X11_trade) 25 dX11_trade_25 ?_
      refine z_icmp_ne (M := M_X11_trade) 26 dX11_trade_26 37 rfl (fun c4 => ?_) (fun c4 => ?_)
      · refine z_iload_n (M := M_X11_trade) 37 dX11_trade_37 rfl ?_
        refine z_iconst (M := M_X11_trade) 38 dX11_trade_38 ?_
        refine z_bipush (M := M_X11_trade) 39 dX11_trade_39 ?_
        refine z_sI (M := M_X11_trade) 41 dX11_trade_41 t_X11_within l_X11_112 (m_rr_of rfl) (rest := []) (c_X11_within h0 a1 2 33 G0) rfl rfl (Nat.le_of_ble_eq_true rfl) ⟨rfl, rfl⟩ (fun x5 h1 qx5 => ?_)
        obtain ⟨rfl, ⟨rfl, cx5⟩ | ⟨rfl, cx5⟩⟩ := qx5
        · refine z_if_eq_F (M := M_X11_trade) 44 dX11_trade_44 61 rfl (by omega) ?_
          refine z_aload_n (M := M_X11_trade) 47 dX11_trade_47 rfl ?_
          refine z_getR (M := M_X11_trade) 48 dX11_trade_48 f_X11_90 o_0 rfl (g_0_12 G0) ?_
          refine z_getR (M := M_X11_trade) 51 dX11_trade_51 f_X11_408 o_105 rfl (g_105_0 G0) ?_
          refine z_iload_n (M := M_X11_trade) 54 dX11_trade_54 rfl ?_
          refine z_iconst (M := M_X11_trade) 55 dX11_trade_55 ?_
          refine z_isubN (M := M_X11_trade) 56 dX11_trade_56 (by omega) (by omega) ?_
          refine z_ialdG (M := M_X11_trade) 57 dX11_trade_57 o_106 (by omega) (by omega) (g_106 G0 (by omega)) (fun x6 ex6 ax6 bx6 => ?_)
          refine z_goto (M := M_X11_trade) 58 dX11_trade_58 62 rfl ?_
          exact z_retI (M := M_X11_trade) 62 dX11_trade_62 rfl ⟨G0, (FR.rf (cs := []) (ss := []) (h := h0)), Or.inr (Or.inr (Or.inr ⟨by omega, by omega, by omega, ex6⟩))⟩
        · refine z_if_eq_T (M := M_X11_trade) 44 dX11_trade_44 61 rfl (by omega) ?_
          refine z_iconst (M := M_X11_trade) 61 dX11_trade_61 ?_
          exact z_retI (M := M_X11_trade) 62 dX11_trade_62 rfl ⟨G0, (FR.rf (cs := []) (ss := []) (h := h0)), Or.inl ⟨by omega, rfl⟩⟩
      · refine z_aload_n (M := M_X11_trade) 29 dX11_trade_29 rfl ?_
        refine z_getR (M := M_X11_trade) 30 dX11_trade_30 f_X11_90 o_0 rfl (g_0_12 G0) ?_
        refine z_getIV (M := M_X11_trade) 33 dX11_trade_33 f_X11_405 o_105 (by decide) (fun x7 ex7 => ?_)
        refine z_ok (fun ox7 _ _ => ?_)
        have ox7 := ox7.1; unfold m_ok m_32 at ox7
        exact z_retI (M := M_X11_trade) 36 dX11_trade_36 rfl ⟨G0, (FR.rf (cs := []) (ss := []) (h := h0)), Or.inr (Or.inr (Or.inl ⟨by omega, by omega, ex7⟩))⟩
    · refine z_aload_n (M := M_X11_trade) 16 dX11_trade_16 rfl ?_
      refine z_getR (M := M_X11_trade) 17 dX11_trade_17 f_X11_90 o_0 rfl (g_0_12 G0) ?_
      refine z_getIV (M := M_X11_trade) 20 dX11_trade_20 f_X11_402 o_105 (by decide) (fun x8 ex8 => ?_)
      refine z_ok (fun ox8 _ _ => ?_)
      have ox8 := ox8.1; unfold m_ok m_32 at ox8
      exact z_retI (M := M_X11_trade) 23 dX11_trade_23 rfl ⟨G0, (FR.rf (cs := []) (ss := []) (h := h0)), Or.inr (Or.inl ⟨by omega, by omega, ex8⟩)⟩
  · refine z_iconst (M := M_X11_trade) 10 dX11_trade_10 ?_
    exact z_retI (M := M_X11_trade) 11 dX11_trade_11 rfl ⟨G0, (FR.rf (cs := []) (ss := []) (h := h0)), Or.inl ⟨by omega, rfl⟩⟩
theorem tl_s {h h' : m_H} {c i j : Nat} {v : Int} (E : h' = m_up h c i v) (hj : j ≠ i) : h' c j = h c j := upN E (fun q => hj q.2)
abbrev P_X12_trade2 (h0 : m_H) (a1 : Int) : Int → m_H → Prop := fun x h' => GI h' ∧ FR [] [(108, 0)] h0 h' ∧ trQ 147 108 60 a1 x h0
set_option maxHeartbeats 4000000 in
set_option maxRecDepth 100000 in
theorem c_X12_trade2 (h0 : m_H) (a1 : Int) (G0 : GI h0) : m_CI M_X12_trade [mR 108, mI a1] h0 (P_X12_trade2 h0 a1) := by
  refine m_CI_of ⟨by decide, rfl, by simp [m_arg, m_isL, M_X12_trade], ⟨rfl, rfl⟩, rfl, rfl⟩ (ls := [some (mR 108), some (mI a1)]) rfl ?_
  refine z_ok (fun _ _ ok => ?_)
  have oa1 : m_32 a1 := ok 1 _ rfl
  unfold m_32 at oa1
  refine z_aload_n (M := M_X12_trade) 0 dX12_trade_0 rfl ?_
  refine z_iconst (M := M_X12_trade) 1 dX12_trade_1 ?_
  refine z_putIH (M := M_X12_trade) 2 dX12_trade_2 p_X12_133 o_108 rfl (u_108_0 G0) ((FR.rf (cs := []) (ss := [(108, 0)]) (h := h0)).up rfl) (fun h1 E1 G1 R1 => ?_)
  refine z_aload_n (M := M_X12_trade) 5 dX12_trade_5 rfl ?_
  refine z_getIG (M := M_X12_trade) 6 dX12_trade_6 f_X12_512 o_108 (by decide) (g_108_60 G1) (fun x1 ex1 ax1 bx1 => ?_)
  refine z_if_eq (M := M_X12_trade) 9 dX12_trade_9 24 rfl (fun c2 => ?_) (fun c2 => ?_)
  · refine z_iconst (M := M_X12_trade) 24 dX12_trade_24 ?_
    exact z_retI (M := M_X12_trade) 25 dX12_trade_25 rfl ⟨G1, R1, Or.inl ⟨(by first | (right; omega) | (left; exact (tl_s E1 (j := 60) (by decide)).symm.trans (by omega))), rfl⟩⟩
  · refine z_iload_n (M := M_X12_trade) 12 dX12_trade_12 rfl ?_
    refine z_i2l (M := M_X12_trade) 13 dX12_trade_13 ?_
    refine z_lconst (M := M_X12_trade) 14 dX12_trade_14 (v := 0) ?_
    refine z_ldc2 (M := M_X12_trade) 15 dX12_trade_15 k_X12_524 ?_
    refine z_sI (M := M_X12_trade) 18 dX12_trade_18 t_X12_in l_X12_143 (m_rr_of rfl) (rest := []) (c_X12_in h1 a1 0 33 G1) rfl rfl (Nat.le_of_ble_eq_true rfl) ⟨rfl, rfl⟩ (fun x3 h2 qx3 => ?_)
    obtain ⟨rfl, ⟨rfl, cx3⟩ | ⟨rfl, cx3⟩⟩ := qx3
    · refine z_if_ne_T (M := M_X12_trade) 21 dX12_trade_21 26 rfl (by omega) ?_
      refine z_iload_n (M := M_X12_trade) 26 dX12_trade_26 rfl ?_
      refine z_if_ne (M := M_X12_trade) 27 dX12_trade_27 37 rfl (fun c4 => ?_) (fun c4 => ?_)
      · refine z_iload_n (M := M_X12_trade) 37 dX12_trade_37 rfl ?_
        refine z_iconst (M := M_X12_trade) 38 dX12_trade_38 ?_
        refine z_icmp_ne (M := M_X12_trade) 39 dX12_trade_39 49 rfl (fun c5 => ?_) (fun c5 => ?_)
        · refine z_aload_n (M := M_X12_trade) 49 dX12_trade_49 rfl ?_
          refine z_getR (M := M_X12_trade) 50 dX12_trade_50 f_X12_130 o_108 rfl (g_108_59 G1) ?_
          refine z_iload_n (M := M_X12_trade) 53 dX12_trade_53 rfl ?_
          refine z_iconst (M := M_X12_trade) 54 dX12_trade_54 ?_
          refine z_isubN (M := M_X12_trade) 55 dX12_trade_55 (by omega) (by omega) ?_
          refine z_ialdG (M := M_X12_trade) 56 dX12_trade_56 o_147 (by omega) (by omega) (g_147 G1 (by omega)) (fun x6 ex6 ax6 bx6 => ?_)
          exact z_retI (M := M_X12_trade) 57 dX12_trade_57 rfl ⟨G1, R1, Or.inr (Or.inr (Or.inr ⟨(fun q => by have z := tl_s E1 (j := 60) (by decide); omega), by omega, by omega, (tl_o E1 (by decide) _).symm.trans ex6⟩))⟩
        · refine z_aload_n (M := M_X12_trade) 42 dX12_trade_42 rfl ?_
          refine z_getIG (M := M_X12_trade) 43 dX12_trade_43 f_X12_518 o_108 (by decide) (g_108_62 G1) (fun x7 ex7 ax7 bx7 => ?_)
          refine z_goto (M := M_X12_trade) 46 dX12_trade_46 57 rfl ?_
          exact z_retI (M := M_X12_trade) 57 dX12_trade_57 rfl ⟨G1, R1, Or.inr (Or.inr (Or.inl ⟨(fun q => by have z := tl_s E1 (j := 60) (by decide); omega), by omega, (tl_s E1 (by decide)).symm.trans ex7⟩))⟩
      · refine z_aload_n (M := M_X12_trade) 30 dX12_trade_30 rfl ?_
        refine z_getIG (M := M_X12_trade) 31 dX12_trade_31 f_X12_515 o_108 (by decide) (g_108_61 G1) (fun x8 ex8 ax8 bx8 => ?_)
        refine z_goto (M := M_X12_trade) 34 dX12_trade_34 57 rfl ?_
        exact z_retI (M := M_X12_trade) 57 dX12_trade_57 rfl ⟨G1, R1, Or.inr (Or.inl ⟨(fun q => by have z := tl_s E1 (j := 60) (by decide); omega), by omega, (tl_s E1 (by decide)).symm.trans ex8⟩)⟩
    · refine z_if_ne_F (M := M_X12_trade) 21 dX12_trade_21 26 rfl (by omega) ?_
      refine z_iconst (M := M_X12_trade) 24 dX12_trade_24 ?_
      exact z_retI (M := M_X12_trade) 25 dX12_trade_25 rfl ⟨G1, R1, Or.inl ⟨(by first | (right; omega) | (left; exact (tl_s E1 (j := 60) (by decide)).symm.trans (by omega))), rfl⟩⟩
theorem bI_eq {c m m' b s : Int} {f : Nat → Int} {p : Nat} (i : bI c f p m b s) (e : m = m') : bI c f p m' b s := e ▸ i
theorem yrM_ok {c m b s b' s' l : Int} {f : Nat → Int} (i : bI c f (32 * l.toNat) m b s) (hl : l = 32) (e2 : b' = b) (e3 : s' = s) : bI c f 1024 m b' s' := by
  have q : 32 * l.toNat = 1024 := by omega
  rw [q] at i; rw [e2, e3]; exact i
abbrev P_X12_year2 (h0 : m_H) (a1 a2 a3 : Int) : Int → m_H → Prop := fun x h' => GI h' ∧ FR [109, 147] [(108, 0), (108, 1), (108, 60), (108, 61), (108, 62)] h0 h' ∧ yrQ (fun k => h0 110 (60 + a2).toNat / h0 110 (72 + k).toNat) 147 108 60 a1 a2 a3 x h0 h'
def q_X12_year2 (h0 : m_H) (a1 a2 a3 : Int) (n : Nat) : Prop := (∀ (l4 l6 : Int) (h : m_H), GI h → FR [109, 147] [(108, 0), (108, 1), (108, 60), (108, 61), (108, 62)] h0 h → 0 ≤ l4 → l4 ≤ 1000002 → 0 ≤ l6 → l6 ≤ 32 → 0 ≤ a1 → a1 ≤ 1000000 → 0 ≤ a2 → a2 ≤ 5 → 1 ≤ a3 → a3 ≤ 99 → (l4 = dS a1 l6.toNat) → (∀ j : Nat, (j : Int) < l6 → h 147 j = dr a1 j) → 2 * (32 - l6) + (2213) ≤ (n : Int) → m_Z oF M_X12_year 49 [some (mR 108), none, some (mI a2), some (mI a3), some (mJ l4), none, some (mI l6), none, none, none] [] h (m_QI (P_X12_year2 h0 a1 a2 a3))) ∧ (∀ (l6 l7 : Int) (h : m_H), GI h → FR [109, 147] [(108, 0), (108, 1), (108, 60), (108, 61), (108, 62)] h0 h → 0 ≤ l6 → l6 ≤ 989901 → 0 ≤ l7 → l7 ≤ 32 → 0 ≤ a1 → a1 ≤ 1000000 → 0 ≤ a2 → a2 ≤ 5 → 1 ≤ a3 → a3 ≤ 99 → (bI a3 (fun w => h0 110 (60 + a2).toNat / h0 110 (72 + dr a1 w).toNat) (32 * l7.toNat) l6 (h 108 61) (h 108 62)) → (∀ j : Nat, (j : Int) < 32 → h 147 j = dr a1 j) → (h 108 60 = 1) → 67 * (32 - l7) + (66) ≤ (n : Int) → m_Z oF M_X12_year 113 [some (mR 108), none, some (mI a2), some (mI a3), none, none, some (mI l6), some (mI l7), none, none] [] h (m_QI (P_X12_year2 h0 a1 a2 a3))) ∧ (∀ (l6 l7 l8 : Int) (h : m_H), GI h → FR [109, 147] [(108, 0), (108, 1), (108, 60), (108, 61), (108, 62)] h0 h → 0 ≤ l6 → l6 ≤ 989901 → 0 ≤ l7 → l7 ≤ 31 → 1 ≤ l8 → l8 ≤ 32 → 0 ≤ a1 → a1 ≤ 1000000 → 0 ≤ a2 → a2 ≤ 5 → 1 ≤ a3 → a3 ≤ 99 → (bI a3 (fun w => h0 110 (60 + a2).toNat / h0 110 (72 + dr a1 w).toNat) (32 * l7.toNat + l8.toNat) l6 (h 108 61) (h 108 62)) → (∀ j : Nat, (j : Int) < 32 → h 147 j = dr a1 j) → (h 108 60 = 1) → (l7 < l8) → 67 * (32 - l7) + 2 * (32 - l8) + (1) ≤ (n : Int) → m_Z oF M_X12_year 126 [some (mR 108), none, some (mI a2), some (mI a3), none, none, some (mI l6), some (mI l7), some (mI l8), none] [] h (m_QI (P_X12_year2 h0 a1 a2 a3)))
set_option maxHeartbeats 4000000 in
set_option maxRecDepth 100000 in
theorem s_X12_year2_49 (h0 : m_H) (a1 a2 a3 : Int) (G0 : GI h0) (n : Nat) (ih : q_X12_year2 h0 a1 a2 a3 n) : ∀ (l4 l6 : Int) (h : m_H), GI h → FR [109, 147] [(108, 0), (108, 1), (108, 60), (108, 61), (108, 62)] h0 h → 0 ≤ l4 → l4 ≤ 1000002 → 0 ≤ l6 → l6 ≤ 32 → 0 ≤ a1 → a1 ≤ 1000000 → 0 ≤ a2 → a2 ≤ 5 → 1 ≤ a3 → a3 ≤ 99 → (l4 = dS a1 l6.toNat) → (∀ j : Nat, (j : Int) < l6 → h 147 j = dr a1 j) → 2 * (32 - l6) + (2213) ≤ ((n + 1 : Nat) : Int) → m_Z oF M_X12_year 49 [some (mR 108), none, some (mI a2), some (mI a3), some (mJ l4), none, some (mI l6), none, none, none] [] h (m_QI (P_X12_year2 h0 a1 a2 a3)) := by
  intro l4 l6 h G R v0 v1 v2 v3 v4 v5 v6 v7 v8 v9 i0 i1 hr
  refine z_iload (M := M_X12_year) 49 dX12_year_49 rfl ?_
  refine z_bipush (M := M_X12_year) 51 dX12_year_51 ?_
  refine z_icmp_ge (M := M_X12_year) 53 dX12_year_53 92 rfl (fun c1 => ?_) (fun c1 => ?_)
  · refine z_aload_n (M := M_X12_year) 92 dX12_year_92 rfl ?_
    refine z_iconst (M := M_X12_year) 93 dX12_year_93 ?_
    refine z_putZH (M := M_X12_year) 94 dX12_year_94 p_X12_512 o_108 rfl (by omega) (u_108_60 G (by omega) (by omega)) (R.up rfl) (fun h1 E1 G1 R1 => ?_)
    refine z_aload_n (M := M_X12_year) 97 dX12_year_97 rfl ?_
    refine z_iconst (M := M_X12_year) 98 dX12_year_98 ?_
    refine z_putIH (M := M_X12_year) 99 dX12_year_99 p_X12_515 o_108 rfl (u_108_61 G1 (by omega) (by omega)) (R1.up rfl) (fun h2 E2 G2 R2 => ?_)
    refine z_aload_n (M := M_X12_year) 102 dX12_year_102 rfl ?_
    refine z_iconst (M := M_X12_year) 103 dX12_year_103 ?_
    refine z_putIH (M := M_X12_year) 104 dX12_year_104 p_X12_518 o_108 rfl (u_108_62 G2 (by omega) (by omega)) (R2.up rfl) (fun h3 E3 G3 R3 => ?_)
    refine z_iconst (M := M_X12_year) 107 dX12_year_107 ?_
    refine z_istore (M := M_X12_year) 108 dX12_year_108 (ls' := [some (mR 108), none, some (mI a2), some (mI a3), some (mJ l4), none, some (mI 0), none, none, none]) (by decide) rfl ?_
    refine z_iconst (M := M_X12_year) 110 dX12_year_110 ?_
    refine z_istore (M := M_X12_year) 111 dX12_year_111 (ls' := [some (mR 108), none, some (mI a2), some (mI a3), some (mJ l4), none, some (mI 0), some (mI 0), none, none]) (by decide) rfl ?_
    exact z_mask [true, false, true, true, false, false, true, true, false, false] rfl (ih.2.1 0 0 h3 G3 R3 (by omega) (by omega) (by omega) (by omega) (by omega) (by omega) (by omega) (by omega) (by omega) (by omega) (bI_0 (tl_e3 E2 E3) (upE E3)) (fun j hj => ((tl_o E3 (by decide) j).trans ((tl_o E2 (by decide) j).trans (tl_o E1 (by decide) j))).trans (i1 j (by omega))) ((tl_s E3 (by decide)).trans ((tl_s E2 (by decide)).trans (upE E1))) (by omega))
  · refine z_lload (M := M_X12_year) 56 dX12_year_56 rfl ?_
    refine z_ldc2 (M := M_X12_year) 58 dX12_year_58 k_X12_504 ?_
    refine z_lmulN (M := M_X12_year) 61 dX12_year_61 (by omega) (by omega) ?_
    refine z_ldc2 (M := M_X12_year) 62 dX12_year_62 k_X12_506 ?_
    refine z_laddN (M := M_X12_year) 65 dX12_year_65 (by omega) (by omega) ?_
    refine z_ldc2 (M := M_X12_year) 66 dX12_year_66 k_X12_508 ?_
    refine z_lremN (M := M_X12_year) 69 dX12_year_69 (by omega) (by omega) ?_
    refine z_topBJ (lo := 0) (hi := 1000002) ⟨by omega, by omega⟩ (fun x2 ex2 ax2 bx2 => ?_)
    refine z_lstore (M := M_X12_year) 70 dX12_year_70 (ls' := [some (mR 108), none, some (mI a2), some (mI a3), some (mJ x2), none, some (mI l6), none, none, none]) (by decide) rfl ?_
    refine z_aload_n (M := M_X12_year) 72 dX12_year_72 rfl ?_
    refine z_getR (M := M_X12_year) 73 dX12_year_73 f_X12_130 o_108 rfl (g_108_59 G) ?_
    refine z_iload (M := M_X12_year) 76 dX12_year_76 rfl ?_
    refine z_lload (M := M_X12_year) 78 dX12_year_78 rfl ?_
    refine z_ldc2 (M := M_X12_year) 80 dX12_year_80 k_X12_510 ?_
    refine z_lremN (M := M_X12_year) 83 dX12_year_83 (by omega) (by omega) ?_
    refine z_topBJ (lo := 0) (hi := 3) ⟨by omega, by omega⟩ (fun x3 ex3 ax3 bx3 => ?_)
    refine z_l2iN (M := M_X12_year) 84 dX12_year_84 (by omega) (by omega) ?_
    refine z_iastH (M := M_X12_year) 85 dX12_year_85 o_147 (by omega) (by omega) (u_147 G (by omega) (by omega)) (R.up rfl) (fun h4 E4 G4 R4 => ?_)
    refine z_iincN (M := M_X12_year) 86 dX12_year_86 (ls' := [some (mR 108), none, some (mI a2), some (mI a3), some (mJ x2), none, some (mI (l6 + 1)), none, none, none]) (by decide) rfl (by (unfold m_32; decide)) (by omega) (by omega) rfl ?_
    refine z_goto (M := M_X12_year) 89 dX12_year_89 49 rfl ?_
    exact z_mask [true, false, true, true, true, false, true, false, false, false] rfl (ih.1 x2 (l6 + 1) h4 G4 R4 (by omega) (by omega) (by omega) (by omega) (by omega) (by omega) (by omega) (by omega) (by omega) (by omega) (dS_st i0 (by omega) ex2) (dr_st i0 i1 (by omega) ex2 ex3 E4) (by omega))
set_option maxHeartbeats 4000000 in
set_option maxRecDepth 100000 in
theorem s_X12_year2_113 (h0 : m_H) (a1 a2 a3 : Int) (G0 : GI h0) (n : Nat) (ih : q_X12_year2 h0 a1 a2 a3 n) : ∀ (l6 l7 : Int) (h : m_H), GI h → FR [109, 147] [(108, 0), (108, 1), (108, 60), (108, 61), (108, 62)] h0 h → 0 ≤ l6 → l6 ≤ 989901 → 0 ≤ l7 → l7 ≤ 32 → 0 ≤ a1 → a1 ≤ 1000000 → 0 ≤ a2 → a2 ≤ 5 → 1 ≤ a3 → a3 ≤ 99 → (bI a3 (fun w => h0 110 (60 + a2).toNat / h0 110 (72 + dr a1 w).toNat) (32 * l7.toNat) l6 (h 108 61) (h 108 62)) → (∀ j : Nat, (j : Int) < 32 → h 147 j = dr a1 j) → (h 108 60 = 1) → 67 * (32 - l7) + (66) ≤ ((n + 1 : Nat) : Int) → m_Z oF M_X12_year 113 [some (mR 108), none, some (mI a2), some (mI a3), none, none, some (mI l6), some (mI l7), none, none] [] h (m_QI (P_X12_year2 h0 a1 a2 a3)) := by
  intro l6 l7 h G R v0 v1 v2 v3 v4 v5 v6 v7 v8 v9 i0 i1 i2 hr
  refine z_iload (M := M_X12_year) 113 dX12_year_113 rfl ?_
  refine z_bipush (M := M_X12_year) 115 dX12_year_115 ?_
  refine z_icmp_ge (M := M_X12_year) 117 dX12_year_117 197 rfl (fun c1 => ?_) (fun c1 => ?_)
  · refine z_aload_n (M := M_X12_year) 197 dX12_year_197 rfl ?_
    refine z_iload (M := M_X12_year) 198 dX12_year_198 rfl ?_
    refine z_vI (M := M_X12_year) 200 dX12_year_200 t_X12_answer l_X12_147 (m_rr_of rfl) (rest := []) (c_X12_answer h l6 G ⟨by omega, by omega⟩) o_108 rfl rfl rfl (Nat.le_of_ble_eq_true rfl) ⟨rfl, rfl⟩ (fun x2 h1 qx2 => ?_)
    obtain ⟨G1, S1, rfl⟩ := qx2
    have R1 := R.call S1 (by decide +kernel)
    exact z_retI (M := M_X12_year) 203 dX12_year_203 rfl ⟨G1, R1, Or.inr ⟨by omega, by omega, by omega, by omega, by omega, by omega, fun j hj => (S1 147 j rfl).trans (i1 j (by omega)), (S1 108 60 rfl).trans i2, yrM_ok i0 (by omega) (S1 108 61 rfl) (S1 108 62 rfl)⟩⟩
  · refine z_iload (M := M_X12_year) 120 dX12_year_120 rfl ?_
    refine z_iconst (M := M_X12_year) 122 dX12_year_122 ?_
    refine z_iaddN (M := M_X12_year) 123 dX12_year_123 (by omega) (by omega) ?_
    refine z_istore (M := M_X12_year) 124 dX12_year_124 (ls' := [some (mR 108), none, some (mI a2), some (mI a3), none, none, some (mI l6), some (mI l7), some (mI (l7 + 1)), none]) (by decide) rfl ?_
    exact z_mask [true, false, true, true, false, false, true, true, true, false] rfl (ih.2.2 l6 l7 (l7 + 1) h G R (by omega) (by omega) (by omega) (by omega) (by omega) (by omega) (by omega) (by omega) (by omega) (by omega) (by omega) (by omega) (bI_in i0 rfl rfl (by omega) (by omega)) i1 i2 (by omega) (by omega))
set_option maxHeartbeats 4000000 in
set_option maxRecDepth 100000 in
theorem s_X12_year2_126 (h0 : m_H) (a1 a2 a3 : Int) (G0 : GI h0) (n : Nat) (ih : q_X12_year2 h0 a1 a2 a3 n) : ∀ (l6 l7 l8 : Int) (h : m_H), GI h → FR [109, 147] [(108, 0), (108, 1), (108, 60), (108, 61), (108, 62)] h0 h → 0 ≤ l6 → l6 ≤ 989901 → 0 ≤ l7 → l7 ≤ 31 → 1 ≤ l8 → l8 ≤ 32 → 0 ≤ a1 → a1 ≤ 1000000 → 0 ≤ a2 → a2 ≤ 5 → 1 ≤ a3 → a3 ≤ 99 → (bI a3 (fun w => h0 110 (60 + a2).toNat / h0 110 (72 + dr a1 w).toNat) (32 * l7.toNat + l8.toNat) l6 (h 108 61) (h 108 62)) → (∀ j : Nat, (j : Int) < 32 → h 147 j = dr a1 j) → (h 108 60 = 1) → (l7 < l8) → 67 * (32 - l7) + 2 * (32 - l8) + (1) ≤ ((n + 1 : Nat) : Int) → m_Z oF M_X12_year 126 [some (mR 108), none, some (mI a2), some (mI a3), none, none, some (mI l6), some (mI l7), some (mI l8), none] [] h (m_QI (P_X12_year2 h0 a1 a2 a3)) := by
  intro l6 l7 l8 h G R v0 v1 v2 v3 v4 v5 v6 v7 v8 v9 v10 v11 i0 i1 i2 i3 hr
  refine z_iload (M := M_X12_year) 126 dX12_year_126 rfl ?_
  refine z_bipush (M := M_X12_year) 128 dX12_year_128 ?_
  refine z_icmp_ge (M := M_X12_year) 130 dX12_year_130 191 rfl (fun c1 => ?_) (fun c1 => ?_)
  · refine z_iincN (M := M_X12_year) 191 dX12_year_191 (ls' := [some (mR 108), none, some (mI a2), some (mI a3), none, none, some (mI l6), some (mI (l7 + 1)), some (mI l8), none]) (by decide) rfl (by (unfold m_32; decide)) (by omega) (by omega) rfl ?_
    refine z_goto (M := M_X12_year) 194 dX12_year_194 113 rfl ?_
    exact z_mask [true, false, true, true, false, false, true, true, false, false] rfl (ih.2.1 l6 (l7 + 1) h G R (by omega) (by omega) (by omega) (by omega) (by omega) (by omega) (by omega) (by omega) (by omega) (by omega) (bI_out i0 (by omega) (by omega)) i1 i2 (by omega))
  · refine z_iload_n (M := M_X12_year) 133 dX12_year_133 rfl ?_
    refine z_aload_n (M := M_X12_year) 134 dX12_year_134 rfl ?_
    refine z_iload_n (M := M_X12_year) 135 dX12_year_135 rfl ?_
    refine z_aload_n (M := M_X12_year) 136 dX12_year_136 rfl ?_
    refine z_getR (M := M_X12_year) 137 dX12_year_137 f_X12_130 o_108 rfl (g_108_59 G) ?_
    refine z_iload (M := M_X12_year) 140 dX12_year_140 rfl ?_
    refine z_ialdG (M := M_X12_year) 142 dX12_year_142 o_147 (by omega) (by omega) (g_147 G (by omega)) (fun x2 ex2 ax2 bx2 => ?_)
    refine z_vI (M := M_X12_year) 143 dX12_year_143 t_X12_feetOf l_X12_521 (m_rr_of rfl) (rest := [mI a3]) (c_X12_feetOf2 h a2 x2 G ⟨by omega, by omega⟩ ⟨by omega, by omega⟩) o_108 rfl rfl rfl (Nat.le_of_ble_eq_true rfl) ⟨rfl, rfl⟩ (fun x3 h1 qx3 => ?_)
    obtain ⟨G1, S1, ax3, bx3, fx3_0⟩ := qx3
    have R1 := R.call S1 (by decide +kernel)
    refine z_aload_n (M := M_X12_year) 146 dX12_year_146 rfl ?_
    refine z_iload_n (M := M_X12_year) 147 dX12_year_147 rfl ?_
    refine z_aload_n (M := M_X12_year) 148 dX12_year_148 rfl ?_
    refine z_getR (M := M_X12_year) 149 dX12_year_149 f_X12_130 o_108 rfl (g_108_59 G1) ?_
    refine z_iload (M := M_X12_year) 152 dX12_year_152 rfl ?_
    refine z_ialdG (M := M_X12_year) 154 dX12_year_154 o_147 (by omega) (by omega) (g_147 G1 (by omega)) (fun x4 ex4 ax4 bx4 => ?_)
    refine z_vI (M := M_X12_year) 155 dX12_year_155 t_X12_feetOf l_X12_521 (m_rr_of rfl) (rest := [mI x3, mI a3]) (c_X12_feetOf2 h1 a2 x4 G1 ⟨by omega, by omega⟩ ⟨by omega, by omega⟩) o_108 rfl rfl rfl (Nat.le_of_ble_eq_true rfl) ⟨rfl, rfl⟩ (fun x5 h2 qx5 => ?_)
    obtain ⟨G2, S2, ax5, bx5, fx5_0⟩ := qx5
    have R2 := R1.call S2 (by decide +kernel)
    refine z_isubN (M := M_X12_year) 158 dX12_year_158 (by omega) (by omega) ?_
    have mb := mul_s (a := a3) (d := (x3 - x5)) (by omega) (by omega) (by omega) (by omega)
    refine z_imulN (M := M_X12_year) 159 dX12_year_159 (by omega) (by omega) ?_
    refine z_topBI (lo := (-989901)) (hi := 989901) ⟨by omega, by omega⟩ (fun x6 ex6 ax6 bx6 => ?_)
    refine z_istore (M := M_X12_year) 160 dX12_year_160 (ls' := [some (mR 108), none, some (mI a2), some (mI a3), none, none, some (mI l6), some (mI l7), some (mI l8), some (mI x6)]) (by decide) rfl ?_
    refine z_iload (M := M_X12_year) 162 dX12_year_162 rfl ?_
    refine z_iload (M := M_X12_year) 164 dX12_year_164 rfl ?_
    refine z_icmp_le (M := M_X12_year) 166 dX12_year_166 185 rfl (fun c7 => ?_) (fun c7 => ?_)
    · refine z_iincN (M := M_X12_year) 185 dX12_year_185 (ls' := [some (mR 108), none, some (mI a2), some (mI a3), none, none, some (mI l6), some (mI l7), some (mI (l8 + 1)), some (mI x6)]) (by decide) rfl (by (unfold m_32; decide)) (by omega) (by omega) rfl ?_
      refine z_goto (M := M_X12_year) 188 dX12_year_188 126 rfl ?_
      exact z_mask [true, false, true, true, false, false, true, true, true, false] rfl (ih.2.2 l6 l7 (l8 + 1) h2 G2 R2 (by omega) (by omega) (by omega) (by omega) (by omega) (by omega) (by omega) (by omega) (by omega) (by omega) (by omega) (by omega) (bI_no i0 ((S2 108 61 rfl).trans (S1 108 61 rfl)) ((S2 108 62 rfl).trans (S1 108 62 rfl)) (by omega) (by omega) (by omega) (by omega) (congr (congrArg HSub.hSub (fM_at R (fun _ => rfl) ex2 (i1 _ (by omega)) fx3_0)) (fM_at R1 (fun _ => rfl) ex4 ((S1 147 _ rfl).trans (i1 _ (by omega))) fx5_0)) (by omega)) (fun j hj => (S2 147 j rfl).trans ((S1 147 j rfl).trans (i1 j hj))) ((S2 108 60 rfl).trans ((S1 108 60 rfl).trans i2)) (by omega) (by omega))
    · refine z_iload (M := M_X12_year) 169 dX12_year_169 rfl ?_
      refine z_istore (M := M_X12_year) 171 dX12_year_171 (ls' := [some (mR 108), none, some (mI a2), some (mI a3), none, none, some (mI x6), some (mI l7), some (mI l8), some (mI x6)]) (by decide) rfl ?_
      refine z_aload_n (M := M_X12_year) 173 dX12_year_173 rfl ?_
      refine z_iload (M := M_X12_year) 174 dX12_year_174 rfl ?_
      refine z_putIH (M := M_X12_year) 176 dX12_year_176 p_X12_515 o_108 rfl (u_108_61 G2 (by omega) (by omega)) (R2.up rfl) (fun h3 E3 G3 R3 => ?_)
      refine z_aload_n (M := M_X12_year) 179 dX12_year_179 rfl ?_
      refine z_iload (M := M_X12_year) 180 dX12_year_180 rfl ?_
      refine z_putIH (M := M_X12_year) 182 dX12_year_182 p_X12_518 o_108 rfl (u_108_62 G3 (by omega) (by omega)) (R3.up rfl) (fun h4 E4 G4 R4 => ?_)
      refine z_iincN (M := M_X12_year) 185 dX12_year_185 (ls' := [some (mR 108), none, some (mI a2), some (mI a3), none, none, some (mI x6), some (mI l7), some (mI (l8 + 1)), some (mI x6)]) (by decide) rfl (by (unfold m_32; decide)) (by omega) (by omega) rfl ?_
      refine z_goto (M := M_X12_year) 188 dX12_year_188 126 rfl ?_
      exact z_mask [true, false, true, true, false, false, true, true, true, false] rfl (ih.2.2 x6 l7 (l8 + 1) h4 G4 R4 (by omega) (by omega) (by omega) (by omega) (by omega) (by omega) (by omega) (by omega) (by omega) (by omega) (by omega) (by omega) (bI_eq (bI_yes i0 (tl_e3 E3 E4) (upE E4) (by omega) (by omega) (by omega) (by omega) (congr (congrArg HSub.hSub (fM_at R (fun _ => rfl) ex2 (i1 _ (by omega)) fx3_0)) (fM_at R1 (fun _ => rfl) ex4 ((S1 147 _ rfl).trans (i1 _ (by omega))) fx5_0)) (by omega)) ex6) (fun j hj => (tl_o E4 (by decide) j).trans ((tl_o E3 (by decide) j).trans ((S2 147 j rfl).trans ((S1 147 j rfl).trans (i1 j hj))))) ((tl_s E4 (by decide)).trans ((tl_s E3 (by decide)).trans ((S2 108 60 rfl).trans ((S1 108 60 rfl).trans i2)))) (by omega) (by omega))
theorem a_X12_year2 (h0 : m_H) (a1 a2 a3 : Int) (G0 : GI h0) : ∀ n, q_X12_year2 h0 a1 a2 a3 n := by
  intro n
  induction n with
  | zero => unfold q_X12_year2; refine ⟨?_, ?_, ?_⟩ <;> (intros; omega)
  | succ n ih => exact ⟨s_X12_year2_49 h0 a1 a2 a3 G0 n ih, s_X12_year2_113 h0 a1 a2 a3 G0 n ih, s_X12_year2_126 h0 a1 a2 a3 G0 n ih⟩
set_option maxHeartbeats 4000000 in
set_option maxRecDepth 100000 in
theorem c_X12_year2 (h0 : m_H) (a1 a2 a3 : Int) (G0 : GI h0) : m_CI M_X12_year [mR 108, mI a1, mI a2, mI a3] h0 (P_X12_year2 h0 a1 a2 a3) := by
  refine m_CI_of ⟨by decide, rfl, by simp [m_arg, m_isL, M_X12_year], ⟨rfl, rfl⟩, rfl, rfl⟩ (ls := [some (mR 108), some (mI a1), some (mI a2), some (mI a3), none, none, none, none, none, none]) rfl ?_
  have ih := a_X12_year2 h0 a1 a2 a3 G0 2284
  refine z_ok (fun _ _ ok => ?_)
  have oa1 : m_32 a1 := ok 1 _ rfl
  unfold m_32 at oa1
  have oa2 : m_32 a2 := ok 2 _ rfl
  unfold m_32 at oa2
  have oa3 : m_32 a3 := ok 3 _ rfl
  unfold m_32 at oa3
  refine z_aload_n (M := M_X12_year) 0 dX12_year_0 rfl ?_
  refine z_iconst (M := M_X12_year) 1 dX12_year_1 ?_
  refine z_putIH (M := M_X12_year) 2 dX12_year_2 p_X12_133 o_108 rfl (u_108_0 G0) ((FR.rf (cs := [109, 147]) (ss := [(108, 0), (108, 1), (108, 60), (108, 61), (108, 62)]) (h := h0)).up rfl) (fun h1 E1 G1 R1 => ?_)
  refine z_iload_n (M := M_X12_year) 5 dX12_year_5 rfl ?_
  refine z_i2l (M := M_X12_year) 6 dX12_year_6 ?_
  refine z_lconst (M := M_X12_year) 7 dX12_year_7 (v := 0) ?_
  refine z_ldc2 (M := M_X12_year) 8 dX12_year_8 k_X12_241 ?_
  refine z_sI (M := M_X12_year) 11 dX12_year_11 t_X12_in l_X12_143 (m_rr_of rfl) (rest := []) (c_X12_in h1 a1 0 1000000 G1) rfl rfl (Nat.le_of_ble_eq_true rfl) ⟨rfl, rfl⟩ (fun x1 h2 qx1 => ?_)
  obtain ⟨rfl, ⟨rfl, cx1⟩ | ⟨rfl, cx1⟩⟩ := qx1
  · refine z_if_eq_F (M := M_X12_year) 14 dX12_year_14 36 rfl (by omega) ?_
    refine z_iload_n (M := M_X12_year) 17 dX12_year_17 rfl ?_
    refine z_sI (M := M_X12_year) 18 dX12_year_18 t_X12_isThing l_X12_166 (m_rr_of rfl) (rest := []) (c_X12_isThing h1 a2 G1) rfl rfl (Nat.le_of_ble_eq_true rfl) ⟨rfl, rfl⟩ (fun x2 h3 qx2 => ?_)
    obtain ⟨rfl, ⟨rfl, cx2⟩ | ⟨rfl, cx2⟩⟩ := qx2
    · refine z_if_eq_F (M := M_X12_year) 21 dX12_year_21 36 rfl (by omega) ?_
      refine z_iload_n (M := M_X12_year) 24 dX12_year_24 rfl ?_
      refine z_i2l (M := M_X12_year) 25 dX12_year_25 ?_
      refine z_lconst (M := M_X12_year) 26 dX12_year_26 (v := 1) ?_
      refine z_ldc2 (M := M_X12_year) 27 dX12_year_27 k_X12_180 ?_
      refine z_sI (M := M_X12_year) 30 dX12_year_30 t_X12_in l_X12_143 (m_rr_of rfl) (rest := []) (c_X12_in h1 a3 1 99 G1) rfl rfl (Nat.le_of_ble_eq_true rfl) ⟨rfl, rfl⟩ (fun x3 h4 qx3 => ?_)
      obtain ⟨rfl, ⟨rfl, cx3⟩ | ⟨rfl, cx3⟩⟩ := qx3
      · refine z_if_ne_T (M := M_X12_year) 33 dX12_year_33 42 rfl (by omega) ?_
        refine z_iload_n (M := M_X12_year) 42 dX12_year_42 rfl ?_
        refine z_i2l (M := M_X12_year) 43 dX12_year_43 ?_
        refine z_lstore (M := M_X12_year) 44 dX12_year_44 (ls' := [some (mR 108), some (mI a1), some (mI a2), some (mI a3), some (mJ a1), none, none, none, none, none]) (by decide) rfl ?_
        refine z_iconst (M := M_X12_year) 46 dX12_year_46 ?_
        refine z_istore (M := M_X12_year) 47 dX12_year_47 (ls' := [some (mR 108), some (mI a1), some (mI a2), some (mI a3), some (mJ a1), none, some (mI 0), none, none, none]) (by decide) rfl ?_
        exact z_mask [true, false, true, true, true, false, true, false, false, false] rfl (ih.1 a1 0 h1 G1 R1 (by omega) (by omega) (by omega) (by omega) (by omega) (by omega) (by omega) (by omega) (by omega) (by omega) rfl (fun j hj => by omega) (by omega))
      · refine z_if_ne_F (M := M_X12_year) 33 dX12_year_33 42 rfl (by omega) ?_
        refine z_aload_n (M := M_X12_year) 36 dX12_year_36 rfl ?_
        refine z_iconst (M := M_X12_year) 37 dX12_year_37 ?_
        refine z_vI (M := M_X12_year) 38 dX12_year_38 t_X12_answer l_X12_147 (m_rr_of rfl) (rest := []) (c_X12_answer h1 (-1) G1 ⟨by omega, by omega⟩) o_108 rfl rfl rfl (Nat.le_of_ble_eq_true rfl) ⟨rfl, rfl⟩ (fun x4 h5 qx4 => ?_)
        obtain ⟨G5, S5, rfl⟩ := qx4
        have R5 := R1.call S5 (by decide +kernel)
        exact z_retI (M := M_X12_year) 41 dX12_year_41 rfl ⟨G5, R5, Or.inl ⟨by omega, rfl, fun j => (S5 147 j rfl).trans (tl_o E1 (by decide) j), (S5 108 60 rfl).trans (tl_s E1 (by decide)), (S5 108 61 rfl).trans (tl_s E1 (by decide)), (S5 108 62 rfl).trans (tl_s E1 (by decide))⟩⟩
    · refine z_if_eq_T (M := M_X12_year) 21 dX12_year_21 36 rfl (by omega) ?_
      refine z_aload_n (M := M_X12_year) 36 dX12_year_36 rfl ?_
      refine z_iconst (M := M_X12_year) 37 dX12_year_37 ?_
      refine z_vI (M := M_X12_year) 38 dX12_year_38 t_X12_answer l_X12_147 (m_rr_of rfl) (rest := []) (c_X12_answer h1 (-1) G1 ⟨by omega, by omega⟩) o_108 rfl rfl rfl (Nat.le_of_ble_eq_true rfl) ⟨rfl, rfl⟩ (fun x5 h6 qx5 => ?_)
      obtain ⟨G6, S6, rfl⟩ := qx5
      have R6 := R1.call S6 (by decide +kernel)
      exact z_retI (M := M_X12_year) 41 dX12_year_41 rfl ⟨G6, R6, Or.inl ⟨by omega, rfl, fun j => (S6 147 j rfl).trans (tl_o E1 (by decide) j), (S6 108 60 rfl).trans (tl_s E1 (by decide)), (S6 108 61 rfl).trans (tl_s E1 (by decide)), (S6 108 62 rfl).trans (tl_s E1 (by decide))⟩⟩
  · refine z_if_eq_T (M := M_X12_year) 14 dX12_year_14 36 rfl (by omega) ?_
    refine z_aload_n (M := M_X12_year) 36 dX12_year_36 rfl ?_
    refine z_iconst (M := M_X12_year) 37 dX12_year_37 ?_
    refine z_vI (M := M_X12_year) 38 dX12_year_38 t_X12_answer l_X12_147 (m_rr_of rfl) (rest := []) (c_X12_answer h1 (-1) G1 ⟨by omega, by omega⟩) o_108 rfl rfl rfl (Nat.le_of_ble_eq_true rfl) ⟨rfl, rfl⟩ (fun x6 h7 qx6 => ?_)
    obtain ⟨G7, S7, rfl⟩ := qx6
    have R7 := R1.call S7 (by decide +kernel)
    exact z_retI (M := M_X12_year) 41 dX12_year_41 rfl ⟨G7, R7, Or.inl ⟨by omega, rfl, fun j => (S7 147 j rfl).trans (tl_o E1 (by decide) j), (S7 108 60 rfl).trans (tl_s E1 (by decide)), (S7 108 61 rfl).trans (tl_s E1 (by decide)), (S7 108 62 rfl).trans (tl_s E1 (by decide))⟩⟩
/-! the relation of what was drawn -/
def DR (h : m_H) : Prop := h 105 1 = h 108 60 ∧ (h 105 1 ≠ 0 → h 105 2 = h 108 61 ∧ h 105 3 = h 108 62 ∧ ∀ j, j < 32 → h 106 j = h 147 j)
theorem DR.cls {h h' : m_H} {cs : List Nat} {ss : List (Nat × Nat)} (R : DR h) (S : FR cs ss h h') (o1 : out 105 106 cs ss = true) (o2 : fr cs ss 108 60 = false ∧ fr cs ss 108 61 = false ∧ fr cs ss 108 62 = false) (o3 : out 147 147 cs ss = true) : DR h' := by
  have f : ∀ c, 105 ≤ c → c ≤ 106 → ∀ j, h' c j = h c j := fun c u v j => S _ _ (fr_out o1 u v j)
  have f3 : ∀ j, h' 147 j = h 147 j := fun j => S _ _ (fr_out o3 (Nat.le_refl _) (Nat.le_refl _) j)
  unfold DR
  rw [f 105 (by decide) (by decide), f 105 (by decide) (by decide), f 105 (by decide) (by decide), S _ _ o2.1, S _ _ o2.2.1, S _ _ o2.2.2]
  refine ⟨R.1, fun q => ⟨(R.2 q).1, (R.2 q).2.1, fun j hj => ?_⟩⟩
  rw [f 106 (by decide) (by decide), f3]; exact (R.2 q).2.2 j hj
theorem DR.year {h h1 h2 : m_H} {cs cs' : List Nat} {ss ss' : List (Nat × Nat)} {a1 a2 a3 x y : Int} (R : DR h) (W : LW 1 h (h 110)) (S1 : FR cs ss h h1) (S2 : FR cs' ss' h1 h2) (A : yrQ (fun k => h 8 a2.toNat / h 8 (12 + k).toNat) 106 105 1 a1 a2 a3 x h h1) (B : yrQ (fun k => h1 110 (60 + a2).toNat / h1 110 (72 + k).toNat) 147 108 60 a1 a2 a3 y h1 h2) (o1 : out 108 147 cs ss = true) (o2 : out 105 106 cs' ss' = true) : DR h2 ∧ x = y := by
  have f : ∀ c, 108 ≤ c → c ≤ 147 → ∀ j, h1 c j = h c j := fun c u v j => S1 _ _ (fr_out o1 u v j)
  have g : ∀ c, 105 ≤ c → c ≤ 106 → ∀ j, h2 c j = h1 c j := fun c u v j => S2 _ _ (fr_out o2 u v j)
  by_cases q : a1 < 0 ∨ 1000000 < a1 ∨ a2 < 0 ∨ 5 < a2 ∨ a3 < 1 ∨ 99 < a3
  · rcases A with ⟨_, ax, a, b, c, d⟩ | ⟨a, b, c, d, e, f, _⟩
    · rcases B with ⟨_, bx, a', b', c', d'⟩ | ⟨a, b, c, d, e, f, _⟩
      · refine ⟨?_, by omega⟩
        unfold DR
        rw [g 105 (by decide) (by decide), g 105 (by decide) (by decide), g 105 (by decide) (by decide), b, c, d, b', c', d', f 108 (by decide) (by decide), f 108 (by decide) (by decide), f 108 (by decide) (by decide)]
        refine ⟨R.1, fun q => ⟨(R.2 q).1, (R.2 q).2.1, fun j hj => ?_⟩⟩
        rw [g 106 (by decide) (by decide), a, a', f 147 (by decide) (by decide)]; exact (R.2 q).2.2 j hj
      · omega
    · omega
  · rcases A with ⟨a, _⟩ | ⟨a, b, c, d, e, f', aw, a0, A⟩
    · exact absurd a q
    rcases B with ⟨b, _⟩ | ⟨_, _, _, _, _, _, bw, b0, B⟩
    · exact absurd b q
    have e : bs (fun w => h1 110 (60 + a2).toNat / h1 110 (72 + dr a1 w).toNat) 1024 = bs (fun w => h 8 a2.toNat / h 8 (12 + dr a1 w).toNat) 1024 := bs_congr (fun w _ => by
      have z := dr_b a1 w
      have i1 : (60 + a2).toNat = 60 + a2.toNat := by omega
      have i2 : (72 + dr a1 w).toNat = 60 + (12 + dr a1 w).toNat := by omega
      have e1 := W a2.toNat (by omega)
      have e2 := W (12 + dr a1 w).toNat (by omega)
      rw [i1, i2, f 110 (by decide) (by decide), f 110 (by decide) (by decide), ← e1, ← e2]) 1024 (Nat.le_refl _)
    obtain ⟨A1, A2, A3⟩ := A
    obtain ⟨B1, B2, B3⟩ := B
    have e' : bs (fun w => (fun k => h1 110 (60 + a2).toNat / h1 110 (72 + k).toNat) (dr a1 w)) 1024 = bs (fun w => (fun k => h 8 a2.toNat / h 8 (12 + k).toNat) (dr a1 w)) 1024 := e
    rw [e'] at B1 B2 B3
    refine ⟨⟨?_, fun _ => ⟨?_, ?_, fun j hj => ?_⟩⟩, A1.trans B1.symm⟩
    · rw [g 105 (by decide) (by decide), a0, b0]
    · rw [g 105 (by decide) (by decide)]; exact A2.trans B2.symm
    · rw [g 105 (by decide) (by decide)]; exact A3.trans B3.symm
    · rw [g 106 (by decide) (by decide), aw j hj, bw j hj]
theorem DR.trade {h h1 : m_H} {cs : List Nat} {ss : List (Nat × Nat)} {a1 x y : Int} (R : DR h) (S1 : FR cs ss h h1) (A : trQ 106 105 1 a1 x h) (B : trQ 147 108 60 a1 y h1) (o1 : out 108 147 cs ss = true) : x = y := by
  have f : ∀ c, 108 ≤ c → c ≤ 147 → ∀ j, h1 c j = h c j := fun c u v j => S1 _ _ (fr_out o1 u v j)
  unfold trQ at B
  rw [f 108 (by decide) (by decide), f 108 (by decide) (by decide), f 108 (by decide) (by decide), f 147 (by decide) (by decide), ← R.1] at B
  by_cases q : h 105 1 = 0 ∨ a1 < 0 ∨ 33 < a1
  · rcases A with ⟨_, a⟩ | ⟨a, b, _⟩ | ⟨a, b, _⟩ | ⟨a, b, c, _⟩
    · rcases B with ⟨_, b⟩ | ⟨a, b, _⟩ | ⟨a, b, _⟩ | ⟨a, b, c, _⟩ <;> omega
    · omega
    · omega
    · omega
  · have n : h 105 1 ≠ 0 := fun z => q (Or.inl z)
    obtain ⟨r1, r2, r3⟩ := R.2 n
    rcases A with ⟨a, _⟩ | ⟨_, a, e⟩ | ⟨_, a, e⟩ | ⟨_, a, b, e⟩
    · exact absurd a q
    · rcases B with ⟨a, _⟩ | ⟨_, _, e'⟩ | ⟨_, b, _⟩ | ⟨_, b, _, _⟩
      · exact absurd a q
      · exact e.symm.trans (r1.trans e')
      · omega
      · omega
    · rcases B with ⟨a, _⟩ | ⟨_, b, _⟩ | ⟨_, _, e'⟩ | ⟨_, b, _, _⟩
      · exact absurd a q
      · omega
      · exact e.symm.trans (r2.trans e')
      · omega
    · rcases B with ⟨a, _⟩ | ⟨_, b, _⟩ | ⟨_, b, _⟩ | ⟨_, _, _, e'⟩
      · exact absurd a q
      · omega
      · omega
      · exact e.symm.trans ((r3 _ (by omega)).trans e')
