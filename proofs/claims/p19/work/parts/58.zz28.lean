/-! the most that one length can be through another, as the class finds it -/
def hiV (h : m_H) (i k : Int) : Int := if i < 12 then h 39 (i * 4 + k).toNat else if i - 12 = k then 1 else 0
def loV (h : m_H) (i k : Int) : Int := if i < 12 then h 41 (i * 4 + k).toNat else if i - 12 = k then 1 else 0
def hvI (f l : Int) : Int := if f < 12 then 1 else if 12 ≤ l then 1 else 2
def cnd (h : m_H) (a b p : Int) : Int × Int × Int := (hiV h a (p / 4) * (h (77 + p.toNat) 0 * hvI a b), loV h b (p % 4) * (h (77 + p.toNat) 1 * hvI b a), if h (77 + p.toNat) 2 = 1 ∨ (a < 12 ∧ h 40 (a * 4 + p / 4).toNat = 1) then 1 else 0)
def lmS (h : m_H) (a b p : Int) (X : Int × Int × Int) : Int × Int × Int := if hiV h a (p / 4) = 0 ∨ loV h b (p % 4) = 0 ∨ h (77 + p.toNat) 1 = 0 then X else lsB X (cnd h a b p)
theorem hv_b {f l : Int} : 1 ≤ hvI f l ∧ hvI f l ≤ 2 := by unfold hvI; split <;> (try split) <;> omega
theorem hi_b {h : m_H} {i k : Int} (b : bkH h) (i0 : 0 ≤ i) (k0 : 0 ≤ k) (k3 : k ≤ 3) : (0 ≤ hiV h i k ∧ hiV h i k ≤ 200) ∧ (12 ≤ i → hiV h i k ≤ 1) := by
  unfold hiV
  by_cases g : i < 12
  · rw [if_pos g]
    have z := b (i * 4 + k).toNat (by omega)
    exact ⟨z.1, fun y => by omega⟩
  · rw [if_neg g]
    split <;> exact ⟨by omega, fun _ => by omega⟩
theorem lo_b {h : m_H} {i k : Int} (b : bkH h) (i0 : 0 ≤ i) (k0 : 0 ≤ k) (k3 : k ≤ 3) : (0 ≤ loV h i k ∧ loV h i k ≤ 200) ∧ (12 ≤ i → loV h i k ≤ 1) := by
  unfold loV
  by_cases g : i < 12
  · rw [if_pos g]
    have z := b (i * 4 + k).toNat (by omega)
    exact ⟨z.2, fun y => by omega⟩
  · rw [if_neg g]
    split <;> exact ⟨by omega, fun _ => by omega⟩
theorem lim_b {x4 x12 x13 x14 x15 i l : Int} (h4 : 0 ≤ x4 ∧ x4 ≤ 200) (h12 : 0 ≤ x12 ∧ x12 ≤ 8000000) (c : 12 ≤ i → x4 ≤ 1) (e13 : hvI i l = x13) (e14 : x12 * x13 = x14) (e15 : x4 * x14 = x15) : 0 ≤ x15 ∧ x15 ≤ 1600000000 := by
  by_cases g : i < 12
  · unfold hvI at e13
    rw [if_pos g] at e13
    subst e13
    rw [Int.mul_one] at e14
    subst e14
    have m := mul_bd h4.1 h4.2 h12.1 h12.2
    omega
  · have h13 : 1 ≤ x13 ∧ x13 ≤ 2 := e13 ▸ hv_b
    have m := mul_bd (x := x12) (y := x13) (X := 8000000) (Y := 2) h12.1 h12.2 (by omega) (by omega)
    have m2 := mul_bd (x := x4) (y := x14) (X := 1) (Y := 16000000) h4.1 (c (by omega)) (by omega) (by omega)
    omega
theorem lm_no {h : m_H} {a b p : Int} {X : Int × Int × Int} {c : Nat} (q : hiV h a (p / 4) = 0 ∨ loV h b (p % 4) = 0 ∨ h (77 + p.toNat) 1 = 0) (e : bd h c = X) : bN c (lmS h a b p X) h h := by
  unfold lmS
  rw [if_pos q, ← e]
  exact ⟨fun _ _ => rfl, rfl⟩
theorem lm_ls {h h' : m_H} {a b p x2 x3 x4 x5 x8 x10 x12 x13 x14 x15 x17 x18 x19 o : Int} {c : Nat} (e2 : p / 4 = x2) (e3 : p % 4 = x3) (e4 : hiV h a x2 = x4) (e5 : loV h b x3 = x5) (c4 : x4 ≠ 0) (c5 : x5 ≠ 0) (e8 : h (77 + p.toNat) 1 = x8) (c8 : x8 ≠ 0) (e12 : h (77 + p.toNat) 0 = x12) (e13 : hvI a b = x13) (e14 : x12 * x13 = x14) (e15 : x4 * x14 = x15) (e17 : hvI b a = x17) (e18 : x8 * x17 = x18) (e19 : x5 * x18 = x19) (e10 : h (77 + p.toNat) 2 = x10) (eo : (if x10 = 1 ∨ (a < 12 ∧ h 40 (a * 4 + x2).toNat = 1) then (1 : Int) else 0) = o) (B : bN c (lsB (bd h c) (x15, x19, o)) h h') : bN c (lmS h a b p (bd h c)) h h' := by
  have k : cnd h a b p = (x15, x19, o) := by
    unfold cnd
    rw [e2, e3, e4, e5, e12, e8, e10, e13, e14, e15, e17, e18, e19, eo]
  unfold lmS
  rw [e2, e3, e4, e5, e8, if_neg (by omega), k]
  exact B
def lmI (a b : Int) : Int × Int × Int := if a = b ∨ (b < 6 ∧ a = b + 6) then (1, 1, 0) else (1, 0, 1)
def lmN (h : m_H) (a b : Int) : Nat → Int × Int × Int
  | 0 => lmI a b
  | p + 1 => lmS h a b (p : Int) (lmN h a b p)
theorem lmI_b {a b : Int} : pBb 1600000000 (lmI a b) := by
  unfold lmI; split <;> exact ⟨⟨by decide, by decide⟩, by decide, by decide⟩
theorem cnd_b {h : m_H} {a b p : Int} (k : bkH h) (r : bkR h) (a0 : 0 ≤ a) (b0 : 0 ≤ b) (p0 : 0 ≤ p) (p1 : p ≤ 15) : (0 ≤ (cnd h a b p).1 ∧ (cnd h a b p).1 ≤ 1600000000) ∧ 0 ≤ (cnd h a b p).2.1 ∧ (cnd h a b p).2.1 ≤ 1600000000 := by
  have z := r p.toNat (by omega)
  unfold pBb bd at z
  simp only at z
  have y1 := hi_b (i := a) (k := p / 4) k a0 (by omega) (by omega)
  have y2 := lo_b (i := b) (k := p % 4) k b0 (by omega) (by omega)
  exact ⟨lim_b y1.1 ⟨by omega, z.1.2⟩ y1.2 rfl rfl rfl, lim_b y2.1 ⟨z.2.1, z.2.2⟩ y2.2 rfl rfl rfl⟩
theorem cnd_p {h : m_H} {a b p : Int} (k : bkH h) (r : bkR h) (a0 : 0 ≤ a) (b0 : 0 ≤ b) (p0 : 0 ≤ p) (p1 : p ≤ 15) (q : ¬ (hiV h a (p / 4) = 0 ∨ loV h b (p % 4) = 0 ∨ h (77 + p.toNat) 1 = 0)) : 0 < (cnd h a b p).1 ∧ 0 < (cnd h a b p).2.1 := by
  have z := r p.toNat (by omega)
  unfold pBb bd at z
  simp only at z
  have y1 := hi_b (i := a) (k := p / 4) k a0 (by omega) (by omega)
  have y2 := lo_b (i := b) (k := p % 4) k b0 (by omega) (by omega)
  have v1 := hv_b (f := a) (l := b)
  have v2 := hv_b (f := b) (l := a)
  exact ⟨Int.mul_pos (by omega) (Int.mul_pos (by omega) (by omega)), Int.mul_pos (by omega) (Int.mul_pos (by omega) (by omega))⟩
theorem lmS_b {h : m_H} {a b p : Int} {X : Int × Int × Int} (k : bkH h) (r : bkR h) (a0 : 0 ≤ a) (b0 : 0 ≤ b) (p0 : 0 ≤ p) (p1 : p ≤ 15) (x : pBb 1600000000 X) : pBb 1600000000 (lmS h a b p X) := by
  unfold lmS
  by_cases q : hiV h a (p / 4) = 0 ∨ loV h b (p % 4) = 0 ∨ h (77 + p.toNat) 1 = 0
  · rw [if_pos q]; exact x
  · rw [if_neg q]
    have c := cnd_b (a := a) (b := b) (p := p) k r a0 b0 p0 p1
    exact pBb_ls x ⟨⟨(cnd_p k r a0 b0 p0 p1 q).1, c.1.2⟩, c.2⟩
theorem lmN_b {h : m_H} {a b : Int} (k : bkH h) (r : bkR h) (a0 : 0 ≤ a) (b0 : 0 ≤ b) : ∀ n, n ≤ 16 → pBb 1600000000 (lmN h a b n)
  | 0, _ => lmI_b
  | n + 1, hn => lmS_b k r a0 b0 (by omega) (by omega) (lmN_b k r a0 b0 n (by omega))
/-- other cells than the result's: the same values -/
theorem cnd_c {h h' : m_H} {a b p : Int} {c : Nat} (e : ∀ d, d ≠ c → h' d = h d) (hc : 93 < c) (p0 : 0 ≤ p) (p1 : p ≤ 15) (X : Int × Int × Int) : lmS h' a b p X = lmS h a b p X := by
  unfold lmS cnd hiV loV
  rw [e 39 (by omega), e 40 (by omega), e 41 (by omega), e (77 + p.toNat) (by omega)]
theorem bkc {h h' : m_H} {c : Nat} (e : ∀ d, d ≠ c → h' d = h d) (hc : 93 < c) : (bkH h → bkH h') ∧ (bkR h → bkR h') := by
  refine ⟨fun k j hj => ?_, fun k p hp => ?_⟩
  · rw [e 39 (by omega), e 41 (by omega)]; exact k j hj
  · have z := k p hp
    unfold bd at z ⊢
    rw [e (77 + p) (by omega)]; exact z
abbrev P_X9_highOf2 (h0 : m_H) (a1 a2 : Int) : Int → m_H → Prop := fun x h' => GI h' ∧ FR [] [] h0 h' ∧ hiV h0 a1 a2 = x
set_option maxHeartbeats 4000000 in
set_option maxRecDepth 100000 in
theorem c_X9_highOf2 (h0 : m_H) (a1 a2 : Int) (G0 : GI h0) (pa1 : 0 ≤ a1 ∧ a1 ≤ 15) (pa2 : 0 ≤ a2 ∧ a2 ≤ 3) : m_CI M_X9_highOf [mR 38, mI a1, mI a2] h0 (P_X9_highOf2 h0 a1 a2) := by
  refine m_CI_of ⟨by decide, rfl, by simp [m_arg, m_isL, M_X9_highOf], ⟨rfl, rfl⟩, rfl, rfl⟩ (ls := [some (mR 38), some (mI a1), some (mI a2)]) rfl ?_
  refine z_iload_n (M := M_X9_highOf) 0 dX9_highOf_0 rfl ?_
  refine z_bipush (M := M_X9_highOf) 1 dX9_highOf_1 ?_
  refine z_icmp_lt (M := M_X9_highOf) 3 dX9_highOf_3 20 rfl (fun c1 => ?_) (fun c1 => ?_)
  · refine z_aload_n (M := M_X9_highOf) 20 dX9_highOf_20 rfl ?_
    refine z_getR (M := M_X9_highOf) 21 dX9_highOf_21 f_X9_9 o_38 rfl (g_38_0 G0) ?_
    refine z_iload_n (M := M_X9_highOf) 24 dX9_highOf_24 rfl ?_
    refine z_iconst (M := M_X9_highOf) 25 dX9_highOf_25 ?_
    refine z_imulN (M := M_X9_highOf) 26 dX9_highOf_26 (by omega) (by omega) ?_
    refine z_iload_n (M := M_X9_highOf) 27 dX9_highOf_27 rfl ?_
    refine z_iaddN (M := M_X9_highOf) 28 dX9_highOf_28 (by omega) (by omega) ?_
    refine z_ialdV (M := M_X9_highOf) 29 dX9_highOf_29 o_39 (by omega) (by omega) (fun x2 ex2 => ?_)
    refine z_ok (fun ox2 _ _ => ?_)
    have ox2 := ox2.1; unfold m_ok m_32 at ox2
    exact z_retI (M := M_X9_highOf) 30 dX9_highOf_30 rfl ⟨G0, (FR.rf (cs := []) (ss := []) (h := h0)), by unfold hiV; rw [if_pos c1]; exact ex2⟩
  · refine z_iload_n (M := M_X9_highOf) 6 dX9_highOf_6 rfl ?_
    refine z_bipush (M := M_X9_highOf) 7 dX9_highOf_7 ?_
    refine z_isubN (M := M_X9_highOf) 9 dX9_highOf_9 (by omega) (by omega) ?_
    refine z_iload_n (M := M_X9_highOf) 10 dX9_highOf_10 rfl ?_
    refine z_icmp_ne (M := M_X9_highOf) 11 dX9_highOf_11 18 rfl (fun c3 => ?_) (fun c3 => ?_)
    · refine z_iconst (M := M_X9_highOf) 18 dX9_highOf_18 ?_
      exact z_retI (M := M_X9_highOf) 19 dX9_highOf_19 rfl ⟨G0, (FR.rf (cs := []) (ss := []) (h := h0)), by unfold hiV; rw [if_neg c1, if_neg c3]⟩
    · refine z_iconst (M := M_X9_highOf) 14 dX9_highOf_14 ?_
      refine z_goto (M := M_X9_highOf) 15 dX9_highOf_15 19 rfl ?_
      exact z_retI (M := M_X9_highOf) 19 dX9_highOf_19 rfl ⟨G0, (FR.rf (cs := []) (ss := []) (h := h0)), by unfold hiV; rw [if_neg c1, if_pos (by omega)]⟩
abbrev P_X9_lowOf2 (h0 : m_H) (a1 a2 : Int) : Int → m_H → Prop := fun x h' => GI h' ∧ FR [] [] h0 h' ∧ loV h0 a1 a2 = x
set_option maxHeartbeats 4000000 in
set_option maxRecDepth 100000 in
theorem c_X9_lowOf2 (h0 : m_H) (a1 a2 : Int) (G0 : GI h0) (pa1 : 0 ≤ a1 ∧ a1 ≤ 15) (pa2 : 0 ≤ a2 ∧ a2 ≤ 3) : m_CI M_X9_lowOf [mR 38, mI a1, mI a2] h0 (P_X9_lowOf2 h0 a1 a2) := by
  refine m_CI_of ⟨by decide, rfl, by simp [m_arg, m_isL, M_X9_lowOf], ⟨rfl, rfl⟩, rfl, rfl⟩ (ls := [some (mR 38), some (mI a1), some (mI a2)]) rfl ?_
  refine z_iload_n (M := M_X9_lowOf) 0 dX9_lowOf_0 rfl ?_
  refine z_bipush (M := M_X9_lowOf) 1 dX9_lowOf_1 ?_
  refine z_icmp_lt (M := M_X9_lowOf) 3 dX9_lowOf_3 20 rfl (fun c1 => ?_) (fun c1 => ?_)
  · refine z_aload_n (M := M_X9_lowOf) 20 dX9_lowOf_20 rfl ?_
    refine z_getR (M := M_X9_lowOf) 21 dX9_lowOf_21 f_X9_19 o_38 rfl (g_38_2 G0) ?_
    refine z_iload_n (M := M_X9_lowOf) 24 dX9_lowOf_24 rfl ?_
    refine z_iconst (M := M_X9_lowOf) 25 dX9_lowOf_25 ?_
    refine z_imulN (M := M_X9_lowOf) 26 dX9_lowOf_26 (by omega) (by omega) ?_
    refine z_iload_n (M := M_X9_lowOf) 27 dX9_lowOf_27 rfl ?_
    refine z_iaddN (M := M_X9_lowOf) 28 dX9_lowOf_28 (by omega) (by omega) ?_
    refine z_ialdV (M := M_X9_lowOf) 29 dX9_lowOf_29 o_41 (by omega) (by omega) (fun x2 ex2 => ?_)
    refine z_ok (fun ox2 _ _ => ?_)
    have ox2 := ox2.1; unfold m_ok m_32 at ox2
    exact z_retI (M := M_X9_lowOf) 30 dX9_lowOf_30 rfl ⟨G0, (FR.rf (cs := []) (ss := []) (h := h0)), by unfold loV; rw [if_pos c1]; exact ex2⟩
  · refine z_iload_n (M := M_X9_lowOf) 6 dX9_lowOf_6 rfl ?_
    refine z_bipush (M := M_X9_lowOf) 7 dX9_lowOf_7 ?_
    refine z_isubN (M := M_X9_lowOf) 9 dX9_lowOf_9 (by omega) (by omega) ?_
    refine z_iload_n (M := M_X9_lowOf) 10 dX9_lowOf_10 rfl ?_
    refine z_icmp_ne (M := M_X9_lowOf) 11 dX9_lowOf_11 18 rfl (fun c3 => ?_) (fun c3 => ?_)
    · refine z_iconst (M := M_X9_lowOf) 18 dX9_lowOf_18 ?_
      exact z_retI (M := M_X9_lowOf) 19 dX9_lowOf_19 rfl ⟨G0, (FR.rf (cs := []) (ss := []) (h := h0)), by unfold loV; rw [if_neg c1, if_neg c3]⟩
    · refine z_iconst (M := M_X9_lowOf) 14 dX9_lowOf_14 ?_
      refine z_goto (M := M_X9_lowOf) 15 dX9_lowOf_15 19 rfl ?_
      exact z_retI (M := M_X9_lowOf) 19 dX9_lowOf_19 rfl ⟨G0, (FR.rf (cs := []) (ss := []) (h := h0)), by unfold loV; rw [if_neg c1, if_pos (by omega)]⟩
abbrev P_X9_halvesIn2 (h0 : m_H) (a0 a1 : Int) : Int → m_H → Prop := fun x h' => GI h' ∧ FR [] [] h0 h' ∧ 1 ≤ x ∧ x ≤ 2 ∧ hvI a0 a1 = x
set_option maxHeartbeats 4000000 in
set_option maxRecDepth 100000 in
theorem c_X9_halvesIn2 (h0 : m_H) (a0 a1 : Int) (G0 : GI h0) : m_CI M_X9_halvesIn [mI a0, mI a1] h0 (P_X9_halvesIn2 h0 a0 a1) := by
  refine m_CI_of ⟨by decide, rfl, by simp [m_arg, m_isL, M_X9_halvesIn], ⟨rfl, rfl⟩, rfl, rfl⟩ (ls := [some (mI a0), some (mI a1)]) rfl ?_
  refine z_ok (fun _ _ ok => ?_)
  have oa0 : m_32 a0 := ok 0 _ rfl
  unfold m_32 at oa0
  have oa1 : m_32 a1 := ok 1 _ rfl
  unfold m_32 at oa1
  refine z_iload_n (M := M_X9_halvesIn) 0 dX9_halvesIn_0 rfl ?_
  refine z_bipush (M := M_X9_halvesIn) 1 dX9_halvesIn_1 ?_
  refine z_icmp_lt (M := M_X9_halvesIn) 3 dX9_halvesIn_3 16 rfl (fun c1 => ?_) (fun c1 => ?_)
  · refine z_iconst (M := M_X9_halvesIn) 16 dX9_halvesIn_16 ?_
    exact z_retI (M := M_X9_halvesIn) 17 dX9_halvesIn_17 rfl ⟨G0, (FR.rf (cs := []) (ss := []) (h := h0)), by omega, by omega, by unfold hvI; rw [if_pos c1]⟩
  · refine z_iload_n (M := M_X9_halvesIn) 6 dX9_halvesIn_6 rfl ?_
    refine z_bipush (M := M_X9_halvesIn) 7 dX9_halvesIn_7 ?_
    refine z_icmp_ge (M := M_X9_halvesIn) 9 dX9_halvesIn_9 16 rfl (fun c2 => ?_) (fun c2 => ?_)
    · refine z_iconst (M := M_X9_halvesIn) 16 dX9_halvesIn_16 ?_
      exact z_retI (M := M_X9_halvesIn) 17 dX9_halvesIn_17 rfl ⟨G0, (FR.rf (cs := []) (ss := []) (h := h0)), by omega, by omega, by unfold hvI; rw [if_neg c1, if_pos c2]⟩
    · refine z_iconst (M := M_X9_halvesIn) 12 dX9_halvesIn_12 ?_
      refine z_goto (M := M_X9_halvesIn) 13 dX9_halvesIn_13 17 rfl ?_
      exact z_retI (M := M_X9_halvesIn) 17 dX9_halvesIn_17 rfl ⟨G0, (FR.rf (cs := []) (ss := []) (h := h0)), by omega, by omega, by unfold hvI; rw [if_neg c1, if_neg c2]⟩
abbrev P_X9_limitBy2 (h0 : m_H) (b : Nat) (a1 a2 a3 : Int) : m_H → Prop := fun h' => GI h' ∧ FR (csB ++ []) [] h0 h' ∧ bN b (lmS h0 a1 a2 a3 (bd h0 b)) h0 h'
set_option maxHeartbeats 4000000 in
set_option maxRecDepth 100000 in
theorem c_X9_limitBy2 (h0 : m_H) (b : Nat) (a1 a2 a3 : Int) (hb : isB b) (G0 : GI h0) (pa1 : 0 ≤ a1 ∧ a1 ≤ 15) (pa2 : 0 ≤ a2 ∧ a2 ≤ 15) (pa3 : 0 ≤ a3 ∧ a3 ≤ 15) (hH : bkH h0) (hr : bkR h0) (hX : pBb 1600000000 (bd h0 b)) : m_CV M_X9_limitBy [mR 38, mI a1, mI a2, mI a3, mR b] h0 (P_X9_limitBy2 h0 b a1 a2 a3) := by
  refine m_CV_of ⟨by decide, rfl, by simp [m_arg, m_isL, M_X9_limitBy], ⟨rfl, rfl⟩, rfl, rfl⟩ (ls := [some (mR 38), some (mI a1), some (mI a2), some (mI a3), some (mR b), none, none, none, none, none, none, none, none]) rfl ?_
  refine z_aload_n (M := M_X9_limitBy) 0 dX9_limitBy_0 rfl ?_
  refine z_getR (M := M_X9_limitBy) 1 dX9_limitBy_1 f_X9_33 o_38 rfl (g_38_5 G0) ?_
  refine z_iload_n (M := M_X9_limitBy) 4 dX9_limitBy_4 rfl ?_
  have hb1 := isB_76 (i := a3) (by omega) (by omega)
  refine z_aaldB (M := M_X9_limitBy) 5 dX9_limitBy_5 o_76 (by omega) (by omega) (g_76 G0 (by omega)) ?_
  refine z_astore (M := M_X9_limitBy) 6 dX9_limitBy_6 (ls' := [some (mR 38), some (mI a1), some (mI a2), some (mI a3), some (mR b), some (mR (77 + (a3).toNat)), none, none, none, none, none, none, none]) (by decide) rfl ?_
  refine z_iload_n (M := M_X9_limitBy) 8 dX9_limitBy_8 rfl ?_
  refine z_iconst (M := M_X9_limitBy) 9 dX9_limitBy_9 ?_
  refine z_idivN (M := M_X9_limitBy) 10 dX9_limitBy_10 (by omega) (by omega) ?_
  refine z_topBI (lo := 0) (hi := 3) ⟨by omega, by omega⟩ (fun x2 ex2 ax2 bx2 => ?_)
  refine z_istore (M := M_X9_limitBy) 11 dX9_limitBy_11 (ls' := [some (mR 38), some (mI a1), some (mI a2), some (mI a3), some (mR b), some (mR (77 + (a3).toNat)), some (mI x2), none, none, none, none, none, none]) (by decide) rfl ?_
  refine z_iload_n (M := M_X9_limitBy) 13 dX9_limitBy_13 rfl ?_
  refine z_iconst (M := M_X9_limitBy) 14 dX9_limitBy_14 ?_
  refine z_iremN (M := M_X9_limitBy) 15 dX9_limitBy_15 (by omega) (by omega) ?_
  refine z_topBI (lo := 0) (hi := 3) ⟨by omega, by omega⟩ (fun x3 ex3 ax3 bx3 => ?_)
  refine z_istore (M := M_X9_limitBy) 16 dX9_limitBy_16 (ls' := [some (mR 38), some (mI a1), some (mI a2), some (mI a3), some (mR b), some (mR (77 + (a3).toNat)), some (mI x2), some (mI x3), none, none, none, none, none]) (by decide) rfl ?_
  refine z_aload_n (M := M_X9_limitBy) 18 dX9_limitBy_18 rfl ?_
  refine z_iload_n (M := M_X9_limitBy) 19 dX9_limitBy_19 rfl ?_
  refine z_iload (M := M_X9_limitBy) 20 dX9_limitBy_20 rfl ?_
  refine z_vI (M := M_X9_limitBy) 22 dX9_limitBy_22 t_X9_highOf l_X9_142 (m_rr_of rfl) (rest := []) (c_X9_highOf2 h0 a1 x2 G0 ⟨by omega, by omega⟩ ⟨by omega, by omega⟩) o_38 rfl rfl rfl (Nat.le_of_ble_eq_true rfl) ⟨rfl, rfl⟩ (fun x4 h1 qx4 => ?_)
  obtain ⟨G1, S1, fx4⟩ := qx4
  have R1 := (FR.rf (cs := (csB ++ [])) (ss := []) (h := h0)).call S1 (by decide +kernel)
  refine z_ok (fun ox4 _ _ => ?_)
  have ox4 := ox4.1; unfold m_ok m_32 at ox4
  refine z_i2l (M := M_X9_limitBy) 25 dX9_limitBy_25 ?_
  refine z_lstore (M := M_X9_limitBy) 26 dX9_limitBy_26 (ls' := [some (mR 38), some (mI a1), some (mI a2), some (mI a3), some (mR b), some (mR (77 + (a3).toNat)), some (mI x2), some (mI x3), some (mJ x4), none, none, none, none]) (by decide) rfl ?_
  refine z_aload_n (M := M_X9_limitBy) 28 dX9_limitBy_28 rfl ?_
  refine z_iload_n (M := M_X9_limitBy) 29 dX9_limitBy_29 rfl ?_
  refine z_iload (M := M_X9_limitBy) 30 dX9_limitBy_30 rfl ?_
  refine z_vI (M := M_X9_limitBy) 32 dX9_limitBy_32 t_X9_lowOf l_X9_145 (m_rr_of rfl) (rest := []) (c_X9_lowOf2 h1 a2 x3 G1 ⟨by omega, by omega⟩ ⟨by omega, by omega⟩) o_38 rfl rfl rfl (Nat.le_of_ble_eq_true rfl) ⟨rfl, rfl⟩ (fun x5 h2 qx5 => ?_)
  obtain ⟨G2, S2, fx5⟩ := qx5
  have e1_ := frE S1
  have e2_ : h2 = h0 := (frE S2).trans e1_
  rw [e1_] at fx5
  have y4_ := hi_b (i := a1) (k := x2) hH (by omega) (by omega) (by omega)
  have y5_ := lo_b (i := a2) (k := x3) hH (by omega) (by omega) (by omega)
  rw [fx4] at y4_
  rw [fx5] at y5_
  have z_ := hr a3.toNat (by omega)
  unfold pBb bd at z_
  simp only at z_
  have q_ := pBb_at hX (by decide)
  have R2 := R1.call S2 (by decide +kernel)
  refine z_ok (fun ox5 _ _ => ?_)
  have ox5 := ox5.1; unfold m_ok m_32 at ox5
  refine z_i2l (M := M_X9_limitBy) 35 dX9_limitBy_35 ?_
  refine z_lstore (M := M_X9_limitBy) 36 dX9_limitBy_36 (ls' := [some (mR 38), some (mI a1), some (mI a2), some (mI a3), some (mR b), some (mR (77 + (a3).toNat)), some (mI x2), some (mI x3), some (mJ x4), none, some (mJ x5), none, none]) (by decide) rfl ?_
  refine z_lload (M := M_X9_limitBy) 38 dX9_limitBy_38 rfl ?_
  refine z_lconst (M := M_X9_limitBy) 40 dX9_limitBy_40 (v := 0) ?_
  refine z_lcmp (M := M_X9_limitBy) 41 dX9_limitBy_41 ?_
  refine z_if_eq (M := M_X9_limitBy) 42 dX9_limitBy_42 62 rfl (fun c6 => ?_) (fun c6 => ?_)
  · rw [m_cmp_eq] at c6
    exact z_retV (M := M_X9_limitBy) 62 dX9_limitBy_62 rfl ⟨G2, R2, by rw [e2_]; exact lm_no (Or.inl (by rw [ex2, fx4]; exact c6)) rfl⟩
  · rw [m_cmp_eq] at c6
    refine z_lload (M := M_X9_limitBy) 45 dX9_limitBy_45 rfl ?_
    refine z_lconst (M := M_X9_limitBy) 47 dX9_limitBy_47 (v := 0) ?_
    refine z_lcmp (M := M_X9_limitBy) 48 dX9_limitBy_48 ?_
    refine z_if_eq (M := M_X9_limitBy) 49 dX9_limitBy_49 62 rfl (fun c7 => ?_) (fun c7 => ?_)
    · rw [m_cmp_eq] at c7
      exact z_retV (M := M_X9_limitBy) 62 dX9_limitBy_62 rfl ⟨G2, R2, by rw [e2_]; exact lm_no (Or.inr (Or.inl (by rw [ex3, fx5]; exact c7))) rfl⟩
    · rw [m_cmp_eq] at c7
      refine z_aload (M := M_X9_limitBy) 52 dX9_limitBy_52 rfl ?_
      refine z_getJV (M := M_X9_limitBy) 54 dX9_limitBy_54 f_X9_132 (oB hb1) rfl (fun x8 ex8 => ?_)
      rw [e2_] at ex8
      rw [ex8] at z_
      refine z_lconst (M := M_X9_limitBy) 57 dX9_limitBy_57 (v := 0) ?_
      refine z_lcmp (M := M_X9_limitBy) 58 dX9_limitBy_58 ?_
      refine z_if_ne (M := M_X9_limitBy) 59 dX9_limitBy_59 63 rfl (fun c9 => ?_) (fun c9 => ?_)
      · rw [m_cmp_eq] at c9
        refine z_aload (M := M_X9_limitBy) 63 dX9_limitBy_63 rfl ?_
        refine z_getIG (M := M_X9_limitBy) 65 dX9_limitBy_65 f_X9_134 (oB hb1) (by decide) (gB hb1 G2) (fun x10 ex10 ax10 bx10 => ?_)
        rw [e2_] at ex10
        refine z_if_ne (M := M_X9_limitBy) 68 dX9_limitBy_68 91 rfl (fun c11 => ?_) (fun c11 => ?_)
        · refine z_iconst (M := M_X9_limitBy) 91 dX9_limitBy_91 ?_
          refine z_goto (M := M_X9_limitBy) 92 dX9_limitBy_92 96 rfl ?_
          refine z_istore (M := M_X9_limitBy) 96 dX9_limitBy_96 (ls' := [some (mR 38), some (mI a1), some (mI a2), some (mI a3), some (mR b), some (mR (77 + (a3).toNat)), some (mI x2), some (mI x3), some (mJ x4), none, some (mJ x5), none, some (mI 1)]) (by decide) rfl ?_
          refine z_lload (M := M_X9_limitBy) 98 dX9_limitBy_98 rfl ?_
          refine z_aload (M := M_X9_limitBy) 100 dX9_limitBy_100 rfl ?_
          refine z_getJV (M := M_X9_limitBy) 102 dX9_limitBy_102 f_X9_128 (oB hb1) rfl (fun x12 ex12 => ?_)
          rw [e2_] at ex12
          rw [ex12] at z_
          refine z_iload_n (M := M_X9_limitBy) 105 dX9_limitBy_105 rfl ?_
          refine z_iload_n (M := M_X9_limitBy) 106 dX9_limitBy_106 rfl ?_
          refine z_sI (M := M_X9_limitBy) 107 dX9_limitBy_107 t_X9_halvesIn l_X9_148 (m_rr_of rfl) (rest := [mJ x12, mJ x4]) (c_X9_halvesIn2 h2 a1 a2 G2) rfl rfl (Nat.le_of_ble_eq_true rfl) ⟨rfl, rfl⟩ (fun x13 h3 qx13 => ?_)
          obtain ⟨G3, S3, ax13, bx13, fx13⟩ := qx13
          have e3_ := (frE S3).trans e2_
          have R3 := R2.call S3 (by decide +kernel)
          refine z_i2l (M := M_X9_limitBy) 110 dX9_limitBy_110 ?_
          have mx14 := mul_bd (x := x12) (y := x13) (X := 8000000) (Y := 2) (by omega) (by omega) (by omega) (by omega)
          refine z_lmulN (M := M_X9_limitBy) 111 dX9_limitBy_111 (by omega) (by omega) ?_
          refine z_topBJ (lo := 0) (hi := 16000000) ⟨by omega, by omega⟩ (fun x14 ex14 ax14 bx14 => ?_)
          have mx15 := mul_bd (x := x4) (y := x14) (X := 200) (Y := 16000000) (by omega) (by omega) (by omega) (by omega)
          refine z_lmulN (M := M_X9_limitBy) 112 dX9_limitBy_112 (by omega) (by omega) ?_
          refine z_topBJ (lo := 0) (hi := 3200000000) ⟨by omega, by omega⟩ (fun x15 ex15 ax15 bx15 => ?_)
          have lx15 := lim_b (i := a1) (l := a2) y4_.1 ⟨by omega, by omega⟩ y4_.2 fx13 ex14 ex15
          refine z_lstore (M := M_X9_limitBy) 113 dX9_limitBy_113 (ls' := [some (mR 38), some (mI a1), some (mI a2), some (mI a3), some (mR b), some (mR (77 + (a3).toNat)), some (mI x2), some (mI x3), some (mJ x15), none, some (mJ x5), none, some (mI 1)]) (by decide) rfl ?_
          refine z_lload (M := M_X9_limitBy) 115 dX9_limitBy_115 rfl ?_
          refine z_aload (M := M_X9_limitBy) 117 dX9_limitBy_117 rfl ?_
          refine z_getJV (M := M_X9_limitBy) 119 dX9_limitBy_119 f_X9_132 (oB hb1) rfl (fun x16 ex16 => ?_)
          rw [(frE S3).trans e2_] at ex16
          obtain rfl : x16 = x8 := ex16.symm.trans ex8
          refine z_iload_n (M := M_X9_limitBy) 122 dX9_limitBy_122 rfl ?_
          refine z_iload_n (M := M_X9_limitBy) 123 dX9_limitBy_123 rfl ?_
          refine z_sI (M := M_X9_limitBy) 124 dX9_limitBy_124 t_X9_halvesIn l_X9_148 (m_rr_of rfl) (rest := [mJ x16, mJ x5]) (c_X9_halvesIn2 h3 a2 a1 G3) rfl rfl (Nat.le_of_ble_eq_true rfl) ⟨rfl, rfl⟩ (fun x17 h4 qx17 => ?_)
          obtain ⟨G4, S4, ax17, bx17, fx17⟩ := qx17
          have e4_ := (frE S4).trans e3_
          have R4 := R3.call S4 (by decide +kernel)
          refine z_i2l (M := M_X9_limitBy) 127 dX9_limitBy_127 ?_
          have mx18 := mul_bd (x := x16) (y := x17) (X := 8000000) (Y := 2) (by omega) (by omega) (by omega) (by omega)
          refine z_lmulN (M := M_X9_limitBy) 128 dX9_limitBy_128 (by omega) (by omega) ?_
          refine z_topBJ (lo := 0) (hi := 16000000) ⟨by omega, by omega⟩ (fun x18 ex18 ax18 bx18 => ?_)
          have mx19 := mul_bd (x := x5) (y := x18) (X := 200) (Y := 16000000) (by omega) (by omega) (by omega) (by omega)
          refine z_lmulN (M := M_X9_limitBy) 129 dX9_limitBy_129 (by omega) (by omega) ?_
          refine z_topBJ (lo := 0) (hi := 3200000000) ⟨by omega, by omega⟩ (fun x19 ex19 ax19 bx19 => ?_)
          have lx19 := lim_b (i := a2) (l := a1) y5_.1 ⟨by omega, by omega⟩ y5_.2 fx17 ex18 ex19
          refine z_lstore (M := M_X9_limitBy) 130 dX9_limitBy_130 (ls' := [some (mR 38), some (mI a1), some (mI a2), some (mI a3), some (mR b), some (mR (77 + (a3).toNat)), some (mI x2), some (mI x3), some (mJ x15), none, some (mJ x19), none, some (mI 1)]) (by decide) rfl ?_
          refine z_aload (M := M_X9_limitBy) 132 dX9_limitBy_132 rfl ?_
          refine z_lload (M := M_X9_limitBy) 134 dX9_limitBy_134 rfl ?_
          refine z_lload (M := M_X9_limitBy) 136 dX9_limitBy_136 rfl ?_
          refine z_iload (M := M_X9_limitBy) 138 dX9_limitBy_138 rfl ?_
          refine z_vV (M := M_X9_limitBy) 140 dX9_limitBy_140 t_X2_lessen l_X9_66 (m_rr_of rfl) (rest := []) (c_X2_lessen2 h4 b x15 x19 1 hb G4 ⟨by omega, by omega⟩ (by rw [e4_]; exact q_.1) (by rw [e4_]; exact q_.2) ⟨by omega, by omega⟩ ⟨by omega, by omega⟩) (oB hb) rfl rfl rfl (Nat.le_of_ble_eq_true rfl) ⟨rfl, rfl⟩ (fun h5 qx20 => ?_)
          obtain ⟨G5, S5, B5⟩ := qx20
          have R5 := R4.call S5 (by decide +kernel)
          exact z_retV (M := M_X9_limitBy) 143 dX9_limitBy_143 rfl ⟨G5, R5, lm_ls ex2 ex3 fx4 fx5 c6 c7 ex8 c9 ex12 fx13 ex14 ex15 fx17 ex18 ex19 ex10 (if_pos (Or.inl (by omega))) (by have q := B5; rw [e4_] at q; exact q)⟩
        · refine z_iload_n (M := M_X9_limitBy) 71 dX9_limitBy_71 rfl ?_
          refine z_bipush (M := M_X9_limitBy) 72 dX9_limitBy_72 ?_
          refine z_icmp_ge (M := M_X9_limitBy) 74 dX9_limitBy_74 95 rfl (fun c21 => ?_) (fun c21 => ?_)
          · refine z_iconst (M := M_X9_limitBy) 95 dX9_limitBy_95 ?_
            refine z_istore (M := M_X9_limitBy) 96 dX9_limitBy_96 (ls' := [some (mR 38), some (mI a1), some (mI a2), some (mI a3), some (mR b), some (mR (77 + (a3).toNat)), some (mI x2), some (mI x3), some (mJ x4), none, some (mJ x5), none, some (mI 0)]) (by decide) rfl ?_
            refine z_lload (M := M_X9_limitBy) 98 dX9_limitBy_98 rfl ?_
            refine z_aload (M := M_X9_limitBy) 100 dX9_limitBy_100 rfl ?_
            refine z_getJV (M := M_X9_limitBy) 102 dX9_limitBy_102 f_X9_128 (oB hb1) rfl (fun x22 ex22 => ?_)
            rw [e2_] at ex22
            rw [ex22] at z_
            refine z_iload_n (M := M_X9_limitBy) 105 dX9_limitBy_105 rfl ?_
            refine z_iload_n (M := M_X9_limitBy) 106 dX9_limitBy_106 rfl ?_
            refine z_sI (M := M_X9_limitBy) 107 dX9_limitBy_107 t_X9_halvesIn l_X9_148 (m_rr_of rfl) (rest := [mJ x22, mJ x4]) (c_X9_halvesIn2 h2 a1 a2 G2) rfl rfl (Nat.le_of_ble_eq_true rfl) ⟨rfl, rfl⟩ (fun x23 h6 qx23 => ?_)
            obtain ⟨G6, S6, ax23, bx23, fx23⟩ := qx23
            have e6_ := (frE S6).trans e2_
            have R6 := R2.call S6 (by decide +kernel)
            refine z_i2l (M := M_X9_limitBy) 110 dX9_limitBy_110 ?_
            have mx24 := mul_bd (x := x22) (y := x23) (X := 8000000) (Y := 2) (by omega) (by omega) (by omega) (by omega)
            refine z_lmulN (M := M_X9_limitBy) 111 dX9_limitBy_111 (by omega) (by omega) ?_
            refine z_topBJ (lo := 0) (hi := 16000000) ⟨by omega, by omega⟩ (fun x24 ex24 ax24 bx24 => ?_)
            have mx25 := mul_bd (x := x4) (y := x24) (X := 200) (Y := 16000000) (by omega) (by omega) (by omega) (by omega)
            refine z_lmulN (M := M_X9_limitBy) 112 dX9_limitBy_112 (by omega) (by omega) ?_
            refine z_topBJ (lo := 0) (hi := 3200000000) ⟨by omega, by omega⟩ (fun x25 ex25 ax25 bx25 => ?_)
            have lx25 := lim_b (i := a1) (l := a2) y4_.1 ⟨by omega, by omega⟩ y4_.2 fx23 ex24 ex25
            refine z_lstore (M := M_X9_limitBy) 113 dX9_limitBy_113 (ls' := [some (mR 38), some (mI a1), some (mI a2), some (mI a3), some (mR b), some (mR (77 + (a3).toNat)), some (mI x2), some (mI x3), some (mJ x25), none, some (mJ x5), none, some (mI 0)]) (by decide) rfl ?_
            refine z_lload (M := M_X9_limitBy) 115 dX9_limitBy_115 rfl ?_
            refine z_aload (M := M_X9_limitBy) 117 dX9_limitBy_117 rfl ?_
            refine z_getJV (M := M_X9_limitBy) 119 dX9_limitBy_119 f_X9_132 (oB hb1) rfl (fun x26 ex26 => ?_)
            rw [(frE S6).trans e2_] at ex26
            obtain rfl : x26 = x8 := ex26.symm.trans ex8
            refine z_iload_n (M := M_X9_limitBy) 122 dX9_limitBy_122 rfl ?_
            refine z_iload_n (M := M_X9_limitBy) 123 dX9_limitBy_123 rfl ?_
            refine z_sI (M := M_X9_limitBy) 124 dX9_limitBy_124 t_X9_halvesIn l_X9_148 (m_rr_of rfl) (rest := [mJ x26, mJ x5]) (c_X9_halvesIn2 h6 a2 a1 G6) rfl rfl (Nat.le_of_ble_eq_true rfl) ⟨rfl, rfl⟩ (fun x27 h7 qx27 => ?_)
            obtain ⟨G7, S7, ax27, bx27, fx27⟩ := qx27
            have e7_ := (frE S7).trans e6_
            have R7 := R6.call S7 (by decide +kernel)
            refine z_i2l (M := M_X9_limitBy) 127 dX9_limitBy_127 ?_
            have mx28 := mul_bd (x := x26) (y := x27) (X := 8000000) (Y := 2) (by omega) (by omega) (by omega) (by omega)
            refine z_lmulN (M := M_X9_limitBy) 128 dX9_limitBy_128 (by omega) (by omega) ?_
            refine z_topBJ (lo := 0) (hi := 16000000) ⟨by omega, by omega⟩ (fun x28 ex28 ax28 bx28 => ?_)
            have mx29 := mul_bd (x := x5) (y := x28) (X := 200) (Y := 16000000) (by omega) (by omega) (by omega) (by omega)
            refine z_lmulN (M := M_X9_limitBy) 129 dX9_limitBy_129 (by omega) (by omega) ?_
            refine z_topBJ (lo := 0) (hi := 3200000000) ⟨by omega, by omega⟩ (fun x29 ex29 ax29 bx29 => ?_)
            have lx29 := lim_b (i := a2) (l := a1) y5_.1 ⟨by omega, by omega⟩ y5_.2 fx27 ex28 ex29
            refine z_lstore (M := M_X9_limitBy) 130 dX9_limitBy_130 (ls' := [some (mR 38), some (mI a1), some (mI a2), some (mI a3), some (mR b), some (mR (77 + (a3).toNat)), some (mI x2), some (mI x3), some (mJ x25), none, some (mJ x29), none, some (mI 0)]) (by decide) rfl ?_
            refine z_aload (M := M_X9_limitBy) 132 dX9_limitBy_132 rfl ?_
            refine z_lload (M := M_X9_limitBy) 134 dX9_limitBy_134 rfl ?_
            refine z_lload (M := M_X9_limitBy) 136 dX9_limitBy_136 rfl ?_
            refine z_iload (M := M_X9_limitBy) 138 dX9_limitBy_138 rfl ?_
            refine z_vV (M := M_X9_limitBy) 140 dX9_limitBy_140 t_X2_lessen l_X9_66 (m_rr_of rfl) (rest := []) (c_X2_lessen2 h7 b x25 x29 0 hb G7 ⟨by omega, by omega⟩ (by rw [e7_]; exact q_.1) (by rw [e7_]; exact q_.2) ⟨by omega, by omega⟩ ⟨by omega, by omega⟩) (oB hb) rfl rfl rfl (Nat.le_of_ble_eq_true rfl) ⟨rfl, rfl⟩ (fun h8 qx30 => ?_)
            obtain ⟨G8, S8, B8⟩ := qx30
            have R8 := R7.call S8 (by decide +kernel)
            exact z_retV (M := M_X9_limitBy) 143 dX9_limitBy_143 rfl ⟨G8, R8, lm_ls ex2 ex3 fx4 fx5 c6 c7 ex8 c9 ex22 fx23 ex24 ex25 fx27 ex28 ex29 ex10 (if_neg (fun z => by omega)) (by have q := B8; rw [e7_] at q; exact q)⟩
          · refine z_aload_n (M := M_X9_limitBy) 77 dX9_limitBy_77 rfl ?_
            refine z_getR (M := M_X9_limitBy) 78 dX9_limitBy_78 f_X9_15 o_38 rfl (g_38_1 G2) ?_
            refine z_iload_n (M := M_X9_limitBy) 81 dX9_limitBy_81 rfl ?_
            refine z_iconst (M := M_X9_limitBy) 82 dX9_limitBy_82 ?_
            refine z_imulN (M := M_X9_limitBy) 83 dX9_limitBy_83 (by omega) (by omega) ?_
            refine z_iload (M := M_X9_limitBy) 84 dX9_limitBy_84 rfl ?_
            refine z_iaddN (M := M_X9_limitBy) 86 dX9_limitBy_86 (by omega) (by omega) ?_
            refine z_zaldG (M := M_X9_limitBy) 87 dX9_limitBy_87 o_40 (by omega) (by omega) (g_40 G2 (by omega)) (fun x31 ex31 ax31 bx31 => ?_)
            rw [e2_] at ex31
            refine z_if_eq (M := M_X9_limitBy) 88 dX9_limitBy_88 95 rfl (fun c32 => ?_) (fun c32 => ?_)
            · refine z_iconst (M := M_X9_limitBy) 95 dX9_limitBy_95 ?_
              refine z_istore (M := M_X9_limitBy) 96 dX9_limitBy_96 (ls' := [some (mR 38), some (mI a1), some (mI a2), some (mI a3), some (mR b), some (mR (77 + (a3).toNat)), some (mI x2), some (mI x3), some (mJ x4), none, some (mJ x5), none, some (mI 0)]) (by decide) rfl ?_
              refine z_lload (M := M_X9_limitBy) 98 dX9_limitBy_98 rfl ?_
              refine z_aload (M := M_X9_limitBy) 100 dX9_limitBy_100 rfl ?_
              refine z_getJV (M := M_X9_limitBy) 102 dX9_limitBy_102 f_X9_128 (oB hb1) rfl (fun x33 ex33 => ?_)
              rw [e2_] at ex33
              rw [ex33] at z_
              refine z_iload_n (M := M_X9_limitBy) 105 dX9_limitBy_105 rfl ?_
              refine z_iload_n (M := M_X9_limitBy) 106 dX9_limitBy_106 rfl ?_
              refine z_sI (M := M_X9_limitBy) 107 dX9_limitBy_107 t_X9_halvesIn l_X9_148 (m_rr_of rfl) (rest := [mJ x33, mJ x4]) (c_X9_halvesIn2 h2 a1 a2 G2) rfl rfl (Nat.le_of_ble_eq_true rfl) ⟨rfl, rfl⟩ (fun x34 h9 qx34 => ?_)
              obtain ⟨G9, S9, ax34, bx34, fx34⟩ := qx34
              have e9_ := (frE S9).trans e2_
              have R9 := R2.call S9 (by decide +kernel)
              refine z_i2l (M := M_X9_limitBy) 110 dX9_limitBy_110 ?_
              have mx35 := mul_bd (x := x33) (y := x34) (X := 8000000) (Y := 2) (by omega) (by omega) (by omega) (by omega)
              refine z_lmulN (M := M_X9_limitBy) 111 dX9_limitBy_111 (by omega) (by omega) ?_
              refine z_topBJ (lo := 0) (hi := 16000000) ⟨by omega, by omega⟩ (fun x35 ex35 ax35 bx35 => ?_)
              have mx36 := mul_bd (x := x4) (y := x35) (X := 200) (Y := 16000000) (by omega) (by omega) (by omega) (by omega)
              refine z_lmulN (M := M_X9_limitBy) 112 dX9_limitBy_112 (by omega) (by omega) ?_
              refine z_topBJ (lo := 0) (hi := 3200000000) ⟨by omega, by omega⟩ (fun x36 ex36 ax36 bx36 => ?_)
              have lx36 := lim_b (i := a1) (l := a2) y4_.1 ⟨by omega, by omega⟩ y4_.2 fx34 ex35 ex36
              refine z_lstore (M := M_X9_limitBy) 113 dX9_limitBy_113 (ls' := [some (mR 38), some (mI a1), some (mI a2), some (mI a3), some (mR b), some (mR (77 + (a3).toNat)), some (mI x2), some (mI x3), some (mJ x36), none, some (mJ x5), none, some (mI 0)]) (by decide) rfl ?_
              refine z_lload (M := M_X9_limitBy) 115 dX9_limitBy_115 rfl ?_
              refine z_aload (M := M_X9_limitBy) 117 dX9_limitBy_117 rfl ?_
              refine z_getJV (M := M_X9_limitBy) 119 dX9_limitBy_119 f_X9_132 (oB hb1) rfl (fun x37 ex37 => ?_)
              rw [(frE S9).trans e2_] at ex37
              obtain rfl : x37 = x8 := ex37.symm.trans ex8
              refine z_iload_n (M := M_X9_limitBy) 122 dX9_limitBy_122 rfl ?_
              refine z_iload_n (M := M_X9_limitBy) 123 dX9_limitBy_123 rfl ?_
              refine z_sI (M := M_X9_limitBy) 124 dX9_limitBy_124 t_X9_halvesIn l_X9_148 (m_rr_of rfl) (rest := [mJ x37, mJ x5]) (c_X9_halvesIn2 h9 a2 a1 G9) rfl rfl (Nat.le_of_ble_eq_true rfl) ⟨rfl, rfl⟩ (fun x38 h10 qx38 => ?_)
              obtain ⟨G10, S10, ax38, bx38, fx38⟩ := qx38
              have e10_ := (frE S10).trans e9_
              have R10 := R9.call S10 (by decide +kernel)
              refine z_i2l (M := M_X9_limitBy) 127 dX9_limitBy_127 ?_
              have mx39 := mul_bd (x := x37) (y := x38) (X := 8000000) (Y := 2) (by omega) (by omega) (by omega) (by omega)
              refine z_lmulN (M := M_X9_limitBy) 128 dX9_limitBy_128 (by omega) (by omega) ?_
              refine z_topBJ (lo := 0) (hi := 16000000) ⟨by omega, by omega⟩ (fun x39 ex39 ax39 bx39 => ?_)
              have mx40 := mul_bd (x := x5) (y := x39) (X := 200) (Y := 16000000) (by omega) (by omega) (by omega) (by omega)
              refine z_lmulN (M := M_X9_limitBy) 129 dX9_limitBy_129 (by omega) (by omega) ?_
              refine z_topBJ (lo := 0) (hi := 3200000000) ⟨by omega, by omega⟩ (fun x40 ex40 ax40 bx40 => ?_)
              have lx40 := lim_b (i := a2) (l := a1) y5_.1 ⟨by omega, by omega⟩ y5_.2 fx38 ex39 ex40
              refine z_lstore (M := M_X9_limitBy) 130 dX9_limitBy_130 (ls' := [some (mR 38), some (mI a1), some (mI a2), some (mI a3), some (mR b), some (mR (77 + (a3).toNat)), some (mI x2), some (mI x3), some (mJ x36), none, some (mJ x40), none, some (mI 0)]) (by decide) rfl ?_
              refine z_aload (M := M_X9_limitBy) 132 dX9_limitBy_132 rfl ?_
              refine z_lload (M := M_X9_limitBy) 134 dX9_limitBy_134 rfl ?_
              refine z_lload (M := M_X9_limitBy) 136 dX9_limitBy_136 rfl ?_
              refine z_iload (M := M_X9_limitBy) 138 dX9_limitBy_138 rfl ?_
              refine z_vV (M := M_X9_limitBy) 140 dX9_limitBy_140 t_X2_lessen l_X9_66 (m_rr_of rfl) (rest := []) (c_X2_lessen2 h10 b x36 x40 0 hb G10 ⟨by omega, by omega⟩ (by rw [e10_]; exact q_.1) (by rw [e10_]; exact q_.2) ⟨by omega, by omega⟩ ⟨by omega, by omega⟩) (oB hb) rfl rfl rfl (Nat.le_of_ble_eq_true rfl) ⟨rfl, rfl⟩ (fun h11 qx41 => ?_)
              obtain ⟨G11, S11, B11⟩ := qx41
              have R11 := R10.call S11 (by decide +kernel)
              exact z_retV (M := M_X9_limitBy) 143 dX9_limitBy_143 rfl ⟨G11, R11, lm_ls ex2 ex3 fx4 fx5 c6 c7 ex8 c9 ex33 fx34 ex35 ex36 fx38 ex39 ex40 ex10 (if_neg (fun z => by rw [ex31] at z; omega)) (by have q := B11; rw [e10_] at q; exact q)⟩
            · refine z_iconst (M := M_X9_limitBy) 91 dX9_limitBy_91 ?_
              refine z_goto (M := M_X9_limitBy) 92 dX9_limitBy_92 96 rfl ?_
              refine z_istore (M := M_X9_limitBy) 96 dX9_limitBy_96 (ls' := [some (mR 38), some (mI a1), some (mI a2), some (mI a3), some (mR b), some (mR (77 + (a3).toNat)), some (mI x2), some (mI x3), some (mJ x4), none, some (mJ x5), none, some (mI 1)]) (by decide) rfl ?_
              refine z_lload (M := M_X9_limitBy) 98 dX9_limitBy_98 rfl ?_
              refine z_aload (M := M_X9_limitBy) 100 dX9_limitBy_100 rfl ?_
              refine z_getJV (M := M_X9_limitBy) 102 dX9_limitBy_102 f_X9_128 (oB hb1) rfl (fun x42 ex42 => ?_)
              rw [e2_] at ex42
              rw [ex42] at z_
              refine z_iload_n (M := M_X9_limitBy) 105 dX9_limitBy_105 rfl ?_
              refine z_iload_n (M := M_X9_limitBy) 106 dX9_limitBy_106 rfl ?_
              refine z_sI (M := M_X9_limitBy) 107 dX9_limitBy_107 t_X9_halvesIn l_X9_148 (m_rr_of rfl) (rest := [mJ x42, mJ x4]) (c_X9_halvesIn2 h2 a1 a2 G2) rfl rfl (Nat.le_of_ble_eq_true rfl) ⟨rfl, rfl⟩ (fun x43 h12 qx43 => ?_)
              obtain ⟨G12, S12, ax43, bx43, fx43⟩ := qx43
              have e12_ := (frE S12).trans e2_
              have R12 := R2.call S12 (by decide +kernel)
              refine z_i2l (M := M_X9_limitBy) 110 dX9_limitBy_110 ?_
              have mx44 := mul_bd (x := x42) (y := x43) (X := 8000000) (Y := 2) (by omega) (by omega) (by omega) (by omega)
              refine z_lmulN (M := M_X9_limitBy) 111 dX9_limitBy_111 (by omega) (by omega) ?_
              refine z_topBJ (lo := 0) (hi := 16000000) ⟨by omega, by omega⟩ (fun x44 ex44 ax44 bx44 => ?_)
              have mx45 := mul_bd (x := x4) (y := x44) (X := 200) (Y := 16000000) (by omega) (by omega) (by omega) (by omega)
              refine z_lmulN (M := M_X9_limitBy) 112 dX9_limitBy_112 (by omega) (by omega) ?_
              refine z_topBJ (lo := 0) (hi := 3200000000) ⟨by omega, by omega⟩ (fun x45 ex45 ax45 bx45 => ?_)
              have lx45 := lim_b (i := a1) (l := a2) y4_.1 ⟨by omega, by omega⟩ y4_.2 fx43 ex44 ex45
              refine z_lstore (M := M_X9_limitBy) 113 dX9_limitBy_113 (ls' := [some (mR 38), some (mI a1), some (mI a2), some (mI a3), some (mR b), some (mR (77 + (a3).toNat)), some (mI x2), some (mI x3), some (mJ x45), none, some (mJ x5), none, some (mI 1)]) (by decide) rfl ?_
              refine z_lload (M := M_X9_limitBy) 115 dX9_limitBy_115 rfl ?_
              refine z_aload (M := M_X9_limitBy) 117 dX9_limitBy_117 rfl ?_
              refine z_getJV (M := M_X9_limitBy) 119 dX9_limitBy_119 f_X9_132 (oB hb1) rfl (fun x46 ex46 => ?_)
              rw [(frE S12).trans e2_] at ex46
              obtain rfl : x46 = x8 := ex46.symm.trans ex8
              refine z_iload_n (M := M_X9_limitBy) 122 dX9_limitBy_122 rfl ?_
              refine z_iload_n (M := M_X9_limitBy) 123 dX9_limitBy_123 rfl ?_
              refine z_sI (M := M_X9_limitBy) 124 dX9_limitBy_124 t_X9_halvesIn l_X9_148 (m_rr_of rfl) (rest := [mJ x46, mJ x5]) (c_X9_halvesIn2 h12 a2 a1 G12) rfl rfl (Nat.le_of_ble_eq_true rfl) ⟨rfl, rfl⟩ (fun x47 h13 qx47 => ?_)
              obtain ⟨G13, S13, ax47, bx47, fx47⟩ := qx47
              have e13_ := (frE S13).trans e12_
              have R13 := R12.call S13 (by decide +kernel)
              refine z_i2l (M := M_X9_limitBy) 127 dX9_limitBy_127 ?_
              have mx48 := mul_bd (x := x46) (y := x47) (X := 8000000) (Y := 2) (by omega) (by omega) (by omega) (by omega)
              refine z_lmulN (M := M_X9_limitBy) 128 dX9_limitBy_128 (by omega) (by omega) ?_
              refine z_topBJ (lo := 0) (hi := 16000000) ⟨by omega, by omega⟩ (fun x48 ex48 ax48 bx48 => ?_)
              have mx49 := mul_bd (x := x5) (y := x48) (X := 200) (Y := 16000000) (by omega) (by omega) (by omega) (by omega)
              refine z_lmulN (M := M_X9_limitBy) 129 dX9_limitBy_129 (by omega) (by omega) ?_
              refine z_topBJ (lo := 0) (hi := 3200000000) ⟨by omega, by omega⟩ (fun x49 ex49 ax49 bx49 => ?_)
              have lx49 := lim_b (i := a2) (l := a1) y5_.1 ⟨by omega, by omega⟩ y5_.2 fx47 ex48 ex49
              refine z_lstore (M := M_X9_limitBy) 130 dX9_limitBy_130 (ls' := [some (mR 38), some (mI a1), some (mI a2), some (mI a3), some (mR b), some (mR (77 + (a3).toNat)), some (mI x2), some (mI x3), some (mJ x45), none, some (mJ x49), none, some (mI 1)]) (by decide) rfl ?_
              refine z_aload (M := M_X9_limitBy) 132 dX9_limitBy_132 rfl ?_
              refine z_lload (M := M_X9_limitBy) 134 dX9_limitBy_134 rfl ?_
              refine z_lload (M := M_X9_limitBy) 136 dX9_limitBy_136 rfl ?_
              refine z_iload (M := M_X9_limitBy) 138 dX9_limitBy_138 rfl ?_
              refine z_vV (M := M_X9_limitBy) 140 dX9_limitBy_140 t_X2_lessen l_X9_66 (m_rr_of rfl) (rest := []) (c_X2_lessen2 h13 b x45 x49 1 hb G13 ⟨by omega, by omega⟩ (by rw [e13_]; exact q_.1) (by rw [e13_]; exact q_.2) ⟨by omega, by omega⟩ ⟨by omega, by omega⟩) (oB hb) rfl rfl rfl (Nat.le_of_ble_eq_true rfl) ⟨rfl, rfl⟩ (fun h14 qx50 => ?_)
              obtain ⟨G14, S14, B14⟩ := qx50
              have R14 := R13.call S14 (by decide +kernel)
              exact z_retV (M := M_X9_limitBy) 143 dX9_limitBy_143 rfl ⟨G14, R14, lm_ls ex2 ex3 fx4 fx5 c6 c7 ex8 c9 ex42 fx43 ex44 ex45 fx47 ex48 ex49 ex10 (if_pos (Or.inr ⟨by omega, by rw [ex31]; omega⟩)) (by have q := B14; rw [e13_] at q; exact q)⟩
      · rw [m_cmp_eq] at c9
        exact z_retV (M := M_X9_limitBy) 62 dX9_limitBy_62 rfl ⟨G2, R2, by rw [e2_]; exact lm_no (Or.inr (Or.inr (by rw [ex8]; omega))) rfl⟩
abbrev P_X9_limit2 (h0 : m_H) (b : Nat) (a1 a2 : Int) : m_H → Prop := fun h' => GI h' ∧ FR (csB ++ []) [] h0 h' ∧ (∀ c, c ≠ b → h' c = h0 c) ∧ bd h' b = if a1 = a2 then (1, 1, 0) else lmN h0 a1 a2 16
def q_X9_limit2 (h0 : m_H) (b : Nat) (a1 a2 : Int) (n : Nat) : Prop := (∀ (h : m_H), GI h → FR (csB ++ []) [] h0 h → ((∀ c, c ≠ b → h c = h0 c) ∧ bd h b = lmI a1 a2) → (36) ≤ (n : Int) → m_Z oF M_X9_limit 45 [some (mR 38), some (mI a1), some (mI a2), some (mR b), none, none] [] h (m_QV (P_X9_limit2 h0 b a1 a2))) ∧ (∀ (l5 : Int) (h : m_H), GI h → FR (csB ++ []) [] h0 h → 0 ≤ l5 → l5 ≤ 16 → ((∀ c, c ≠ b → h c = h0 c) ∧ bd h b = lmN h0 a1 a2 l5.toNat) → (a1 ≠ a2) → 2 * (16 - l5) + (1) ≤ (n : Int) → m_Z oF M_X9_limit 54 [some (mR 38), some (mI a1), some (mI a2), some (mR b), none, some (mI l5)] [] h (m_QV (P_X9_limit2 h0 b a1 a2)))
set_option maxHeartbeats 4000000 in
set_option maxRecDepth 100000 in
theorem s_X9_limit2_45 (h0 : m_H) (b : Nat) (a1 a2 : Int) (hb : isB b) (G0 : GI h0) (pa1 : 0 ≤ a1 ∧ a1 ≤ 15) (pa2 : 0 ≤ a2 ∧ a2 ≤ 15) (hH : bkH h0) (hR : bkR h0) (h9 : 93 < b) (n : Nat) (ih : q_X9_limit2 h0 b a1 a2 n) : ∀ (h : m_H), GI h → FR (csB ++ []) [] h0 h → ((∀ c, c ≠ b → h c = h0 c) ∧ bd h b = lmI a1 a2) → (36) ≤ ((n + 1 : Nat) : Int) → m_Z oF M_X9_limit 45 [some (mR 38), some (mI a1), some (mI a2), some (mR b), none, none] [] h (m_QV (P_X9_limit2 h0 b a1 a2)) := by
  intro h G R i0 hr
  refine z_iload_n (M := M_X9_limit) 45 dX9_limit_45 rfl ?_
  refine z_iload_n (M := M_X9_limit) 46 dX9_limit_46 rfl ?_
  refine z_icmp_ne (M := M_X9_limit) 47 dX9_limit_47 51 rfl (fun c1 => ?_) (fun c1 => ?_)
  · refine z_iconst (M := M_X9_limit) 51 dX9_limit_51 ?_
    refine z_istore (M := M_X9_limit) 52 dX9_limit_52 (ls' := [some (mR 38), some (mI a1), some (mI a2), some (mR b), none, some (mI 0)]) (by decide) rfl ?_
    exact z_mask [true, true, true, true, false, true] rfl (ih.2 0 h G R (by omega) (by omega) i0 c1 (by omega))
  · exact z_retV (M := M_X9_limit) 50 dX9_limit_50 rfl ⟨G, R, i0.1, by rw [i0.2, if_pos (by omega)]; unfold lmI; rw [if_pos (by omega)]⟩
set_option maxHeartbeats 4000000 in
set_option maxRecDepth 100000 in
theorem s_X9_limit2_54 (h0 : m_H) (b : Nat) (a1 a2 : Int) (hb : isB b) (G0 : GI h0) (pa1 : 0 ≤ a1 ∧ a1 ≤ 15) (pa2 : 0 ≤ a2 ∧ a2 ≤ 15) (hH : bkH h0) (hR : bkR h0) (h9 : 93 < b) (n : Nat) (ih : q_X9_limit2 h0 b a1 a2 n) : ∀ (l5 : Int) (h : m_H), GI h → FR (csB ++ []) [] h0 h → 0 ≤ l5 → l5 ≤ 16 → ((∀ c, c ≠ b → h c = h0 c) ∧ bd h b = lmN h0 a1 a2 l5.toNat) → (a1 ≠ a2) → 2 * (16 - l5) + (1) ≤ ((n + 1 : Nat) : Int) → m_Z oF M_X9_limit 54 [some (mR 38), some (mI a1), some (mI a2), some (mR b), none, some (mI l5)] [] h (m_QV (P_X9_limit2 h0 b a1 a2)) := by
  intro l5 h G R v0 v1 i0 i1 hr
  refine z_iload (M := M_X9_limit) 54 dX9_limit_54 rfl ?_
  refine z_bipush (M := M_X9_limit) 56 dX9_limit_56 ?_
  refine z_icmp_ge (M := M_X9_limit) 58 dX9_limit_58 76 rfl (fun c1 => ?_) (fun c1 => ?_)
  · exact z_retV (M := M_X9_limit) 76 dX9_limit_76 rfl ⟨G, R, i0.1, by rw [i0.2, if_neg i1, show l5.toNat = 16 by omega]⟩
  · refine z_aload_n (M := M_X9_limit) 61 dX9_limit_61 rfl ?_
    refine z_iload_n (M := M_X9_limit) 62 dX9_limit_62 rfl ?_
    refine z_iload_n (M := M_X9_limit) 63 dX9_limit_63 rfl ?_
    refine z_iload (M := M_X9_limit) 64 dX9_limit_64 rfl ?_
    refine z_aload_n (M := M_X9_limit) 66 dX9_limit_66 rfl ?_
    refine z_vV (M := M_X9_limit) 67 dX9_limit_67 t_X9_limitBy l_X9_138 (m_rr_of rfl) (rest := []) (c_X9_limitBy2 h b a1 a2 l5 hb G ⟨by omega, by omega⟩ ⟨by omega, by omega⟩ ⟨by omega, by omega⟩ ((bkc i0.1 h9).1 hH) ((bkc i0.1 h9).2 hR) (by rw [i0.2]; exact lmN_b hH hR (by omega) (by omega) _ (by omega))) o_38 rfl rfl rfl (Nat.le_of_ble_eq_true rfl) ⟨rfl, rfl⟩ (fun h1 qx2 => ?_)
    obtain ⟨G1, S1, B1⟩ := qx2
    have R1 := R.call S1 (by decide +kernel)
    refine z_iincN (M := M_X9_limit) 70 dX9_limit_70 (ls' := [some (mR 38), some (mI a1), some (mI a2), some (mR b), none, some (mI (l5 + 1))]) (by decide) rfl (by (unfold m_32; decide)) (by omega) (by omega) rfl ?_
    refine z_goto (M := M_X9_limit) 73 dX9_limit_73 54 rfl ?_
    exact z_mask [true, true, true, true, false, true] rfl (ih.2 (l5 + 1) h1 G1 R1 (by omega) (by omega) ⟨fun c hc => (B1.1 c hc).trans (i0.1 c hc), by rw [B1.2, cnd_c i0.1 h9 (by omega) (by omega), i0.2, show (l5 + 1).toNat = l5.toNat + 1 by omega]; show lmS h0 a1 a2 l5 _ = lmS h0 a1 a2 ((l5.toNat : Nat) : Int) _; rw [show ((l5.toNat : Nat) : Int) = l5 by omega]⟩ i1 (by omega))
theorem a_X9_limit2 (h0 : m_H) (b : Nat) (a1 a2 : Int) (hb : isB b) (G0 : GI h0) (pa1 : 0 ≤ a1 ∧ a1 ≤ 15) (pa2 : 0 ≤ a2 ∧ a2 ≤ 15) (hH : bkH h0) (hR : bkR h0) (h9 : 93 < b) : ∀ n, q_X9_limit2 h0 b a1 a2 n := by
  intro n
  induction n with
  | zero => unfold q_X9_limit2; refine ⟨?_, ?_⟩ <;> (intros; omega)
  | succ n ih => exact ⟨s_X9_limit2_45 h0 b a1 a2 hb G0 pa1 pa2 hH hR h9 n ih, s_X9_limit2_54 h0 b a1 a2 hb G0 pa1 pa2 hH hR h9 n ih⟩
set_option maxHeartbeats 4000000 in
set_option maxRecDepth 100000 in
theorem c_X9_limit2 (h0 : m_H) (b : Nat) (a1 a2 : Int) (hb : isB b) (G0 : GI h0) (pa1 : 0 ≤ a1 ∧ a1 ≤ 15) (pa2 : 0 ≤ a2 ∧ a2 ≤ 15) (hH : bkH h0) (hR : bkR h0) (h9 : 93 < b) : m_CV M_X9_limit [mR 38, mI a1, mI a2, mR b] h0 (P_X9_limit2 h0 b a1 a2) := by
  refine m_CV_of ⟨by decide, rfl, by simp [m_arg, m_isL, M_X9_limit], ⟨rfl, rfl⟩, rfl, rfl⟩ (ls := [some (mR 38), some (mI a1), some (mI a2), some (mR b), none, none]) rfl ?_
  have ih := a_X9_limit2 h0 b a1 a2 hb G0 pa1 pa2 hH hR h9 41
  refine z_iload_n (M := M_X9_limit) 0 dX9_limit_0 rfl ?_
  refine z_bipush (M := M_X9_limit) 1 dX9_limit_1 ?_
  refine z_icmp_ge (M := M_X9_limit) 3 dX9_limit_3 18 rfl (fun c1 => ?_) (fun c1 => ?_)
  · refine z_iconst (M := M_X9_limit) 18 dX9_limit_18 ?_
    refine z_istore (M := M_X9_limit) 19 dX9_limit_19 (ls' := [some (mR 38), some (mI a1), some (mI a2), some (mR b), some (mI 0), none]) (by decide) rfl ?_
    refine z_iload_n (M := M_X9_limit) 21 dX9_limit_21 rfl ?_
    refine z_iload_n (M := M_X9_limit) 22 dX9_limit_22 rfl ?_
    refine z_icmp_eq (M := M_X9_limit) 23 dX9_limit_23 31 rfl (fun c2 => ?_) (fun c2 => ?_)
    · refine z_aload_n (M := M_X9_limit) 31 dX9_limit_31 rfl ?_
      refine z_lconst (M := M_X9_limit) 32 dX9_limit_32 (v := 1) ?_
      refine z_lconst (M := M_X9_limit) 33 dX9_limit_33 (v := 1) ?_
      refine z_iconst (M := M_X9_limit) 34 dX9_limit_34 ?_
      refine z_vV (M := M_X9_limit) 35 dX9_limit_35 t_X2_put l_X9_125 (m_rr_of rfl) (rest := []) (c_X2_put2 h0 b 1 1 0 hb G0 ⟨by omega, by omega⟩) (oB hb) rfl rfl rfl (Nat.le_of_ble_eq_true rfl) ⟨rfl, rfl⟩ (fun h1 qx3 => ?_)
      obtain ⟨G1, S1, B1⟩ := qx3
      have R1 := (FR.rf (cs := (csB ++ [])) (ss := []) (h := h0)).call S1 (by decide +kernel)
      refine z_goto (M := M_X9_limit) 38 dX9_limit_38 45 rfl ?_
      exact z_mask [true, true, true, true, false, false] rfl (ih.1 h1 G1 R1 ⟨B1.1, by rw [B1.2]; unfold lmI; rw [if_pos (by omega)]⟩ (by omega))
    · refine z_iload (M := M_X9_limit) 26 dX9_limit_26 rfl ?_
      refine z_if_eq_T (M := M_X9_limit) 28 dX9_limit_28 41 rfl (by omega) ?_
      refine z_aload_n (M := M_X9_limit) 41 dX9_limit_41 rfl ?_
      refine z_vV (M := M_X9_limit) 42 dX9_limit_42 t_X2_clear l_X9_89 (m_rr_of rfl) (rest := []) (c_X2_clear2 h0 b hb G0) (oB hb) rfl rfl rfl (Nat.le_of_ble_eq_true rfl) ⟨rfl, rfl⟩ (fun h2 qx4 => ?_)
      obtain ⟨G2, S2, B2⟩ := qx4
      have R2 := (FR.rf (cs := (csB ++ [])) (ss := []) (h := h0)).call S2 (by decide +kernel)
      exact z_mask [true, true, true, true, false, false] rfl (ih.1 h2 G2 R2 ⟨B2.1, by rw [B2.2]; unfold lmI; rw [if_neg (by omega)]⟩ (by omega))
  · refine z_iload_n (M := M_X9_limit) 6 dX9_limit_6 rfl ?_
    refine z_iload_n (M := M_X9_limit) 7 dX9_limit_7 rfl ?_
    refine z_bipush (M := M_X9_limit) 8 dX9_limit_8 ?_
    refine z_iaddN (M := M_X9_limit) 10 dX9_limit_10 (by omega) (by omega) ?_
    refine z_icmp_ne (M := M_X9_limit) 11 dX9_limit_11 18 rfl (fun c5 => ?_) (fun c5 => ?_)
    · refine z_iconst (M := M_X9_limit) 18 dX9_limit_18 ?_
      refine z_istore (M := M_X9_limit) 19 dX9_limit_19 (ls' := [some (mR 38), some (mI a1), some (mI a2), some (mR b), some (mI 0), none]) (by decide) rfl ?_
      refine z_iload_n (M := M_X9_limit) 21 dX9_limit_21 rfl ?_
      refine z_iload_n (M := M_X9_limit) 22 dX9_limit_22 rfl ?_
      refine z_icmp_eq (M := M_X9_limit) 23 dX9_limit_23 31 rfl (fun c6 => ?_) (fun c6 => ?_)
      · refine z_aload_n (M := M_X9_limit) 31 dX9_limit_31 rfl ?_
        refine z_lconst (M := M_X9_limit) 32 dX9_limit_32 (v := 1) ?_
        refine z_lconst (M := M_X9_limit) 33 dX9_limit_33 (v := 1) ?_
        refine z_iconst (M := M_X9_limit) 34 dX9_limit_34 ?_
        refine z_vV (M := M_X9_limit) 35 dX9_limit_35 t_X2_put l_X9_125 (m_rr_of rfl) (rest := []) (c_X2_put2 h0 b 1 1 0 hb G0 ⟨by omega, by omega⟩) (oB hb) rfl rfl rfl (Nat.le_of_ble_eq_true rfl) ⟨rfl, rfl⟩ (fun h3 qx7 => ?_)
        obtain ⟨G3, S3, B3⟩ := qx7
        have R3 := (FR.rf (cs := (csB ++ [])) (ss := []) (h := h0)).call S3 (by decide +kernel)
        refine z_goto (M := M_X9_limit) 38 dX9_limit_38 45 rfl ?_
        exact z_mask [true, true, true, true, false, false] rfl (ih.1 h3 G3 R3 ⟨B3.1, by rw [B3.2]; unfold lmI; rw [if_pos (by omega)]⟩ (by omega))
      · refine z_iload (M := M_X9_limit) 26 dX9_limit_26 rfl ?_
        refine z_if_eq_T (M := M_X9_limit) 28 dX9_limit_28 41 rfl (by omega) ?_
        refine z_aload_n (M := M_X9_limit) 41 dX9_limit_41 rfl ?_
        refine z_vV (M := M_X9_limit) 42 dX9_limit_42 t_X2_clear l_X9_89 (m_rr_of rfl) (rest := []) (c_X2_clear2 h0 b hb G0) (oB hb) rfl rfl rfl (Nat.le_of_ble_eq_true rfl) ⟨rfl, rfl⟩ (fun h4 qx8 => ?_)
        obtain ⟨G4, S4, B4⟩ := qx8
        have R4 := (FR.rf (cs := (csB ++ [])) (ss := []) (h := h0)).call S4 (by decide +kernel)
        exact z_mask [true, true, true, true, false, false] rfl (ih.1 h4 G4 R4 ⟨B4.1, by rw [B4.2]; unfold lmI; rw [if_neg (by omega)]⟩ (by omega))
    · refine z_iconst (M := M_X9_limit) 14 dX9_limit_14 ?_
      refine z_goto (M := M_X9_limit) 15 dX9_limit_15 19 rfl ?_
      refine z_istore (M := M_X9_limit) 19 dX9_limit_19 (ls' := [some (mR 38), some (mI a1), some (mI a2), some (mR b), some (mI 1), none]) (by decide) rfl ?_
      refine z_iload_n (M := M_X9_limit) 21 dX9_limit_21 rfl ?_
      refine z_iload_n (M := M_X9_limit) 22 dX9_limit_22 rfl ?_
      refine z_icmp_eq_F (M := M_X9_limit) 23 dX9_limit_23 31 rfl (by omega) ?_
      refine z_iload (M := M_X9_limit) 26 dX9_limit_26 rfl ?_
      refine z_if_eq_F (M := M_X9_limit) 28 dX9_limit_28 41 rfl (by omega) ?_
      refine z_aload_n (M := M_X9_limit) 31 dX9_limit_31 rfl ?_
      refine z_lconst (M := M_X9_limit) 32 dX9_limit_32 (v := 1) ?_
      refine z_lconst (M := M_X9_limit) 33 dX9_limit_33 (v := 1) ?_
      refine z_iconst (M := M_X9_limit) 34 dX9_limit_34 ?_
      refine z_vV (M := M_X9_limit) 35 dX9_limit_35 t_X2_put l_X9_125 (m_rr_of rfl) (rest := []) (c_X2_put2 h0 b 1 1 0 hb G0 ⟨by omega, by omega⟩) (oB hb) rfl rfl rfl (Nat.le_of_ble_eq_true rfl) ⟨rfl, rfl⟩ (fun h5 qx9 => ?_)
      obtain ⟨G5, S5, B5⟩ := qx9
      have R5 := (FR.rf (cs := (csB ++ [])) (ss := []) (h := h0)).call S5 (by decide +kernel)
      refine z_goto (M := M_X9_limit) 38 dX9_limit_38 45 rfl ?_
      exact z_mask [true, true, true, true, false, false] rfl (ih.1 h5 G5 R5 ⟨B5.1, by rw [B5.2]; unfold lmI; rw [if_pos (by omega)]⟩ (by omega))
theorem lmN_c {h h' : m_H} {a b : Int} {c : Nat} (e : ∀ d, d ≠ c → h' d = h d) (hc : 93 < c) : ∀ n, n ≤ 16 → lmN h' a b n = lmN h a b n
  | 0, _ => rfl
  | n + 1, hn => by
    show lmS h' a b (n : Int) (lmN h' a b n) = lmS h a b (n : Int) (lmN h a b n)
    rw [lmN_c e hc n (by omega), cnd_c e hc (by omega) (by omega)]
abbrev P_X7_measure2 (h0 : m_H) (a2 a3 : Int) : m_H → Prop := fun h' => GI h' ∧ FR (csB ++ []) [] h0 h' ∧ (∀ c, c ≠ 94 → c ≠ 95 → h' c = h0 c) ∧ (bd h' 95 = if a2 = a3 then (1, 1, 0) else lmN h0 a2 a3 16) ∧ (bd h' 94 = if a3 = a2 then (1, 1, 0) else lmN h0 a3 a2 16)
set_option maxHeartbeats 4000000 in
set_option maxRecDepth 100000 in
theorem c_X7_measure2 (h0 : m_H) (a2 a3 : Int) (G0 : GI h0) (pa2 : 0 ≤ a2 ∧ a2 ≤ 15) (pa3 : 0 ≤ a3 ∧ a3 ≤ 15) (hH : bkH h0) (hR : bkR h0) : m_CV M_X7_measure [mR 93, mR 38, mI a2, mI a3] h0 (P_X7_measure2 h0 a2 a3) := by
  refine m_CV_of ⟨by decide, rfl, by simp [m_arg, m_isL, M_X7_measure], ⟨rfl, rfl⟩, rfl, rfl⟩ (ls := [some (mR 93), some (mR 38), some (mI a2), some (mI a3)]) rfl ?_
  refine z_aload_n (M := M_X7_measure) 0 dX7_measure_0 rfl ?_
  refine z_iload_n (M := M_X7_measure) 1 dX7_measure_1 rfl ?_
  refine z_iload_n (M := M_X7_measure) 2 dX7_measure_2 rfl ?_
  refine z_aload_n (M := M_X7_measure) 3 dX7_measure_3 rfl ?_
  refine z_getR (M := M_X7_measure) 4 dX7_measure_4 f_X7_18 o_93 rfl (g_93_1 G0) ?_
  refine z_vV (M := M_X7_measure) 7 dX7_measure_7 t_X9_limit l_X7_21 (m_rr_of rfl) (rest := []) (c_X9_limit2 h0 95 a2 a3 (rfl : isBb 95 = true) G0 ⟨by omega, by omega⟩ ⟨by omega, by omega⟩ hH hR (by decide)) o_38 rfl rfl rfl (Nat.le_of_ble_eq_true rfl) ⟨rfl, rfl⟩ (fun h1 qx1 => ?_)
  obtain ⟨G1, S1, A1⟩ := qx1
  have R1 := (FR.rf (cs := (csB ++ [])) (ss := []) (h := h0)).call S1 (by decide +kernel)
  refine z_aload_n (M := M_X7_measure) 10 dX7_measure_10 rfl ?_
  refine z_iload_n (M := M_X7_measure) 11 dX7_measure_11 rfl ?_
  refine z_iload_n (M := M_X7_measure) 12 dX7_measure_12 rfl ?_
  refine z_aload_n (M := M_X7_measure) 13 dX7_measure_13 rfl ?_
  refine z_getR (M := M_X7_measure) 14 dX7_measure_14 f_X7_12 o_93 rfl (g_93_0 G1) ?_
  refine z_vV (M := M_X7_measure) 17 dX7_measure_17 t_X9_limit l_X7_21 (m_rr_of rfl) (rest := []) (c_X9_limit2 h1 94 a3 a2 (rfl : isBb 94 = true) G1 ⟨by omega, by omega⟩ ⟨by omega, by omega⟩ ((bkc A1.1 (by decide)).1 hH) ((bkc A1.1 (by decide)).2 hR) (by decide)) o_38 rfl rfl rfl (Nat.le_of_ble_eq_true rfl) ⟨rfl, rfl⟩ (fun h2 qx2 => ?_)
  obtain ⟨G2, S2, A2⟩ := qx2
  have R2 := R1.call S2 (by decide +kernel)
  exact z_retV (M := M_X7_measure) 20 dX7_measure_20 rfl ⟨G2, R2, fun c n4 n5 => (A2.1 c n4).trans (A1.1 c n5), by unfold bd; rw [A2.1 95 (by decide)]; exact A1.2, by rw [A2.2, lmN_c A1.1 (by decide) 16 (Nat.le_refl _)]⟩
