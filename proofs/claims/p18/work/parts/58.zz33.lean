/-! wide and share -/
def dg10 (g : Nat → Int) : Prop := ∀ j, j < 10 → 0 ≤ g j ∧ g j ≤ 99999999
def wdI (g f : Nat → Int) (a l c b : Int) : Prop := vS g 0 l.toNat + c * (100000000 : Int) ^ l.toNat = vS f a.toNat (min l.toNat 5) * b ∧ (0 ≤ c ∧ c ≤ b) ∧ ∀ j : Nat, (j : Int) < l → 0 ≤ g j ∧ g j ≤ 99999999
theorem wdI_0 {g f : Nat → Int} {a b : Int} (hb : 0 ≤ b) : wdI g f a 0 0 b := by
  refine ⟨?_, ⟨Int.le_refl _, hb⟩, fun j hj => by omega⟩
  show (0 : Int) + 0 * _ = 0 * b
  rw [Int.zero_mul, Int.zero_mul]; rfl
theorem wdI_s {h h' : m_H} {f : Nat → Int} {t : Nat} {a l c b m r c' : Int} (hl : 0 ≤ l) (I : wdI (h t) f a l c b) (hm : vS f a.toNat (min (l + 1).toNat 5) * b = vS f a.toNat (min l.toNat 5) * b + m * (100000000 : Int) ^ l.toNat) (mb : 0 ≤ m ∧ m ≤ 99999999 * b) (er : (m + c) % 100000000 = r) (eq : (m + c) / 100000000 = c') (E : h' = m_up h t l.toNat r) : wdI (h' t) f a (l + 1) c' b := by
  obtain ⟨i1, i2, i3⟩ := I
  have e1 : (l + 1).toNat = l.toNat + 1 := by omega
  refine ⟨?_, by omega, fun j hj => ?_⟩
  · rw [hm, ← i1, e1, vS_succ]
    have e4 : vS (h' t) 0 l.toNat = vS (h t) 0 l.toNat := vS_same (fun j hj => upN E (fun q => by have := q.2; omega))
    have e5 : h' t (0 + l.toNat) = r := by rw [Nat.zero_add]; exact upE E
    rw [e4, e5, Int.pow_succ]
    have e6 : m + c = r + 100000000 * c' := by omega
    generalize (100000000 : Int) ^ l.toNat = P at *
    have e0 : c' * (P * (100000000 : Int)) = 100000000 * c' * P := by
      rw [Int.mul_comm P 100000000, ← Int.mul_assoc, Int.mul_comm c']
    have e7 : (m + c) * P = r * P + 100000000 * c' * P := by rw [e6, Int.add_mul]
    rw [Int.add_mul] at e7
    omega
  · by_cases g : j = l.toNat
    · rw [g, upE E]; omega
    · rw [upN E (fun q => g q.2)]; exact i3 j (by omega)
theorem wdI_a {h h' : m_H} {f : Nat → Int} {t s : Nat} {a l c b d m r c' : Int} (ha : 0 ≤ a) (hl : 0 ≤ l) (l5 : l ≤ 4) (hb : 0 ≤ b) (I : wdI (h t) f a l c b) (hf : ∀ j, h s j = f j) (ed : h s (a + l).toNat = d) (bd_ : 0 ≤ d ∧ d ≤ 99999999) (em : d * b = m) (er : (m + c) % 100000000 = r) (eq : (m + c) / 100000000 = c') (E : h' = m_up h t l.toNat r) : wdI (h' t) f a (l + 1) c' b := by
  refine wdI_s hl I ?_ ?_ er eq E
  · have e3 : (a + l).toNat = a.toNat + l.toNat := by omega
    rw [hf, e3] at ed
    rw [show min (l + 1).toNat 5 = l.toNat + 1 by omega, show min l.toNat 5 = l.toNat by omega, vS_succ, ed, Int.add_mul, ← em]
    have k : d * (100000000 : Int) ^ l.toNat * b = d * b * (100000000 : Int) ^ l.toNat := by ac_rfl
    rw [k]
  · have z := mul_bd bd_.1 bd_.2 hb (Int.le_refl b)
    omega
theorem wdI_b {h h' : m_H} {f : Nat → Int} {t : Nat} {a l c b r c' : Int} (hl : 5 ≤ l) (hb : 0 ≤ b) (I : wdI (h t) f a l c b) (er : (0 + c) % 100000000 = r) (eq : (0 + c) / 100000000 = c') (E : h' = m_up h t l.toNat r) : wdI (h' t) f a (l + 1) c' b := by
  refine wdI_s (by omega) I ?_ ⟨Int.le_refl _, by omega⟩ er eq E
  rw [show min (l + 1).toNat 5 = 5 by omega, show min l.toNat 5 = 5 by omega, Int.zero_mul, Int.add_zero]
theorem wd_end {g f : Nat → Int} {a l c b : Int} (e : l = 10) (hb : b ≤ 2000000000) (hf : ∀ j, j < 5 → 0 ≤ f (a.toNat + j) ∧ f (a.toNat + j) ≤ 99999999) (I : wdI g f a l c b) : dg10 g ∧ vS g 0 10 = vS f a.toNat 5 * b := by
  subst e
  obtain ⟨i1, i2, i3⟩ := I
  have d : dg10 g := fun j hj => i3 j (by omega)
  have hg := vS_bd (f := g) (a := 0) (n := 10) (fun j hj => by rw [Nat.zero_add]; exact d j hj)
  have hF := vS_bd (f := f) (a := a.toNat) (n := 5) hf
  have i1' : vS g 0 10 + c * (100000000 : Int) ^ 10 = vS f a.toNat 5 * b := i1
  have p5 : (100000000 : Int) ^ 5 = 10000000000000000000000000000000000000000 := by decide
  have p10 : (100000000 : Int) ^ 10 = 100000000000000000000000000000000000000000000000000000000000000000000000000000000 := by decide
  rw [p5] at hF
  rw [p10] at i1' hg
  have m := mul_bd hF.1 (Int.le_of_lt hF.2) (show 0 ≤ b by omega) hb
  refine ⟨d, ?_⟩
  have c0 : c = 0 := by omega
  rw [c0] at i1'
  omega
abbrev P_X12_wide80x (h0 : m_H) (t : Nat) (f : Nat) (a2 a3 : Int) : m_H → Prop := fun h' => GI h' ∧ FR [t] [] h0 h' ∧ dg10 (h' t) ∧ vS (h' t) 0 10 = vS (h0 f) a2.toNat 5 * a3
def q_X12_wide80x (h0 : m_H) (t : Nat) (f : Nat) (a2 a3 : Int) (n : Nat) : Prop := (∀ (l5 l7 : Int) (h : m_H), GI h → FR [t] [] h0 h → 0 ≤ l5 → l5 ≤ 2000000000 → 0 ≤ l7 → l7 ≤ 10 → (wdI (h t) (h0 f) a2 l7 l5 a3) → 2 * (10 - l7) + (1) ≤ (n : Int) → m_Z oF M_X12_wide 6 [some (mR t), some (mR f), some (mI a2), some (mJ a3), none, some (mJ l5), none, some (mI l7), none, none] [] h (m_QV (P_X12_wide80x h0 t f a2 a3)))
set_option maxHeartbeats 4000000 in
set_option maxRecDepth 100000 in
theorem s_X12_wide80x_6 (h0 : m_H) (t : Nat) (f : Nat) (a2 a3 : Int) (w_t : t = 135 ∨ t = 136) (w_f : f = 124 ∨ f = 125) (G0 : GI h0) (pa2 : 0 ≤ a2 ∧ a2 ≤ 75) (pa3 : 0 ≤ a3 ∧ a3 ≤ 2000000000) (n : Nat) (ih : q_X12_wide80x h0 t f a2 a3 n) : ∀ (l5 l7 : Int) (h : m_H), GI h → FR [t] [] h0 h → 0 ≤ l5 → l5 ≤ 2000000000 → 0 ≤ l7 → l7 ≤ 10 → (wdI (h t) (h0 f) a2 l7 l5 a3) → 2 * (10 - l7) + (1) ≤ ((n + 1 : Nat) : Int) → m_Z oF M_X12_wide 6 [some (mR t), some (mR f), some (mI a2), some (mJ a3), none, some (mJ l5), none, some (mI l7), none, none] [] h (m_QV (P_X12_wide80x h0 t f a2 a3)) := by
  intro l5 l7 h G R v0 v1 v2 v3 i0 hr
  refine z_iload (M := M_X12_wide) 6 dX12_wide_6 rfl ?_
  refine z_bipush (M := M_X12_wide) 8 dX12_wide_8 ?_
  refine z_icmp_ge (M := M_X12_wide) 10 dX12_wide_10 60 rfl (fun c1 => ?_) (fun c1 => ?_)
  · exact z_retV (M := M_X12_wide) 60 dX12_wide_60 rfl ⟨G, R, (wd_end (by omega) (by omega) (fun j hj => gC_124_125 w_f G0 (by omega)) i0).1, (wd_end (by omega) (by omega) (fun j hj => gC_124_125 w_f G0 (by omega)) i0).2⟩
  · refine z_iload (M := M_X12_wide) 13 dX12_wide_13 rfl ?_
    refine z_iconst (M := M_X12_wide) 15 dX12_wide_15 ?_
    refine z_icmp_ge (M := M_X12_wide) 16 dX12_wide_16 30 rfl (fun c2 => ?_) (fun c2 => ?_)
    · refine z_lconst (M := M_X12_wide) 30 dX12_wide_30 (v := 0) ?_
      refine z_lload (M := M_X12_wide) 31 dX12_wide_31 rfl ?_
      refine z_laddN (M := M_X12_wide) 33 dX12_wide_33 (by omega) (by omega) ?_
      refine z_lstore (M := M_X12_wide) 34 dX12_wide_34 (ls' := [some (mR t), some (mR f), some (mI a2), some (mJ a3), none, some (mJ l5), none, some (mI l7), some (mJ (0 + l5)), none]) (by decide) rfl ?_
      refine z_aload_n (M := M_X12_wide) 36 dX12_wide_36 rfl ?_
      refine z_iload (M := M_X12_wide) 37 dX12_wide_37 rfl ?_
      refine z_lload (M := M_X12_wide) 39 dX12_wide_39 rfl ?_
      refine z_ldc2 (M := M_X12_wide) 41 dX12_wide_41 k_X12_327 ?_
      refine z_lremN (M := M_X12_wide) 44 dX12_wide_44 (by omega) (by omega) ?_
      refine z_topBJ (lo := 0) (hi := 99999999) ⟨by omega, by omega⟩ (fun x3 ex3 ax3 bx3 => ?_)
      refine z_lastH (M := M_X12_wide) 45 dX12_wide_45 (oC_135_136 w_t) (by omega) (by omega) (uC_135_136 w_t G) (R.up (by simp [fr])) (fun h1 E1 G1 R1 => ?_)
      refine z_lload (M := M_X12_wide) 46 dX12_wide_46 rfl ?_
      refine z_ldc2 (M := M_X12_wide) 48 dX12_wide_48 k_X12_327 ?_
      refine z_ldivN (M := M_X12_wide) 51 dX12_wide_51 (by omega) (by omega) ?_
      refine z_topBJ (lo := 0) (hi := 20) ⟨by omega, by omega⟩ (fun x4 ex4 ax4 bx4 => ?_)
      refine z_lstore (M := M_X12_wide) 52 dX12_wide_52 (ls' := [some (mR t), some (mR f), some (mI a2), some (mJ a3), none, some (mJ x4), none, some (mI l7), some (mJ (0 + l5)), none]) (by decide) rfl ?_
      refine z_iincN (M := M_X12_wide) 54 dX12_wide_54 (ls' := [some (mR t), some (mR f), some (mI a2), some (mJ a3), none, some (mJ x4), none, some (mI (l7 + 1)), some (mJ (0 + l5)), none]) (by decide) rfl (by (unfold m_32; decide)) (by omega) (by omega) rfl ?_
      refine z_goto (M := M_X12_wide) 57 dX12_wide_57 6 rfl ?_
      exact z_mask [true, true, true, true, false, true, false, true, false, false] rfl (ih x4 (l7 + 1) h1 G1 R1 (by omega) (by omega) (by omega) (by omega) (wdI_b (by omega) (by omega) i0 ex3 ex4 E1) (by omega))
    · refine z_aload_n (M := M_X12_wide) 19 dX12_wide_19 rfl ?_
      refine z_iload_n (M := M_X12_wide) 20 dX12_wide_20 rfl ?_
      refine z_iload (M := M_X12_wide) 21 dX12_wide_21 rfl ?_
      refine z_iaddN (M := M_X12_wide) 23 dX12_wide_23 (by omega) (by omega) ?_
      refine z_laldG (M := M_X12_wide) 24 dX12_wide_24 (oC_124_125 w_f) (by omega) (by omega) (gC_124_125 w_f G (by omega)) (fun x5 ex5 ax5 bx5 => ?_)
      refine z_lload_n (M := M_X12_wide) 25 dX12_wide_25 rfl ?_
      have mx6 := mul_bd (x := x5) (y := a3) (X := 99999999) (Y := 2000000000) (by omega) (by omega) (by omega) (by omega)
      refine z_lmulN (M := M_X12_wide) 26 dX12_wide_26 (by omega) (by omega) ?_
      refine z_topBJ (lo := 0) (hi := 199999998000000000) ⟨by omega, by omega⟩ (fun x6 ex6 ax6 bx6 => ?_)
      refine z_goto (M := M_X12_wide) 27 dX12_wide_27 31 rfl ?_
      refine z_lload (M := M_X12_wide) 31 dX12_wide_31 rfl ?_
      refine z_laddN (M := M_X12_wide) 33 dX12_wide_33 (by omega) (by omega) ?_
      refine z_lstore (M := M_X12_wide) 34 dX12_wide_34 (ls' := [some (mR t), some (mR f), some (mI a2), some (mJ a3), none, some (mJ l5), none, some (mI l7), some (mJ (x6 + l5)), none]) (by decide) rfl ?_
      refine z_aload_n (M := M_X12_wide) 36 dX12_wide_36 rfl ?_
      refine z_iload (M := M_X12_wide) 37 dX12_wide_37 rfl ?_
      refine z_lload (M := M_X12_wide) 39 dX12_wide_39 rfl ?_
      refine z_ldc2 (M := M_X12_wide) 41 dX12_wide_41 k_X12_327 ?_
      refine z_lremN (M := M_X12_wide) 44 dX12_wide_44 (by omega) (by omega) ?_
      refine z_topBJ (lo := 0) (hi := 99999999) ⟨by omega, by omega⟩ (fun x7 ex7 ax7 bx7 => ?_)
      refine z_lastH (M := M_X12_wide) 45 dX12_wide_45 (oC_135_136 w_t) (by omega) (by omega) (uC_135_136 w_t G) (R.up (by simp [fr])) (fun h2 E2 G2 R2 => ?_)
      refine z_lload (M := M_X12_wide) 46 dX12_wide_46 rfl ?_
      refine z_ldc2 (M := M_X12_wide) 48 dX12_wide_48 k_X12_327 ?_
      refine z_ldivN (M := M_X12_wide) 51 dX12_wide_51 (by omega) (by omega) ?_
      refine z_topBJ (lo := 0) (hi := 2000000000) ⟨by omega, by omega⟩ (fun x8 ex8 ax8 bx8 => ?_)
      refine z_lstore (M := M_X12_wide) 52 dX12_wide_52 (ls' := [some (mR t), some (mR f), some (mI a2), some (mJ a3), none, some (mJ x8), none, some (mI l7), some (mJ (x6 + l5)), none]) (by decide) rfl ?_
      refine z_iincN (M := M_X12_wide) 54 dX12_wide_54 (ls' := [some (mR t), some (mR f), some (mI a2), some (mJ a3), none, some (mJ x8), none, some (mI (l7 + 1)), some (mJ (x6 + l5)), none]) (by decide) rfl (by (unfold m_32; decide)) (by omega) (by omega) rfl ?_
      refine z_goto (M := M_X12_wide) 57 dX12_wide_57 6 rfl ?_
      exact z_mask [true, true, true, true, false, true, false, true, false, false] rfl (ih x8 (l7 + 1) h2 G2 R2 (by omega) (by omega) (by omega) (by omega) (wdI_a (by omega) (by omega) (by omega) (by omega) i0 (fun j => R f j (by rcases w_f with rfl | rfl <;> rcases w_t with rfl | rfl <;> rfl)) ex5 ⟨by omega, by omega⟩ ex6 ex7 ex8 E2) (by omega))
theorem a_X12_wide80x (h0 : m_H) (t : Nat) (f : Nat) (a2 a3 : Int) (w_t : t = 135 ∨ t = 136) (w_f : f = 124 ∨ f = 125) (G0 : GI h0) (pa2 : 0 ≤ a2 ∧ a2 ≤ 75) (pa3 : 0 ≤ a3 ∧ a3 ≤ 2000000000) : ∀ n, q_X12_wide80x h0 t f a2 a3 n := by
  intro n
  induction n with
  | zero => unfold q_X12_wide80x; intros; omega
  | succ n ih => exact s_X12_wide80x_6 h0 t f a2 a3 w_t w_f G0 pa2 pa3 n ih
set_option maxHeartbeats 4000000 in
set_option maxRecDepth 100000 in
theorem c_X12_wide80x (h0 : m_H) (t : Nat) (f : Nat) (a2 a3 : Int) (w_t : t = 135 ∨ t = 136) (w_f : f = 124 ∨ f = 125) (G0 : GI h0) (pa2 : 0 ≤ a2 ∧ a2 ≤ 75) (pa3 : 0 ≤ a3 ∧ a3 ≤ 2000000000) : m_CV M_X12_wide [mR t, mR f, mI a2, mJ a3] h0 (P_X12_wide80x h0 t f a2 a3) := by
  refine m_CV_of ⟨by decide, rfl, by simp [m_arg, m_isL, M_X12_wide], ⟨rfl, rfl⟩, rfl, rfl⟩ (ls := [some (mR t), some (mR f), some (mI a2), some (mJ a3), none, none, none, none, none, none]) rfl ?_
  have ih := a_X12_wide80x h0 t f a2 a3 w_t w_f G0 pa2 pa3 28
  refine z_lconst (M := M_X12_wide) 0 dX12_wide_0 (v := 0) ?_
  refine z_lstore (M := M_X12_wide) 1 dX12_wide_1 (ls' := [some (mR t), some (mR f), some (mI a2), some (mJ a3), none, some (mJ 0), none, none, none, none]) (by decide) rfl ?_
  refine z_iconst (M := M_X12_wide) 3 dX12_wide_3 ?_
  refine z_istore (M := M_X12_wide) 4 dX12_wide_4 (ls' := [some (mR t), some (mR f), some (mI a2), some (mJ a3), none, some (mJ 0), none, some (mI 0), none, none]) (by decide) rfl ?_
  exact z_mask [true, true, true, true, false, true, false, true, false, false] rfl (ih 0 0 h0 G0 (FR.rf (cs := [t]) (ss := []) (h := h0)) (by omega) (by omega) (by omega) (by omega) (wdI_0 (by omega)) (by omega))
abbrev P_X12_wide20x (h0 : m_H) (t : Nat) (f : Nat) (a2 a3 : Int) : m_H → Prop := fun h' => GI h' ∧ FR [t] [] h0 h' ∧ dg10 (h' t) ∧ vS (h' t) 0 10 = vS (h0 f) a2.toNat 5 * a3
def q_X12_wide20x (h0 : m_H) (t : Nat) (f : Nat) (a2 a3 : Int) (n : Nat) : Prop := (∀ (l5 l7 : Int) (h : m_H), GI h → FR [t] [] h0 h → 0 ≤ l5 → l5 ≤ 2000000000 → 0 ≤ l7 → l7 ≤ 10 → (wdI (h t) (h0 f) a2 l7 l5 a3) → 2 * (10 - l7) + (1) ≤ (n : Int) → m_Z oF M_X12_wide 6 [some (mR t), some (mR f), some (mI a2), some (mJ a3), none, some (mJ l5), none, some (mI l7), none, none] [] h (m_QV (P_X12_wide20x h0 t f a2 a3)))
set_option maxHeartbeats 4000000 in
set_option maxRecDepth 100000 in
theorem s_X12_wide20x_6 (h0 : m_H) (t : Nat) (f : Nat) (a2 a3 : Int) (w_t : t = 135 ∨ t = 136) (w_f : f = 138) (G0 : GI h0) (pa2 : 0 ≤ a2 ∧ a2 ≤ 15) (pa3 : 0 ≤ a3 ∧ a3 ≤ 2000000000) (n : Nat) (ih : q_X12_wide20x h0 t f a2 a3 n) : ∀ (l5 l7 : Int) (h : m_H), GI h → FR [t] [] h0 h → 0 ≤ l5 → l5 ≤ 2000000000 → 0 ≤ l7 → l7 ≤ 10 → (wdI (h t) (h0 f) a2 l7 l5 a3) → 2 * (10 - l7) + (1) ≤ ((n + 1 : Nat) : Int) → m_Z oF M_X12_wide 6 [some (mR t), some (mR f), some (mI a2), some (mJ a3), none, some (mJ l5), none, some (mI l7), none, none] [] h (m_QV (P_X12_wide20x h0 t f a2 a3)) := by
  intro l5 l7 h G R v0 v1 v2 v3 i0 hr
  refine z_iload (M := M_X12_wide) 6 dX12_wide_6 rfl ?_
  refine z_bipush (M := M_X12_wide) 8 dX12_wide_8 ?_
  refine z_icmp_ge (M := M_X12_wide) 10 dX12_wide_10 60 rfl (fun c1 => ?_) (fun c1 => ?_)
  · exact z_retV (M := M_X12_wide) 60 dX12_wide_60 rfl ⟨G, R, (wd_end (by omega) (by omega) (fun j hj => gC_138 w_f G0 (by omega)) i0).1, (wd_end (by omega) (by omega) (fun j hj => gC_138 w_f G0 (by omega)) i0).2⟩
  · refine z_iload (M := M_X12_wide) 13 dX12_wide_13 rfl ?_
    refine z_iconst (M := M_X12_wide) 15 dX12_wide_15 ?_
    refine z_icmp_ge (M := M_X12_wide) 16 dX12_wide_16 30 rfl (fun c2 => ?_) (fun c2 => ?_)
    · refine z_lconst (M := M_X12_wide) 30 dX12_wide_30 (v := 0) ?_
      refine z_lload (M := M_X12_wide) 31 dX12_wide_31 rfl ?_
      refine z_laddN (M := M_X12_wide) 33 dX12_wide_33 (by omega) (by omega) ?_
      refine z_lstore (M := M_X12_wide) 34 dX12_wide_34 (ls' := [some (mR t), some (mR f), some (mI a2), some (mJ a3), none, some (mJ l5), none, some (mI l7), some (mJ (0 + l5)), none]) (by decide) rfl ?_
      refine z_aload_n (M := M_X12_wide) 36 dX12_wide_36 rfl ?_
      refine z_iload (M := M_X12_wide) 37 dX12_wide_37 rfl ?_
      refine z_lload (M := M_X12_wide) 39 dX12_wide_39 rfl ?_
      refine z_ldc2 (M := M_X12_wide) 41 dX12_wide_41 k_X12_327 ?_
      refine z_lremN (M := M_X12_wide) 44 dX12_wide_44 (by omega) (by omega) ?_
      refine z_topBJ (lo := 0) (hi := 99999999) ⟨by omega, by omega⟩ (fun x3 ex3 ax3 bx3 => ?_)
      refine z_lastH (M := M_X12_wide) 45 dX12_wide_45 (oC_135_136 w_t) (by omega) (by omega) (uC_135_136 w_t G) (R.up (by simp [fr])) (fun h1 E1 G1 R1 => ?_)
      refine z_lload (M := M_X12_wide) 46 dX12_wide_46 rfl ?_
      refine z_ldc2 (M := M_X12_wide) 48 dX12_wide_48 k_X12_327 ?_
      refine z_ldivN (M := M_X12_wide) 51 dX12_wide_51 (by omega) (by omega) ?_
      refine z_topBJ (lo := 0) (hi := 20) ⟨by omega, by omega⟩ (fun x4 ex4 ax4 bx4 => ?_)
      refine z_lstore (M := M_X12_wide) 52 dX12_wide_52 (ls' := [some (mR t), some (mR f), some (mI a2), some (mJ a3), none, some (mJ x4), none, some (mI l7), some (mJ (0 + l5)), none]) (by decide) rfl ?_
      refine z_iincN (M := M_X12_wide) 54 dX12_wide_54 (ls' := [some (mR t), some (mR f), some (mI a2), some (mJ a3), none, some (mJ x4), none, some (mI (l7 + 1)), some (mJ (0 + l5)), none]) (by decide) rfl (by (unfold m_32; decide)) (by omega) (by omega) rfl ?_
      refine z_goto (M := M_X12_wide) 57 dX12_wide_57 6 rfl ?_
      exact z_mask [true, true, true, true, false, true, false, true, false, false] rfl (ih x4 (l7 + 1) h1 G1 R1 (by omega) (by omega) (by omega) (by omega) (wdI_b (by omega) (by omega) i0 ex3 ex4 E1) (by omega))
    · refine z_aload_n (M := M_X12_wide) 19 dX12_wide_19 rfl ?_
      refine z_iload_n (M := M_X12_wide) 20 dX12_wide_20 rfl ?_
      refine z_iload (M := M_X12_wide) 21 dX12_wide_21 rfl ?_
      refine z_iaddN (M := M_X12_wide) 23 dX12_wide_23 (by omega) (by omega) ?_
      refine z_laldG (M := M_X12_wide) 24 dX12_wide_24 (oC_138 w_f) (by omega) (by omega) (gC_138 w_f G (by omega)) (fun x5 ex5 ax5 bx5 => ?_)
      refine z_lload_n (M := M_X12_wide) 25 dX12_wide_25 rfl ?_
      have mx6 := mul_bd (x := x5) (y := a3) (X := 99999999) (Y := 2000000000) (by omega) (by omega) (by omega) (by omega)
      refine z_lmulN (M := M_X12_wide) 26 dX12_wide_26 (by omega) (by omega) ?_
      refine z_topBJ (lo := 0) (hi := 199999998000000000) ⟨by omega, by omega⟩ (fun x6 ex6 ax6 bx6 => ?_)
      refine z_goto (M := M_X12_wide) 27 dX12_wide_27 31 rfl ?_
      refine z_lload (M := M_X12_wide) 31 dX12_wide_31 rfl ?_
      refine z_laddN (M := M_X12_wide) 33 dX12_wide_33 (by omega) (by omega) ?_
      refine z_lstore (M := M_X12_wide) 34 dX12_wide_34 (ls' := [some (mR t), some (mR f), some (mI a2), some (mJ a3), none, some (mJ l5), none, some (mI l7), some (mJ (x6 + l5)), none]) (by decide) rfl ?_
      refine z_aload_n (M := M_X12_wide) 36 dX12_wide_36 rfl ?_
      refine z_iload (M := M_X12_wide) 37 dX12_wide_37 rfl ?_
      refine z_lload (M := M_X12_wide) 39 dX12_wide_39 rfl ?_
      refine z_ldc2 (M := M_X12_wide) 41 dX12_wide_41 k_X12_327 ?_
      refine z_lremN (M := M_X12_wide) 44 dX12_wide_44 (by omega) (by omega) ?_
      refine z_topBJ (lo := 0) (hi := 99999999) ⟨by omega, by omega⟩ (fun x7 ex7 ax7 bx7 => ?_)
      refine z_lastH (M := M_X12_wide) 45 dX12_wide_45 (oC_135_136 w_t) (by omega) (by omega) (uC_135_136 w_t G) (R.up (by simp [fr])) (fun h2 E2 G2 R2 => ?_)
      refine z_lload (M := M_X12_wide) 46 dX12_wide_46 rfl ?_
      refine z_ldc2 (M := M_X12_wide) 48 dX12_wide_48 k_X12_327 ?_
      refine z_ldivN (M := M_X12_wide) 51 dX12_wide_51 (by omega) (by omega) ?_
      refine z_topBJ (lo := 0) (hi := 2000000000) ⟨by omega, by omega⟩ (fun x8 ex8 ax8 bx8 => ?_)
      refine z_lstore (M := M_X12_wide) 52 dX12_wide_52 (ls' := [some (mR t), some (mR f), some (mI a2), some (mJ a3), none, some (mJ x8), none, some (mI l7), some (mJ (x6 + l5)), none]) (by decide) rfl ?_
      refine z_iincN (M := M_X12_wide) 54 dX12_wide_54 (ls' := [some (mR t), some (mR f), some (mI a2), some (mJ a3), none, some (mJ x8), none, some (mI (l7 + 1)), some (mJ (x6 + l5)), none]) (by decide) rfl (by (unfold m_32; decide)) (by omega) (by omega) rfl ?_
      refine z_goto (M := M_X12_wide) 57 dX12_wide_57 6 rfl ?_
      exact z_mask [true, true, true, true, false, true, false, true, false, false] rfl (ih x8 (l7 + 1) h2 G2 R2 (by omega) (by omega) (by omega) (by omega) (wdI_a (by omega) (by omega) (by omega) (by omega) i0 (fun j => R f j (by subst w_f; rcases w_t with rfl | rfl <;> rfl)) ex5 ⟨by omega, by omega⟩ ex6 ex7 ex8 E2) (by omega))
theorem a_X12_wide20x (h0 : m_H) (t : Nat) (f : Nat) (a2 a3 : Int) (w_t : t = 135 ∨ t = 136) (w_f : f = 138) (G0 : GI h0) (pa2 : 0 ≤ a2 ∧ a2 ≤ 15) (pa3 : 0 ≤ a3 ∧ a3 ≤ 2000000000) : ∀ n, q_X12_wide20x h0 t f a2 a3 n := by
  intro n
  induction n with
  | zero => unfold q_X12_wide20x; intros; omega
  | succ n ih => exact s_X12_wide20x_6 h0 t f a2 a3 w_t w_f G0 pa2 pa3 n ih
set_option maxHeartbeats 4000000 in
set_option maxRecDepth 100000 in
theorem c_X12_wide20x (h0 : m_H) (t : Nat) (f : Nat) (a2 a3 : Int) (w_t : t = 135 ∨ t = 136) (w_f : f = 138) (G0 : GI h0) (pa2 : 0 ≤ a2 ∧ a2 ≤ 15) (pa3 : 0 ≤ a3 ∧ a3 ≤ 2000000000) : m_CV M_X12_wide [mR t, mR f, mI a2, mJ a3] h0 (P_X12_wide20x h0 t f a2 a3) := by
  refine m_CV_of ⟨by decide, rfl, by simp [m_arg, m_isL, M_X12_wide], ⟨rfl, rfl⟩, rfl, rfl⟩ (ls := [some (mR t), some (mR f), some (mI a2), some (mJ a3), none, none, none, none, none, none]) rfl ?_
  have ih := a_X12_wide20x h0 t f a2 a3 w_t w_f G0 pa2 pa3 28
  refine z_lconst (M := M_X12_wide) 0 dX12_wide_0 (v := 0) ?_
  refine z_lstore (M := M_X12_wide) 1 dX12_wide_1 (ls' := [some (mR t), some (mR f), some (mI a2), some (mJ a3), none, some (mJ 0), none, none, none, none]) (by decide) rfl ?_
  refine z_iconst (M := M_X12_wide) 3 dX12_wide_3 ?_
  refine z_istore (M := M_X12_wide) 4 dX12_wide_4 (ls' := [some (mR t), some (mR f), some (mI a2), some (mJ a3), none, some (mJ 0), none, some (mI 0), none, none]) (by decide) rfl ?_
  exact z_mask [true, true, true, true, false, true, false, true, false, false] rfl (ih 0 0 h0 G0 (FR.rf (cs := [t]) (ss := []) (h := h0)) (by omega) (by omega) (by omega) (by omega) (wdI_0 (by omega)) (by omega))
/-- how often one number is in another, at most so many times -/
def shQ (x S L m : Int) : Prop := L * x ≤ S ∧ (x < m → S < L * (x + 1))
def shK (f g : Nat → Int) (X S e s k : Int) : Prop := (s = 0 ∨ s = 1) ∧ (s = 1 → e = 1 ∧ cpI f g X S k) ∧ (s = 0 → (e = 1 ↔ X ≤ S))
theorem shK_0 {f g : Nat → Int} {X S : Int} (d1 : dg10 f) (e1 : vS f 0 10 = X) (d2 : dg10 g) (e2 : vS g 0 10 = S) : shK f g X S 1 1 9 := ⟨Or.inr rfl, fun _ => ⟨rfl, d1, d2, e1, e2, fun j h1 h2 => by omega⟩, fun z => absurd z (by decide)⟩
theorem shK_end {f g : Nat → Int} {X S e s k : Int} (K : shK f g X S e s k) (h : k < 0 ∨ s = 0) : e = 1 ↔ X ≤ S := by
  obtain ⟨k1, k2, k3⟩ := K
  rcases k1 with q | q
  · exact k3 q
  · obtain ⟨h1, h2⟩ := k2 q
    have z := cpI_eq h2 (by omega)
    unfold cmpQ at z
    exact ⟨fun _ => by omega, fun _ => h1⟩
theorem shK_gt {f g : Nat → Int} {X S e k k' x y : Int} (K : shK f g X S e 1 k) (h0 : 0 ≤ k) (h9 : k ≤ 9) (ex : f k.toNat = x) (ey : g k.toNat = y) (c : y < x) : shK f g X S 0 0 k' := by
  have z := cpI_gt (K.2.1 rfl).2 h0 h9 ex ey c
  unfold cmpQ at z
  exact ⟨Or.inl rfl, fun q => absurd q (by decide), fun _ => ⟨fun q => absurd q (by decide), fun q => by omega⟩⟩
theorem shK_lt {f g : Nat → Int} {X S e k k' x y : Int} (K : shK f g X S e 1 k) (h0 : 0 ≤ k) (h9 : k ≤ 9) (ex : f k.toNat = x) (ey : g k.toNat = y) (c : x < y) : shK f g X S 1 0 k' := by
  have z := cpI_lt (K.2.1 rfl).2 h0 h9 ex ey c
  unfold cmpQ at z
  exact ⟨Or.inl rfl, fun q => absurd q (by decide), fun _ => ⟨fun q => by omega, fun _ => rfl⟩⟩
theorem shK_eq {f g : Nat → Int} {X S e k x y : Int} (K : shK f g X S e 1 k) (h0 : 0 ≤ k) (ex : f k.toNat = x) (ey : g k.toNat = y) (c : x = y) : shK f g X S 1 1 (k + (-1)) := by
  have z := cpI_step (K.2.1 rfl).2 h0 ex ey c
  rw [show k - 1 = k + (-1) by omega] at z
  exact ⟨Or.inr rfl, fun _ => ⟨rfl, z⟩, fun q => absurd q (by decide)⟩
abbrev P_X12_share2 (h0 : m_H) (f : Nat) (f2 : Nat) (a2 a4 a5 a6 : Int) : Int → m_H → Prop := fun x h' => GI h' ∧ FR [135, 136] [] h0 h' ∧ 0 ≤ x ∧ x ≤ 2000000000 ∧ shQ x (vS (h0 f) a2.toNat 5 * a5) (vS (h0 f2) a4.toNat 5) a6
def q_X12_share2 (h0 : m_H) (f : Nat) (f2 : Nat) (a2 a4 a5 a6 : Int) (n : Nat) : Prop := (∀ (l7 l8 : Int) (h : m_H), GI h → FR [135, 136] [] h0 h → 0 ≤ l7 → l7 ≤ 2000000000 → 0 ≤ l8 → l8 ≤ 2000000000 → (-2147483648) ≤ a5 → a5 ≤ 2147483647 → (l7 ≤ l8) → (dg10 (h 135) ∧ vS (h 135) 0 10 = (vS (h0 f) a2.toNat 5 * a5)) → ((vS (h0 f2) a4.toNat 5) * l7 ≤ (vS (h0 f) a2.toNat 5 * a5) ∧ (l8 < a6 → (vS (h0 f) a2.toNat 5 * a5) < (vS (h0 f2) a4.toNat 5) * (l8 + 1)) ∧ l8 ≤ a6) → 25 * (l8 - l7) + (24) ≤ (n : Int) → m_Z oF M_X12_share 19 [some (mR 108), none, none, some (mR f2), some (mI a4), none, none, some (mI l7), some (mI l8), none, none, none, none] [] h (m_QI (P_X12_share2 h0 f f2 a2 a4 a5 a6))) ∧ (∀ (l7 l8 l9 l10 l11 l12 : Int) (h : m_H), GI h → FR [135, 136] [] h0 h → 0 ≤ l7 → l7 ≤ 1999999999 → 1 ≤ l8 → l8 ≤ 2000000000 → 0 ≤ l9 → l9 ≤ 2000000000 → 0 ≤ l10 → l10 ≤ 1 → 0 ≤ l11 → l11 ≤ 1 → (-1) ≤ l12 → l12 ≤ 9 → (-2147483648) ≤ a5 → a5 ≤ 2147483647 → (l7 ≤ l9 - 1 ∧ l9 ≤ l8) → (dg10 (h 135) ∧ vS (h 135) 0 10 = (vS (h0 f) a2.toNat 5 * a5)) → ((vS (h0 f2) a4.toNat 5) * l7 ≤ (vS (h0 f) a2.toNat 5 * a5) ∧ (l8 < a6 → (vS (h0 f) a2.toNat 5 * a5) < (vS (h0 f2) a4.toNat 5) * (l8 + 1)) ∧ l8 ≤ a6) → (shK (h 136) (h 135) ((vS (h0 f2) a4.toNat 5) * l9) (vS (h0 f) a2.toNat 5 * a5) l10 l11 l12) → 25 * (l8 - l7) + 2 * (l12 - (-1)) + (1) ≤ (n : Int) → m_Z oF M_X12_share 63 [some (mR 108), none, none, some (mR f2), some (mI a4), none, none, some (mI l7), some (mI l8), some (mI l9), some (mI l10), some (mI l11), some (mI l12)] [] h (m_QI (P_X12_share2 h0 f f2 a2 a4 a5 a6)))
set_option maxHeartbeats 4000000 in
set_option maxRecDepth 100000 in
theorem s_X12_share2_19 (h0 : m_H) (f : Nat) (f2 : Nat) (a2 a4 a5 a6 : Int) (w_f : f = 124 ∨ f = 125) (w_f2 : f2 = 124 ∨ f2 = 125) (G0 : GI h0) (pa2 : 0 ≤ a2 ∧ a2 ≤ 75) (pa4 : 0 ≤ a4 ∧ a4 ≤ 75) (pa6 : 0 ≤ a6 ∧ a6 ≤ 2000000000) (hb5 : 0 ≤ a5 ∧ a5 ≤ 2000000000) (n : Nat) (ih : q_X12_share2 h0 f f2 a2 a4 a5 a6 n) : ∀ (l7 l8 : Int) (h : m_H), GI h → FR [135, 136] [] h0 h → 0 ≤ l7 → l7 ≤ 2000000000 → 0 ≤ l8 → l8 ≤ 2000000000 → (-2147483648) ≤ a5 → a5 ≤ 2147483647 → (l7 ≤ l8) → (dg10 (h 135) ∧ vS (h 135) 0 10 = (vS (h0 f) a2.toNat 5 * a5)) → ((vS (h0 f2) a4.toNat 5) * l7 ≤ (vS (h0 f) a2.toNat 5 * a5) ∧ (l8 < a6 → (vS (h0 f) a2.toNat 5 * a5) < (vS (h0 f2) a4.toNat 5) * (l8 + 1)) ∧ l8 ≤ a6) → 25 * (l8 - l7) + (24) ≤ ((n + 1 : Nat) : Int) → m_Z oF M_X12_share 19 [some (mR 108), none, none, some (mR f2), some (mI a4), none, none, some (mI l7), some (mI l8), none, none, none, none] [] h (m_QI (P_X12_share2 h0 f f2 a2 a4 a5 a6)) := by
  intro l7 l8 h G R v0 v1 v2 v3 v4 v5 i0 i1 i2 hr
  have ef_ : h f2 = h0 f2 := by rcases w_f2 with rfl | rfl <;> exact FR.row R (fun _ => rfl)
  refine z_iload (M := M_X12_share) 19 dX12_share_19 rfl ?_
  refine z_iload (M := M_X12_share) 21 dX12_share_21 rfl ?_
  refine z_icmp_ge (M := M_X12_share) 23 dX12_share_23 150 rfl (fun c1 => ?_) (fun c1 => ?_)
  · refine z_iload (M := M_X12_share) 150 dX12_share_150 rfl ?_
    exact z_retI (M := M_X12_share) 152 dX12_share_152 rfl ⟨G, R, by omega, by omega, by have e_ : l8 = l7 := (by omega); rw [e_] at i2; exact ⟨i2.1, i2.2.1⟩⟩
  · refine z_iload (M := M_X12_share) 26 dX12_share_26 rfl ?_
    refine z_iload (M := M_X12_share) 28 dX12_share_28 rfl ?_
    refine z_iload (M := M_X12_share) 30 dX12_share_30 rfl ?_
    refine z_isubN (M := M_X12_share) 32 dX12_share_32 (by omega) (by omega) ?_
    refine z_iconst (M := M_X12_share) 33 dX12_share_33 ?_
    refine z_iaddN (M := M_X12_share) 34 dX12_share_34 (by omega) (by omega) ?_
    refine z_iconst (M := M_X12_share) 35 dX12_share_35 ?_
    refine z_idivN (M := M_X12_share) 36 dX12_share_36 (by omega) (by omega) ?_
    refine z_topBI (lo := 0) (hi := 1000000000) ⟨by omega, by omega⟩ (fun x2 ex2 ax2 bx2 => ?_)
    refine z_iaddN (M := M_X12_share) 37 dX12_share_37 (by omega) (by omega) ?_
    refine z_topBI (lo := 0) (hi := 2000000000) ⟨by omega, by omega⟩ (fun x3 ex3 ax3 bx3 => ?_)
    refine z_istore (M := M_X12_share) 38 dX12_share_38 (ls' := [some (mR 108), none, none, some (mR f2), some (mI a4), none, none, some (mI l7), some (mI l8), some (mI x3), none, none, none]) (by decide) rfl ?_
    refine z_aload_n (M := M_X12_share) 40 dX12_share_40 rfl ?_
    refine z_getR (M := M_X12_share) 41 dX12_share_41 f_X12_97 o_108 rfl (g_108_41 G) ?_
    refine z_aload_n (M := M_X12_share) 44 dX12_share_44 rfl ?_
    refine z_iload (M := M_X12_share) 45 dX12_share_45 rfl ?_
    refine z_iload (M := M_X12_share) 47 dX12_share_47 rfl ?_
    refine z_i2l (M := M_X12_share) 49 dX12_share_49 ?_
    refine z_sV (M := M_X12_share) 50 dX12_share_50 t_X12_wide l_X12_387 (m_rr_of rfl) (rest := []) (c_X12_wide80x h 136 f2 a4 x3 (Or.inr rfl) w_f2 G ⟨by omega, by omega⟩ ⟨by omega, by omega⟩) rfl rfl (Nat.le_of_ble_eq_true rfl) ⟨rfl, rfl⟩ (fun h1 qx4 => ?_)
    obtain ⟨G1, S1, W1, W2⟩ := qx4
    have i1c : dg10 (h1 135) ∧ vS (h1 135) 0 10 = (vS (h0 f) a2.toNat 5 * a5) := by rw [FR.row (c := 135) S1 (fun _ => rfl)]; exact i1
    rw [ef_] at W2
    have R1 := R.call S1 (by decide +kernel)
    refine z_iconst (M := M_X12_share) 53 dX12_share_53 ?_
    refine z_istore (M := M_X12_share) 54 dX12_share_54 (ls' := [some (mR 108), none, none, some (mR f2), some (mI a4), none, none, some (mI l7), some (mI l8), some (mI x3), some (mI 1), none, none]) (by decide) rfl ?_
    refine z_iconst (M := M_X12_share) 56 dX12_share_56 ?_
    refine z_istore (M := M_X12_share) 57 dX12_share_57 (ls' := [some (mR 108), none, none, some (mR f2), some (mI a4), none, none, some (mI l7), some (mI l8), some (mI x3), some (mI 1), some (mI 1), none]) (by decide) rfl ?_
    refine z_bipush (M := M_X12_share) 59 dX12_share_59 ?_
    refine z_istore (M := M_X12_share) 61 dX12_share_61 (ls' := [some (mR 108), none, none, some (mR f2), some (mI a4), none, none, some (mI l7), some (mI l8), some (mI x3), some (mI 1), some (mI 1), some (mI 9)]) (by decide) rfl ?_
    exact z_mask [true, false, false, true, true, false, false, true, true, true, true, true, true] rfl (ih.2 l7 l8 x3 1 1 9 h1 G1 R1 (by omega) (by omega) (by omega) (by omega) (by omega) (by omega) (by omega) (by omega) (by omega) (by omega) (by omega) (by omega) (by omega) (by omega) (by omega) i1c i2 (shK_0 W1 W2 i1c.1 i1c.2) (by omega))
set_option maxHeartbeats 4000000 in
set_option maxRecDepth 100000 in
theorem s_X12_share2_63 (h0 : m_H) (f : Nat) (f2 : Nat) (a2 a4 a5 a6 : Int) (w_f : f = 124 ∨ f = 125) (w_f2 : f2 = 124 ∨ f2 = 125) (G0 : GI h0) (pa2 : 0 ≤ a2 ∧ a2 ≤ 75) (pa4 : 0 ≤ a4 ∧ a4 ≤ 75) (pa6 : 0 ≤ a6 ∧ a6 ≤ 2000000000) (hb5 : 0 ≤ a5 ∧ a5 ≤ 2000000000) (n : Nat) (ih : q_X12_share2 h0 f f2 a2 a4 a5 a6 n) : ∀ (l7 l8 l9 l10 l11 l12 : Int) (h : m_H), GI h → FR [135, 136] [] h0 h → 0 ≤ l7 → l7 ≤ 1999999999 → 1 ≤ l8 → l8 ≤ 2000000000 → 0 ≤ l9 → l9 ≤ 2000000000 → 0 ≤ l10 → l10 ≤ 1 → 0 ≤ l11 → l11 ≤ 1 → (-1) ≤ l12 → l12 ≤ 9 → (-2147483648) ≤ a5 → a5 ≤ 2147483647 → (l7 ≤ l9 - 1 ∧ l9 ≤ l8) → (dg10 (h 135) ∧ vS (h 135) 0 10 = (vS (h0 f) a2.toNat 5 * a5)) → ((vS (h0 f2) a4.toNat 5) * l7 ≤ (vS (h0 f) a2.toNat 5 * a5) ∧ (l8 < a6 → (vS (h0 f) a2.toNat 5 * a5) < (vS (h0 f2) a4.toNat 5) * (l8 + 1)) ∧ l8 ≤ a6) → (shK (h 136) (h 135) ((vS (h0 f2) a4.toNat 5) * l9) (vS (h0 f) a2.toNat 5 * a5) l10 l11 l12) → 25 * (l8 - l7) + 2 * (l12 - (-1)) + (1) ≤ ((n + 1 : Nat) : Int) → m_Z oF M_X12_share 63 [some (mR 108), none, none, some (mR f2), some (mI a4), none, none, some (mI l7), some (mI l8), some (mI l9), some (mI l10), some (mI l11), some (mI l12)] [] h (m_QI (P_X12_share2 h0 f f2 a2 a4 a5 a6)) := by
  intro l7 l8 l9 l10 l11 l12 h G R v0 v1 v2 v3 v4 v5 v6 v7 v8 v9 v10 v11 v12 v13 i0 i1 i2 i3 hr
  refine z_iload (M := M_X12_share) 63 dX12_share_63 rfl ?_
  refine z_if_lt (M := M_X12_share) 65 dX12_share_65 129 rfl (fun c1 => ?_) (fun c1 => ?_)
  · refine z_iload (M := M_X12_share) 129 dX12_share_129 rfl ?_
    refine z_if_eq (M := M_X12_share) 131 dX12_share_131 141 rfl (fun c2 => ?_) (fun c2 => ?_)
    · refine z_iload (M := M_X12_share) 141 dX12_share_141 rfl ?_
      refine z_iconst (M := M_X12_share) 143 dX12_share_143 ?_
      refine z_isubN (M := M_X12_share) 144 dX12_share_144 (by omega) (by omega) ?_
      refine z_istore (M := M_X12_share) 145 dX12_share_145 (ls' := [some (mR 108), none, none, some (mR f2), some (mI a4), none, none, some (mI l7), some (mI (l9 - 1)), some (mI l9), some (mI l10), some (mI l11), some (mI l12)]) (by decide) rfl ?_
      refine z_goto (M := M_X12_share) 147 dX12_share_147 19 rfl ?_
      exact z_mask [true, false, false, true, true, false, false, true, true, false, false, false, false] rfl (ih.1 l7 (l9 - 1) h G R (by omega) (by omega) (by omega) (by omega) (by omega) (by omega) (by omega) i1 ⟨i2.1, fun _ => by rw [show l9 - 1 + 1 = l9 by omega]; have e_ := shK_end i3 (by omega); omega, by omega⟩ (by omega))
    · refine z_iload (M := M_X12_share) 134 dX12_share_134 rfl ?_
      refine z_istore (M := M_X12_share) 136 dX12_share_136 (ls' := [some (mR 108), none, none, some (mR f2), some (mI a4), none, none, some (mI l9), some (mI l8), some (mI l9), some (mI l10), some (mI l11), some (mI l12)]) (by decide) rfl ?_
      refine z_goto (M := M_X12_share) 138 dX12_share_138 147 rfl ?_
      refine z_goto (M := M_X12_share) 147 dX12_share_147 19 rfl ?_
      exact z_mask [true, false, false, true, true, false, false, true, true, false, false, false, false] rfl (ih.1 l9 l8 h G R (by omega) (by omega) (by omega) (by omega) (by omega) (by omega) (by omega) i1 ⟨(shK_end i3 (by omega)).mp (by omega), i2.2.1, i2.2.2⟩ (by omega))
  · refine z_iload (M := M_X12_share) 68 dX12_share_68 rfl ?_
    refine z_if_eq (M := M_X12_share) 70 dX12_share_70 129 rfl (fun c3 => ?_) (fun c3 => ?_)
    · refine z_iload (M := M_X12_share) 129 dX12_share_129 rfl ?_
      refine z_if_eq (M := M_X12_share) 131 dX12_share_131 141 rfl (fun c4 => ?_) (fun c4 => ?_)
      · refine z_iload (M := M_X12_share) 141 dX12_share_141 rfl ?_
        refine z_iconst (M := M_X12_share) 143 dX12_share_143 ?_
        refine z_isubN (M := M_X12_share) 144 dX12_share_144 (by omega) (by omega) ?_
        refine z_istore (M := M_X12_share) 145 dX12_share_145 (ls' := [some (mR 108), none, none, some (mR f2), some (mI a4), none, none, some (mI l7), some (mI (l9 - 1)), some (mI l9), some (mI l10), some (mI l11), some (mI l12)]) (by decide) rfl ?_
        refine z_goto (M := M_X12_share) 147 dX12_share_147 19 rfl ?_
        exact z_mask [true, false, false, true, true, false, false, true, true, false, false, false, false] rfl (ih.1 l7 (l9 - 1) h G R (by omega) (by omega) (by omega) (by omega) (by omega) (by omega) (by omega) i1 ⟨i2.1, fun _ => by rw [show l9 - 1 + 1 = l9 by omega]; have e_ := shK_end i3 (by omega); omega, by omega⟩ (by omega))
      · refine z_iload (M := M_X12_share) 134 dX12_share_134 rfl ?_
        refine z_istore (M := M_X12_share) 136 dX12_share_136 (ls' := [some (mR 108), none, none, some (mR f2), some (mI a4), none, none, some (mI l9), some (mI l8), some (mI l9), some (mI l10), some (mI l11), some (mI l12)]) (by decide) rfl ?_
        refine z_goto (M := M_X12_share) 138 dX12_share_138 147 rfl ?_
        refine z_goto (M := M_X12_share) 147 dX12_share_147 19 rfl ?_
        exact z_mask [true, false, false, true, true, false, false, true, true, false, false, false, false] rfl (ih.1 l9 l8 h G R (by omega) (by omega) (by omega) (by omega) (by omega) (by omega) (by omega) i1 ⟨(shK_end i3 (by omega)).mp (by omega), i2.2.1, i2.2.2⟩ (by omega))
    · refine z_aload_n (M := M_X12_share) 73 dX12_share_73 rfl ?_
      refine z_getR (M := M_X12_share) 74 dX12_share_74 f_X12_97 o_108 rfl (g_108_41 G) ?_
      refine z_iload (M := M_X12_share) 77 dX12_share_77 rfl ?_
      refine z_laldV (M := M_X12_share) 79 dX12_share_79 o_136 (by omega) (by omega) (fun x5 ex5 => ?_)
      refine z_aload_n (M := M_X12_share) 80 dX12_share_80 rfl ?_
      refine z_getR (M := M_X12_share) 81 dX12_share_81 f_X12_94 o_108 rfl (g_108_40 G) ?_
      refine z_iload (M := M_X12_share) 84 dX12_share_84 rfl ?_
      refine z_laldV (M := M_X12_share) 86 dX12_share_86 o_135 (by omega) (by omega) (fun x6 ex6 => ?_)
      refine z_lcmp (M := M_X12_share) 87 dX12_share_87 ?_
      refine z_if_ne (M := M_X12_share) 88 dX12_share_88 95 rfl (fun c7 => ?_) (fun c7 => ?_)
      · rw [m_cmp_eq] at c7
        refine z_iconst (M := M_X12_share) 95 dX12_share_95 ?_
        refine z_istore (M := M_X12_share) 96 dX12_share_96 (ls' := [some (mR 108), none, none, some (mR f2), some (mI a4), none, none, some (mI l7), some (mI l8), some (mI l9), some (mI l10), some (mI 0), some (mI l12)]) (by decide) rfl ?_
        refine z_aload_n (M := M_X12_share) 98 dX12_share_98 rfl ?_
        refine z_getR (M := M_X12_share) 99 dX12_share_99 f_X12_97 o_108 rfl (g_108_41 G) ?_
        refine z_iload (M := M_X12_share) 102 dX12_share_102 rfl ?_
        refine z_laldE (M := M_X12_share) 104 dX12_share_104 o_136 (by omega) (by omega) ex5 ?_
        refine z_aload_n (M := M_X12_share) 105 dX12_share_105 rfl ?_
        refine z_getR (M := M_X12_share) 106 dX12_share_106 f_X12_94 o_108 rfl (g_108_40 G) ?_
        refine z_iload (M := M_X12_share) 109 dX12_share_109 rfl ?_
        refine z_laldE (M := M_X12_share) 111 dX12_share_111 o_135 (by omega) (by omega) ex6 ?_
        refine z_lcmp (M := M_X12_share) 112 dX12_share_112 ?_
        refine z_if_gt (M := M_X12_share) 113 dX12_share_113 120 rfl (fun c8 => ?_) (fun c8 => ?_)
        · rw [m_cmp_gt] at c8
          refine z_iconst (M := M_X12_share) 120 dX12_share_120 ?_
          refine z_istore (M := M_X12_share) 121 dX12_share_121 (ls' := [some (mR 108), none, none, some (mR f2), some (mI a4), none, none, some (mI l7), some (mI l8), some (mI l9), some (mI 0), some (mI 0), some (mI l12)]) (by decide) rfl ?_
          refine z_iincN (M := M_X12_share) 123 dX12_share_123 (ls' := [some (mR 108), none, none, some (mR f2), some (mI a4), none, none, some (mI l7), some (mI l8), some (mI l9), some (mI 0), some (mI 0), some (mI (l12 + (-1)))]) (by decide) rfl (by (unfold m_32; decide)) (by omega) (by omega) rfl ?_
          refine z_goto (M := M_X12_share) 126 dX12_share_126 63 rfl ?_
          exact z_mask [true, false, false, true, true, false, false, true, true, true, true, true, true] rfl (ih.2 l7 l8 l9 0 0 (l12 + (-1)) h G R (by omega) (by omega) (by omega) (by omega) (by omega) (by omega) (by omega) (by omega) (by omega) (by omega) (by omega) (by omega) (by omega) (by omega) (by omega) i1 i2 (shK_gt (by have q := i3; rw [show l11 = 1 by omega] at q; exact q) (by omega) (by omega) ex5 ex6 (by omega)) (by omega))
        · rw [m_cmp_gt] at c8
          refine z_iconst (M := M_X12_share) 116 dX12_share_116 ?_
          refine z_goto (M := M_X12_share) 117 dX12_share_117 121 rfl ?_
          refine z_istore (M := M_X12_share) 121 dX12_share_121 (ls' := [some (mR 108), none, none, some (mR f2), some (mI a4), none, none, some (mI l7), some (mI l8), some (mI l9), some (mI 1), some (mI 0), some (mI l12)]) (by decide) rfl ?_
          refine z_iincN (M := M_X12_share) 123 dX12_share_123 (ls' := [some (mR 108), none, none, some (mR f2), some (mI a4), none, none, some (mI l7), some (mI l8), some (mI l9), some (mI 1), some (mI 0), some (mI (l12 + (-1)))]) (by decide) rfl (by (unfold m_32; decide)) (by omega) (by omega) rfl ?_
          refine z_goto (M := M_X12_share) 126 dX12_share_126 63 rfl ?_
          exact z_mask [true, false, false, true, true, false, false, true, true, true, true, true, true] rfl (ih.2 l7 l8 l9 1 0 (l12 + (-1)) h G R (by omega) (by omega) (by omega) (by omega) (by omega) (by omega) (by omega) (by omega) (by omega) (by omega) (by omega) (by omega) (by omega) (by omega) (by omega) i1 i2 (shK_lt (by have q := i3; rw [show l11 = 1 by omega] at q; exact q) (by omega) (by omega) ex5 ex6 (by omega)) (by omega))
      · rw [m_cmp_eq] at c7
        refine z_iconst (M := M_X12_share) 91 dX12_share_91 ?_
        refine z_goto (M := M_X12_share) 92 dX12_share_92 96 rfl ?_
        refine z_istore (M := M_X12_share) 96 dX12_share_96 (ls' := [some (mR 108), none, none, some (mR f2), some (mI a4), none, none, some (mI l7), some (mI l8), some (mI l9), some (mI l10), some (mI 1), some (mI l12)]) (by decide) rfl ?_
        refine z_aload_n (M := M_X12_share) 98 dX12_share_98 rfl ?_
        refine z_getR (M := M_X12_share) 99 dX12_share_99 f_X12_97 o_108 rfl (g_108_41 G) ?_
        refine z_iload (M := M_X12_share) 102 dX12_share_102 rfl ?_
        refine z_laldE (M := M_X12_share) 104 dX12_share_104 o_136 (by omega) (by omega) ex5 ?_
        refine z_aload_n (M := M_X12_share) 105 dX12_share_105 rfl ?_
        refine z_getR (M := M_X12_share) 106 dX12_share_106 f_X12_94 o_108 rfl (g_108_40 G) ?_
        refine z_iload (M := M_X12_share) 109 dX12_share_109 rfl ?_
        refine z_laldE (M := M_X12_share) 111 dX12_share_111 o_135 (by omega) (by omega) ex6 ?_
        refine z_lcmp (M := M_X12_share) 112 dX12_share_112 ?_
        refine z_if_gt (M := M_X12_share) 113 dX12_share_113 120 rfl (fun c9 => ?_) (fun c9 => ?_)
        · rw [m_cmp_gt] at c9
          refine z_iconst (M := M_X12_share) 120 dX12_share_120 ?_
          refine z_istore (M := M_X12_share) 121 dX12_share_121 (ls' := [some (mR 108), none, none, some (mR f2), some (mI a4), none, none, some (mI l7), some (mI l8), some (mI l9), some (mI 0), some (mI 1), some (mI l12)]) (by decide) rfl ?_
          refine z_iincN (M := M_X12_share) 123 dX12_share_123 (ls' := [some (mR 108), none, none, some (mR f2), some (mI a4), none, none, some (mI l7), some (mI l8), some (mI l9), some (mI 0), some (mI 1), some (mI (l12 + (-1)))]) (by decide) rfl (by (unfold m_32; decide)) (by omega) (by omega) rfl ?_
          refine z_goto (M := M_X12_share) 126 dX12_share_126 63 rfl ?_
          exact z_mask [true, false, false, true, true, false, false, true, true, true, true, true, true] rfl (ih.2 l7 l8 l9 0 1 (l12 + (-1)) h G R (by omega) (by omega) (by omega) (by omega) (by omega) (by omega) (by omega) (by omega) (by omega) (by omega) (by omega) (by omega) (by omega) (by omega) (by omega) i1 i2 (False.elim (by omega)) (by omega))
        · rw [m_cmp_gt] at c9
          refine z_iconst (M := M_X12_share) 116 dX12_share_116 ?_
          refine z_goto (M := M_X12_share) 117 dX12_share_117 121 rfl ?_
          refine z_istore (M := M_X12_share) 121 dX12_share_121 (ls' := [some (mR 108), none, none, some (mR f2), some (mI a4), none, none, some (mI l7), some (mI l8), some (mI l9), some (mI 1), some (mI 1), some (mI l12)]) (by decide) rfl ?_
          refine z_iincN (M := M_X12_share) 123 dX12_share_123 (ls' := [some (mR 108), none, none, some (mR f2), some (mI a4), none, none, some (mI l7), some (mI l8), some (mI l9), some (mI 1), some (mI 1), some (mI (l12 + (-1)))]) (by decide) rfl (by (unfold m_32; decide)) (by omega) (by omega) rfl ?_
          refine z_goto (M := M_X12_share) 126 dX12_share_126 63 rfl ?_
          exact z_mask [true, false, false, true, true, false, false, true, true, true, true, true, true] rfl (ih.2 l7 l8 l9 1 1 (l12 + (-1)) h G R (by omega) (by omega) (by omega) (by omega) (by omega) (by omega) (by omega) (by omega) (by omega) (by omega) (by omega) (by omega) (by omega) (by omega) (by omega) i1 i2 (shK_eq (by have q := i3; rw [show l11 = 1 by omega] at q; exact q) (by omega) ex5 ex6 c7) (by omega))
theorem a_X12_share2 (h0 : m_H) (f : Nat) (f2 : Nat) (a2 a4 a5 a6 : Int) (w_f : f = 124 ∨ f = 125) (w_f2 : f2 = 124 ∨ f2 = 125) (G0 : GI h0) (pa2 : 0 ≤ a2 ∧ a2 ≤ 75) (pa4 : 0 ≤ a4 ∧ a4 ≤ 75) (pa6 : 0 ≤ a6 ∧ a6 ≤ 2000000000) (hb5 : 0 ≤ a5 ∧ a5 ≤ 2000000000) : ∀ n, q_X12_share2 h0 f f2 a2 a4 a5 a6 n := by
  intro n
  induction n with
  | zero => unfold q_X12_share2; refine ⟨?_, ?_⟩ <;> (intros; omega)
  | succ n ih => exact ⟨s_X12_share2_19 h0 f f2 a2 a4 a5 a6 w_f w_f2 G0 pa2 pa4 pa6 hb5 n ih, s_X12_share2_63 h0 f f2 a2 a4 a5 a6 w_f w_f2 G0 pa2 pa4 pa6 hb5 n ih⟩
set_option maxHeartbeats 4000000 in
set_option maxRecDepth 100000 in
theorem c_X12_share2 (h0 : m_H) (f : Nat) (f2 : Nat) (a2 a4 a5 a6 : Int) (w_f : f = 124 ∨ f = 125) (w_f2 : f2 = 124 ∨ f2 = 125) (G0 : GI h0) (pa2 : 0 ≤ a2 ∧ a2 ≤ 75) (pa4 : 0 ≤ a4 ∧ a4 ≤ 75) (pa6 : 0 ≤ a6 ∧ a6 ≤ 2000000000) (hb5 : 0 ≤ a5 ∧ a5 ≤ 2000000000) : m_CI M_X12_share [mR 108, mR f, mI a2, mR f2, mI a4, mI a5, mI a6] h0 (P_X12_share2 h0 f f2 a2 a4 a5 a6) := by
  refine m_CI_of ⟨by decide, rfl, by simp [m_arg, m_isL, M_X12_share], ⟨rfl, rfl⟩, rfl, rfl⟩ (ls := [some (mR 108), some (mR f), some (mI a2), some (mR f2), some (mI a4), some (mI a5), some (mI a6), none, none, none, none, none, none]) rfl ?_
  have ih := a_X12_share2 h0 f f2 a2 a4 a5 a6 w_f w_f2 G0 pa2 pa4 pa6 hb5 50000000031
  refine z_ok (fun _ _ ok => ?_)
  have oa5 : m_32 a5 := ok 5 _ rfl
  unfold m_32 at oa5
  refine z_iconst (M := M_X12_share) 0 dX12_share_0 ?_
  refine z_istore (M := M_X12_share) 1 dX12_share_1 (ls' := [some (mR 108), some (mR f), some (mI a2), some (mR f2), some (mI a4), some (mI a5), some (mI a6), some (mI 0), none, none, none, none, none]) (by decide) rfl ?_
  refine z_iload (M := M_X12_share) 3 dX12_share_3 rfl ?_
  refine z_istore (M := M_X12_share) 5 dX12_share_5 (ls' := [some (mR 108), some (mR f), some (mI a2), some (mR f2), some (mI a4), some (mI a5), some (mI a6), some (mI 0), some (mI a6), none, none, none, none]) (by decide) rfl ?_
  refine z_aload_n (M := M_X12_share) 7 dX12_share_7 rfl ?_
  refine z_getR (M := M_X12_share) 8 dX12_share_8 f_X12_94 o_108 rfl (g_108_40 G0) ?_
  refine z_aload_n (M := M_X12_share) 11 dX12_share_11 rfl ?_
  refine z_iload_n (M := M_X12_share) 12 dX12_share_12 rfl ?_
  refine z_iload (M := M_X12_share) 13 dX12_share_13 rfl ?_
  refine z_i2l (M := M_X12_share) 15 dX12_share_15 ?_
  refine z_sV (M := M_X12_share) 16 dX12_share_16 t_X12_wide l_X12_387 (m_rr_of rfl) (rest := []) (c_X12_wide80x h0 135 f a2 a5 (Or.inl rfl) w_f G0 ⟨by omega, by omega⟩ ⟨by omega, by omega⟩) rfl rfl (Nat.le_of_ble_eq_true rfl) ⟨rfl, rfl⟩ (fun h1 qx1 => ?_)
  obtain ⟨G1, S1, W1, W2⟩ := qx1
  have R1 := (FR.rf (cs := [135, 136]) (ss := []) (h := h0)).call S1 (by decide +kernel)
  exact z_mask [true, false, false, true, true, false, false, true, true, false, false, false, false] rfl (ih.1 0 a6 h1 G1 R1 (by omega) (by omega) (by omega) (by omega) (by omega) (by omega) (by omega) ⟨W1, W2⟩ ⟨by rw [Int.mul_zero]; exact Int.mul_nonneg (vS_bd (fun j hj => gC_124_125 w_f G0 (by omega))).1 hb5.1, fun z => absurd z (by omega), Int.le_refl _⟩ (by omega))
/-! between -/
def mlQ (x t l : Int) : Prop := (0 ≤ x ∧ x ≤ 2000000000) ∧ t * x ≤ 1000000 * l ∧ (x < 2000000000 → 1000000 * l < t * (x + 1))
def gtQ (x : Int) (B : Int × Int × Int) : Prop := (B.2.1 = 0 ∧ x = -1) ∨ (B.2.1 ≠ 0 ∧ mlQ x B.2.1 B.1)
def ynQ (x : Int) (B : Int × Int × Int) : Prop := (x = 1 ∧ B.2.1 ≠ 0 ∧ B.2.2 ≠ 1) ∨ (x = 0 ∧ ¬ (B.2.1 ≠ 0 ∧ B.2.2 ≠ 1))
def btQ (r : Nat → Int) (a b w x : Int) : Prop := (¬ ((0 ≤ w ∧ w ≤ 3) ∧ thr r a ∧ thr r b ∧ ¬ gain (bR r)) ∧ x = -2) ∨ (((0 ≤ w ∧ w ≤ 3) ∧ thr r a ∧ thr r b ∧ ¬ gain (bR r)) ∧ ((∃ B, BW (bR r) b.toNat a.toNat B ∧ ((w = 0 ∧ mlQ x B.1 B.2.1) ∨ (w = 2 ∧ ynQ x B))) ∨ (∃ B, BW (bR r) a.toNat b.toNat B ∧ ((w = 1 ∧ gtQ x B) ∨ (w = 3 ∧ ynQ x B)))))
theorem ml_le {x y t l t' l' : Int} (ht : 0 < t) (ht' : 0 < t') (e : t * l' = t' * l) (h : mlQ x t l) (h' : mlQ y t' l') : y ≤ x := by
  rcases Int.lt_or_le x y with g | g
  · exfalso
    have a := h.2.2 (by have := h'.1.2; omega)
    have b := h'.2.1
    have m1 := Int.mul_le_mul_of_nonneg_left b (Int.le_of_lt ht)
    have k1 : t * (t' * y) = t' * (t * y) := by ac_rfl
    have k2 : t * (1000000 * l') = 1000000 * (t * l') := by ac_rfl
    have k3 : t' * (1000000 * l) = 1000000 * (t' * l) := by ac_rfl
    have m2 : t * y ≤ 1000000 * l := Int.le_of_mul_le_mul_left (show t' * (t * y) ≤ t' * (1000000 * l) by omega) ht'
    have m3 := Int.mul_le_mul_of_nonneg_left (show x + 1 ≤ y by omega) (Int.le_of_lt ht)
    omega
  · exact g
theorem ml_eq {x y t l t' l' : Int} (ht : 0 < t) (ht' : 0 < t') (e : t * l' = t' * l) (h : mlQ x t l) (h' : mlQ y t' l') : x = y := by
  have a := ml_le ht ht' e h h'
  have b := ml_le ht' ht e.symm h' h
  omega
theorem yn_eq {Ls : List gE} (hE : ∀ e ∈ Ls, gEo e) {a b : Nat} {B B' : Int × Int × Int} (h : BW Ls a b B) (h' : BW Ls a b B') {x y : Int} (u : ynQ x B) (v : ynQ y B') : x = y := by
  obtain ⟨z1, z2, z3⟩ := BW_eq hE h h'
  have k : (B.2.1 ≠ 0 ∧ B.2.2 ≠ 1) ↔ (B'.2.1 ≠ 0 ∧ B'.2.2 ≠ 1) := by
    constructor
    · rintro ⟨p, q⟩; exact ⟨fun z => p (z1.mpr z), fun z => q ((z3 p).mpr z)⟩
    · rintro ⟨p, q⟩
      have p' : B.2.1 ≠ 0 := fun z => p (z1.mp z)
      exact ⟨p', fun z => q ((z3 p').mp z)⟩
  rcases u with ⟨u1, u2⟩ | ⟨u1, u2⟩ <;> rcases v with ⟨v1, v2⟩ | ⟨v1, v2⟩
  · omega
  · exact absurd (k.mp u2) v2
  · exact absurd (k.mpr v2) u2
  · omega
theorem gt_eq {Ls : List gE} (hE : ∀ e ∈ Ls, gEo e) {a b : Nat} {B B' : Int × Int × Int} (h : BW Ls a b B) (h' : BW Ls a b B') {x y : Int} (u : gtQ x B) (v : gtQ y B') : x = y := by
  obtain ⟨z1, z2, z3⟩ := BW_eq hE h h'
  rcases u with ⟨u1, u2⟩ | ⟨u1, u2⟩ <;> rcases v with ⟨v1, v2⟩ | ⟨v1, v2⟩
  · omega
  · exact absurd (z1.mp u1) v1
  · exact absurd (z1.mpr v1) u1
  · have p1 := h.1.2
    have p2 := h'.1.2
    exact ml_eq (by omega) (by omega) (by rw [Int.mul_comm B.2.1, Int.mul_comm B'.2.1]; exact z2.symm) u2 v2
theorem bt_eq {r : Nat → Int} (hE : ∀ e ∈ bR r, gEo e) {a b w x y : Int} (h : btQ r a b w x) (h' : btQ r a b w y) : x = y := by
  rcases h with ⟨n, e⟩ | ⟨k, h⟩
  · rcases h' with ⟨_, e'⟩ | ⟨k', _⟩
    · omega
    · exact absurd k' n
  · rcases h' with ⟨n', _⟩ | ⟨_, h'⟩
    · exact absurd k n'
    · rcases h with ⟨B, b1, b2⟩ | ⟨B, b1, b2⟩ <;> rcases h' with ⟨B', c1, c2⟩ | ⟨B', c1, c2⟩
      · rcases b2 with ⟨p, q⟩ | ⟨p, q⟩ <;> rcases c2 with ⟨p', q'⟩ | ⟨p', q'⟩
        · have z := (BW_eq hE b1 c1).2.1
          exact ml_eq b1.1.1 c1.1.1 z q q'
        · omega
        · omega
        · exact yn_eq hE b1 c1 q q'
      · omega
      · omega
      · rcases b2 with ⟨p, q⟩ | ⟨p, q⟩ <;> rcases c2 with ⟨p', q'⟩ | ⟨p', q'⟩
        · exact gt_eq hE b1 c1 q q'
        · omega
        · omega
        · exact yn_eq hE b1 c1 q q'
/-- a quotient, capped -/
theorem ml_of {t l q x : Int} (ht : 0 < t) (hl : 0 ≤ l) (eq : 1000000 * l / t = q) (ex : (if 2000000000 < q then 2000000000 else q) = x) : mlQ x t l := by
  have a := Int.mul_ediv_self_le (x := 1000000 * l) (k := t) (by omega)
  have b := Int.lt_mul_ediv_self_add (x := 1000000 * l) (k := t) ht
  have c := Int.ediv_nonneg (a := 1000000 * l) (b := t) (by omega) (by omega)
  rw [eq] at a b c
  by_cases g : 2000000000 < q
  · rw [if_pos g] at ex
    subst ex
    have m := Int.mul_le_mul_of_nonneg_left (Int.le_of_lt g) (Int.le_of_lt ht)
    exact ⟨⟨by decide, by decide⟩, by omega, fun z => absurd z (by decide)⟩
  · rw [if_neg g] at ex
    subst ex
    refine ⟨⟨c, by omega⟩, a, fun _ => ?_⟩
    rw [Int.mul_add, Int.mul_one]; exact b
theorem ml_sh {S L x U : Int} (e : S = U * 1000000) (a : 0 ≤ x) (b : x ≤ 2000000000) (h : shQ x S L 2000000000) : mlQ x L U := by
  subst e
  obtain ⟨h1, h2⟩ := h
  exact ⟨⟨a, b⟩, by omega, fun z => by have := h2 z; omega⟩
abbrev P_X11_quotientQ (h0 : m_H) (a0 a1 : Int) : Int → m_H → Prop := fun x h' => GI h' ∧ FR [] [] h0 h' ∧ a0 / a1 = x
set_option maxHeartbeats 4000000 in
set_option maxRecDepth 100000 in
theorem c_X11_quotientQ (h0 : m_H) (a0 a1 : Int) (G0 : GI h0) (q0 : 0 ≤ a0) (q1 : 0 < a1) : m_CJ M_X11_quotient [mJ a0, mJ a1] h0 (P_X11_quotientQ h0 a0 a1) := by
  refine m_CJ_of ⟨by decide, rfl, by simp [m_arg, m_isL, M_X11_quotient], ⟨rfl, rfl⟩, rfl, rfl⟩ (ls := [some (mJ a0), none, some (mJ a1), none]) rfl ?_
  refine z_lload_n (M := M_X11_quotient) 0 dX11_quotient_0 rfl ?_
  refine z_lconst (M := M_X11_quotient) 1 dX11_quotient_1 (v := 0) ?_
  refine z_lcmp (M := M_X11_quotient) 2 dX11_quotient_2 ?_
  refine z_if_ne (M := M_X11_quotient) 3 dX11_quotient_3 10 rfl (fun c1 => ?_) (fun c1 => ?_)
  · rw [m_cmp_eq] at c1
    refine z_lload_n (M := M_X11_quotient) 10 dX11_quotient_10 rfl ?_
    refine z_lload_n (M := M_X11_quotient) 11 dX11_quotient_11 rfl ?_
    refine z_ldivN (M := M_X11_quotient) 12 dX11_quotient_12 q0 q1 ?_
    refine z_topJ (fun x2 ex2 => ?_)
    exact z_retJ (M := M_X11_quotient) 13 dX11_quotient_13 rfl ⟨G0, (FR.rf (cs := []) (ss := []) (h := h0)), ex2⟩
  · rw [m_cmp_eq] at c1
    refine z_lconst (M := M_X11_quotient) 6 dX11_quotient_6 (v := 0) ?_
    refine z_goto (M := M_X11_quotient) 7 dX11_quotient_7 13 rfl ?_
    exact z_retJ (M := M_X11_quotient) 13 dX11_quotient_13 rfl ⟨G0, (FR.rf (cs := []) (ss := []) (h := h0)), absurd c1 (by omega)⟩
abbrev P_X11_atMost2 (h0 : m_H) (a0 a1 : Int) : Int → m_H → Prop := fun x h' => GI h' ∧ FR [] [] h0 h' ∧ (if a1 < a0 then a1 else a0) = x
set_option maxHeartbeats 4000000 in
set_option maxRecDepth 100000 in
theorem c_X11_atMost2 (h0 : m_H) (a0 a1 : Int) (G0 : GI h0) (q0 : -2147483648 ≤ a0) (q1 : 0 ≤ a1 ∧ a1 ≤ 2147483647) : m_CI M_X11_atMost [mJ a0, mJ a1] h0 (P_X11_atMost2 h0 a0 a1) := by
  refine m_CI_of ⟨by decide, rfl, by simp [m_arg, m_isL, M_X11_atMost], ⟨rfl, rfl⟩, rfl, rfl⟩ (ls := [some (mJ a0), none, some (mJ a1), none]) rfl ?_
  refine z_lload_n (M := M_X11_atMost) 0 dX11_atMost_0 rfl ?_
  refine z_lload_n (M := M_X11_atMost) 1 dX11_atMost_1 rfl ?_
  refine z_minJ (M := M_X11_atMost) 2 dX11_atMost_2 ml_X11_438 (rest := []) (Nat.le_of_ble_eq_true rfl) (Nat.le_of_ble_eq_true rfl) ?_
  refine z_topJ (fun x1 ex1 => ?_)
  refine z_l2iN (M := M_X11_atMost) 5 dX11_atMost_5 (by rw [← ex1]; split <;> omega) (by rw [← ex1]; split <;> omega) ?_
  exact z_retI (M := M_X11_atMost) 6 dX11_atMost_6 rfl ⟨G0, (FR.rf (cs := []) (ss := []) (h := h0)), ex1⟩
abbrev P_X7_leastMillionths2 (h0 : m_H) : Int → m_H → Prop := fun x h' => GI h' ∧ FR [] [] h0 h' ∧ 0 ≤ x ∧ 1000000 * h0 94 1 / h0 94 0 = x
set_option maxHeartbeats 4000000 in
set_option maxRecDepth 100000 in
theorem c_X7_leastMillionths2 (h0 : m_H) (G0 : GI h0) (q : ((0 < h0 94 0 ∧ h0 94 0 ≤ 1600000000) ∧ 0 ≤ h0 94 1 ∧ h0 94 1 ≤ 1600000000)) : m_CJ M_X7_leastMillionths [mR 93] h0 (P_X7_leastMillionths2 h0) := by
  refine m_CJ_of ⟨by decide, rfl, by simp [m_arg, m_isL, M_X7_leastMillionths], ⟨rfl, rfl⟩, rfl, rfl⟩ (ls := [some (mR 93)]) rfl ?_
  refine z_ldc2 (M := M_X7_leastMillionths) 0 dX7_leastMillionths_0 k_X7_27 ?_
  refine z_aload_n (M := M_X7_leastMillionths) 3 dX7_leastMillionths_3 rfl ?_
  refine z_getR (M := M_X7_leastMillionths) 4 dX7_leastMillionths_4 f_X7_12 o_93 rfl (g_93_0 G0) ?_
  refine z_getJV (M := M_X7_leastMillionths) 7 dX7_leastMillionths_7 f_X7_29 o_94 rfl (fun x1 ex1 => ?_)
  rw [ex1] at q
  have mx2 := mul_bd (x := 1000000) (y := x1) (X := 1000000) (Y := 1600000000) (by omega) (by omega) (by omega) (by omega)
  refine z_lmulN (M := M_X7_leastMillionths) 10 dX7_leastMillionths_10 (by omega) (by omega) ?_
  refine z_topBJ (lo := 0) (hi := 1600000000000000) ⟨by omega, by omega⟩ (fun x2 ex2 ax2 bx2 => ?_)
  refine z_aload_n (M := M_X7_leastMillionths) 11 dX7_leastMillionths_11 rfl ?_
  refine z_getR (M := M_X7_leastMillionths) 12 dX7_leastMillionths_12 f_X7_12 o_93 rfl (g_93_0 G0) ?_
  refine z_getJV (M := M_X7_leastMillionths) 15 dX7_leastMillionths_15 f_X7_33 o_94 rfl (fun x3 ex3 => ?_)
  rw [ex3] at q
  refine z_nJ (M := M_X7_leastMillionths) 18 dX7_leastMillionths_18 t_X11_quotient l_X7_36 (m_rr_of rfl) (rest := []) (c_X11_quotientQ h0 x2 x3 G0 (by omega) (by omega)) rfl rfl (Nat.le_of_ble_eq_true rfl) ⟨rfl, rfl⟩ (fun x4 h1 qx4 => ?_)
  obtain ⟨G1, S1, fx4⟩ := qx4
  have R1 := (FR.rf (cs := []) (ss := []) (h := h0)).call S1 (by decide +kernel)
  exact z_retJ (M := M_X7_leastMillionths) 21 dX7_leastMillionths_21 rfl ⟨G1, R1, by rw [← fx4]; exact Int.ediv_nonneg (by omega) (by omega), by rw [ex1, ex3, ex2]; exact fx4⟩
abbrev P_X7_greatestMillionths2 (h0 : m_H) : Int → m_H → Prop := fun x h' => GI h' ∧ FR [] [] h0 h' ∧ -1 ≤ x ∧ ((h0 95 1 = 0 ∧ x = -1) ∨ (h0 95 1 ≠ 0 ∧ 1000000 * h0 95 0 / h0 95 1 = x))
set_option maxHeartbeats 4000000 in
set_option maxRecDepth 100000 in
theorem c_X7_greatestMillionths2 (h0 : m_H) (G0 : GI h0) (q : ((0 < h0 95 0 ∧ h0 95 0 ≤ 1600000000) ∧ 0 ≤ h0 95 1 ∧ h0 95 1 ≤ 1600000000)) : m_CJ M_X7_greatestMillionths [mR 93] h0 (P_X7_greatestMillionths2 h0) := by
  refine m_CJ_of ⟨by decide, rfl, by simp [m_arg, m_isL, M_X7_greatestMillionths], ⟨rfl, rfl⟩, rfl, rfl⟩ (ls := [some (mR 93)]) rfl ?_
  refine z_aload_n (M := M_X7_greatestMillionths) 0 dX7_greatestMillionths_0 rfl ?_
  refine z_getR (M := M_X7_greatestMillionths) 1 dX7_greatestMillionths_1 f_X7_18 o_93 rfl (g_93_1 G0) ?_
  refine z_getJV (M := M_X7_greatestMillionths) 4 dX7_greatestMillionths_4 f_X7_29 o_95 rfl (fun x1 ex1 => ?_)
  rw [ex1] at q
  refine z_lconst (M := M_X7_greatestMillionths) 7 dX7_greatestMillionths_7 (v := 0) ?_
  refine z_lcmp (M := M_X7_greatestMillionths) 8 dX7_greatestMillionths_8 ?_
  refine z_if_ne (M := M_X7_greatestMillionths) 9 dX7_greatestMillionths_9 18 rfl (fun c2 => ?_) (fun c2 => ?_)
  · rw [m_cmp_eq] at c2
    refine z_ldc2 (M := M_X7_greatestMillionths) 18 dX7_greatestMillionths_18 k_X7_27 ?_
    refine z_aload_n (M := M_X7_greatestMillionths) 21 dX7_greatestMillionths_21 rfl ?_
    refine z_getR (M := M_X7_greatestMillionths) 22 dX7_greatestMillionths_22 f_X7_18 o_93 rfl (g_93_1 G0) ?_
    refine z_getJV (M := M_X7_greatestMillionths) 25 dX7_greatestMillionths_25 f_X7_33 o_95 rfl (fun x3 ex3 => ?_)
    rw [ex3] at q
    have mx4 := mul_bd (x := 1000000) (y := x3) (X := 1000000) (Y := 1600000000) (by omega) (by omega) (by omega) (by omega)
    refine z_lmulN (M := M_X7_greatestMillionths) 28 dX7_greatestMillionths_28 (by omega) (by omega) ?_
    refine z_topBJ (lo := 0) (hi := 1600000000000000) ⟨by omega, by omega⟩ (fun x4 ex4 ax4 bx4 => ?_)
    refine z_aload_n (M := M_X7_greatestMillionths) 29 dX7_greatestMillionths_29 rfl ?_
    refine z_getR (M := M_X7_greatestMillionths) 30 dX7_greatestMillionths_30 f_X7_18 o_93 rfl (g_93_1 G0) ?_
    refine z_getJE (M := M_X7_greatestMillionths) 33 dX7_greatestMillionths_33 f_X7_29 o_95 rfl ex1 ?_
    refine z_nJ (M := M_X7_greatestMillionths) 36 dX7_greatestMillionths_36 t_X11_quotient l_X7_36 (m_rr_of rfl) (rest := []) (c_X11_quotientQ h0 x4 x1 G0 (by omega) (by omega)) rfl rfl (Nat.le_of_ble_eq_true rfl) ⟨rfl, rfl⟩ (fun x5 h1 qx5 => ?_)
    obtain ⟨G1, S1, fx5⟩ := qx5
    have R1 := (FR.rf (cs := []) (ss := []) (h := h0)).call S1 (by decide +kernel)
    exact z_retJ (M := M_X7_greatestMillionths) 39 dX7_greatestMillionths_39 rfl ⟨G1, R1, by have z := Int.ediv_nonneg (a := x4) (b := x1) (by omega) (by omega); omega, Or.inr ⟨by rw [ex1]; exact c2, by rw [ex1, ex3, ex4]; exact fx5⟩⟩
  · rw [m_cmp_eq] at c2
    refine z_ldc2 (M := M_X7_greatestMillionths) 12 dX7_greatestMillionths_12 k_X7_40 ?_
    refine z_goto (M := M_X7_greatestMillionths) 15 dX7_greatestMillionths_15 39 rfl ?_
    exact z_retJ (M := M_X7_greatestMillionths) 39 dX7_greatestMillionths_39 rfl ⟨G0, (FR.rf (cs := []) (ss := []) (h := h0)), by omega, Or.inl ⟨by rw [ex1]; omega, rfl⟩⟩
abbrev P_X11_between3 (h0 : m_H) (a1 a2 a3 : Int) : Int → m_H → Prop := fun x h' => GI h' ∧ FR (csB ++ [39, 40, 41]) [] h0 h' ∧ btQ (h0 110) a1 a2 a3 x
set_option maxHeartbeats 4000000 in
set_option maxRecDepth 100000 in
theorem c_X11_between3 (h0 : m_H) (a1 a2 a3 : Int) (G0 : GI h0) (hR : LR 1 h0 (h0 110)) (hN : NP h0) : m_CI M_X11_between [mR 0, mI a1, mI a2, mI a3] h0 (P_X11_between3 h0 a1 a2 a3) := by
  refine m_CI_of ⟨by decide, rfl, by simp [m_arg, m_isL, M_X11_between], ⟨rfl, rfl⟩, rfl, rfl⟩ (ls := [some (mR 0), some (mI a1), some (mI a2), some (mI a3)]) rfl ?_
  refine z_ok (fun _ _ ok => ?_)
  have oa1 : m_32 a1 := ok 1 _ rfl
  unfold m_32 at oa1
  have oa2 : m_32 a2 := ok 2 _ rfl
  unfold m_32 at oa2
  have oa3 : m_32 a3 := ok 3 _ rfl
  unfold m_32 at oa3
  refine z_iload_n (M := M_X11_between) 0 dX11_between_0 rfl ?_
  refine z_iconst (M := M_X11_between) 1 dX11_between_1 ?_
  refine z_iconst (M := M_X11_between) 2 dX11_between_2 ?_
  refine z_sI (M := M_X11_between) 3 dX11_between_3 t_X11_within l_X11_112 (m_rr_of rfl) (rest := []) (c_X11_within h0 a3 0 3 G0) rfl rfl (Nat.le_of_ble_eq_true rfl) ⟨rfl, rfl⟩ (fun x1 h1 qx1 => ?_)
  obtain ⟨rfl, ⟨rfl, cx1⟩ | ⟨rfl, cx1⟩⟩ := qx1
  · refine z_if_eq_F (M := M_X11_between) 6 dX11_between_6 18 rfl (by omega) ?_
    refine z_aload_n (M := M_X11_between) 9 dX11_between_9 rfl ?_
    refine z_iload_n (M := M_X11_between) 10 dX11_between_10 rfl ?_
    refine z_iload_n (M := M_X11_between) 11 dX11_between_11 rfl ?_
    refine z_vI (M := M_X11_between) 12 dX11_between_12 t_X11_compare l_X11_211 (m_rr_of rfl) (rest := []) (c_X11_compare2 h0 a1 a2 G0 hR hN) o_0 rfl rfl rfl (Nat.le_of_ble_eq_true rfl) ⟨rfl, rfl⟩ (fun x2 h2 qx2 => ?_)
    obtain ⟨G2, S2, ax2, bx2, fx2⟩ := qx2
    have R2 := (FR.rf (cs := (csB ++ [39, 40, 41])) (ss := []) (h := h0)).call S2 (by decide +kernel)
    refine z_if_ne (M := M_X11_between) 15 dX11_between_15 21 rfl (fun c3 => ?_) (fun c3 => ?_)
    · have k_ := fx2.1.mp (by omega)
      have p_ := fx2.2 (by omega)
      have pb1_ : (0 < h2 95 0 ∧ h2 95 0 ≤ 1600000000) ∧ 0 ≤ h2 95 1 ∧ h2 95 1 ≤ 1600000000 := p_.1.2.1
      have pb2_ : (0 < h2 94 0 ∧ h2 94 0 ≤ 1600000000) ∧ 0 ≤ h2 94 1 ∧ h2 94 1 ≤ 1600000000 := p_.2.2.1
      refine z_iload_n (M := M_X11_between) 21 dX11_between_21 rfl ?_
      by_cases c4 : a3 = 0 ∨ a3 = 1 ∨ a3 = 2
      · rcases c4 with c4_0 | c4_1 | c4_2
        · refine z_tabIn (M := M_X11_between) 22 dX11_between_22 (off := 26) 48 (by omega) (by omega) (by rw [c4_0]; rfl) rfl ?_
          refine z_aload_n (M := M_X11_between) 48 dX11_between_48 rfl ?_
          refine z_getR (M := M_X11_between) 49 dX11_between_49 f_X11_53 o_0 rfl (g_0_7 G2) ?_
          refine z_vJ (M := M_X11_between) 52 dX11_between_52 t_X7_leastMillionths l_X11_214 (m_rr_of rfl) (rest := []) (c_X7_leastMillionths2 h2 G2 pb2_) o_93 rfl rfl rfl (Nat.le_of_ble_eq_true rfl) ⟨rfl, rfl⟩ (fun x5 h3 qx5 => ?_)
          obtain ⟨G3, S3, ax5, fx5⟩ := qx5
          have R3 := R2.call S3 (by decide +kernel)
          refine z_ldc2 (M := M_X11_between) 55 dX11_between_55 k_X11_218 ?_
          refine z_sI (M := M_X11_between) 58 dX11_between_58 t_X11_atMost l_X11_220 (m_rr_of rfl) (rest := []) (c_X11_atMost2 h3 x5 2000000000 G3 (by omega) ⟨by omega, by omega⟩) rfl rfl (Nat.le_of_ble_eq_true rfl) ⟨rfl, rfl⟩ (fun x6 h4 qx6 => ?_)
          obtain ⟨G4, S4, fx6⟩ := qx6
          have R4 := R3.call S4 (by decide +kernel)
          refine z_ok (fun ox6 _ _ => ?_)
          have ox6 := ox6.1; unfold m_ok m_32 at ox6
          exact z_retI (M := M_X11_between) 61 dX11_between_61 rfl ⟨G4, R4, Or.inr ⟨⟨⟨by omega, by omega⟩, k_⟩, Or.inl ⟨_, p_.2.1, Or.inl ⟨c4_0, ml_of pb2_.1.1 pb2_.2.1 fx5 fx6⟩⟩⟩⟩
        · refine z_tabIn (M := M_X11_between) 22 dX11_between_22 (off := 40) 62 (by omega) (by omega) (by rw [c4_1]; rfl) rfl ?_
          refine z_aload_n (M := M_X11_between) 62 dX11_between_62 rfl ?_
          refine z_getR (M := M_X11_between) 63 dX11_between_63 f_X11_53 o_0 rfl (g_0_7 G2) ?_
          refine z_vJ (M := M_X11_between) 66 dX11_between_66 t_X7_greatestMillionths l_X11_224 (m_rr_of rfl) (rest := []) (c_X7_greatestMillionths2 h2 G2 pb1_) o_93 rfl rfl rfl (Nat.le_of_ble_eq_true rfl) ⟨rfl, rfl⟩ (fun x7 h5 qx7 => ?_)
          obtain ⟨G5, S5, ax7, fx7⟩ := qx7
          have R5 := R2.call S5 (by decide +kernel)
          refine z_ldc2 (M := M_X11_between) 69 dX11_between_69 k_X11_218 ?_
          refine z_sI (M := M_X11_between) 72 dX11_between_72 t_X11_atMost l_X11_220 (m_rr_of rfl) (rest := []) (c_X11_atMost2 h5 x7 2000000000 G5 (by omega) ⟨by omega, by omega⟩) rfl rfl (Nat.le_of_ble_eq_true rfl) ⟨rfl, rfl⟩ (fun x8 h6 qx8 => ?_)
          obtain ⟨G6, S6, fx8⟩ := qx8
          have R6 := R5.call S6 (by decide +kernel)
          refine z_ok (fun ox8 _ _ => ?_)
          have ox8 := ox8.1; unfold m_ok m_32 at ox8
          exact z_retI (M := M_X11_between) 75 dX11_between_75 rfl ⟨G6, R6, Or.inr ⟨⟨⟨by omega, by omega⟩, k_⟩, Or.inr ⟨_, p_.1.1, Or.inl ⟨c4_1, by rcases fx7 with ⟨z1, z2⟩ | ⟨z1, z2⟩; exact Or.inl ⟨z1, by rw [← fx8, z2]; rfl⟩; exact Or.inr ⟨z1, ml_of (by have z3 : h2 95 1 ≠ 0 := z1; have z4 := pb1_.2.1; show 0 < h2 95 1; omega) (Int.le_of_lt pb1_.1.1) z2 fx8⟩⟩⟩⟩⟩
        · refine z_tabIn (M := M_X11_between) 22 dX11_between_22 (off := 54) 76 (by omega) (by omega) (by rw [c4_2]; rfl) rfl ?_
          refine z_aload_n (M := M_X11_between) 76 dX11_between_76 rfl ?_
          refine z_getR (M := M_X11_between) 77 dX11_between_77 f_X11_53 o_0 rfl (g_0_7 G2) ?_
          refine z_getR (M := M_X11_between) 80 dX11_between_80 f_X11_227 o_93 rfl (g_93_0 G2) ?_
          refine z_getIG (M := M_X11_between) 83 dX11_between_83 f_X11_231 o_94 (by decide) (g_94_2 G2) (fun x9 ex9 ax9 bx9 => ?_)
          refine z_if_eq (M := M_X11_between) 86 dX11_between_86 93 rfl (fun c10 => ?_) (fun c10 => ?_)
          · refine z_iconst (M := M_X11_between) 93 dX11_between_93 ?_
            exact z_retI (M := M_X11_between) 94 dX11_between_94 rfl ⟨G2, R2, Or.inr ⟨⟨⟨by omega, by omega⟩, k_⟩, Or.inl ⟨_, p_.2.1, Or.inr ⟨c4_2, Or.inl ⟨rfl, fun z => absurd (p_.2.2.2.1 z) (by show h2 94 2 ≠ 1; omega), by show h2 94 2 ≠ 1; omega⟩⟩⟩⟩⟩
          · refine z_iconst (M := M_X11_between) 89 dX11_between_89 ?_
            refine z_goto (M := M_X11_between) 90 dX11_between_90 94 rfl ?_
            exact z_retI (M := M_X11_between) 94 dX11_between_94 rfl ⟨G2, R2, Or.inr ⟨⟨⟨by omega, by omega⟩, k_⟩, Or.inl ⟨_, p_.2.1, Or.inr ⟨c4_2, Or.inr ⟨rfl, fun z => absurd (show h2 94 2 = 1 by omega) z.2⟩⟩⟩⟩⟩
      · refine z_tabOut (M := M_X11_between) 22 dX11_between_22 95 (by omega) rfl ?_
        refine z_aload_n (M := M_X11_between) 95 dX11_between_95 rfl ?_
        refine z_getR (M := M_X11_between) 96 dX11_between_96 f_X11_53 o_0 rfl (g_0_7 G2) ?_
        refine z_getR (M := M_X11_between) 99 dX11_between_99 f_X11_237 o_93 rfl (g_93_1 G2) ?_
        refine z_getIG (M := M_X11_between) 102 dX11_between_102 f_X11_231 o_95 (by decide) (g_95_2 G2) (fun x11 ex11 ax11 bx11 => ?_)
        refine z_if_eq (M := M_X11_between) 105 dX11_between_105 112 rfl (fun c12 => ?_) (fun c12 => ?_)
        · refine z_iconst (M := M_X11_between) 112 dX11_between_112 ?_
          exact z_retI (M := M_X11_between) 113 dX11_between_113 rfl ⟨G2, R2, Or.inr ⟨⟨⟨by omega, by omega⟩, k_⟩, Or.inr ⟨_, p_.1.1, Or.inr ⟨by omega, Or.inl ⟨rfl, fun z => absurd (p_.1.2.2.1 z) (by show h2 95 2 ≠ 1; omega), by show h2 95 2 ≠ 1; omega⟩⟩⟩⟩⟩
        · refine z_iconst (M := M_X11_between) 108 dX11_between_108 ?_
          refine z_goto (M := M_X11_between) 109 dX11_between_109 113 rfl ?_
          exact z_retI (M := M_X11_between) 113 dX11_between_113 rfl ⟨G2, R2, Or.inr ⟨⟨⟨by omega, by omega⟩, k_⟩, Or.inr ⟨_, p_.1.1, Or.inr ⟨by omega, Or.inr ⟨rfl, fun z => absurd (show h2 95 2 = 1 by omega) z.2⟩⟩⟩⟩⟩
    · refine z_bipush (M := M_X11_between) 18 dX11_between_18 ?_
      exact z_retI (M := M_X11_between) 20 dX11_between_20 rfl ⟨G2, R2, Or.inl ⟨fun z => absurd (fx2.1.mpr z.2) (by omega), rfl⟩⟩
  · refine z_if_eq_T (M := M_X11_between) 6 dX11_between_6 18 rfl (by omega) ?_
    refine z_bipush (M := M_X11_between) 18 dX11_between_18 ?_
    exact z_retI (M := M_X11_between) 20 dX11_between_20 rfl ⟨G0, (FR.rf (cs := (csB ++ [39, 40, 41])) (ss := []) (h := h0)), Or.inl ⟨fun z => cx1 z.1, rfl⟩⟩
theorem bOf_y {h : m_H} {l : Nat} {x : Int} (e : h 127 l = x) (c : x = 1) : bOf (aS h l) = (vS (h 125) (5 * l) 5, vS (h 124) (5 * l) 5, h 126 l) := by
  unfold bOf
  rw [if_pos (show (aS h l).2.2 = 1 from e.trans c)]
  rfl
theorem bOf_n {h : m_H} {l : Nat} {x : Int} (e : h 127 l = x) (c : x ≠ 1) : bOf (aS h l) = (1, 0, 1) := by
  unfold bOf
  rw [if_neg (show ¬ (aS h l).2.2 = 1 from fun z => c (e.symm.trans z))]
theorem at5 {a : Int} (h : 0 ≤ a) : (5 * a).toNat = 5 * a.toNat := by omega
abbrev P_X12_between3 (h0 : m_H) (a1 a2 a3 : Int) : Int → m_H → Prop := fun x h' => GI h' ∧ FR [115, 116, 117, 118, 119, 120, 121, 122, 123, 124, 125, 126, 127, 128, 129, 130, 131, 132, 133, 134, 135, 136] [(108, 0), (108, 21)] h0 h' ∧ (-2) ≤ x ∧ x ≤ 2000000000 ∧ btQ (h0 110) a1 a2 a3 x
set_option maxHeartbeats 4000000 in
set_option maxRecDepth 100000 in
theorem c_X12_between3 (h0 : m_H) (a1 a2 a3 : Int) (G0 : GI h0) (hN : NP h0) : m_CI M_X12_between [mR 108, mI a1, mI a2, mI a3] h0 (P_X12_between3 h0 a1 a2 a3) := by
  refine m_CI_of ⟨by decide, rfl, by simp [m_arg, m_isL, M_X12_between], ⟨rfl, rfl⟩, rfl, rfl⟩ (ls := [some (mR 108), some (mI a1), some (mI a2), some (mI a3), none, none]) rfl ?_
  refine z_ok (fun _ _ ok => ?_)
  have oa1 : m_32 a1 := ok 1 _ rfl
  unfold m_32 at oa1
  have oa2 : m_32 a2 := ok 2 _ rfl
  unfold m_32 at oa2
  have oa3 : m_32 a3 := ok 3 _ rfl
  unfold m_32 at oa3
  refine z_aload_n (M := M_X12_between) 0 dX12_between_0 rfl ?_
  refine z_iconst (M := M_X12_between) 1 dX12_between_1 ?_
  refine z_putIH (M := M_X12_between) 2 dX12_between_2 p_X12_133 o_108 rfl (u_108_0 G0) ((FR.rf (cs := [115, 116, 117, 118, 119, 120, 121, 122, 123, 124, 125, 126, 127, 128, 129, 130, 131, 132, 133, 134, 135, 136]) (ss := [(108, 0), (108, 21)]) (h := h0)).up rfl) (fun h1 E1 G1 R1 => ?_)
  refine z_iload_n (M := M_X12_between) 5 dX12_between_5 rfl ?_
  refine z_i2l (M := M_X12_between) 6 dX12_between_6 ?_
  refine z_lconst (M := M_X12_between) 7 dX12_between_7 (v := 0) ?_
  refine z_ldc2 (M := M_X12_between) 8 dX12_between_8 k_X12_152 ?_
  refine z_sI (M := M_X12_between) 11 dX12_between_11 t_X12_in l_X12_143 (m_rr_of rfl) (rest := []) (c_X12_in h1 a3 0 3 G1) rfl rfl (Nat.le_of_ble_eq_true rfl) ⟨rfl, rfl⟩ (fun x1 h2 qx1 => ?_)
  obtain ⟨rfl, ⟨rfl, cx1⟩ | ⟨rfl, cx1⟩⟩ := qx1
  · refine z_if_eq_F (M := M_X12_between) 14 dX12_between_14 26 rfl (by omega) ?_
    refine z_aload_n (M := M_X12_between) 17 dX12_between_17 rfl ?_
    refine z_iload_n (M := M_X12_between) 18 dX12_between_18 rfl ?_
    refine z_iload_n (M := M_X12_between) 19 dX12_between_19 rfl ?_
    refine z_vI (M := M_X12_between) 20 dX12_between_20 t_X12_isAnswered l_X12_394 (m_rr_of rfl) (rest := []) (c_X12_isAnswered2 h1 a1 a2 G1 (NP.call hN R1 (fun _ => rfl) (fun _ => rfl) (fun _ => rfl))) o_108 rfl rfl rfl (Nat.le_of_ble_eq_true rfl) ⟨rfl, rfl⟩ (fun x2 h3 qx2 => ?_)
    obtain ⟨G3, S3, ax2, bx2, fx2_0, fx2_1⟩ := qx2
    have R3 := R1.call S3 (by decide +kernel)
    have e1_ : h1 110 = h0 110 := FR.row R1 (fun _ => rfl)
    have e3_ : h3 110 = h0 110 := FR.row R3 (fun _ => rfl)
    rw [e1_] at fx2_1
    refine z_if_ne (M := M_X12_between) 23 dX12_between_23 29 rfl (fun c3 => ?_) (fun c3 => ?_)
    · have an := fx2_0 (by omega)
      have an1 := an.1
      have an2 := an.2.1
      refine z_iload_n (M := M_X12_between) 29 dX12_between_29 rfl ?_
      refine z_iconst (M := M_X12_between) 30 dX12_between_30 ?_
      refine z_iremN (M := M_X12_between) 31 dX12_between_31 (by omega) (by omega) ?_
      refine z_topBI (lo := 0) (hi := 1) ⟨by omega, by omega⟩ (fun x4 ex4 ax4 bx4 => ?_)
      refine z_if_ne (M := M_X12_between) 32 dX12_between_32 39 rfl (fun c5 => ?_) (fun c5 => ?_)
      · refine z_iconst (M := M_X12_between) 39 dX12_between_39 ?_
        refine z_istore (M := M_X12_between) 40 dX12_between_40 (ls' := [some (mR 108), some (mI a1), some (mI a2), some (mI a3), some (mI 0), none]) (by decide) rfl ?_
        refine z_aload_n (M := M_X12_between) 42 dX12_between_42 rfl ?_
        refine z_iload (M := M_X12_between) 43 dX12_between_43 rfl ?_
        refine z_if_eq_T (M := M_X12_between) 45 dX12_between_45 52 rfl (by omega) ?_
        refine z_iload_n (M := M_X12_between) 52 dX12_between_52 rfl ?_
        refine z_vV (M := M_X12_between) 53 dX12_between_53 t_X12_goFrom l_X12_397 (m_rr_of rfl) (rest := []) (c_X12_goFrom2 h3 a1 G3 ⟨by omega, by omega⟩ (NP.call hN R3 (fun _ => rfl) (fun _ => rfl) (fun _ => rfl)) (gG_f (gG_b an.2.2 R1 (fun _ => rfl)) R3 (fun _ => rfl))) o_108 rfl rfl rfl (Nat.le_of_ble_eq_true rfl) ⟨rfl, rfl⟩ (fun h4 qx6 => ?_)
        obtain ⟨G4, S4, fx6_0, fx6_1⟩ := qx6
        rw [e3_] at fx6_1
        have b_ := fx6_1 a2.toNat (by omega)
        have g_ := fx6_0 a2.toNat (by omega)
        have k_ := fx2_1.mp (by omega)
        have R4 := R3.call S4 (by decide +kernel)
        refine z_iload (M := M_X12_between) 56 dX12_between_56 rfl ?_
        refine z_if_eq_T (M := M_X12_between) 58 dX12_between_58 65 rfl (by omega) ?_
        refine z_iload_n (M := M_X12_between) 65 dX12_between_65 rfl ?_
        refine z_istore (M := M_X12_between) 66 dX12_between_66 (ls' := [some (mR 108), some (mI a1), some (mI a2), some (mI a3), some (mI 0), some (mI a2)]) (by decide) rfl ?_
        refine z_iload_n (M := M_X12_between) 68 dX12_between_68 rfl ?_
        refine z_iconst (M := M_X12_between) 69 dX12_between_69 ?_
        refine z_icmp_le (M := M_X12_between) 70 dX12_between_70 99 rfl (fun c7 => ?_) (fun c7 => ?_)
        · refine z_aload_n (M := M_X12_between) 99 dX12_between_99 rfl ?_
          refine z_getR (M := M_X12_between) 100 dX12_between_100 f_X12_70 o_108 rfl (g_108_32 G4) ?_
          refine z_iload (M := M_X12_between) 103 dX12_between_103 rfl ?_
          refine z_zaldG (M := M_X12_between) 105 dX12_between_105 o_127 (by omega) (by omega) (g_127 G4 (by omega)) (fun x8 ex8 ax8 bx8 => ?_)
          refine z_if_ne (M := M_X12_between) 106 dX12_between_106 120 rfl (fun c9 => ?_) (fun c9 => ?_)
          · refine z_iload (M := M_X12_between) 120 dX12_between_120 rfl ?_
            refine z_if_eq_T (M := M_X12_between) 122 dX12_between_122 154 rfl (by omega) ?_
            refine z_aload_n (M := M_X12_between) 154 dX12_between_154 rfl ?_
            refine z_aload_n (M := M_X12_between) 155 dX12_between_155 rfl ?_
            refine z_getR (M := M_X12_between) 156 dX12_between_156 f_X12_64 o_108 rfl (g_108_30 G4) ?_
            refine z_iconst (M := M_X12_between) 159 dX12_between_159 ?_
            refine z_iload (M := M_X12_between) 160 dX12_between_160 rfl ?_
            refine z_imulN (M := M_X12_between) 162 dX12_between_162 (by omega) (by omega) ?_
            refine z_aload_n (M := M_X12_between) 163 dX12_between_163 rfl ?_
            refine z_getR (M := M_X12_between) 164 dX12_between_164 f_X12_61 o_108 rfl (g_108_29 G4) ?_
            refine z_iconst (M := M_X12_between) 167 dX12_between_167 ?_
            refine z_iload (M := M_X12_between) 168 dX12_between_168 rfl ?_
            refine z_imulN (M := M_X12_between) 170 dX12_between_170 (by omega) (by omega) ?_
            refine z_ldcw (M := M_X12_between) 171 dX12_between_171 k_X12_400 ?_
            refine z_ldcw (M := M_X12_between) 174 dX12_between_174 k_X12_401 ?_
            refine z_vI (M := M_X12_between) 177 dX12_between_177 t_X12_share l_X12_402 (m_rr_of rfl) (rest := []) (c_X12_share2 h4 125 124 (5 * a2) (5 * a2) 1000000 2000000000 (Or.inr rfl) (Or.inl rfl) G4 ⟨by omega, by omega⟩ ⟨by omega, by omega⟩ ⟨by omega, by omega⟩ ⟨by omega, by omega⟩) o_108 rfl rfl rfl (Nat.le_of_ble_eq_true rfl) ⟨rfl, rfl⟩ (fun x10 h5 qx10 => ?_)
            obtain ⟨G5, S5, ax10, bx10, fx10⟩ := qx10
            have R5 := R4.call S5 (by decide +kernel)
            exact z_retI (M := M_X12_between) 180 dX12_between_180 rfl ⟨G5, R5, by omega, by omega, Or.inr ⟨⟨⟨by omega, by omega⟩, k_⟩, Or.inr ⟨_, (by have z := b_; rw [bOf_y ex8 (by omega)] at z; exact z), Or.inl ⟨by omega, Or.inr ⟨(show vS (h4 124) (5 * a2.toNat) 5 ≠ 0 by have z : 1 ≤ vS (h4 124) (5 * a2.toNat) 5 := (g_.2.2 (ex8.trans (by omega))).1.1; omega), ml_sh rfl (by omega) (by omega) (by have z := fx10; rw [at5 (by omega)] at z; exact z)⟩⟩⟩⟩⟩
          · refine z_iload (M := M_X12_between) 109 dX12_between_109 rfl ?_
            refine z_if_eq_T (M := M_X12_between) 111 dX12_between_111 118 rfl (by omega) ?_
            refine z_iconst (M := M_X12_between) 118 dX12_between_118 ?_
            exact z_retI (M := M_X12_between) 119 dX12_between_119 rfl ⟨G4, R4, by omega, by omega, Or.inr ⟨⟨⟨by omega, by omega⟩, k_⟩, Or.inr ⟨_, (by have z := b_; rw [bOf_n ex8 (by omega)] at z; exact z), Or.inl ⟨by omega, Or.inl ⟨rfl, rfl⟩⟩⟩⟩⟩
        · refine z_aload_n (M := M_X12_between) 73 dX12_between_73 rfl ?_
          refine z_getR (M := M_X12_between) 74 dX12_between_74 f_X12_70 o_108 rfl (g_108_32 G4) ?_
          refine z_iload (M := M_X12_between) 77 dX12_between_77 rfl ?_
          refine z_zaldG (M := M_X12_between) 79 dX12_between_79 o_127 (by omega) (by omega) (g_127 G4 (by omega)) (fun x11 ex11 ax11 bx11 => ?_)
          refine z_if_eq (M := M_X12_between) 80 dX12_between_80 97 rfl (fun c12 => ?_) (fun c12 => ?_)
          · refine z_iconst (M := M_X12_between) 97 dX12_between_97 ?_
            exact z_retI (M := M_X12_between) 98 dX12_between_98 rfl ⟨G4, R4, by omega, by omega, Or.inr ⟨⟨⟨by omega, by omega⟩, k_⟩, Or.inr ⟨_, (by have z := b_; rw [bOf_n ex11 (by omega)] at z; exact z), Or.inr ⟨by omega, Or.inr ⟨rfl, fun z => z.1 rfl⟩⟩⟩⟩⟩
          · refine z_aload_n (M := M_X12_between) 83 dX12_between_83 rfl ?_
            refine z_getR (M := M_X12_between) 84 dX12_between_84 f_X12_67 o_108 rfl (g_108_31 G4) ?_
            refine z_iload (M := M_X12_between) 87 dX12_between_87 rfl ?_
            refine z_zaldG (M := M_X12_between) 89 dX12_between_89 o_126 (by omega) (by omega) (g_126 G4 (by omega)) (fun x13 ex13 ax13 bx13 => ?_)
            refine z_if_ne (M := M_X12_between) 90 dX12_between_90 97 rfl (fun c14 => ?_) (fun c14 => ?_)
            · refine z_iconst (M := M_X12_between) 97 dX12_between_97 ?_
              exact z_retI (M := M_X12_between) 98 dX12_between_98 rfl ⟨G4, R4, by omega, by omega, Or.inr ⟨⟨⟨by omega, by omega⟩, k_⟩, Or.inr ⟨_, (by have z := b_; rw [bOf_y ex11 (by omega)] at z; exact z), Or.inr ⟨by omega, Or.inr ⟨rfl, fun z => z.2 (show h4 126 a2.toNat = 1 by omega)⟩⟩⟩⟩⟩
            · refine z_iconst (M := M_X12_between) 93 dX12_between_93 ?_
              refine z_goto (M := M_X12_between) 94 dX12_between_94 98 rfl ?_
              exact z_retI (M := M_X12_between) 98 dX12_between_98 rfl ⟨G4, R4, by omega, by omega, Or.inr ⟨⟨⟨by omega, by omega⟩, k_⟩, Or.inr ⟨_, (by have z := b_; rw [bOf_y ex11 (by omega)] at z; exact z), Or.inr ⟨by omega, Or.inl ⟨rfl, (show vS (h4 124) (5 * a2.toNat) 5 ≠ 0 by have z : 1 ≤ vS (h4 124) (5 * a2.toNat) 5 := (g_.2.2 (ex11.trans (by omega))).1.1; omega), fun z => absurd (ex13.symm.trans z) (by omega)⟩⟩⟩⟩⟩
      · refine z_iconst (M := M_X12_between) 35 dX12_between_35 ?_
        refine z_goto (M := M_X12_between) 36 dX12_between_36 40 rfl ?_
        refine z_istore (M := M_X12_between) 40 dX12_between_40 (ls' := [some (mR 108), some (mI a1), some (mI a2), some (mI a3), some (mI 1), none]) (by decide) rfl ?_
        refine z_aload_n (M := M_X12_between) 42 dX12_between_42 rfl ?_
        refine z_iload (M := M_X12_between) 43 dX12_between_43 rfl ?_
        refine z_if_eq_F (M := M_X12_between) 45 dX12_between_45 52 rfl (by omega) ?_
        refine z_iload_n (M := M_X12_between) 48 dX12_between_48 rfl ?_
        refine z_goto (M := M_X12_between) 49 dX12_between_49 53 rfl ?_
        refine z_vV (M := M_X12_between) 53 dX12_between_53 t_X12_goFrom l_X12_397 (m_rr_of rfl) (rest := []) (c_X12_goFrom2 h3 a2 G3 ⟨by omega, by omega⟩ (NP.call hN R3 (fun _ => rfl) (fun _ => rfl) (fun _ => rfl)) (gG_f (gG_b an.2.2 R1 (fun _ => rfl)) R3 (fun _ => rfl))) o_108 rfl rfl rfl (Nat.le_of_ble_eq_true rfl) ⟨rfl, rfl⟩ (fun h6 qx15 => ?_)
        obtain ⟨G6, S6, fx15_0, fx15_1⟩ := qx15
        rw [e3_] at fx15_1
        have b_ := fx15_1 a1.toNat (by omega)
        have g_ := fx15_0 a1.toNat (by omega)
        have k_ := fx2_1.mp (by omega)
        have R6 := R3.call S6 (by decide +kernel)
        refine z_iload (M := M_X12_between) 56 dX12_between_56 rfl ?_
        refine z_if_eq_F (M := M_X12_between) 58 dX12_between_58 65 rfl (by omega) ?_
        refine z_iload_n (M := M_X12_between) 61 dX12_between_61 rfl ?_
        refine z_goto (M := M_X12_between) 62 dX12_between_62 66 rfl ?_
        refine z_istore (M := M_X12_between) 66 dX12_between_66 (ls' := [some (mR 108), some (mI a1), some (mI a2), some (mI a3), some (mI 1), some (mI a1)]) (by decide) rfl ?_
        refine z_iload_n (M := M_X12_between) 68 dX12_between_68 rfl ?_
        refine z_iconst (M := M_X12_between) 69 dX12_between_69 ?_
        refine z_icmp_le (M := M_X12_between) 70 dX12_between_70 99 rfl (fun c16 => ?_) (fun c16 => ?_)
        · refine z_aload_n (M := M_X12_between) 99 dX12_between_99 rfl ?_
          refine z_getR (M := M_X12_between) 100 dX12_between_100 f_X12_70 o_108 rfl (g_108_32 G6) ?_
          refine z_iload (M := M_X12_between) 103 dX12_between_103 rfl ?_
          refine z_zaldG (M := M_X12_between) 105 dX12_between_105 o_127 (by omega) (by omega) (g_127 G6 (by omega)) (fun x17 ex17 ax17 bx17 => ?_)
          refine z_if_ne (M := M_X12_between) 106 dX12_between_106 120 rfl (fun c18 => ?_) (fun c18 => ?_)
          · refine z_iload (M := M_X12_between) 120 dX12_between_120 rfl ?_
            refine z_if_eq_F (M := M_X12_between) 122 dX12_between_122 154 rfl (by omega) ?_
            refine z_aload_n (M := M_X12_between) 125 dX12_between_125 rfl ?_
            refine z_aload_n (M := M_X12_between) 126 dX12_between_126 rfl ?_
            refine z_getR (M := M_X12_between) 127 dX12_between_127 f_X12_61 o_108 rfl (g_108_29 G6) ?_
            refine z_iconst (M := M_X12_between) 130 dX12_between_130 ?_
            refine z_iload (M := M_X12_between) 131 dX12_between_131 rfl ?_
            refine z_imulN (M := M_X12_between) 133 dX12_between_133 (by omega) (by omega) ?_
            refine z_aload_n (M := M_X12_between) 134 dX12_between_134 rfl ?_
            refine z_getR (M := M_X12_between) 135 dX12_between_135 f_X12_64 o_108 rfl (g_108_30 G6) ?_
            refine z_iconst (M := M_X12_between) 138 dX12_between_138 ?_
            refine z_iload (M := M_X12_between) 139 dX12_between_139 rfl ?_
            refine z_imulN (M := M_X12_between) 141 dX12_between_141 (by omega) (by omega) ?_
            refine z_ldcw (M := M_X12_between) 142 dX12_between_142 k_X12_400 ?_
            refine z_ldcw (M := M_X12_between) 145 dX12_between_145 k_X12_401 ?_
            refine z_vI (M := M_X12_between) 148 dX12_between_148 t_X12_share l_X12_402 (m_rr_of rfl) (rest := []) (c_X12_share2 h6 124 125 (5 * a1) (5 * a1) 1000000 2000000000 (Or.inl rfl) (Or.inr rfl) G6 ⟨by omega, by omega⟩ ⟨by omega, by omega⟩ ⟨by omega, by omega⟩ ⟨by omega, by omega⟩) o_108 rfl rfl rfl (Nat.le_of_ble_eq_true rfl) ⟨rfl, rfl⟩ (fun x19 h7 qx19 => ?_)
            obtain ⟨G7, S7, ax19, bx19, fx19⟩ := qx19
            have R7 := R6.call S7 (by decide +kernel)
            refine z_goto (M := M_X12_between) 151 dX12_between_151 180 rfl ?_
            exact z_retI (M := M_X12_between) 180 dX12_between_180 rfl ⟨G7, R7, by omega, by omega, Or.inr ⟨⟨⟨by omega, by omega⟩, k_⟩, Or.inl ⟨_, (by have z := b_; rw [bOf_y ex17 (by omega)] at z; exact z), Or.inl ⟨by omega, ml_sh rfl (by omega) (by omega) (by have z := fx19; rw [at5 (by omega)] at z; exact z)⟩⟩⟩⟩
          · refine z_iload (M := M_X12_between) 109 dX12_between_109 rfl ?_
            refine z_if_eq_F (M := M_X12_between) 111 dX12_between_111 118 rfl (by omega) ?_
            refine z_iconst (M := M_X12_between) 114 dX12_between_114 ?_
            refine z_goto (M := M_X12_between) 115 dX12_between_115 119 rfl ?_
            exact z_retI (M := M_X12_between) 119 dX12_between_119 rfl ⟨G6, R6, by omega, by omega, Or.inr ⟨⟨⟨by omega, by omega⟩, k_⟩, Or.inl ⟨_, (by have z := b_; rw [bOf_n ex17 (by omega)] at z; exact z), Or.inl ⟨by omega, ⟨by decide, by decide⟩, by decide, fun _ => by decide⟩⟩⟩⟩
        · refine z_aload_n (M := M_X12_between) 73 dX12_between_73 rfl ?_
          refine z_getR (M := M_X12_between) 74 dX12_between_74 f_X12_70 o_108 rfl (g_108_32 G6) ?_
          refine z_iload (M := M_X12_between) 77 dX12_between_77 rfl ?_
          refine z_zaldG (M := M_X12_between) 79 dX12_between_79 o_127 (by omega) (by omega) (g_127 G6 (by omega)) (fun x20 ex20 ax20 bx20 => ?_)
          refine z_if_eq (M := M_X12_between) 80 dX12_between_80 97 rfl (fun c21 => ?_) (fun c21 => ?_)
          · refine z_iconst (M := M_X12_between) 97 dX12_between_97 ?_
            exact z_retI (M := M_X12_between) 98 dX12_between_98 rfl ⟨G6, R6, by omega, by omega, Or.inr ⟨⟨⟨by omega, by omega⟩, k_⟩, Or.inl ⟨_, (by have z := b_; rw [bOf_n ex20 (by omega)] at z; exact z), Or.inr ⟨by omega, Or.inr ⟨rfl, fun z => z.1 rfl⟩⟩⟩⟩⟩
          · refine z_aload_n (M := M_X12_between) 83 dX12_between_83 rfl ?_
            refine z_getR (M := M_X12_between) 84 dX12_between_84 f_X12_67 o_108 rfl (g_108_31 G6) ?_
            refine z_iload (M := M_X12_between) 87 dX12_between_87 rfl ?_
            refine z_zaldG (M := M_X12_between) 89 dX12_between_89 o_126 (by omega) (by omega) (g_126 G6 (by omega)) (fun x22 ex22 ax22 bx22 => ?_)
            refine z_if_ne (M := M_X12_between) 90 dX12_between_90 97 rfl (fun c23 => ?_) (fun c23 => ?_)
            · refine z_iconst (M := M_X12_between) 97 dX12_between_97 ?_
              exact z_retI (M := M_X12_between) 98 dX12_between_98 rfl ⟨G6, R6, by omega, by omega, Or.inr ⟨⟨⟨by omega, by omega⟩, k_⟩, Or.inl ⟨_, (by have z := b_; rw [bOf_y ex20 (by omega)] at z; exact z), Or.inr ⟨by omega, Or.inr ⟨rfl, fun z => z.2 (show h6 126 a1.toNat = 1 by omega)⟩⟩⟩⟩⟩
            · refine z_iconst (M := M_X12_between) 93 dX12_between_93 ?_
              refine z_goto (M := M_X12_between) 94 dX12_between_94 98 rfl ?_
              exact z_retI (M := M_X12_between) 98 dX12_between_98 rfl ⟨G6, R6, by omega, by omega, Or.inr ⟨⟨⟨by omega, by omega⟩, k_⟩, Or.inl ⟨_, (by have z := b_; rw [bOf_y ex20 (by omega)] at z; exact z), Or.inr ⟨by omega, Or.inl ⟨rfl, (show vS (h6 124) (5 * a1.toNat) 5 ≠ 0 by have z : 1 ≤ vS (h6 124) (5 * a1.toNat) 5 := (g_.2.2 (ex20.trans (by omega))).1.1; omega), fun z => absurd (ex22.symm.trans z) (by omega)⟩⟩⟩⟩⟩
    · refine z_bipush (M := M_X12_between) 26 dX12_between_26 ?_
      exact z_retI (M := M_X12_between) 28 dX12_between_28 rfl ⟨G3, R3, by omega, by omega, Or.inl ⟨fun z => absurd (fx2_1.mpr z.2) (by omega), rfl⟩⟩
  · refine z_if_eq_T (M := M_X12_between) 14 dX12_between_14 26 rfl (by omega) ?_
    refine z_bipush (M := M_X12_between) 26 dX12_between_26 ?_
    exact z_retI (M := M_X12_between) 28 dX12_between_28 rfl ⟨G1, R1, by omega, by omega, Or.inl ⟨fun z => cx1 z.1, rfl⟩⟩
theorem LX.between {h h1 : m_H} {a b w x y : Int} {cs : List Nat} {ss : List (Nat × Nat)} (G : GI h) (N : NP h) (S1 : FR cs ss h h1) (A : btQ (h 110) a b w x) (B : btQ (h1 110) a b w y) (o : out 110 110 cs ss = true) : x = y := by
  rw [rowz S1 (fr_out o (by decide) (by decide))] at B
  exact bt_eq (bR_ok G N) A B
/-! numbers of a kind by a limit -/
def lnF (k t l o : Int) : Int := if k = 2 then (2 * l + t) / (2 * t) else if k = 0 ∧ (o = 1 ∨ l / t * t ≠ l) then l / t + 1 else l / t
def gnG (T L o : Int) : Int := if o = 1 ∧ T / L * L = T then T / L - 1 else T / L
def gnF (k t l o : Int) : Int := if l = 0 then -1 else if k = 2 then gnG (2 * t + l) (2 * l) o else gnG t l o
abbrev P_X7_leastNumber2 (h0 : m_H) (a1 : Int) : Int → m_H → Prop := fun x h' => GI h' ∧ FR [] [] h0 h' ∧ lnF a1 (h0 94 0) (h0 94 1) (h0 94 2) = x
set_option maxHeartbeats 4000000 in
set_option maxRecDepth 100000 in
theorem c_X7_leastNumber2 (h0 : m_H) (a1 : Int) (G0 : GI h0) (pa1 : 0 ≤ a1 ∧ a1 ≤ 2) (q94 : (1 ≤ h0 94 0 ∧ h0 94 0 ≤ 1600000000) ∧ (0 ≤ h0 94 1 ∧ h0 94 1 ≤ 1600000000)) : m_CJ M_X7_leastNumber [mR 93, mI a1] h0 (P_X7_leastNumber2 h0 a1) := by
  refine m_CJ_of ⟨by decide, rfl, by simp [m_arg, m_isL, M_X7_leastNumber], ⟨rfl, rfl⟩, rfl, rfl⟩ (ls := [some (mR 93), some (mI a1), none, none, none]) rfl ?_
  refine z_iload_n (M := M_X7_leastNumber) 0 dX7_leastNumber_0 rfl ?_
  refine z_iconst (M := M_X7_leastNumber) 1 dX7_leastNumber_1 ?_
  refine z_icmp_ne (M := M_X7_leastNumber) 2 dX7_leastNumber_2 39 rfl (fun c1 => ?_) (fun c1 => ?_)
  · refine z_aload_n (M := M_X7_leastNumber) 39 dX7_leastNumber_39 rfl ?_
    refine z_getR (M := M_X7_leastNumber) 40 dX7_leastNumber_40 f_X7_12 o_93 rfl (g_93_0 G0) ?_
    refine z_getJG (M := M_X7_leastNumber) 43 dX7_leastNumber_43 f_X7_29 o_94 rfl q94.2 (fun x2 ex2 ax2 bx2 => ?_)
    refine z_aload_n (M := M_X7_leastNumber) 46 dX7_leastNumber_46 rfl ?_
    refine z_getR (M := M_X7_leastNumber) 47 dX7_leastNumber_47 f_X7_12 o_93 rfl (g_93_0 G0) ?_
    refine z_getJG (M := M_X7_leastNumber) 50 dX7_leastNumber_50 f_X7_33 o_94 rfl q94.1 (fun x3 ex3 ax3 bx3 => ?_)
    refine z_nJ (M := M_X7_leastNumber) 53 dX7_leastNumber_53 t_X11_quotient l_X7_36 (m_rr_of rfl) (rest := []) (c_X11_quotient2 h0 x2 x3 G0 (by omega) (by omega)) rfl rfl (Nat.le_of_ble_eq_true rfl) ⟨rfl, rfl⟩ (fun x4 h1 qx4 => ?_)
    obtain ⟨G1, S1, fx4_0⟩ := qx4
    have R1 := (FR.rf (cs := []) (ss := []) (h := h0)).call S1 (by decide +kernel)
    have bx4 := ediv_bd (x := x2) (y := x3) (hi := 1600000000) (by omega) (by omega) (by omega)
    rw [fx4_0] at bx4
    refine z_lstore_n (M := M_X7_leastNumber) 56 dX7_leastNumber_56 (ls' := [some (mR 93), some (mI a1), some (mJ x4), none, none]) (by decide) rfl ?_
    refine z_aload_n (M := M_X7_leastNumber) 57 dX7_leastNumber_57 rfl ?_
    refine z_getR (M := M_X7_leastNumber) 58 dX7_leastNumber_58 f_X7_12 o_93 rfl (g_93_0 G1) ?_
    refine z_getIG (M := M_X7_leastNumber) 61 dX7_leastNumber_61 f_X7_44 o_94 (by decide) (g_94_2 G1) (fun x5 ex5 ax5 bx5 => ?_)
    refine z_if_ne (M := M_X7_leastNumber) 64 dX7_leastNumber_64 87 rfl (fun c6 => ?_) (fun c6 => ?_)
    · refine z_iconst (M := M_X7_leastNumber) 87 dX7_leastNumber_87 ?_
      refine z_goto (M := M_X7_leastNumber) 88 dX7_leastNumber_88 92 rfl ?_
      refine z_istore (M := M_X7_leastNumber) 92 dX7_leastNumber_92 (ls' := [some (mR 93), some (mI a1), some (mJ x4), none, some (mI 1)]) (by decide) rfl ?_
      refine z_iload_n (M := M_X7_leastNumber) 94 dX7_leastNumber_94 rfl ?_
      refine z_if_ne (M := M_X7_leastNumber) 95 dX7_leastNumber_95 109 rfl (fun c7 => ?_) (fun c7 => ?_)
      · refine z_lload_n (M := M_X7_leastNumber) 109 dX7_leastNumber_109 rfl ?_
        exact z_retJ (M := M_X7_leastNumber) 110 dX7_leastNumber_110 rfl ⟨G1, R1, by unfold lnF; simp only [show h0 94 1 = x2 from ((R1 94 1 rfl).symm.trans ((S1 94 1 rfl).trans ex2)), show h0 94 0 = x3 from ((R1 94 0 rfl).symm.trans ((S1 94 0 rfl).trans ex3)), show h0 94 2 = x5 from ((R1 94 2 rfl).symm.trans ex5)]; (repeat (first | rw [if_pos (by omega)] | rw [if_neg (by omega)])); (try unfold gnG); (try simp only [fx4_0]); (repeat (first | rw [if_pos (by omega)] | rw [if_neg (by omega)])); (try omega)⟩
      · refine z_iload (M := M_X7_leastNumber) 98 dX7_leastNumber_98 rfl ?_
        refine z_if_eq_F (M := M_X7_leastNumber) 100 dX7_leastNumber_100 109 rfl (by omega) ?_
        refine z_lload_n (M := M_X7_leastNumber) 103 dX7_leastNumber_103 rfl ?_
        refine z_lconst (M := M_X7_leastNumber) 104 dX7_leastNumber_104 (v := 1) ?_
        refine z_laddN (M := M_X7_leastNumber) 105 dX7_leastNumber_105 (by omega) (by omega) ?_
        refine z_goto (M := M_X7_leastNumber) 106 dX7_leastNumber_106 110 rfl ?_
        exact z_retJ (M := M_X7_leastNumber) 110 dX7_leastNumber_110 rfl ⟨G1, R1, by unfold lnF; simp only [show h0 94 1 = x2 from ((R1 94 1 rfl).symm.trans ((S1 94 1 rfl).trans ex2)), show h0 94 0 = x3 from ((R1 94 0 rfl).symm.trans ((S1 94 0 rfl).trans ex3)), show h0 94 2 = x5 from ((R1 94 2 rfl).symm.trans ex5)]; (repeat (first | rw [if_pos (by omega)] | rw [if_neg (by omega)])); (try unfold gnG); (try simp only [fx4_0]); (repeat (first | rw [if_pos (by omega)] | rw [if_neg (by omega)])); (try omega)⟩
    · refine z_lload_n (M := M_X7_leastNumber) 67 dX7_leastNumber_67 rfl ?_
      refine z_aload_n (M := M_X7_leastNumber) 68 dX7_leastNumber_68 rfl ?_
      refine z_getR (M := M_X7_leastNumber) 69 dX7_leastNumber_69 f_X7_12 o_93 rfl (g_93_0 G1) ?_
      refine z_getJE (M := M_X7_leastNumber) 72 dX7_leastNumber_72 f_X7_33 o_94 rfl ((S1 94 0 rfl).trans ex3) ?_
      have mx8 := Int.ediv_mul_le x2 (show x3 ≠ 0 by omega)
      rw [fx4_0] at mx8
      have nx8 := Int.mul_nonneg (show 0 ≤ x4 by omega) (show 0 ≤ x3 by omega)
      refine z_lmulN (M := M_X7_leastNumber) 75 dX7_leastNumber_75 (by omega) (by omega) ?_
      refine z_topBJ (lo := 0) (hi := 1600000000) ⟨by omega, by omega⟩ (fun x8 ex8 ax8 bx8 => ?_)
      refine z_aload_n (M := M_X7_leastNumber) 76 dX7_leastNumber_76 rfl ?_
      refine z_getR (M := M_X7_leastNumber) 77 dX7_leastNumber_77 f_X7_12 o_93 rfl (g_93_0 G1) ?_
      refine z_getJE (M := M_X7_leastNumber) 80 dX7_leastNumber_80 f_X7_29 o_94 rfl ((S1 94 1 rfl).trans ex2) ?_
      refine z_lcmp (M := M_X7_leastNumber) 83 dX7_leastNumber_83 ?_
      refine z_if_eq (M := M_X7_leastNumber) 84 dX7_leastNumber_84 91 rfl (fun c9 => ?_) (fun c9 => ?_)
      · rw [m_cmp_eq] at c9
        refine z_iconst (M := M_X7_leastNumber) 91 dX7_leastNumber_91 ?_
        refine z_istore (M := M_X7_leastNumber) 92 dX7_leastNumber_92 (ls' := [some (mR 93), some (mI a1), some (mJ x4), none, some (mI 0)]) (by decide) rfl ?_
        refine z_iload_n (M := M_X7_leastNumber) 94 dX7_leastNumber_94 rfl ?_
        refine z_if_ne (M := M_X7_leastNumber) 95 dX7_leastNumber_95 109 rfl (fun c10 => ?_) (fun c10 => ?_)
        · refine z_lload_n (M := M_X7_leastNumber) 109 dX7_leastNumber_109 rfl ?_
          exact z_retJ (M := M_X7_leastNumber) 110 dX7_leastNumber_110 rfl ⟨G1, R1, by unfold lnF; simp only [show h0 94 1 = x2 from ((R1 94 1 rfl).symm.trans ((S1 94 1 rfl).trans ex2)), show h0 94 0 = x3 from ((R1 94 0 rfl).symm.trans ((S1 94 0 rfl).trans ex3)), show h0 94 2 = x5 from ((R1 94 2 rfl).symm.trans ex5)]; (repeat (first | rw [if_pos (by omega)] | rw [if_neg (by omega)])); (try unfold gnG); (try simp only [fx4_0, ex8]); (repeat (first | rw [if_pos (by omega)] | rw [if_neg (by omega)])); (try omega)⟩
        · refine z_iload (M := M_X7_leastNumber) 98 dX7_leastNumber_98 rfl ?_
          refine z_if_eq_T (M := M_X7_leastNumber) 100 dX7_leastNumber_100 109 rfl (by omega) ?_
          refine z_lload_n (M := M_X7_leastNumber) 109 dX7_leastNumber_109 rfl ?_
          exact z_retJ (M := M_X7_leastNumber) 110 dX7_leastNumber_110 rfl ⟨G1, R1, by unfold lnF; simp only [show h0 94 1 = x2 from ((R1 94 1 rfl).symm.trans ((S1 94 1 rfl).trans ex2)), show h0 94 0 = x3 from ((R1 94 0 rfl).symm.trans ((S1 94 0 rfl).trans ex3)), show h0 94 2 = x5 from ((R1 94 2 rfl).symm.trans ex5)]; (repeat (first | rw [if_pos (by omega)] | rw [if_neg (by omega)])); (try unfold gnG); (try simp only [fx4_0, ex8]); (repeat (first | rw [if_pos (by omega)] | rw [if_neg (by omega)])); (try omega)⟩
      · rw [m_cmp_eq] at c9
        refine z_iconst (M := M_X7_leastNumber) 87 dX7_leastNumber_87 ?_
        refine z_goto (M := M_X7_leastNumber) 88 dX7_leastNumber_88 92 rfl ?_
        refine z_istore (M := M_X7_leastNumber) 92 dX7_leastNumber_92 (ls' := [some (mR 93), some (mI a1), some (mJ x4), none, some (mI 1)]) (by decide) rfl ?_
        refine z_iload_n (M := M_X7_leastNumber) 94 dX7_leastNumber_94 rfl ?_
        refine z_if_ne (M := M_X7_leastNumber) 95 dX7_leastNumber_95 109 rfl (fun c11 => ?_) (fun c11 => ?_)
        · refine z_lload_n (M := M_X7_leastNumber) 109 dX7_leastNumber_109 rfl ?_
          exact z_retJ (M := M_X7_leastNumber) 110 dX7_leastNumber_110 rfl ⟨G1, R1, by unfold lnF; simp only [show h0 94 1 = x2 from ((R1 94 1 rfl).symm.trans ((S1 94 1 rfl).trans ex2)), show h0 94 0 = x3 from ((R1 94 0 rfl).symm.trans ((S1 94 0 rfl).trans ex3)), show h0 94 2 = x5 from ((R1 94 2 rfl).symm.trans ex5)]; (repeat (first | rw [if_pos (by omega)] | rw [if_neg (by omega)])); (try unfold gnG); (try simp only [fx4_0, ex8]); (repeat (first | rw [if_pos (by omega)] | rw [if_neg (by omega)])); (try omega)⟩
        · refine z_iload (M := M_X7_leastNumber) 98 dX7_leastNumber_98 rfl ?_
          refine z_if_eq_F (M := M_X7_leastNumber) 100 dX7_leastNumber_100 109 rfl (by omega) ?_
          refine z_lload_n (M := M_X7_leastNumber) 103 dX7_leastNumber_103 rfl ?_
          refine z_lconst (M := M_X7_leastNumber) 104 dX7_leastNumber_104 (v := 1) ?_
          refine z_laddN (M := M_X7_leastNumber) 105 dX7_leastNumber_105 (by omega) (by omega) ?_
          refine z_goto (M := M_X7_leastNumber) 106 dX7_leastNumber_106 110 rfl ?_
          exact z_retJ (M := M_X7_leastNumber) 110 dX7_leastNumber_110 rfl ⟨G1, R1, by unfold lnF; simp only [show h0 94 1 = x2 from ((R1 94 1 rfl).symm.trans ((S1 94 1 rfl).trans ex2)), show h0 94 0 = x3 from ((R1 94 0 rfl).symm.trans ((S1 94 0 rfl).trans ex3)), show h0 94 2 = x5 from ((R1 94 2 rfl).symm.trans ex5)]; (repeat (first | rw [if_pos (by omega)] | rw [if_neg (by omega)])); (try unfold gnG); (try simp only [fx4_0, ex8]); (repeat (first | rw [if_pos (by omega)] | rw [if_neg (by omega)])); (try omega)⟩
  · refine z_ldc2 (M := M_X7_leastNumber) 5 dX7_leastNumber_5 k_X7_42 ?_
    refine z_aload_n (M := M_X7_leastNumber) 8 dX7_leastNumber_8 rfl ?_
    refine z_getR (M := M_X7_leastNumber) 9 dX7_leastNumber_9 f_X7_12 o_93 rfl (g_93_0 G0) ?_
    refine z_getJG (M := M_X7_leastNumber) 12 dX7_leastNumber_12 f_X7_29 o_94 rfl q94.2 (fun x12 ex12 ax12 bx12 => ?_)
    refine z_lmulN (M := M_X7_leastNumber) 15 dX7_leastNumber_15 (by omega) (by omega) ?_
    refine z_aload_n (M := M_X7_leastNumber) 16 dX7_leastNumber_16 rfl ?_
    refine z_getR (M := M_X7_leastNumber) 17 dX7_leastNumber_17 f_X7_12 o_93 rfl (g_93_0 G0) ?_
    refine z_getJG (M := M_X7_leastNumber) 20 dX7_leastNumber_20 f_X7_33 o_94 rfl q94.1 (fun x13 ex13 ax13 bx13 => ?_)
    refine z_laddN (M := M_X7_leastNumber) 23 dX7_leastNumber_23 (by omega) (by omega) ?_
    refine z_ldc2 (M := M_X7_leastNumber) 24 dX7_leastNumber_24 k_X7_42 ?_
    refine z_aload_n (M := M_X7_leastNumber) 27 dX7_leastNumber_27 rfl ?_
    refine z_getR (M := M_X7_leastNumber) 28 dX7_leastNumber_28 f_X7_12 o_93 rfl (g_93_0 G0) ?_
    refine z_getJE (M := M_X7_leastNumber) 31 dX7_leastNumber_31 f_X7_33 o_94 rfl ex13 ?_
    refine z_lmulN (M := M_X7_leastNumber) 34 dX7_leastNumber_34 (by omega) (by omega) ?_
    refine z_nJ (M := M_X7_leastNumber) 35 dX7_leastNumber_35 t_X11_quotient l_X7_36 (m_rr_of rfl) (rest := []) (c_X11_quotient2 h0 ((2 * x12) + x13) (2 * x13) G0 (by omega) (by omega)) rfl rfl (Nat.le_of_ble_eq_true rfl) ⟨rfl, rfl⟩ (fun x14 h2 qx14 => ?_)
    obtain ⟨G2, S2, fx14_0⟩ := qx14
    have R2 := (FR.rf (cs := []) (ss := []) (h := h0)).call S2 (by decide +kernel)
    have bx14 := ediv_bd (x := ((2 * x12) + x13)) (y := (2 * x13)) (hi := 4800000000) (by omega) (by omega) (by omega)
    rw [fx14_0] at bx14
    exact z_retJ (M := M_X7_leastNumber) 38 dX7_leastNumber_38 rfl ⟨G2, R2, by unfold lnF; simp only [show h0 94 1 = x12 from ((R2 94 1 rfl).symm.trans ((S2 94 1 rfl).trans ex12)), show h0 94 0 = x13 from ((R2 94 0 rfl).symm.trans ((S2 94 0 rfl).trans ex13))]; (repeat (first | rw [if_pos (by omega)] | rw [if_neg (by omega)])); (try unfold gnG); (try simp only [fx14_0]); (repeat (first | rw [if_pos (by omega)] | rw [if_neg (by omega)])); (try omega)⟩
abbrev P_X7_greatestNumber2 (h0 : m_H) (a1 : Int) : Int → m_H → Prop := fun x h' => GI h' ∧ FR [] [] h0 h' ∧ gnF a1 (h0 95 0) (h0 95 1) (h0 95 2) = x
set_option maxHeartbeats 4000000 in
set_option maxRecDepth 100000 in
theorem c_X7_greatestNumber2 (h0 : m_H) (a1 : Int) (G0 : GI h0) (pa1 : 0 ≤ a1 ∧ a1 ≤ 2) (q95 : (1 ≤ h0 95 0 ∧ h0 95 0 ≤ 1600000000) ∧ (0 ≤ h0 95 1 ∧ h0 95 1 ≤ 1600000000)) : m_CJ M_X7_greatestNumber [mR 93, mI a1] h0 (P_X7_greatestNumber2 h0 a1) := by
  refine m_CJ_of ⟨by decide, rfl, by simp [m_arg, m_isL, M_X7_greatestNumber], ⟨rfl, rfl⟩, rfl, rfl⟩ (ls := [some (mR 93), some (mI a1), none, none, none, none, none, none]) rfl ?_
  refine z_aload_n (M := M_X7_greatestNumber) 0 dX7_greatestNumber_0 rfl ?_
  refine z_getR (M := M_X7_greatestNumber) 1 dX7_greatestNumber_1 f_X7_18 o_93 rfl (g_93_1 G0) ?_
  refine z_getJG (M := M_X7_greatestNumber) 4 dX7_greatestNumber_4 f_X7_29 o_95 rfl q95.2 (fun x1 ex1 ax1 bx1 => ?_)
  refine z_lconst (M := M_X7_greatestNumber) 7 dX7_greatestNumber_7 (v := 0) ?_
  refine z_lcmp (M := M_X7_greatestNumber) 8 dX7_greatestNumber_8 ?_
  refine z_if_ne (M := M_X7_greatestNumber) 9 dX7_greatestNumber_9 16 rfl (fun c2 => ?_) (fun c2 => ?_)
  · rw [m_cmp_eq] at c2
    refine z_iload_n (M := M_X7_greatestNumber) 16 dX7_greatestNumber_16 rfl ?_
    refine z_iconst (M := M_X7_greatestNumber) 17 dX7_greatestNumber_17 ?_
    refine z_icmp_ne (M := M_X7_greatestNumber) 18 dX7_greatestNumber_18 43 rfl (fun c3 => ?_) (fun c3 => ?_)
    · refine z_aload_n (M := M_X7_greatestNumber) 43 dX7_greatestNumber_43 rfl ?_
      refine z_getR (M := M_X7_greatestNumber) 44 dX7_greatestNumber_44 f_X7_18 o_93 rfl (g_93_1 G0) ?_
      refine z_getJG (M := M_X7_greatestNumber) 47 dX7_greatestNumber_47 f_X7_33 o_95 rfl q95.1 (fun x4 ex4 ax4 bx4 => ?_)
      refine z_lstore_n (M := M_X7_greatestNumber) 50 dX7_greatestNumber_50 (ls' := [some (mR 93), some (mI a1), some (mJ x4), none, none, none, none, none]) (by decide) rfl ?_
      refine z_iload_n (M := M_X7_greatestNumber) 51 dX7_greatestNumber_51 rfl ?_
      refine z_iconst (M := M_X7_greatestNumber) 52 dX7_greatestNumber_52 ?_
      refine z_icmp_ne_T (M := M_X7_greatestNumber) 53 dX7_greatestNumber_53 70 rfl (by omega) ?_
      refine z_aload_n (M := M_X7_greatestNumber) 70 dX7_greatestNumber_70 rfl ?_
      refine z_getR (M := M_X7_greatestNumber) 71 dX7_greatestNumber_71 f_X7_18 o_93 rfl (g_93_1 G0) ?_
      refine z_getJE (M := M_X7_greatestNumber) 74 dX7_greatestNumber_74 f_X7_29 o_95 rfl ex1 ?_
      refine z_lstore (M := M_X7_greatestNumber) 77 dX7_greatestNumber_77 (ls' := [some (mR 93), some (mI a1), some (mJ x4), none, some (mJ x1), none, none, none]) (by decide) rfl ?_
      refine z_lload_n (M := M_X7_greatestNumber) 79 dX7_greatestNumber_79 rfl ?_
      refine z_lload (M := M_X7_greatestNumber) 80 dX7_greatestNumber_80 rfl ?_
      refine z_nJ (M := M_X7_greatestNumber) 82 dX7_greatestNumber_82 t_X11_quotient l_X7_36 (m_rr_of rfl) (rest := []) (c_X11_quotient2 h0 x4 x1 G0 (by omega) (by omega)) rfl rfl (Nat.le_of_ble_eq_true rfl) ⟨rfl, rfl⟩ (fun x5 h1 qx5 => ?_)
      obtain ⟨G1, S1, fx5_0⟩ := qx5
      have R1 := (FR.rf (cs := []) (ss := []) (h := h0)).call S1 (by decide +kernel)
      have bx5 := ediv_bd (x := x4) (y := x1) (hi := 1600000000) (by omega) (by omega) (by omega)
      rw [fx5_0] at bx5
      refine z_lstore (M := M_X7_greatestNumber) 85 dX7_greatestNumber_85 (ls' := [some (mR 93), some (mI a1), some (mJ x4), none, some (mJ x1), none, some (mJ x5), none]) (by decide) rfl ?_
      refine z_aload_n (M := M_X7_greatestNumber) 87 dX7_greatestNumber_87 rfl ?_
      refine z_getR (M := M_X7_greatestNumber) 88 dX7_greatestNumber_88 f_X7_18 o_93 rfl (g_93_1 G1) ?_
      refine z_getIG (M := M_X7_greatestNumber) 91 dX7_greatestNumber_91 f_X7_44 o_95 (by decide) (g_95_2 G1) (fun x6 ex6 ax6 bx6 => ?_)
      refine z_if_eq (M := M_X7_greatestNumber) 94 dX7_greatestNumber_94 114 rfl (fun c7 => ?_) (fun c7 => ?_)
      · refine z_lload (M := M_X7_greatestNumber) 114 dX7_greatestNumber_114 rfl ?_
        exact z_retJ (M := M_X7_greatestNumber) 116 dX7_greatestNumber_116 rfl ⟨G1, R1, by unfold gnF; simp only [show h0 95 1 = x1 from ((R1 95 1 rfl).symm.trans ((S1 95 1 rfl).trans ex1)), show h0 95 0 = x4 from ((R1 95 0 rfl).symm.trans ((S1 95 0 rfl).trans ex4)), show h0 95 2 = x6 from ((R1 95 2 rfl).symm.trans ex6)]; (repeat (first | rw [if_pos (by omega)] | rw [if_neg (by omega)])); (try unfold gnG); (try simp only [fx5_0]); (repeat (first | rw [if_pos (by omega)] | rw [if_neg (by omega)])); (try omega)⟩
      · refine z_lload (M := M_X7_greatestNumber) 97 dX7_greatestNumber_97 rfl ?_
        refine z_lload (M := M_X7_greatestNumber) 99 dX7_greatestNumber_99 rfl ?_
        have mx8 := Int.ediv_mul_le x4 (show x1 ≠ 0 by omega)
        rw [fx5_0] at mx8
        have nx8 := Int.mul_nonneg (show 0 ≤ x5 by omega) (show 0 ≤ x1 by omega)
        refine z_lmulN (M := M_X7_greatestNumber) 101 dX7_greatestNumber_101 (by omega) (by omega) ?_
        refine z_topBJ (lo := 0) (hi := 1600000000) ⟨by omega, by omega⟩ (fun x8 ex8 ax8 bx8 => ?_)
        refine z_lload_n (M := M_X7_greatestNumber) 102 dX7_greatestNumber_102 rfl ?_
        refine z_lcmp (M := M_X7_greatestNumber) 103 dX7_greatestNumber_103 ?_
        refine z_if_ne (M := M_X7_greatestNumber) 104 dX7_greatestNumber_104 114 rfl (fun c9 => ?_) (fun c9 => ?_)
        · rw [m_cmp_eq] at c9
          refine z_lload (M := M_X7_greatestNumber) 114 dX7_greatestNumber_114 rfl ?_
          exact z_retJ (M := M_X7_greatestNumber) 116 dX7_greatestNumber_116 rfl ⟨G1, R1, by unfold gnF; simp only [show h0 95 1 = x1 from ((R1 95 1 rfl).symm.trans ((S1 95 1 rfl).trans ex1)), show h0 95 0 = x4 from ((R1 95 0 rfl).symm.trans ((S1 95 0 rfl).trans ex4)), show h0 95 2 = x6 from ((R1 95 2 rfl).symm.trans ex6)]; (repeat (first | rw [if_pos (by omega)] | rw [if_neg (by omega)])); (try unfold gnG); (try simp only [fx5_0, ex8]); (repeat (first | rw [if_pos (by omega)] | rw [if_neg (by omega)])); (try omega)⟩
        · rw [m_cmp_eq] at c9
          refine z_lload (M := M_X7_greatestNumber) 107 dX7_greatestNumber_107 rfl ?_
          refine z_lconst (M := M_X7_greatestNumber) 109 dX7_greatestNumber_109 (v := 1) ?_
          refine z_lsubN (M := M_X7_greatestNumber) 110 dX7_greatestNumber_110 (by omega) (by omega) ?_
          refine z_goto (M := M_X7_greatestNumber) 111 dX7_greatestNumber_111 116 rfl ?_
          exact z_retJ (M := M_X7_greatestNumber) 116 dX7_greatestNumber_116 rfl ⟨G1, R1, by unfold gnF; simp only [show h0 95 1 = x1 from ((R1 95 1 rfl).symm.trans ((S1 95 1 rfl).trans ex1)), show h0 95 0 = x4 from ((R1 95 0 rfl).symm.trans ((S1 95 0 rfl).trans ex4)), show h0 95 2 = x6 from ((R1 95 2 rfl).symm.trans ex6)]; (repeat (first | rw [if_pos (by omega)] | rw [if_neg (by omega)])); (try unfold gnG); (try simp only [fx5_0, ex8]); (repeat (first | rw [if_pos (by omega)] | rw [if_neg (by omega)])); (try omega)⟩
    · refine z_ldc2 (M := M_X7_greatestNumber) 21 dX7_greatestNumber_21 k_X7_42 ?_
      refine z_aload_n (M := M_X7_greatestNumber) 24 dX7_greatestNumber_24 rfl ?_
      refine z_getR (M := M_X7_greatestNumber) 25 dX7_greatestNumber_25 f_X7_18 o_93 rfl (g_93_1 G0) ?_
      refine z_getJG (M := M_X7_greatestNumber) 28 dX7_greatestNumber_28 f_X7_33 o_95 rfl q95.1 (fun x10 ex10 ax10 bx10 => ?_)
      refine z_lmulN (M := M_X7_greatestNumber) 31 dX7_greatestNumber_31 (by omega) (by omega) ?_
      refine z_aload_n (M := M_X7_greatestNumber) 32 dX7_greatestNumber_32 rfl ?_
      refine z_getR (M := M_X7_greatestNumber) 33 dX7_greatestNumber_33 f_X7_18 o_93 rfl (g_93_1 G0) ?_
      refine z_getJE (M := M_X7_greatestNumber) 36 dX7_greatestNumber_36 f_X7_29 o_95 rfl ex1 ?_
      refine z_laddN (M := M_X7_greatestNumber) 39 dX7_greatestNumber_39 (by omega) (by omega) ?_
      refine z_goto (M := M_X7_greatestNumber) 40 dX7_greatestNumber_40 50 rfl ?_
      refine z_lstore_n (M := M_X7_greatestNumber) 50 dX7_greatestNumber_50 (ls' := [some (mR 93), some (mI a1), some (mJ ((2 * x10) + x1)), none, none, none, none, none]) (by decide) rfl ?_
      refine z_iload_n (M := M_X7_greatestNumber) 51 dX7_greatestNumber_51 rfl ?_
      refine z_iconst (M := M_X7_greatestNumber) 52 dX7_greatestNumber_52 ?_
      refine z_icmp_ne_F (M := M_X7_greatestNumber) 53 dX7_greatestNumber_53 70 rfl (by omega) ?_
      refine z_ldc2 (M := M_X7_greatestNumber) 56 dX7_greatestNumber_56 k_X7_42 ?_
      refine z_aload_n (M := M_X7_greatestNumber) 59 dX7_greatestNumber_59 rfl ?_
      refine z_getR (M := M_X7_greatestNumber) 60 dX7_greatestNumber_60 f_X7_18 o_93 rfl (g_93_1 G0) ?_
      refine z_getJE (M := M_X7_greatestNumber) 63 dX7_greatestNumber_63 f_X7_29 o_95 rfl ex1 ?_
      refine z_lmulN (M := M_X7_greatestNumber) 66 dX7_greatestNumber_66 (by omega) (by omega) ?_
      refine z_goto (M := M_X7_greatestNumber) 67 dX7_greatestNumber_67 77 rfl ?_
      refine z_lstore (M := M_X7_greatestNumber) 77 dX7_greatestNumber_77 (ls' := [some (mR 93), some (mI a1), some (mJ ((2 * x10) + x1)), none, some (mJ (2 * x1)), none, none, none]) (by decide) rfl ?_
      refine z_lload_n (M := M_X7_greatestNumber) 79 dX7_greatestNumber_79 rfl ?_
      refine z_lload (M := M_X7_greatestNumber) 80 dX7_greatestNumber_80 rfl ?_
      refine z_nJ (M := M_X7_greatestNumber) 82 dX7_greatestNumber_82 t_X11_quotient l_X7_36 (m_rr_of rfl) (rest := []) (c_X11_quotient2 h0 ((2 * x10) + x1) (2 * x1) G0 (by omega) (by omega)) rfl rfl (Nat.le_of_ble_eq_true rfl) ⟨rfl, rfl⟩ (fun x11 h2 qx11 => ?_)
      obtain ⟨G2, S2, fx11_0⟩ := qx11
      have R2 := (FR.rf (cs := []) (ss := []) (h := h0)).call S2 (by decide +kernel)
      have bx11 := ediv_bd (x := ((2 * x10) + x1)) (y := (2 * x1)) (hi := 4800000000) (by omega) (by omega) (by omega)
      rw [fx11_0] at bx11
      refine z_lstore (M := M_X7_greatestNumber) 85 dX7_greatestNumber_85 (ls' := [some (mR 93), some (mI a1), some (mJ ((2 * x10) + x1)), none, some (mJ (2 * x1)), none, some (mJ x11), none]) (by decide) rfl ?_
      refine z_aload_n (M := M_X7_greatestNumber) 87 dX7_greatestNumber_87 rfl ?_
      refine z_getR (M := M_X7_greatestNumber) 88 dX7_greatestNumber_88 f_X7_18 o_93 rfl (g_93_1 G2) ?_
      refine z_getIG (M := M_X7_greatestNumber) 91 dX7_greatestNumber_91 f_X7_44 o_95 (by decide) (g_95_2 G2) (fun x12 ex12 ax12 bx12 => ?_)
      refine z_if_eq (M := M_X7_greatestNumber) 94 dX7_greatestNumber_94 114 rfl (fun c13 => ?_) (fun c13 => ?_)
      · refine z_lload (M := M_X7_greatestNumber) 114 dX7_greatestNumber_114 rfl ?_
        exact z_retJ (M := M_X7_greatestNumber) 116 dX7_greatestNumber_116 rfl ⟨G2, R2, by unfold gnF; simp only [show h0 95 1 = x1 from ((R2 95 1 rfl).symm.trans ((S2 95 1 rfl).trans ex1)), show h0 95 0 = x10 from ((R2 95 0 rfl).symm.trans ((S2 95 0 rfl).trans ex10)), show h0 95 2 = x12 from ((R2 95 2 rfl).symm.trans ex12)]; (repeat (first | rw [if_pos (by omega)] | rw [if_neg (by omega)])); (try unfold gnG); (try simp only [fx11_0]); (repeat (first | rw [if_pos (by omega)] | rw [if_neg (by omega)])); (try omega)⟩
      · refine z_lload (M := M_X7_greatestNumber) 97 dX7_greatestNumber_97 rfl ?_
        refine z_lload (M := M_X7_greatestNumber) 99 dX7_greatestNumber_99 rfl ?_
        have mx14 := Int.ediv_mul_le ((2 * x10) + x1) (show (2 * x1) ≠ 0 by omega)
        rw [fx11_0] at mx14
        have nx14 := Int.mul_nonneg (show 0 ≤ x11 by omega) (show 0 ≤ (2 * x1) by omega)
        refine z_lmulN (M := M_X7_greatestNumber) 101 dX7_greatestNumber_101 (by omega) (by omega) ?_
        refine z_topBJ (lo := 0) (hi := 4800000000) ⟨by omega, by omega⟩ (fun x14 ex14 ax14 bx14 => ?_)
        refine z_lload_n (M := M_X7_greatestNumber) 102 dX7_greatestNumber_102 rfl ?_
        refine z_lcmp (M := M_X7_greatestNumber) 103 dX7_greatestNumber_103 ?_
        refine z_if_ne (M := M_X7_greatestNumber) 104 dX7_greatestNumber_104 114 rfl (fun c15 => ?_) (fun c15 => ?_)
        · rw [m_cmp_eq] at c15
          refine z_lload (M := M_X7_greatestNumber) 114 dX7_greatestNumber_114 rfl ?_
          exact z_retJ (M := M_X7_greatestNumber) 116 dX7_greatestNumber_116 rfl ⟨G2, R2, by unfold gnF; simp only [show h0 95 1 = x1 from ((R2 95 1 rfl).symm.trans ((S2 95 1 rfl).trans ex1)), show h0 95 0 = x10 from ((R2 95 0 rfl).symm.trans ((S2 95 0 rfl).trans ex10)), show h0 95 2 = x12 from ((R2 95 2 rfl).symm.trans ex12)]; (repeat (first | rw [if_pos (by omega)] | rw [if_neg (by omega)])); (try unfold gnG); (try simp only [fx11_0, ex14]); (repeat (first | rw [if_pos (by omega)] | rw [if_neg (by omega)])); (try omega)⟩
        · rw [m_cmp_eq] at c15
          refine z_lload (M := M_X7_greatestNumber) 107 dX7_greatestNumber_107 rfl ?_
          refine z_lconst (M := M_X7_greatestNumber) 109 dX7_greatestNumber_109 (v := 1) ?_
          refine z_lsubN (M := M_X7_greatestNumber) 110 dX7_greatestNumber_110 (by omega) (by omega) ?_
          refine z_goto (M := M_X7_greatestNumber) 111 dX7_greatestNumber_111 116 rfl ?_
          exact z_retJ (M := M_X7_greatestNumber) 116 dX7_greatestNumber_116 rfl ⟨G2, R2, by unfold gnF; simp only [show h0 95 1 = x1 from ((R2 95 1 rfl).symm.trans ((S2 95 1 rfl).trans ex1)), show h0 95 0 = x10 from ((R2 95 0 rfl).symm.trans ((S2 95 0 rfl).trans ex10)), show h0 95 2 = x12 from ((R2 95 2 rfl).symm.trans ex12)]; (repeat (first | rw [if_pos (by omega)] | rw [if_neg (by omega)])); (try unfold gnG); (try simp only [fx11_0, ex14]); (repeat (first | rw [if_pos (by omega)] | rw [if_neg (by omega)])); (try omega)⟩
  · rw [m_cmp_eq] at c2
    refine z_ldc2 (M := M_X7_greatestNumber) 12 dX7_greatestNumber_12 k_X7_40 ?_
    exact z_retJ (M := M_X7_greatestNumber) 15 dX7_greatestNumber_15 rfl ⟨G0, (FR.rf (cs := []) (ss := []) (h := h0)), by unfold gnF; simp only [ex1]; (repeat (first | rw [if_pos (by omega)] | rw [if_neg (by omega)])); (try unfold gnG); (try simp only []); (repeat (first | rw [if_pos (by omega)] | rw [if_neg (by omega)])); (try omega)⟩
/-! feet -/
def BX (Ls : List gE) (a b : Nat) (B : Int × Int × Int) : Prop := BW Ls a b B ∧ (B.2.1 = 0 → B.2.2 = 1)
theorem sc_div {t l t' l' : Int} (ht : 0 < t) (ht' : 0 < t') (e : t * l' = t' * l) : l / t = l' / t' := by
  have gen : ∀ {t l t' l' : Int}, 0 < t → 0 < t' → t * l' = t' * l → l / t ≤ l' / t' := by
    intro t l t' l' ht ht' e
    refine Int.le_ediv_of_mul_le ht' ?_
    have a := Int.mul_ediv_self_le (x := l) (k := t) (by omega)
    have m := Int.mul_le_mul_of_nonneg_left a (Int.le_of_lt ht')
    rw [← e] at m
    have k : t' * (t * (l / t)) = t * (l / t * t') := by ac_rfl
    rw [k] at m
    exact Int.le_of_mul_le_mul_left m ht
  have x := gen ht ht' e
  have y := gen ht' ht e.symm
  omega
theorem sc_ex {t l t' l' : Int} (ht : 0 < t) (ht' : 0 < t') (e : t * l' = t' * l) : l / t * t = l ↔ l' / t' * t' = l' := by
  have gen : ∀ {t l t' l' : Int}, 0 < t → 0 < t' → t * l' = t' * l → l / t * t = l → l' / t' * t' = l' := by
    intro t l t' l' ht ht' e h
    rw [← sc_div ht ht' e]
    have k : t * (l / t * t') = t' * (l / t * t) := by ac_rfl
    rw [h, ← e] at k
    exact Int.eq_of_mul_eq_mul_left (Int.ne_of_gt ht) k
  exact ⟨gen ht ht' e, gen ht' ht e.symm⟩
theorem BX_o {Ls : List gE} (hE : ∀ e ∈ Ls, gEo e) {a b : Nat} {B B' : Int × Int × Int} (h : BX Ls a b B) (h' : BX Ls a b B') : B.2.2 = 1 ↔ B'.2.2 = 1 := by
  obtain ⟨z1, z2, z3⟩ := BW_eq hE h.1 h'.1
  by_cases g : B.2.1 = 0
  · exact ⟨fun _ => h'.2 (z1.mp g), fun _ => h.2 g⟩
  · exact z3 g
theorem lnF_eq {Ls : List gE} (hE : ∀ e ∈ Ls, gEo e) {a b : Nat} {B B' : Int × Int × Int} (h : BX Ls a b B) (h' : BX Ls a b B') (k : Int) : lnF k B.1 B.2.1 B.2.2 = lnF k B'.1 B'.2.1 B'.2.2 := by
  have e := (BW_eq hE h.1 h'.1).2.1
  have t := h.1.1.1
  have t' := h'.1.1.1
  have o := BX_o hE h h'
  unfold lnF
  by_cases k2 : k = 2
  · rw [if_pos k2, if_pos k2]
    refine sc_div (by omega) (by omega) ?_
    have k1 : 2 * B.1 * (2 * B'.2.1 + B'.1) = 4 * (B.1 * B'.2.1) + 2 * (B.1 * B'.1) := by
      rw [Int.mul_add, show 2 * B.1 * (2 * B'.2.1) = (2 * 2) * (B.1 * B'.2.1) by ac_rfl, show 2 * B.1 * B'.1 = 2 * (B.1 * B'.1) by ac_rfl]; rfl
    have k3 : 2 * B'.1 * (2 * B.2.1 + B.1) = 4 * (B'.1 * B.2.1) + 2 * (B.1 * B'.1) := by
      rw [Int.mul_add, show 2 * B'.1 * (2 * B.2.1) = (2 * 2) * (B'.1 * B.2.1) by ac_rfl, show 2 * B'.1 * B.1 = 2 * (B.1 * B'.1) by ac_rfl]; rfl
    rw [k1, k3, e]
  · rw [if_neg k2, if_neg k2, ← sc_div t t' e]
    have ex := sc_ex t t' e
    rw [← sc_div t t' e] at ex
    by_cases c : k = 0 ∧ (B.2.2 = 1 ∨ B.2.1 / B.1 * B.1 ≠ B.2.1)
    · rw [if_pos c, if_pos]
      exact ⟨c.1, c.2.elim (fun z => Or.inl (o.mp z)) (fun z => Or.inr (fun y => z (ex.mpr y)))⟩
    · rw [if_neg c, if_neg]
      rintro ⟨z1, z2⟩
      exact c ⟨z1, z2.elim (fun z => Or.inl (o.mpr z)) (fun z => Or.inr (fun y => z (ex.mp y)))⟩
theorem gnG_eq {T L o T' L' o' : Int} (p : 0 < L) (p' : 0 < L') (ee : L * T' = L' * T) (o_ : o = 1 ↔ o' = 1) : gnG T L o = gnG T' L' o' := by
  have d := sc_div p p' ee
  have x := sc_ex p p' ee
  unfold gnG
  rw [← d] at x ⊢
  by_cases c : o = 1 ∧ T / L * L = T
  · rw [if_pos c, if_pos ⟨o_.mp c.1, x.mp c.2⟩]
  · rw [if_neg c, if_neg (fun z => c ⟨o_.mpr z.1, x.mpr z.2⟩)]
theorem gnF_eq {Ls : List gE} (hE : ∀ e ∈ Ls, gEo e) {a b : Nat} {B B' : Int × Int × Int} (h : BX Ls a b B) (h' : BX Ls a b B') (k : Int) : gnF k B.1 B.2.1 B.2.2 = gnF k B'.1 B'.2.1 B'.2.2 := by
  obtain ⟨z1, e, z3⟩ := BW_eq hE h.1 h'.1
  have o := BX_o hE h h'
  unfold gnF
  by_cases g : B.2.1 = 0
  · rw [if_pos g, if_pos (z1.mp g)]
  · have g' : B'.2.1 ≠ 0 := fun z => g (z1.mpr z)
    rw [if_neg g, if_neg g']
    have l : 0 < B.2.1 := by have := h.1.1.2; omega
    have l' : 0 < B'.2.1 := by have := h'.1.1.2; omega
    by_cases k2 : k = 2
    · rw [if_pos k2, if_pos k2]
      refine gnG_eq (by omega) (by omega) ?_ o
      have k1 : 2 * B.2.1 * (2 * B'.1 + B'.2.1) = 4 * (B'.1 * B.2.1) + 2 * (B.2.1 * B'.2.1) := by
        rw [Int.mul_add, show 2 * B.2.1 * (2 * B'.1) = (2 * 2) * (B'.1 * B.2.1) by ac_rfl, show 2 * B.2.1 * B'.2.1 = 2 * (B.2.1 * B'.2.1) by ac_rfl]; rfl
      have k3 : 2 * B'.2.1 * (2 * B.1 + B.2.1) = 4 * (B.1 * B'.2.1) + 2 * (B.2.1 * B'.2.1) := by
        rw [Int.mul_add, show 2 * B'.2.1 * (2 * B.1) = (2 * 2) * (B.1 * B'.2.1) by ac_rfl, show 2 * B'.2.1 * B.2.1 = 2 * (B.2.1 * B'.2.1) by ac_rfl]; rfl
      rw [k1, k3, e]
    · rw [if_neg k2, if_neg k2]
      exact gnG_eq l l' (by rw [Int.mul_comm B.2.1, Int.mul_comm B'.2.1]; exact e.symm) o
def cap (M v : Int) : Int := if M < v then M else v
def ftK (r : Nat → Int) (a k : Int) : Prop := (0 ≤ a ∧ a ≤ 11) ∧ (0 ≤ k ∧ k ≤ 3) ∧ thr r a ∧ ¬ gain (bR r)
def ftQ (r : Nat → Int) (a k w x : Int) : Prop := (¬ ((0 ≤ w ∧ w ≤ 1) ∧ ftK r a k) ∧ x = -2) ∨ (((0 ≤ w ∧ w ≤ 1) ∧ ftK r a k) ∧ ((w = 0 ∧ ∃ B, BX (bR r) (12 + k).toNat a.toNat B ∧ cap 2000 (lnF 1 B.1 B.2.1 B.2.2) = x) ∨ (w = 1 ∧ ∃ B, BX (bR r) a.toNat (12 + k).toNat B ∧ cap 2000 (gnF 1 B.1 B.2.1 B.2.2) = x)))
theorem ft_eq {r : Nat → Int} (hE : ∀ e ∈ bR r, gEo e) {a k w x y : Int} (h : ftQ r a k w x) (h' : ftQ r a k w y) : x = y := by
  rcases h with ⟨n, e⟩ | ⟨q, h⟩
  · rcases h' with ⟨_, e'⟩ | ⟨q', _⟩
    · omega
    · exact absurd q' n
  · rcases h' with ⟨n', _⟩ | ⟨_, h'⟩
    · exact absurd q n'
    · rcases h with ⟨w1, B, b1, b2⟩ | ⟨w1, B, b1, b2⟩ <;> rcases h' with ⟨v1, C, c1, c2⟩ | ⟨v1, C, c1, c2⟩
      · rw [← b2, ← c2, lnF_eq hE b1 c1]
      · omega
      · omega
      · rw [← b2, ← c2, gnF_eq hE b1 c1]
abbrev P_X11_compareToFoot2 (h0 : m_H) (a1 a2 : Int) : Int → m_H → Prop := fun x h' => GI h' ∧ FR (csB ++ [39, 40, 41]) [] h0 h' ∧ 0 ≤ x ∧ x ≤ 1 ∧ (x = 1 ↔ ftK (h0 110) a1 a2) ∧ (x = 1 → cpB (h0 110) a1 (12 + a2) (bd h' 95) ∧ cpB (h0 110) (12 + a2) a1 (bd h' 94))
set_option maxHeartbeats 4000000 in
set_option maxRecDepth 100000 in
theorem c_X11_compareToFoot2 (h0 : m_H) (a1 a2 : Int) (G0 : GI h0) (hR : LR 1 h0 (h0 110)) (hN : NP h0) : m_CI M_X11_compareToFoot [mR 0, mI a1, mI a2] h0 (P_X11_compareToFoot2 h0 a1 a2) := by
  refine m_CI_of ⟨by decide, rfl, by simp [m_arg, m_isL, M_X11_compareToFoot], ⟨rfl, rfl⟩, rfl, rfl⟩ (ls := [some (mR 0), some (mI a1), some (mI a2)]) rfl ?_
  refine z_ok (fun _ _ ok => ?_)
  have oa1 : m_32 a1 := ok 1 _ rfl
  unfold m_32 at oa1
  have oa2 : m_32 a2 := ok 2 _ rfl
  unfold m_32 at oa2
  refine z_aload_n (M := M_X11_compareToFoot) 0 dX11_compareToFoot_0 rfl ?_
  refine z_iload_n (M := M_X11_compareToFoot) 1 dX11_compareToFoot_1 rfl ?_
  refine z_vI (M := M_X11_compareToFoot) 2 dX11_compareToFoot_2 t_X11_isMeasured l_X11_278 (m_rr_of rfl) (rest := []) (c_X11_isMeasured h0 a1 G0) o_0 rfl rfl rfl (Nat.le_of_ble_eq_true rfl) ⟨rfl, rfl⟩ (fun x1 h1 qx1 => ?_)
  obtain ⟨rfl, ⟨rfl, cx1⟩ | ⟨rfl, cx1⟩⟩ := qx1
  · refine z_if_eq_F (M := M_X11_compareToFoot) 5 dX11_compareToFoot_5 22 rfl (by omega) ?_
    refine z_iload_n (M := M_X11_compareToFoot) 8 dX11_compareToFoot_8 rfl ?_
    refine z_sI (M := M_X11_compareToFoot) 9 dX11_compareToFoot_9 t_X11_isKeeper l_X11_132 (m_rr_of rfl) (rest := []) (c_X11_isKeeper h0 a2 G0) rfl rfl (Nat.le_of_ble_eq_true rfl) ⟨rfl, rfl⟩ (fun x2 h2 qx2 => ?_)
    obtain ⟨rfl, ⟨rfl, cx2⟩ | ⟨rfl, cx2⟩⟩ := qx2
    · refine z_if_eq_F (M := M_X11_compareToFoot) 12 dX11_compareToFoot_12 22 rfl (by omega) ?_
      refine z_aload_n (M := M_X11_compareToFoot) 15 dX11_compareToFoot_15 rfl ?_
      refine z_vI (M := M_X11_compareToFoot) 16 dX11_compareToFoot_16 t_X11_canBe l_X11_208 (m_rr_of rfl) (rest := []) (c_X11_canBe2 h0 G0 hR hN) o_0 rfl rfl rfl (Nat.le_of_ble_eq_true rfl) ⟨rfl, rfl⟩ (fun x3 h3 qx3 => ?_)
      obtain ⟨G3, S3, ax3, bx3, fx3⟩ := qx3
      have R3 := (FR.rf (cs := (csB ++ [39, 40, 41])) (ss := []) (h := h0)).call S3 (by decide +kernel)
      refine z_if_ne (M := M_X11_compareToFoot) 19 dX11_compareToFoot_19 24 rfl (fun c4 => ?_) (fun c4 => ?_)
      · refine z_aload_n (M := M_X11_compareToFoot) 24 dX11_compareToFoot_24 rfl ?_
        refine z_getR (M := M_X11_compareToFoot) 25 dX11_compareToFoot_25 f_X11_53 o_0 rfl (g_0_7 G3) ?_
        refine z_aload_n (M := M_X11_compareToFoot) 28 dX11_compareToFoot_28 rfl ?_
        refine z_getR (M := M_X11_compareToFoot) 29 dX11_compareToFoot_29 f_X11_46 o_0 rfl (g_0_6 G3) ?_
        refine z_iload_n (M := M_X11_compareToFoot) 32 dX11_compareToFoot_32 rfl ?_
        refine z_bipush (M := M_X11_compareToFoot) 33 dX11_compareToFoot_33 ?_
        refine z_iload_n (M := M_X11_compareToFoot) 35 dX11_compareToFoot_35 rfl ?_
        refine z_iaddN (M := M_X11_compareToFoot) 36 dX11_compareToFoot_36 (by omega) (by omega) ?_
        refine z_vV (M := M_X11_compareToFoot) 37 dX11_compareToFoot_37 t_X7_measure l_X11_427 (m_rr_of rfl) (rest := []) (c_X7_measure2 h3 a1 (12 + a2) G3 ⟨by omega, by omega⟩ ⟨by omega, by omega⟩ (by obtain ⟨D, _, X⟩ := fx3.2 (by omega); exact X.1.1) (by obtain ⟨D, _, X⟩ := fx3.2 (by omega); exact bkR_X X)) o_93 rfl rfl rfl (Nat.le_of_ble_eq_true rfl) ⟨rfl, rfl⟩ (fun h4 qx5 => ?_)
        obtain ⟨G4, S4, M4⟩ := qx5
        have t1_ : thr (h0 110) a1 := (thr_c hR).mp ⟨cx1.1, by omega, cx1.2.2.elim Or.inl (fun z => Or.inr (Or.inr z))⟩
        have t2_ : thr (h0 110) (12 + a2) := ⟨by omega, by omega, Or.inr (Or.inl (by omega))⟩
        have y_ := fx3.2 (by omega)
        have n_ := fx3.1.mp (by omega)
        have R4 := R3.call S4 (by decide +kernel)
        refine z_iconst (M := M_X11_compareToFoot) 40 dX11_compareToFoot_40 ?_
        exact z_retZ (M := M_X11_compareToFoot) 41 dX11_compareToFoot_41 rfl (by omega) ⟨G4, R4, by omega, by omega, ⟨fun _ => ⟨⟨cx1.1, cx1.2.1⟩, cx2, t1_, n_⟩, fun _ => rfl⟩, fun _ => ⟨cp_of G0 hN y_ n_ t1_ t2_ M4.2.1 (by have z := g_95_2 G4; show h4 95 2 = 0 ∨ h4 95 2 = 1; omega), cp_of G0 hN y_ n_ t2_ t1_ M4.2.2 (by have z := g_94_2 G4; show h4 94 2 = 0 ∨ h4 94 2 = 1; omega)⟩⟩
      · refine z_iconst (M := M_X11_compareToFoot) 22 dX11_compareToFoot_22 ?_
        exact z_retZ (M := M_X11_compareToFoot) 23 dX11_compareToFoot_23 rfl (by omega) ⟨G3, R3, by omega, by omega, ⟨fun z => absurd z (by decide), fun z => absurd (fx3.1.mpr z.2.2.2) (by omega)⟩, fun z => absurd z (by decide)⟩
    · refine z_if_eq_T (M := M_X11_compareToFoot) 12 dX11_compareToFoot_12 22 rfl (by omega) ?_
      refine z_iconst (M := M_X11_compareToFoot) 22 dX11_compareToFoot_22 ?_
      exact z_retZ (M := M_X11_compareToFoot) 23 dX11_compareToFoot_23 rfl (by omega) ⟨G0, (FR.rf (cs := (csB ++ [39, 40, 41])) (ss := []) (h := h0)), by omega, by omega, ⟨fun z => absurd z (by decide), fun z => absurd z.2.1 cx2⟩, fun z => absurd z (by decide)⟩
  · refine z_if_eq_T (M := M_X11_compareToFoot) 5 dX11_compareToFoot_5 22 rfl (by omega) ?_
    refine z_iconst (M := M_X11_compareToFoot) 22 dX11_compareToFoot_22 ?_
    exact z_retZ (M := M_X11_compareToFoot) 23 dX11_compareToFoot_23 rfl (by omega) ⟨G0, (FR.rf (cs := (csB ++ [39, 40, 41])) (ss := []) (h := h0)), by omega, by omega, ⟨fun z => absurd z (by decide), fun z => absurd (by have q := (thr_c hR).mpr z.2.2.1; exact ⟨z.1.1, z.1.2, q.2.2.elim Or.inl (fun y => y.elim (fun w => absurd w (by have := z.1.2; omega)) Or.inr)⟩) cx1⟩, fun z => absurd z (by decide)⟩
theorem lnF_b {k t l o : Int} (ht : 1 ≤ t) (hl : 0 ≤ l) : 0 ≤ lnF k t l o := by
  have a := Int.ediv_nonneg (a := 2 * l + t) (b := 2 * t) (by omega) (by omega)
  have b := Int.ediv_nonneg (a := l) (b := t) hl (by omega)
  unfold lnF
  split
  · exact a
  · split <;> omega
theorem gnF_b {k t l o : Int} (ht : 1 ≤ t) (hl : 0 ≤ l) : -1 ≤ gnF k t l o := by
  have gen : ∀ {T L : Int}, 0 ≤ T → 0 ≤ L → -1 ≤ gnG T L o := fun {T L} h1 h2 => by
    have b := Int.ediv_nonneg h1 h2
    unfold gnG
    split <;> omega
  unfold gnF
  split
  · omega
  · split
    · exact gen (by omega) (by omega)
    · exact gen (by omega) hl
abbrev P_X11_feet3 (h0 : m_H) (a1 a2 a3 : Int) : Int → m_H → Prop := fun x h' => GI h' ∧ FR (csB ++ [39, 40, 41]) [] h0 h' ∧ ftQ (h0 110) a1 a2 a3 x
set_option maxHeartbeats 4000000 in
set_option maxRecDepth 100000 in
theorem c_X11_feet3 (h0 : m_H) (a1 a2 a3 : Int) (G0 : GI h0) (hR : LR 1 h0 (h0 110)) (hN : NP h0) : m_CI M_X11_feet [mR 0, mI a1, mI a2, mI a3] h0 (P_X11_feet3 h0 a1 a2 a3) := by
  refine m_CI_of ⟨by decide, rfl, by simp [m_arg, m_isL, M_X11_feet], ⟨rfl, rfl⟩, rfl, rfl⟩ (ls := [some (mR 0), some (mI a1), some (mI a2), some (mI a3)]) rfl ?_
  refine z_ok (fun _ _ ok => ?_)
  have oa1 : m_32 a1 := ok 1 _ rfl
  unfold m_32 at oa1
  have oa2 : m_32 a2 := ok 2 _ rfl
  unfold m_32 at oa2
  have oa3 : m_32 a3 := ok 3 _ rfl
  unfold m_32 at oa3
  refine z_iload_n (M := M_X11_feet) 0 dX11_feet_0 rfl ?_
  refine z_iconst (M := M_X11_feet) 1 dX11_feet_1 ?_
  refine z_iconst (M := M_X11_feet) 2 dX11_feet_2 ?_
  refine z_sI (M := M_X11_feet) 3 dX11_feet_3 t_X11_within l_X11_112 (m_rr_of rfl) (rest := []) (c_X11_within h0 a3 0 1 G0) rfl rfl (Nat.le_of_ble_eq_true rfl) ⟨rfl, rfl⟩ (fun x1 h1 qx1 => ?_)
  obtain ⟨rfl, ⟨rfl, cx1⟩ | ⟨rfl, cx1⟩⟩ := qx1
  · refine z_if_eq_F (M := M_X11_feet) 6 dX11_feet_6 18 rfl (by omega) ?_
    refine z_aload_n (M := M_X11_feet) 9 dX11_feet_9 rfl ?_
    refine z_iload_n (M := M_X11_feet) 10 dX11_feet_10 rfl ?_
    refine z_iload_n (M := M_X11_feet) 11 dX11_feet_11 rfl ?_
    refine z_vI (M := M_X11_feet) 12 dX11_feet_12 t_X11_compareToFoot l_X11_247 (m_rr_of rfl) (rest := []) (c_X11_compareToFoot2 h0 a1 a2 G0 hR hN) o_0 rfl rfl rfl (Nat.le_of_ble_eq_true rfl) ⟨rfl, rfl⟩ (fun x2 h2 qx2 => ?_)
    obtain ⟨G2, S2, ax2, bx2, fx2⟩ := qx2
    have R2 := (FR.rf (cs := (csB ++ [39, 40, 41])) (ss := []) (h := h0)).call S2 (by decide +kernel)
    refine z_if_ne (M := M_X11_feet) 15 dX11_feet_15 21 rfl (fun c3 => ?_) (fun c3 => ?_)
    · have k_ := fx2.1.mp (by omega)
      have p_ := fx2.2 (by omega)
      have pb1_ : (1 ≤ h2 95 0 ∧ h2 95 0 ≤ 1600000000) ∧ (0 ≤ h2 95 1 ∧ h2 95 1 ≤ 1600000000) := by have z := p_.1.2.1; unfold pBb bd at z; simp only at z; omega
      have pb2_ : (1 ≤ h2 94 0 ∧ h2 94 0 ≤ 1600000000) ∧ (0 ≤ h2 94 1 ∧ h2 94 1 ≤ 1600000000) := by have z := p_.2.2.1; unfold pBb bd at z; simp only at z; omega
      refine z_iload_n (M := M_X11_feet) 21 dX11_feet_21 rfl ?_
      refine z_if_ne (M := M_X11_feet) 22 dX11_feet_22 36 rfl (fun c4 => ?_) (fun c4 => ?_)
      · refine z_aload_n (M := M_X11_feet) 36 dX11_feet_36 rfl ?_
        refine z_getR (M := M_X11_feet) 37 dX11_feet_37 f_X11_53 o_0 rfl (g_0_7 G2) ?_
        refine z_iconst (M := M_X11_feet) 40 dX11_feet_40 ?_
        refine z_vJ (M := M_X11_feet) 41 dX11_feet_41 t_X7_greatestNumber l_X11_254 (m_rr_of rfl) (rest := []) (c_X7_greatestNumber2 h2 1 G2 ⟨by omega, by omega⟩ pb1_) o_93 rfl rfl rfl (Nat.le_of_ble_eq_true rfl) ⟨rfl, rfl⟩ (fun x5 h3 qx5 => ?_)
        obtain ⟨G3, S3, fx5⟩ := qx5
        have rg_ := gnF_b (k := 1) (t := h2 95 0) (l := h2 95 1) (o := h2 95 2) (by omega) (by omega)
        rw [fx5] at rg_
        have R3 := R2.call S3 (by decide +kernel)
        refine z_ldc2 (M := M_X11_feet) 44 dX11_feet_44 k_X11_257 ?_
        refine z_sI (M := M_X11_feet) 47 dX11_feet_47 t_X11_atMost l_X11_220 (m_rr_of rfl) (rest := []) (c_X11_atMost2 h3 x5 2000 G3 (by omega) ⟨by omega, by omega⟩) rfl rfl (Nat.le_of_ble_eq_true rfl) ⟨rfl, rfl⟩ (fun x6 h4 qx6 => ?_)
        obtain ⟨G4, S4, fx6⟩ := qx6
        have R4 := R3.call S4 (by decide +kernel)
        refine z_ok (fun ox6 _ _ => ?_)
        have ox6 := ox6.1; unfold m_ok m_32 at ox6
        exact z_retI (M := M_X11_feet) 50 dX11_feet_50 rfl ⟨G4, R4, Or.inr ⟨⟨⟨by omega, by omega⟩, k_⟩, Or.inr ⟨by omega, _, ⟨p_.1.1, p_.1.2.2.1⟩, by show cap 2000 (gnF 1 (h2 95 0) (h2 95 1) (h2 95 2)) = _; rw [fx5]; exact fx6⟩⟩⟩
      · refine z_aload_n (M := M_X11_feet) 25 dX11_feet_25 rfl ?_
        refine z_getR (M := M_X11_feet) 26 dX11_feet_26 f_X11_53 o_0 rfl (g_0_7 G2) ?_
        refine z_iconst (M := M_X11_feet) 29 dX11_feet_29 ?_
        refine z_vJ (M := M_X11_feet) 30 dX11_feet_30 t_X7_leastNumber l_X11_250 (m_rr_of rfl) (rest := []) (c_X7_leastNumber2 h2 1 G2 ⟨by omega, by omega⟩ pb2_) o_93 rfl rfl rfl (Nat.le_of_ble_eq_true rfl) ⟨rfl, rfl⟩ (fun x7 h5 qx7 => ?_)
        obtain ⟨G5, S5, fx7⟩ := qx7
        have rl_ := lnF_b (k := 1) (t := h2 94 0) (l := h2 94 1) (o := h2 94 2) (by omega) (by omega)
        rw [fx7] at rl_
        have R5 := R2.call S5 (by decide +kernel)
        refine z_goto (M := M_X11_feet) 33 dX11_feet_33 44 rfl ?_
        refine z_ldc2 (M := M_X11_feet) 44 dX11_feet_44 k_X11_257 ?_
        refine z_sI (M := M_X11_feet) 47 dX11_feet_47 t_X11_atMost l_X11_220 (m_rr_of rfl) (rest := []) (c_X11_atMost2 h5 x7 2000 G5 (by omega) ⟨by omega, by omega⟩) rfl rfl (Nat.le_of_ble_eq_true rfl) ⟨rfl, rfl⟩ (fun x8 h6 qx8 => ?_)
        obtain ⟨G6, S6, fx8⟩ := qx8
        have R6 := R5.call S6 (by decide +kernel)
        refine z_ok (fun ox8 _ _ => ?_)
        have ox8 := ox8.1; unfold m_ok m_32 at ox8
        exact z_retI (M := M_X11_feet) 50 dX11_feet_50 rfl ⟨G6, R6, Or.inr ⟨⟨⟨by omega, by omega⟩, k_⟩, Or.inl ⟨by omega, _, ⟨p_.2.1, p_.2.2.2.1⟩, by show cap 2000 (lnF 1 (h2 94 0) (h2 94 1) (h2 94 2)) = _; rw [fx7]; exact fx8⟩⟩⟩
    · refine z_bipush (M := M_X11_feet) 18 dX11_feet_18 ?_
      exact z_retI (M := M_X11_feet) 20 dX11_feet_20 rfl ⟨G2, R2, Or.inl ⟨fun z => absurd (fx2.1.mpr z.2) (by omega), rfl⟩⟩
  · refine z_if_eq_T (M := M_X11_feet) 6 dX11_feet_6 18 rfl (by omega) ?_
    refine z_bipush (M := M_X11_feet) 18 dX11_feet_18 ?_
    exact z_retI (M := M_X11_feet) 20 dX11_feet_20 rfl ⟨G0, (FR.rf (cs := (csB ++ [39, 40, 41])) (ss := []) (h := h0)), Or.inl ⟨fun z => cx1 z.1, rfl⟩⟩
/-! the reference's feet -/
theorem dg_eq {f g : Nat → Int} (hf : dg10 f) (hg : dg10 g) (e : vS f 0 10 = vS g 0 10) : ∀ j, j < 10 → f j = g j := by
  have k : ∀ m, m ≤ 10 → ∀ j, 10 - m ≤ j → j < 10 → f j = g j := by
    intro m
    induction m with
    | zero => intro _ j h1 h2; omega
    | succ m ih =>
      intro hm j h1 h2
      have i := ih (by omega)
      by_cases q : 10 - m ≤ j
      · exact i j q h2
      · rcases Int.lt_trichotomy (f j) (g j) with z | z | z
        · have y := vS_lt h2 hf hg (fun t t1 t2 => i t (by omega) t2) z
          omega
        · exact z
        · have y := vS_lt h2 hg hf (fun t t1 t2 => (i t (by omega) t2).symm) z
          omega
  intro j hj
  exact k 10 (Nat.le_refl _) j (by omega) hj
theorem dv_eq {T L v : Int} (hL : 0 < L) (h1 : L * v ≤ T) (h2 : T < L * (v + 1)) : T / L = v := by
  have a : v ≤ T / L := Int.le_ediv_of_mul_le hL (by rw [Int.mul_comm]; exact h1)
  have b : T / L < v + 1 := Int.ediv_lt_of_lt_mul hL (by rw [Int.mul_comm]; exact h2)
  omega
theorem ft_l {T L o x : Int} (hT : 0 < T) (s : shQ x (L * 1) T 2000) (s3 : x ≤ 2000) : cap 2000 (lnF 1 T L o) = x := by
  obtain ⟨s1, s2⟩ := s
  rw [Int.mul_one] at s1 s2
  unfold lnF
  rw [if_neg (by decide), if_neg (fun z => absurd z.1 (by decide))]
  unfold cap
  by_cases g : x < 2000
  · rw [dv_eq hT s1 (s2 g), if_neg (by omega)]
  · have q : x ≤ L / T := Int.le_ediv_of_mul_le hT (by rw [Int.mul_comm]; exact s1)
    split <;> omega
def ftI (h0 h : m_H) (a1 a2 a3 v : Int) : Prop := (a3 = 1 ∧ ftK (h0 110) a1 a2) ∧ ∃ T L, BX (bR (h0 110)) a1.toNat (12 + a2).toNat (T, L, h 126 (12 + a2).toNat) ∧ (0 < L ∧ shQ v T L 2001) ∧ (dg10 (h 135) ∧ vS (h 135) 0 10 = T) ∧ dg10 (h 136) ∧ vS (h 136) 0 10 = L * v
def ftW (h : m_H) (w k : Int) : Prop := w = 1 ↔ ∀ j, j < k.toNat → h 135 j = h 136 j
theorem ftW_0 {h : m_H} {w k : Int} (W : ftW h w k) (hw : w ≠ 1) (hk : 0 ≤ k) : ftW h 0 (k + 1) := ⟨fun z => absurd z (by decide), fun z => absurd (W.mpr (fun j hj => z j (by omega))) hw⟩
theorem ftW_n {h : m_H} {k x y : Int} (hk : 0 ≤ k) (e1 : h 135 k.toNat = x) (e2 : h 136 k.toNat = y) (c : ¬ x = y) : ftW h 0 (k + 1) := ⟨fun z => absurd z (by decide), fun z => absurd ((e1.symm.trans (z k.toNat (by omega))).trans e2) c⟩
theorem ftW_y {h : m_H} {w k x y : Int} (W : ftW h w k) (hw : w = 1) (hk : 0 ≤ k) (e1 : h 135 k.toNat = x) (e2 : h 136 k.toNat = y) (c : x = y) : ftW h 1 (k + 1) := by
  refine ⟨fun _ j hj => ?_, fun _ => rfl⟩
  by_cases q : j = k.toNat
  · rw [q, e1, e2, c]
  · exact W.mp hw j (by omega)
theorem ft_end {h0 h : m_H} {a1 a2 a3 v w k s x : Int} (I : ftI h0 h a1 a2 a3 v) (W : ftW h w k) (hk : k = 10) (c : (s = 1 ∧ w = 1 ∧ h 126 (12 + a2).toNat = 1) ∨ (s = 0 ∧ ¬ (w = 1 ∧ h 126 (12 + a2).toNat = 1))) (ex : cap 2000 (v - s) = x) : ftQ (h0 110) a1 a2 a3 x := by
  obtain ⟨⟨a3e, K⟩, T, L, bx, ⟨hL, s1, s2⟩, ⟨d1, e1⟩, d2, e2⟩ := I
  subst hk
  have wq : w = 1 ↔ T = L * v := by
    refine W.trans ⟨fun z => ?_, fun z j hj => ?_⟩
    · rw [← e1, ← e2]
      exact vS_same (fun j hj => by rw [Nat.zero_add]; exact z j hj)
    · exact dg_eq d1 d2 (by rw [e1, e2]; exact z) j hj
  refine Or.inr ⟨⟨⟨by omega, by omega⟩, K⟩, Or.inr ⟨a3e, _, bx, ?_⟩⟩
  show cap 2000 (gnF 1 T L (h 126 (12 + a2).toNat)) = x
  rw [← ex]
  unfold gnF
  rw [if_neg (by omega), if_neg (by decide)]
  by_cases g : v < 2001
  · unfold gnG
    rw [dv_eq hL s1 (s2 g)]
    have m : v * L = T ↔ T = L * v := by rw [Int.mul_comm]; exact eq_comm
    rcases c with ⟨c1, c2, c3⟩ | ⟨c1, c2⟩
    · rw [if_pos ⟨c3, m.mpr (wq.mp c2)⟩, c1]
    · rw [if_neg (fun z => c2 ⟨wq.mpr (m.mp z.2), z.1⟩), c1, Int.sub_zero]
  · have q : v ≤ T / L := Int.le_ediv_of_mul_le hL (by rw [Int.mul_comm]; exact s1)
    have g1 : 2000 ≤ gnG T L (h 126 (12 + a2).toNat) := by unfold gnG; split <;> omega
    have g2 : s = 0 ∨ s = 1 := c.elim (fun z => Or.inr z.1) (fun z => Or.inl z.1)
    unfold cap
    split <;> split <;> omega
theorem ft_in {h0 h6 h7 h8 h9 : m_H} {a1 a2 a3 v : Int} (a3e : a3 = 1) (K : ftK (h0 110) a1 a2) (g : ga (aS h6 (12 + a2).toNat)) (b : BW (bR (h0 110)) a1.toNat (12 + a2).toNat (bOf (aS h6 (12 + a2).toNat))) (t : h6 127 (12 + a2).toNat = 1) (s : shQ v (vS (h6 125) (5 * (12 + a2)).toNat 5 * 1) (vS (h6 124) (5 * (12 + a2)).toNat 5) 2001) (S7 : FR [135, 136] [] h6 h7) (S8 : FR [135] [] h7 h8) (S9 : FR [136] [] h8 h9) (d1 : dg10 (h8 135)) (e1 : vS (h8 135) 0 10 = vS (h7 125) (5 * (12 + a2)).toNat 5 * 1) (d2 : dg10 (h9 136)) (e2 : vS (h9 136) 0 10 = vS (h8 124) (5 * (12 + a2)).toNat 5 * v) : ftI h0 h9 a1 a2 a3 v := by
  have r1 : h7 125 = h6 125 := FR.row S7 (fun _ => rfl)
  have r2 : h8 124 = h6 124 := (FR.row S8 (fun _ => rfl)).trans (FR.row S7 (fun _ => rfl))
  have r3 : h9 135 = h8 135 := FR.row S9 (fun _ => rfl)
  have r4 : h9 126 = h6 126 := (FR.row S9 (fun _ => rfl)).trans ((FR.row S8 (fun _ => rfl)).trans (FR.row S7 (fun _ => rfl)))
  have a5 : (5 * (12 + a2)).toNat = 5 * (12 + a2).toNat := at5 (by have := K.2.1.1; omega)
  rw [a5, Int.mul_one] at s e1
  rw [a5] at e2
  rw [r1] at e1
  rw [r2] at e2
  rw [bOf_y t rfl] at b
  have u1 : 1 ≤ vS (h6 124) (5 * (12 + a2).toNat) 5 := (g.2.2 t).1.1
  exact ⟨⟨a3e, K⟩, vS (h6 125) (5 * (12 + a2).toNat) 5, vS (h6 124) (5 * (12 + a2).toNat) 5, ⟨by rw [r4]; exact b, fun z => absurd (show vS (h6 124) (5 * (12 + a2).toNat) 5 = 0 from z) (by omega)⟩, ⟨by omega, s⟩, ⟨by rw [r3]; exact d1, by rw [r3]; exact e1⟩, d2, e2⟩
abbrev P_X12_share3 (h0 : m_H) (f : Nat) (f2 : Nat) (a2 a4 a5 a6 : Int) : Int → m_H → Prop := fun x h' => GI h' ∧ FR [135, 136] [] h0 h' ∧ 0 ≤ x ∧ x ≤ 2000000000 ∧ shQ x (vS (h0 f) a2.toNat 5 * a5) (vS (h0 f2) a4.toNat 5) a6 ∧ x ≤ a6
def q_X12_share3 (h0 : m_H) (f : Nat) (f2 : Nat) (a2 a4 a5 a6 : Int) (n : Nat) : Prop := (∀ (l7 l8 : Int) (h : m_H), GI h → FR [135, 136] [] h0 h → 0 ≤ l7 → l7 ≤ 2000000000 → 0 ≤ l8 → l8 ≤ 2000000000 → (-2147483648) ≤ a5 → a5 ≤ 2147483647 → (l7 ≤ l8) → (dg10 (h 135) ∧ vS (h 135) 0 10 = (vS (h0 f) a2.toNat 5 * a5)) → ((vS (h0 f2) a4.toNat 5) * l7 ≤ (vS (h0 f) a2.toNat 5 * a5) ∧ (l8 < a6 → (vS (h0 f) a2.toNat 5 * a5) < (vS (h0 f2) a4.toNat 5) * (l8 + 1)) ∧ l8 ≤ a6) → 25 * (l8 - l7) + (24) ≤ (n : Int) → m_Z oF M_X12_share 19 [some (mR 108), none, none, some (mR f2), some (mI a4), none, none, some (mI l7), some (mI l8), none, none, none, none] [] h (m_QI (P_X12_share3 h0 f f2 a2 a4 a5 a6))) ∧ (∀ (l7 l8 l9 l10 l11 l12 : Int) (h : m_H), GI h → FR [135, 136] [] h0 h → 0 ≤ l7 → l7 ≤ 1999999999 → 1 ≤ l8 → l8 ≤ 2000000000 → 0 ≤ l9 → l9 ≤ 2000000000 → 0 ≤ l10 → l10 ≤ 1 → 0 ≤ l11 → l11 ≤ 1 → (-1) ≤ l12 → l12 ≤ 9 → (-2147483648) ≤ a5 → a5 ≤ 2147483647 → (l7 ≤ l9 - 1 ∧ l9 ≤ l8) → (dg10 (h 135) ∧ vS (h 135) 0 10 = (vS (h0 f) a2.toNat 5 * a5)) → ((vS (h0 f2) a4.toNat 5) * l7 ≤ (vS (h0 f) a2.toNat 5 * a5) ∧ (l8 < a6 → (vS (h0 f) a2.toNat 5 * a5) < (vS (h0 f2) a4.toNat 5) * (l8 + 1)) ∧ l8 ≤ a6) → (shK (h 136) (h 135) ((vS (h0 f2) a4.toNat 5) * l9) (vS (h0 f) a2.toNat 5 * a5) l10 l11 l12) → 25 * (l8 - l7) + 2 * (l12 - (-1)) + (1) ≤ (n : Int) → m_Z oF M_X12_share 63 [some (mR 108), none, none, some (mR f2), some (mI a4), none, none, some (mI l7), some (mI l8), some (mI l9), some (mI l10), some (mI l11), some (mI l12)] [] h (m_QI (P_X12_share3 h0 f f2 a2 a4 a5 a6)))
set_option maxHeartbeats 4000000 in
set_option maxRecDepth 100000 in
theorem s_X12_share3_19 (h0 : m_H) (f : Nat) (f2 : Nat) (a2 a4 a5 a6 : Int) (w_f : f = 124 ∨ f = 125) (w_f2 : f2 = 124 ∨ f2 = 125) (G0 : GI h0) (pa2 : 0 ≤ a2 ∧ a2 ≤ 75) (pa4 : 0 ≤ a4 ∧ a4 ≤ 75) (pa6 : 0 ≤ a6 ∧ a6 ≤ 2000000000) (hb5 : 0 ≤ a5 ∧ a5 ≤ 2000000000) (n : Nat) (ih : q_X12_share3 h0 f f2 a2 a4 a5 a6 n) : ∀ (l7 l8 : Int) (h : m_H), GI h → FR [135, 136] [] h0 h → 0 ≤ l7 → l7 ≤ 2000000000 → 0 ≤ l8 → l8 ≤ 2000000000 → (-2147483648) ≤ a5 → a5 ≤ 2147483647 → (l7 ≤ l8) → (dg10 (h 135) ∧ vS (h 135) 0 10 = (vS (h0 f) a2.toNat 5 * a5)) → ((vS (h0 f2) a4.toNat 5) * l7 ≤ (vS (h0 f) a2.toNat 5 * a5) ∧ (l8 < a6 → (vS (h0 f) a2.toNat 5 * a5) < (vS (h0 f2) a4.toNat 5) * (l8 + 1)) ∧ l8 ≤ a6) → 25 * (l8 - l7) + (24) ≤ ((n + 1 : Nat) : Int) → m_Z oF M_X12_share 19 [some (mR 108), none, none, some (mR f2), some (mI a4), none, none, some (mI l7), some (mI l8), none, none, none, none] [] h (m_QI (P_X12_share3 h0 f f2 a2 a4 a5 a6)) := by
  intro l7 l8 h G R v0 v1 v2 v3 v4 v5 i0 i1 i2 hr
  have ef_ : h f2 = h0 f2 := by rcases w_f2 with rfl | rfl <;> exact FR.row R (fun _ => rfl)
  refine z_iload (M := M_X12_share) 19 dX12_share_19 rfl ?_
  refine z_iload (M := M_X12_share) 21 dX12_share_21 rfl ?_
  refine z_icmp_ge (M := M_X12_share) 23 dX12_share_23 150 rfl (fun c1 => ?_) (fun c1 => ?_)
  · refine z_iload (M := M_X12_share) 150 dX12_share_150 rfl ?_
    exact z_retI (M := M_X12_share) 152 dX12_share_152 rfl ⟨G, R, by omega, by omega, by have e_ : l8 = l7 := (by omega); rw [e_] at i2; exact ⟨⟨i2.1, i2.2.1⟩, i2.2.2⟩⟩
  · refine z_iload (M := M_X12_share) 26 dX12_share_26 rfl ?_
    refine z_iload (M := M_X12_share) 28 dX12_share_28 rfl ?_
    refine z_iload (M := M_X12_share) 30 dX12_share_30 rfl ?_
    refine z_isubN (M := M_X12_share) 32 dX12_share_32 (by omega) (by omega) ?_
    refine z_iconst (M := M_X12_share) 33 dX12_share_33 ?_
    refine z_iaddN (M := M_X12_share) 34 dX12_share_34 (by omega) (by omega) ?_
    refine z_iconst (M := M_X12_share) 35 dX12_share_35 ?_
    refine z_idivN (M := M_X12_share) 36 dX12_share_36 (by omega) (by omega) ?_
    refine z_topBI (lo := 0) (hi := 1000000000) ⟨by omega, by omega⟩ (fun x2 ex2 ax2 bx2 => ?_)
    refine z_iaddN (M := M_X12_share) 37 dX12_share_37 (by omega) (by omega) ?_
    refine z_topBI (lo := 0) (hi := 2000000000) ⟨by omega, by omega⟩ (fun x3 ex3 ax3 bx3 => ?_)
    refine z_istore (M := M_X12_share) 38 dX12_share_38 (ls' := [some (mR 108), none, none, some (mR f2), some (mI a4), none, none, some (mI l7), some (mI l8), some (mI x3), none, none, none]) (by decide) rfl ?_
    refine z_aload_n (M := M_X12_share) 40 dX12_share_40 rfl ?_
    refine z_getR (M := M_X12_share) 41 dX12_share_41 f_X12_97 o_108 rfl (g_108_41 G) ?_
    refine z_aload_n (M := M_X12_share) 44 dX12_share_44 rfl ?_
    refine z_iload (M := M_X12_share) 45 dX12_share_45 rfl ?_
    refine z_iload (M := M_X12_share) 47 dX12_share_47 rfl ?_
    refine z_i2l (M := M_X12_share) 49 dX12_share_49 ?_
    refine z_sV (M := M_X12_share) 50 dX12_share_50 t_X12_wide l_X12_387 (m_rr_of rfl) (rest := []) (c_X12_wide80x h 136 f2 a4 x3 (Or.inr rfl) w_f2 G ⟨by omega, by omega⟩ ⟨by omega, by omega⟩) rfl rfl (Nat.le_of_ble_eq_true rfl) ⟨rfl, rfl⟩ (fun h1 qx4 => ?_)
    obtain ⟨G1, S1, W1, W2⟩ := qx4
    have i1c : dg10 (h1 135) ∧ vS (h1 135) 0 10 = (vS (h0 f) a2.toNat 5 * a5) := by rw [FR.row (c := 135) S1 (fun _ => rfl)]; exact i1
    rw [ef_] at W2
    have R1 := R.call S1 (by decide +kernel)
    refine z_iconst (M := M_X12_share) 53 dX12_share_53 ?_
    refine z_istore (M := M_X12_share) 54 dX12_share_54 (ls' := [some (mR 108), none, none, some (mR f2), some (mI a4), none, none, some (mI l7), some (mI l8), some (mI x3), some (mI 1), none, none]) (by decide) rfl ?_
    refine z_iconst (M := M_X12_share) 56 dX12_share_56 ?_
    refine z_istore (M := M_X12_share) 57 dX12_share_57 (ls' := [some (mR 108), none, none, some (mR f2), some (mI a4), none, none, some (mI l7), some (mI l8), some (mI x3), some (mI 1), some (mI 1), none]) (by decide) rfl ?_
    refine z_bipush (M := M_X12_share) 59 dX12_share_59 ?_
    refine z_istore (M := M_X12_share) 61 dX12_share_61 (ls' := [some (mR 108), none, none, some (mR f2), some (mI a4), none, none, some (mI l7), some (mI l8), some (mI x3), some (mI 1), some (mI 1), some (mI 9)]) (by decide) rfl ?_
    exact z_mask [true, false, false, true, true, false, false, true, true, true, true, true, true] rfl (ih.2 l7 l8 x3 1 1 9 h1 G1 R1 (by omega) (by omega) (by omega) (by omega) (by omega) (by omega) (by omega) (by omega) (by omega) (by omega) (by omega) (by omega) (by omega) (by omega) (by omega) i1c i2 (shK_0 W1 W2 i1c.1 i1c.2) (by omega))
set_option maxHeartbeats 4000000 in
set_option maxRecDepth 100000 in
theorem s_X12_share3_63 (h0 : m_H) (f : Nat) (f2 : Nat) (a2 a4 a5 a6 : Int) (w_f : f = 124 ∨ f = 125) (w_f2 : f2 = 124 ∨ f2 = 125) (G0 : GI h0) (pa2 : 0 ≤ a2 ∧ a2 ≤ 75) (pa4 : 0 ≤ a4 ∧ a4 ≤ 75) (pa6 : 0 ≤ a6 ∧ a6 ≤ 2000000000) (hb5 : 0 ≤ a5 ∧ a5 ≤ 2000000000) (n : Nat) (ih : q_X12_share3 h0 f f2 a2 a4 a5 a6 n) : ∀ (l7 l8 l9 l10 l11 l12 : Int) (h : m_H), GI h → FR [135, 136] [] h0 h → 0 ≤ l7 → l7 ≤ 1999999999 → 1 ≤ l8 → l8 ≤ 2000000000 → 0 ≤ l9 → l9 ≤ 2000000000 → 0 ≤ l10 → l10 ≤ 1 → 0 ≤ l11 → l11 ≤ 1 → (-1) ≤ l12 → l12 ≤ 9 → (-2147483648) ≤ a5 → a5 ≤ 2147483647 → (l7 ≤ l9 - 1 ∧ l9 ≤ l8) → (dg10 (h 135) ∧ vS (h 135) 0 10 = (vS (h0 f) a2.toNat 5 * a5)) → ((vS (h0 f2) a4.toNat 5) * l7 ≤ (vS (h0 f) a2.toNat 5 * a5) ∧ (l8 < a6 → (vS (h0 f) a2.toNat 5 * a5) < (vS (h0 f2) a4.toNat 5) * (l8 + 1)) ∧ l8 ≤ a6) → (shK (h 136) (h 135) ((vS (h0 f2) a4.toNat 5) * l9) (vS (h0 f) a2.toNat 5 * a5) l10 l11 l12) → 25 * (l8 - l7) + 2 * (l12 - (-1)) + (1) ≤ ((n + 1 : Nat) : Int) → m_Z oF M_X12_share 63 [some (mR 108), none, none, some (mR f2), some (mI a4), none, none, some (mI l7), some (mI l8), some (mI l9), some (mI l10), some (mI l11), some (mI l12)] [] h (m_QI (P_X12_share3 h0 f f2 a2 a4 a5 a6)) := by
  intro l7 l8 l9 l10 l11 l12 h G R v0 v1 v2 v3 v4 v5 v6 v7 v8 v9 v10 v11 v12 v13 i0 i1 i2 i3 hr
  refine z_iload (M := M_X12_share) 63 dX12_share_63 rfl ?_
  refine z_if_lt (M := M_X12_share) 65 dX12_share_65 129 rfl (fun c1 => ?_) (fun c1 => ?_)
  · refine z_iload (M := M_X12_share) 129 dX12_share_129 rfl ?_
    refine z_if_eq (M := M_X12_share) 131 dX12_share_131 141 rfl (fun c2 => ?_) (fun c2 => ?_)
    · refine z_iload (M := M_X12_share) 141 dX12_share_141 rfl ?_
      refine z_iconst (M := M_X12_share) 143 dX12_share_143 ?_
      refine z_isubN (M := M_X12_share) 144 dX12_share_144 (by omega) (by omega) ?_
      refine z_istore (M := M_X12_share) 145 dX12_share_145 (ls' := [some (mR 108), none, none, some (mR f2), some (mI a4), none, none, some (mI l7), some (mI (l9 - 1)), some (mI l9), some (mI l10), some (mI l11), some (mI l12)]) (by decide) rfl ?_
      refine z_goto (M := M_X12_share) 147 dX12_share_147 19 rfl ?_
      exact z_mask [true, false, false, true, true, false, false, true, true, false, false, false, false] rfl (ih.1 l7 (l9 - 1) h G R (by omega) (by omega) (by omega) (by omega) (by omega) (by omega) (by omega) i1 ⟨i2.1, fun _ => by rw [show l9 - 1 + 1 = l9 by omega]; have e_ := shK_end i3 (by omega); omega, by omega⟩ (by omega))
    · refine z_iload (M := M_X12_share) 134 dX12_share_134 rfl ?_
      refine z_istore (M := M_X12_share) 136 dX12_share_136 (ls' := [some (mR 108), none, none, some (mR f2), some (mI a4), none, none, some (mI l9), some (mI l8), some (mI l9), some (mI l10), some (mI l11), some (mI l12)]) (by decide) rfl ?_
      refine z_goto (M := M_X12_share) 138 dX12_share_138 147 rfl ?_
      refine z_goto (M := M_X12_share) 147 dX12_share_147 19 rfl ?_
      exact z_mask [true, false, false, true, true, false, false, true, true, false, false, false, false] rfl (ih.1 l9 l8 h G R (by omega) (by omega) (by omega) (by omega) (by omega) (by omega) (by omega) i1 ⟨(shK_end i3 (by omega)).mp (by omega), i2.2.1, i2.2.2⟩ (by omega))
  · refine z_iload (M := M_X12_share) 68 dX12_share_68 rfl ?_
    refine z_if_eq (M := M_X12_share) 70 dX12_share_70 129 rfl (fun c3 => ?_) (fun c3 => ?_)
    · refine z_iload (M := M_X12_share) 129 dX12_share_129 rfl ?_
      refine z_if_eq (M := M_X12_share) 131 dX12_share_131 141 rfl (fun c4 => ?_) (fun c4 => ?_)
      · refine z_iload (M := M_X12_share) 141 dX12_share_141 rfl ?_
        refine z_iconst (M := M_X12_share) 143 dX12_share_143 ?_
        refine z_isubN (M := M_X12_share) 144 dX12_share_144 (by omega) (by omega) ?_
        refine z_istore (M := M_X12_share) 145 dX12_share_145 (ls' := [some (mR 108), none, none, some (mR f2), some (mI a4), none, none, some (mI l7), some (mI (l9 - 1)), some (mI l9), some (mI l10), some (mI l11), some (mI l12)]) (by decide) rfl ?_
        refine z_goto (M := M_X12_share) 147 dX12_share_147 19 rfl ?_
        exact z_mask [true, false, false, true, true, false, false, true, true, false, false, false, false] rfl (ih.1 l7 (l9 - 1) h G R (by omega) (by omega) (by omega) (by omega) (by omega) (by omega) (by omega) i1 ⟨i2.1, fun _ => by rw [show l9 - 1 + 1 = l9 by omega]; have e_ := shK_end i3 (by omega); omega, by omega⟩ (by omega))
      · refine z_iload (M := M_X12_share) 134 dX12_share_134 rfl ?_
        refine z_istore (M := M_X12_share) 136 dX12_share_136 (ls' := [some (mR 108), none, none, some (mR f2), some (mI a4), none, none, some (mI l9), some (mI l8), some (mI l9), some (mI l10), some (mI l11), some (mI l12)]) (by decide) rfl ?_
        refine z_goto (M := M_X12_share) 138 dX12_share_138 147 rfl ?_
        refine z_goto (M := M_X12_share) 147 dX12_share_147 19 rfl ?_
        exact z_mask [true, false, false, true, true, false, false, true, true, false, false, false, false] rfl (ih.1 l9 l8 h G R (by omega) (by omega) (by omega) (by omega) (by omega) (by omega) (by omega) i1 ⟨(shK_end i3 (by omega)).mp (by omega), i2.2.1, i2.2.2⟩ (by omega))
    · refine z_aload_n (M := M_X12_share) 73 dX12_share_73 rfl ?_
      refine z_getR (M := M_X12_share) 74 dX12_share_74 f_X12_97 o_108 rfl (g_108_41 G) ?_
      refine z_iload (M := M_X12_share) 77 dX12_share_77 rfl ?_
      refine z_laldV (M := M_X12_share) 79 dX12_share_79 o_136 (by omega) (by omega) (fun x5 ex5 => ?_)
      refine z_aload_n (M := M_X12_share) 80 dX12_share_80 rfl ?_
      refine z_getR (M := M_X12_share) 81 dX12_share_81 f_X12_94 o_108 rfl (g_108_40 G) ?_
      refine z_iload (M := M_X12_share) 84 dX12_share_84 rfl ?_
      refine z_laldV (M := M_X12_share) 86 dX12_share_86 o_135 (by omega) (by omega) (fun x6 ex6 => ?_)
      refine z_lcmp (M := M_X12_share) 87 dX12_share_87 ?_
      refine z_if_ne (M := M_X12_share) 88 dX12_share_88 95 rfl (fun c7 => ?_) (fun c7 => ?_)
      · rw [m_cmp_eq] at c7
        refine z_iconst (M := M_X12_share) 95 dX12_share_95 ?_
        refine z_istore (M := M_X12_share) 96 dX12_share_96 (ls' := [some (mR 108), none, none, some (mR f2), some (mI a4), none, none, some (mI l7), some (mI l8), some (mI l9), some (mI l10), some (mI 0), some (mI l12)]) (by decide) rfl ?_
        refine z_aload_n (M := M_X12_share) 98 dX12_share_98 rfl ?_
        refine z_getR (M := M_X12_share) 99 dX12_share_99 f_X12_97 o_108 rfl (g_108_41 G) ?_
        refine z_iload (M := M_X12_share) 102 dX12_share_102 rfl ?_
        refine z_laldE (M := M_X12_share) 104 dX12_share_104 o_136 (by omega) (by omega) ex5 ?_
        refine z_aload_n (M := M_X12_share) 105 dX12_share_105 rfl ?_
        refine z_getR (M := M_X12_share) 106 dX12_share_106 f_X12_94 o_108 rfl (g_108_40 G) ?_
        refine z_iload (M := M_X12_share) 109 dX12_share_109 rfl ?_
        refine z_laldE (M := M_X12_share) 111 dX12_share_111 o_135 (by omega) (by omega) ex6 ?_
        refine z_lcmp (M := M_X12_share) 112 dX12_share_112 ?_
        refine z_if_gt (M := M_X12_share) 113 dX12_share_113 120 rfl (fun c8 => ?_) (fun c8 => ?_)
        · rw [m_cmp_gt] at c8
          refine z_iconst (M := M_X12_share) 120 dX12_share_120 ?_
          refine z_istore (M := M_X12_share) 121 dX12_share_121 (ls' := [some (mR 108), none, none, some (mR f2), some (mI a4), none, none, some (mI l7), some (mI l8), some (mI l9), some (mI 0), some (mI 0), some (mI l12)]) (by decide) rfl ?_
          refine z_iincN (M := M_X12_share) 123 dX12_share_123 (ls' := [some (mR 108), none, none, some (mR f2), some (mI a4), none, none, some (mI l7), some (mI l8), some (mI l9), some (mI 0), some (mI 0), some (mI (l12 + (-1)))]) (by decide) rfl (by (unfold m_32; decide)) (by omega) (by omega) rfl ?_
          refine z_goto (M := M_X12_share) 126 dX12_share_126 63 rfl ?_
          exact z_mask [true, false, false, true, true, false, false, true, true, true, true, true, true] rfl (ih.2 l7 l8 l9 0 0 (l12 + (-1)) h G R (by omega) (by omega) (by omega) (by omega) (by omega) (by omega) (by omega) (by omega) (by omega) (by omega) (by omega) (by omega) (by omega) (by omega) (by omega) i1 i2 (shK_gt (by have q := i3; rw [show l11 = 1 by omega] at q; exact q) (by omega) (by omega) ex5 ex6 (by omega)) (by omega))
        · rw [m_cmp_gt] at c8
          refine z_iconst (M := M_X12_share) 116 dX12_share_116 ?_
          refine z_goto (M := M_X12_share) 117 dX12_share_117 121 rfl ?_
          refine z_istore (M := M_X12_share) 121 dX12_share_121 (ls' := [some (mR 108), none, none, some (mR f2), some (mI a4), none, none, some (mI l7), some (mI l8), some (mI l9), some (mI 1), some (mI 0), some (mI l12)]) (by decide) rfl ?_
          refine z_iincN (M := M_X12_share) 123 dX12_share_123 (ls' := [some (mR 108), none, none, some (mR f2), some (mI a4), none, none, some (mI l7), some (mI l8), some (mI l9), some (mI 1), some (mI 0), some (mI (l12 + (-1)))]) (by decide) rfl (by (unfold m_32; decide)) (by omega) (by omega) rfl ?_
          refine z_goto (M := M_X12_share) 126 dX12_share_126 63 rfl ?_
          exact z_mask [true, false, false, true, true, false, false, true, true, true, true, true, true] rfl (ih.2 l7 l8 l9 1 0 (l12 + (-1)) h G R (by omega) (by omega) (by omega) (by omega) (by omega) (by omega) (by omega) (by omega) (by omega) (by omega) (by omega) (by omega) (by omega) (by omega) (by omega) i1 i2 (shK_lt (by have q := i3; rw [show l11 = 1 by omega] at q; exact q) (by omega) (by omega) ex5 ex6 (by omega)) (by omega))
      · rw [m_cmp_eq] at c7
        refine z_iconst (M := M_X12_share) 91 dX12_share_91 ?_
        refine z_goto (M := M_X12_share) 92 dX12_share_92 96 rfl ?_
        refine z_istore (M := M_X12_share) 96 dX12_share_96 (ls' := [some (mR 108), none, none, some (mR f2), some (mI a4), none, none, some (mI l7), some (mI l8), some (mI l9), some (mI l10), some (mI 1), some (mI l12)]) (by decide) rfl ?_
        refine z_aload_n (M := M_X12_share) 98 dX12_share_98 rfl ?_
        refine z_getR (M := M_X12_share) 99 dX12_share_99 f_X12_97 o_108 rfl (g_108_41 G) ?_
        refine z_iload (M := M_X12_share) 102 dX12_share_102 rfl ?_
        refine z_laldE (M := M_X12_share) 104 dX12_share_104 o_136 (by omega) (by omega) ex5 ?_
        refine z_aload_n (M := M_X12_share) 105 dX12_share_105 rfl ?_
        refine z_getR (M := M_X12_share) 106 dX12_share_106 f_X12_94 o_108 rfl (g_108_40 G) ?_
        refine z_iload (M := M_X12_share) 109 dX12_share_109 rfl ?_
        refine z_laldE (M := M_X12_share) 111 dX12_share_111 o_135 (by omega) (by omega) ex6 ?_
        refine z_lcmp (M := M_X12_share) 112 dX12_share_112 ?_
        refine z_if_gt (M := M_X12_share) 113 dX12_share_113 120 rfl (fun c9 => ?_) (fun c9 => ?_)
        · rw [m_cmp_gt] at c9
          refine z_iconst (M := M_X12_share) 120 dX12_share_120 ?_
          refine z_istore (M := M_X12_share) 121 dX12_share_121 (ls' := [some (mR 108), none, none, some (mR f2), some (mI a4), none, none, some (mI l7), some (mI l8), some (mI l9), some (mI 0), some (mI 1), some (mI l12)]) (by decide) rfl ?_
          refine z_iincN (M := M_X12_share) 123 dX12_share_123 (ls' := [some (mR 108), none, none, some (mR f2), some (mI a4), none, none, some (mI l7), some (mI l8), some (mI l9), some (mI 0), some (mI 1), some (mI (l12 + (-1)))]) (by decide) rfl (by (unfold m_32; decide)) (by omega) (by omega) rfl ?_
          refine z_goto (M := M_X12_share) 126 dX12_share_126 63 rfl ?_
          exact z_mask [true, false, false, true, true, false, false, true, true, true, true, true, true] rfl (ih.2 l7 l8 l9 0 1 (l12 + (-1)) h G R (by omega) (by omega) (by omega) (by omega) (by omega) (by omega) (by omega) (by omega) (by omega) (by omega) (by omega) (by omega) (by omega) (by omega) (by omega) i1 i2 (False.elim (by omega)) (by omega))
        · rw [m_cmp_gt] at c9
          refine z_iconst (M := M_X12_share) 116 dX12_share_116 ?_
          refine z_goto (M := M_X12_share) 117 dX12_share_117 121 rfl ?_
          refine z_istore (M := M_X12_share) 121 dX12_share_121 (ls' := [some (mR 108), none, none, some (mR f2), some (mI a4), none, none, some (mI l7), some (mI l8), some (mI l9), some (mI 1), some (mI 1), some (mI l12)]) (by decide) rfl ?_
          refine z_iincN (M := M_X12_share) 123 dX12_share_123 (ls' := [some (mR 108), none, none, some (mR f2), some (mI a4), none, none, some (mI l7), some (mI l8), some (mI l9), some (mI 1), some (mI 1), some (mI (l12 + (-1)))]) (by decide) rfl (by (unfold m_32; decide)) (by omega) (by omega) rfl ?_
          refine z_goto (M := M_X12_share) 126 dX12_share_126 63 rfl ?_
          exact z_mask [true, false, false, true, true, false, false, true, true, true, true, true, true] rfl (ih.2 l7 l8 l9 1 1 (l12 + (-1)) h G R (by omega) (by omega) (by omega) (by omega) (by omega) (by omega) (by omega) (by omega) (by omega) (by omega) (by omega) (by omega) (by omega) (by omega) (by omega) i1 i2 (shK_eq (by have q := i3; rw [show l11 = 1 by omega] at q; exact q) (by omega) ex5 ex6 c7) (by omega))
theorem a_X12_share3 (h0 : m_H) (f : Nat) (f2 : Nat) (a2 a4 a5 a6 : Int) (w_f : f = 124 ∨ f = 125) (w_f2 : f2 = 124 ∨ f2 = 125) (G0 : GI h0) (pa2 : 0 ≤ a2 ∧ a2 ≤ 75) (pa4 : 0 ≤ a4 ∧ a4 ≤ 75) (pa6 : 0 ≤ a6 ∧ a6 ≤ 2000000000) (hb5 : 0 ≤ a5 ∧ a5 ≤ 2000000000) : ∀ n, q_X12_share3 h0 f f2 a2 a4 a5 a6 n := by
  intro n
  induction n with
  | zero => unfold q_X12_share3; refine ⟨?_, ?_⟩ <;> (intros; omega)
  | succ n ih => exact ⟨s_X12_share3_19 h0 f f2 a2 a4 a5 a6 w_f w_f2 G0 pa2 pa4 pa6 hb5 n ih, s_X12_share3_63 h0 f f2 a2 a4 a5 a6 w_f w_f2 G0 pa2 pa4 pa6 hb5 n ih⟩
set_option maxHeartbeats 4000000 in
set_option maxRecDepth 100000 in
theorem c_X12_share3 (h0 : m_H) (f : Nat) (f2 : Nat) (a2 a4 a5 a6 : Int) (w_f : f = 124 ∨ f = 125) (w_f2 : f2 = 124 ∨ f2 = 125) (G0 : GI h0) (pa2 : 0 ≤ a2 ∧ a2 ≤ 75) (pa4 : 0 ≤ a4 ∧ a4 ≤ 75) (pa6 : 0 ≤ a6 ∧ a6 ≤ 2000000000) (hb5 : 0 ≤ a5 ∧ a5 ≤ 2000000000) : m_CI M_X12_share [mR 108, mR f, mI a2, mR f2, mI a4, mI a5, mI a6] h0 (P_X12_share3 h0 f f2 a2 a4 a5 a6) := by
  refine m_CI_of ⟨by decide, rfl, by simp [m_arg, m_isL, M_X12_share], ⟨rfl, rfl⟩, rfl, rfl⟩ (ls := [some (mR 108), some (mR f), some (mI a2), some (mR f2), some (mI a4), some (mI a5), some (mI a6), none, none, none, none, none, none]) rfl ?_
  have ih := a_X12_share3 h0 f f2 a2 a4 a5 a6 w_f w_f2 G0 pa2 pa4 pa6 hb5 50000000031
  refine z_ok (fun _ _ ok => ?_)
  have oa5 : m_32 a5 := ok 5 _ rfl
  unfold m_32 at oa5
  refine z_iconst (M := M_X12_share) 0 dX12_share_0 ?_
  refine z_istore (M := M_X12_share) 1 dX12_share_1 (ls' := [some (mR 108), some (mR f), some (mI a2), some (mR f2), some (mI a4), some (mI a5), some (mI a6), some (mI 0), none, none, none, none, none]) (by decide) rfl ?_
  refine z_iload (M := M_X12_share) 3 dX12_share_3 rfl ?_
  refine z_istore (M := M_X12_share) 5 dX12_share_5 (ls' := [some (mR 108), some (mR f), some (mI a2), some (mR f2), some (mI a4), some (mI a5), some (mI a6), some (mI 0), some (mI a6), none, none, none, none]) (by decide) rfl ?_
  refine z_aload_n (M := M_X12_share) 7 dX12_share_7 rfl ?_
  refine z_getR (M := M_X12_share) 8 dX12_share_8 f_X12_94 o_108 rfl (g_108_40 G0) ?_
  refine z_aload_n (M := M_X12_share) 11 dX12_share_11 rfl ?_
  refine z_iload_n (M := M_X12_share) 12 dX12_share_12 rfl ?_
  refine z_iload (M := M_X12_share) 13 dX12_share_13 rfl ?_
  refine z_i2l (M := M_X12_share) 15 dX12_share_15 ?_
  refine z_sV (M := M_X12_share) 16 dX12_share_16 t_X12_wide l_X12_387 (m_rr_of rfl) (rest := []) (c_X12_wide80x h0 135 f a2 a5 (Or.inl rfl) w_f G0 ⟨by omega, by omega⟩ ⟨by omega, by omega⟩) rfl rfl (Nat.le_of_ble_eq_true rfl) ⟨rfl, rfl⟩ (fun h1 qx1 => ?_)
  obtain ⟨G1, S1, W1, W2⟩ := qx1
  have R1 := (FR.rf (cs := [135, 136]) (ss := []) (h := h0)).call S1 (by decide +kernel)
  exact z_mask [true, false, false, true, true, false, false, true, true, false, false, false, false] rfl (ih.1 0 a6 h1 G1 R1 (by omega) (by omega) (by omega) (by omega) (by omega) (by omega) (by omega) ⟨W1, W2⟩ ⟨by rw [Int.mul_zero]; exact Int.mul_nonneg (vS_bd (fun j hj => gC_124_125 w_f G0 (by omega))).1 hb5.1, fun z => absurd z (by omega), Int.le_refl _⟩ (by omega))
abbrev P_X12_feet3 (h0 : m_H) (a1 a2 a3 : Int) : Int → m_H → Prop := fun x h' => GI h' ∧ FR [115, 116, 117, 118, 119, 120, 121, 122, 123, 124, 125, 126, 127, 128, 129, 130, 131, 132, 133, 134, 135, 136] [(108, 0), (108, 21)] h0 h' ∧ (-2) ≤ x ∧ x ≤ 2000000000 ∧ ftQ (h0 110) a1 a2 a3 x
def q_X12_feet3 (h0 : m_H) (a1 a2 a3 : Int) (n : Nat) : Prop := (∀ (l5 l6 l7 : Int) (h : m_H), GI h → FR [115, 116, 117, 118, 119, 120, 121, 122, 123, 124, 125, 126, 127, 128, 129, 130, 131, 132, 133, 134, 135, 136] [(108, 0), (108, 21)] h0 h → 0 ≤ l5 → l5 ≤ 2000000000 → 0 ≤ l6 → l6 ≤ 1 → 0 ≤ l7 → l7 ≤ 10 → 0 ≤ a1 → a1 ≤ 11 → 0 ≤ a2 → a2 ≤ 3 → 1 ≤ a3 → a3 ≤ 1 → (ftI h0 h a1 a2 a3 l5) → (ftW h l6 l7) → 2 * (10 - l7) + (1) ≤ (n : Int) → m_Z oF M_X12_feet 194 [some (mR 108), none, none, none, some (mI (12 + a2)), some (mI l5), some (mI l6), some (mI l7)] [] h (m_QI (P_X12_feet3 h0 a1 a2 a3)))
set_option maxHeartbeats 4000000 in
set_option maxRecDepth 100000 in
theorem s_X12_feet3_194 (h0 : m_H) (a1 a2 a3 : Int) (G0 : GI h0) (hN : NP h0) (n : Nat) (ih : q_X12_feet3 h0 a1 a2 a3 n) : ∀ (l5 l6 l7 : Int) (h : m_H), GI h → FR [115, 116, 117, 118, 119, 120, 121, 122, 123, 124, 125, 126, 127, 128, 129, 130, 131, 132, 133, 134, 135, 136] [(108, 0), (108, 21)] h0 h → 0 ≤ l5 → l5 ≤ 2000000000 → 0 ≤ l6 → l6 ≤ 1 → 0 ≤ l7 → l7 ≤ 10 → 0 ≤ a1 → a1 ≤ 11 → 0 ≤ a2 → a2 ≤ 3 → 1 ≤ a3 → a3 ≤ 1 → (ftI h0 h a1 a2 a3 l5) → (ftW h l6 l7) → 2 * (10 - l7) + (1) ≤ ((n + 1 : Nat) : Int) → m_Z oF M_X12_feet 194 [some (mR 108), none, none, none, some (mI (12 + a2)), some (mI l5), some (mI l6), some (mI l7)] [] h (m_QI (P_X12_feet3 h0 a1 a2 a3)) := by
  intro l5 l6 l7 h G R v0 v1 v2 v3 v4 v5 v6 v7 v8 v9 v10 v11 i1 i2 hr
  refine z_iload (M := M_X12_feet) 194 dX12_feet_194 rfl ?_
  refine z_bipush (M := M_X12_feet) 196 dX12_feet_196 ?_
  refine z_icmp_ge (M := M_X12_feet) 198 dX12_feet_198 237 rfl (fun c1 => ?_) (fun c1 => ?_)
  · refine z_iload (M := M_X12_feet) 237 dX12_feet_237 rfl ?_
    refine z_iload (M := M_X12_feet) 239 dX12_feet_239 rfl ?_
    refine z_if_eq (M := M_X12_feet) 241 dX12_feet_241 258 rfl (fun c2 => ?_) (fun c2 => ?_)
    · refine z_iconst (M := M_X12_feet) 258 dX12_feet_258 ?_
      refine z_isubN (M := M_X12_feet) 259 dX12_feet_259 (by omega) (by omega) ?_
      refine z_istore (M := M_X12_feet) 260 dX12_feet_260 (ls' := [some (mR 108), none, none, none, some (mI (12 + a2)), some (mI (l5 - 0)), some (mI l6), some (mI l7)]) (by decide) rfl ?_
      refine z_iload (M := M_X12_feet) 262 dX12_feet_262 rfl ?_
      refine z_sipush (M := M_X12_feet) 264 dX12_feet_264 ?_
      refine z_icmp_le (M := M_X12_feet) 267 dX12_feet_267 276 rfl (fun c3 => ?_) (fun c3 => ?_)
      · refine z_iload (M := M_X12_feet) 276 dX12_feet_276 rfl ?_
        exact z_retI (M := M_X12_feet) 278 dX12_feet_278 rfl ⟨G, R, by omega, by omega, ft_end i1 i2 (by omega) (Or.inr ⟨rfl, fun z => by have := z.1; omega⟩) (by unfold cap; exact if_neg (by omega))⟩
      · refine z_sipush (M := M_X12_feet) 270 dX12_feet_270 ?_
        refine z_goto (M := M_X12_feet) 273 dX12_feet_273 278 rfl ?_
        exact z_retI (M := M_X12_feet) 278 dX12_feet_278 rfl ⟨G, R, by omega, by omega, ft_end i1 i2 (by omega) (Or.inr ⟨rfl, fun z => by have := z.1; omega⟩) (by unfold cap; exact if_pos (by omega))⟩
    · refine z_aload_n (M := M_X12_feet) 244 dX12_feet_244 rfl ?_
      refine z_getR (M := M_X12_feet) 245 dX12_feet_245 f_X12_67 o_108 rfl (g_108_31 G) ?_
      refine z_iload (M := M_X12_feet) 248 dX12_feet_248 rfl ?_
      refine z_zaldG (M := M_X12_feet) 250 dX12_feet_250 o_126 (by omega) (by omega) (g_126 G (by omega)) (fun x4 ex4 ax4 bx4 => ?_)
      refine z_if_eq (M := M_X12_feet) 251 dX12_feet_251 258 rfl (fun c5 => ?_) (fun c5 => ?_)
      · refine z_iconst (M := M_X12_feet) 258 dX12_feet_258 ?_
        refine z_isubN (M := M_X12_feet) 259 dX12_feet_259 (by omega) (by omega) ?_
        refine z_istore (M := M_X12_feet) 260 dX12_feet_260 (ls' := [some (mR 108), none, none, none, some (mI (12 + a2)), some (mI (l5 - 0)), some (mI l6), some (mI l7)]) (by decide) rfl ?_
        refine z_iload (M := M_X12_feet) 262 dX12_feet_262 rfl ?_
        refine z_sipush (M := M_X12_feet) 264 dX12_feet_264 ?_
        refine z_icmp_le (M := M_X12_feet) 267 dX12_feet_267 276 rfl (fun c6 => ?_) (fun c6 => ?_)
        · refine z_iload (M := M_X12_feet) 276 dX12_feet_276 rfl ?_
          exact z_retI (M := M_X12_feet) 278 dX12_feet_278 rfl ⟨G, R, by omega, by omega, ft_end i1 i2 (by omega) (Or.inr ⟨rfl, fun z => by have y := ex4.symm.trans z.2; omega⟩) (by unfold cap; exact if_neg (by omega))⟩
        · refine z_sipush (M := M_X12_feet) 270 dX12_feet_270 ?_
          refine z_goto (M := M_X12_feet) 273 dX12_feet_273 278 rfl ?_
          exact z_retI (M := M_X12_feet) 278 dX12_feet_278 rfl ⟨G, R, by omega, by omega, ft_end i1 i2 (by omega) (Or.inr ⟨rfl, fun z => by have y := ex4.symm.trans z.2; omega⟩) (by unfold cap; exact if_pos (by omega))⟩
      · refine z_iconst (M := M_X12_feet) 254 dX12_feet_254 ?_
        refine z_goto (M := M_X12_feet) 255 dX12_feet_255 259 rfl ?_
        refine z_isubN (M := M_X12_feet) 259 dX12_feet_259 (by omega) (by omega) ?_
        refine z_istore (M := M_X12_feet) 260 dX12_feet_260 (ls' := [some (mR 108), none, none, none, some (mI (12 + a2)), some (mI (l5 - 1)), some (mI l6), some (mI l7)]) (by decide) rfl ?_
        refine z_iload (M := M_X12_feet) 262 dX12_feet_262 rfl ?_
        refine z_sipush (M := M_X12_feet) 264 dX12_feet_264 ?_
        refine z_icmp_le (M := M_X12_feet) 267 dX12_feet_267 276 rfl (fun c7 => ?_) (fun c7 => ?_)
        · refine z_iload (M := M_X12_feet) 276 dX12_feet_276 rfl ?_
          exact z_retI (M := M_X12_feet) 278 dX12_feet_278 rfl ⟨G, R, by omega, by omega, ft_end i1 i2 (by omega) (Or.inl ⟨rfl, by omega, ex4.trans (by omega)⟩) (by unfold cap; exact if_neg (by omega))⟩
        · refine z_sipush (M := M_X12_feet) 270 dX12_feet_270 ?_
          refine z_goto (M := M_X12_feet) 273 dX12_feet_273 278 rfl ?_
          exact z_retI (M := M_X12_feet) 278 dX12_feet_278 rfl ⟨G, R, by omega, by omega, ft_end i1 i2 (by omega) (Or.inl ⟨rfl, by omega, ex4.trans (by omega)⟩) (by unfold cap; exact if_pos (by omega))⟩
  · refine z_iload (M := M_X12_feet) 201 dX12_feet_201 rfl ?_
    refine z_if_eq (M := M_X12_feet) 203 dX12_feet_203 228 rfl (fun c8 => ?_) (fun c8 => ?_)
    · refine z_iconst (M := M_X12_feet) 228 dX12_feet_228 ?_
      refine z_istore (M := M_X12_feet) 229 dX12_feet_229 (ls' := [some (mR 108), none, none, none, some (mI (12 + a2)), some (mI l5), some (mI 0), some (mI l7)]) (by decide) rfl ?_
      refine z_iincN (M := M_X12_feet) 231 dX12_feet_231 (ls' := [some (mR 108), none, none, none, some (mI (12 + a2)), some (mI l5), some (mI 0), some (mI (l7 + 1))]) (by decide) rfl (by (unfold m_32; decide)) (by omega) (by omega) rfl ?_
      refine z_goto (M := M_X12_feet) 234 dX12_feet_234 194 rfl ?_
      exact z_mask [true, false, false, false, true, true, true, true] rfl (ih l5 0 (l7 + 1) h G R (by omega) (by omega) (by omega) (by omega) (by omega) (by omega) (by omega) (by omega) (by omega) (by omega) (by omega) (by omega) i1 (ftW_0 i2 (by omega) (by omega)) (by omega))
    · refine z_aload_n (M := M_X12_feet) 206 dX12_feet_206 rfl ?_
      refine z_getR (M := M_X12_feet) 207 dX12_feet_207 f_X12_94 o_108 rfl (g_108_40 G) ?_
      refine z_iload (M := M_X12_feet) 210 dX12_feet_210 rfl ?_
      refine z_laldV (M := M_X12_feet) 212 dX12_feet_212 o_135 (by omega) (by omega) (fun x9 ex9 => ?_)
      refine z_aload_n (M := M_X12_feet) 213 dX12_feet_213 rfl ?_
      refine z_getR (M := M_X12_feet) 214 dX12_feet_214 f_X12_97 o_108 rfl (g_108_41 G) ?_
      refine z_iload (M := M_X12_feet) 217 dX12_feet_217 rfl ?_
      refine z_laldV (M := M_X12_feet) 219 dX12_feet_219 o_136 (by omega) (by omega) (fun x10 ex10 => ?_)
      refine z_lcmp (M := M_X12_feet) 220 dX12_feet_220 ?_
      refine z_if_ne (M := M_X12_feet) 221 dX12_feet_221 228 rfl (fun c11 => ?_) (fun c11 => ?_)
      · rw [m_cmp_eq] at c11
        refine z_iconst (M := M_X12_feet) 228 dX12_feet_228 ?_
        refine z_istore (M := M_X12_feet) 229 dX12_feet_229 (ls' := [some (mR 108), none, none, none, some (mI (12 + a2)), some (mI l5), some (mI 0), some (mI l7)]) (by decide) rfl ?_
        refine z_iincN (M := M_X12_feet) 231 dX12_feet_231 (ls' := [some (mR 108), none, none, none, some (mI (12 + a2)), some (mI l5), some (mI 0), some (mI (l7 + 1))]) (by decide) rfl (by (unfold m_32; decide)) (by omega) (by omega) rfl ?_
        refine z_goto (M := M_X12_feet) 234 dX12_feet_234 194 rfl ?_
        exact z_mask [true, false, false, false, true, true, true, true] rfl (ih l5 0 (l7 + 1) h G R (by omega) (by omega) (by omega) (by omega) (by omega) (by omega) (by omega) (by omega) (by omega) (by omega) (by omega) (by omega) i1 (ftW_n (by omega) ex9 ex10 c11) (by omega))
      · rw [m_cmp_eq] at c11
        refine z_iconst (M := M_X12_feet) 224 dX12_feet_224 ?_
        refine z_goto (M := M_X12_feet) 225 dX12_feet_225 229 rfl ?_
        refine z_istore (M := M_X12_feet) 229 dX12_feet_229 (ls' := [some (mR 108), none, none, none, some (mI (12 + a2)), some (mI l5), some (mI 1), some (mI l7)]) (by decide) rfl ?_
        refine z_iincN (M := M_X12_feet) 231 dX12_feet_231 (ls' := [some (mR 108), none, none, none, some (mI (12 + a2)), some (mI l5), some (mI 1), some (mI (l7 + 1))]) (by decide) rfl (by (unfold m_32; decide)) (by omega) (by omega) rfl ?_
        refine z_goto (M := M_X12_feet) 234 dX12_feet_234 194 rfl ?_
        exact z_mask [true, false, false, false, true, true, true, true] rfl (ih l5 1 (l7 + 1) h G R (by omega) (by omega) (by omega) (by omega) (by omega) (by omega) (by omega) (by omega) (by omega) (by omega) (by omega) (by omega) i1 (ftW_y i2 (by omega) (by omega) ex9 ex10 (by omega)) (by omega))
theorem a_X12_feet3 (h0 : m_H) (a1 a2 a3 : Int) (G0 : GI h0) (hN : NP h0) : ∀ n, q_X12_feet3 h0 a1 a2 a3 n := by
  intro n
  induction n with
  | zero => unfold q_X12_feet3; intros; omega
  | succ n ih => exact s_X12_feet3_194 h0 a1 a2 a3 G0 hN n ih
set_option maxHeartbeats 4000000 in
set_option maxRecDepth 100000 in
theorem c_X12_feet3 (h0 : m_H) (a1 a2 a3 : Int) (G0 : GI h0) (hN : NP h0) : m_CI M_X12_feet [mR 108, mI a1, mI a2, mI a3] h0 (P_X12_feet3 h0 a1 a2 a3) := by
  refine m_CI_of ⟨by decide, rfl, by simp [m_arg, m_isL, M_X12_feet], ⟨rfl, rfl⟩, rfl, rfl⟩ (ls := [some (mR 108), some (mI a1), some (mI a2), some (mI a3), none, none, none, none]) rfl ?_
  have ih := a_X12_feet3 h0 a1 a2 a3 G0 hN 28
  refine z_ok (fun _ _ ok => ?_)
  have oa1 : m_32 a1 := ok 1 _ rfl
  unfold m_32 at oa1
  have oa2 : m_32 a2 := ok 2 _ rfl
  unfold m_32 at oa2
  have oa3 : m_32 a3 := ok 3 _ rfl
  unfold m_32 at oa3
  refine z_aload_n (M := M_X12_feet) 0 dX12_feet_0 rfl ?_
  refine z_iconst (M := M_X12_feet) 1 dX12_feet_1 ?_
  refine z_putIH (M := M_X12_feet) 2 dX12_feet_2 p_X12_133 o_108 rfl (u_108_0 G0) ((FR.rf (cs := [115, 116, 117, 118, 119, 120, 121, 122, 123, 124, 125, 126, 127, 128, 129, 130, 131, 132, 133, 134, 135, 136]) (ss := [(108, 0), (108, 21)]) (h := h0)).up rfl) (fun h1 E1 G1 R1 => ?_)
  refine z_iload_n (M := M_X12_feet) 5 dX12_feet_5 rfl ?_
  refine z_i2l (M := M_X12_feet) 6 dX12_feet_6 ?_
  refine z_lconst (M := M_X12_feet) 7 dX12_feet_7 (v := 0) ?_
  refine z_ldc2 (M := M_X12_feet) 8 dX12_feet_8 k_X12_385 ?_
  refine z_sI (M := M_X12_feet) 11 dX12_feet_11 t_X12_in l_X12_143 (m_rr_of rfl) (rest := []) (c_X12_in h1 a1 0 11 G1) rfl rfl (Nat.le_of_ble_eq_true rfl) ⟨rfl, rfl⟩ (fun x1 h2 qx1 => ?_)
  obtain ⟨rfl, ⟨rfl, cx1⟩ | ⟨rfl, cx1⟩⟩ := qx1
  · refine z_if_eq_F (M := M_X12_feet) 14 dX12_feet_14 46 rfl (by omega) ?_
    refine z_iload_n (M := M_X12_feet) 17 dX12_feet_17 rfl ?_
    refine z_sI (M := M_X12_feet) 18 dX12_feet_18 t_X12_isKeeper l_X12_169 (m_rr_of rfl) (rest := []) (c_X12_isKeeper h1 a2 G1) rfl rfl (Nat.le_of_ble_eq_true rfl) ⟨rfl, rfl⟩ (fun x2 h3 qx2 => ?_)
    obtain ⟨rfl, ⟨rfl, cx2⟩ | ⟨rfl, cx2⟩⟩ := qx2
    · refine z_if_eq_F (M := M_X12_feet) 21 dX12_feet_21 46 rfl (by omega) ?_
      refine z_iload_n (M := M_X12_feet) 24 dX12_feet_24 rfl ?_
      refine z_i2l (M := M_X12_feet) 25 dX12_feet_25 ?_
      refine z_lconst (M := M_X12_feet) 26 dX12_feet_26 (v := 0) ?_
      refine z_lconst (M := M_X12_feet) 27 dX12_feet_27 (v := 1) ?_
      refine z_sI (M := M_X12_feet) 28 dX12_feet_28 t_X12_in l_X12_143 (m_rr_of rfl) (rest := []) (c_X12_in h1 a3 0 1 G1) rfl rfl (Nat.le_of_ble_eq_true rfl) ⟨rfl, rfl⟩ (fun x3 h4 qx3 => ?_)
      obtain ⟨rfl, ⟨rfl, cx3⟩ | ⟨rfl, cx3⟩⟩ := qx3
      · refine z_if_eq_F (M := M_X12_feet) 31 dX12_feet_31 46 rfl (by omega) ?_
        refine z_aload_n (M := M_X12_feet) 34 dX12_feet_34 rfl ?_
        refine z_iload_n (M := M_X12_feet) 35 dX12_feet_35 rfl ?_
        refine z_bipush (M := M_X12_feet) 36 dX12_feet_36 ?_
        refine z_iload_n (M := M_X12_feet) 38 dX12_feet_38 rfl ?_
        refine z_iaddN (M := M_X12_feet) 39 dX12_feet_39 (by omega) (by omega) ?_
        refine z_vI (M := M_X12_feet) 40 dX12_feet_40 t_X12_isAnswered l_X12_394 (m_rr_of rfl) (rest := []) (c_X12_isAnswered2 h1 a1 (12 + a2) G1 (NP.call hN R1 (fun _ => rfl) (fun _ => rfl) (fun _ => rfl))) o_108 rfl rfl rfl (Nat.le_of_ble_eq_true rfl) ⟨rfl, rfl⟩ (fun x4 h5 qx4 => ?_)
        obtain ⟨G5, S5, ax4, bx4, fx4_0, fx4_1⟩ := qx4
        have R5 := R1.call S5 (by decide +kernel)
        have e1_ : h1 110 = h0 110 := FR.row R1 (fun _ => rfl)
        have e5_ : h5 110 = h0 110 := FR.row R5 (fun _ => rfl)
        rw [e1_] at fx4_1
        refine z_if_ne (M := M_X12_feet) 43 dX12_feet_43 49 rfl (fun c5 => ?_) (fun c5 => ?_)
        · have an := fx4_0 (by omega)
          have an1 := an.1
          have an2 := an.2.1
          refine z_aload_n (M := M_X12_feet) 49 dX12_feet_49 rfl ?_
          refine z_iload_n (M := M_X12_feet) 50 dX12_feet_50 rfl ?_
          refine z_if_ne (M := M_X12_feet) 51 dX12_feet_51 61 rfl (fun c6 => ?_) (fun c6 => ?_)
          · refine z_iload_n (M := M_X12_feet) 61 dX12_feet_61 rfl ?_
            refine z_vV (M := M_X12_feet) 62 dX12_feet_62 t_X12_goFrom l_X12_397 (m_rr_of rfl) (rest := []) (c_X12_goFrom2 h5 a1 G5 ⟨by omega, by omega⟩ (NP.call hN R5 (fun _ => rfl) (fun _ => rfl) (fun _ => rfl)) (gG_f (gG_b an.2.2 R1 (fun _ => rfl)) R5 (fun _ => rfl))) o_108 rfl rfl rfl (Nat.le_of_ble_eq_true rfl) ⟨rfl, rfl⟩ (fun h6 qx7 => ?_)
            obtain ⟨G6, S6, fx7_0, fx7_1⟩ := qx7
            rw [e5_] at fx7_1
            have b_ := fx7_1 (12 + a2).toNat (by omega)
            have g_ := fx7_0 (12 + a2).toNat (by omega)
            have k_ := fx4_1.mp (by omega)
            have R6 := R5.call S6 (by decide +kernel)
            refine z_iload_n (M := M_X12_feet) 65 dX12_feet_65 rfl ?_
            refine z_if_ne_T (M := M_X12_feet) 66 dX12_feet_66 73 rfl (by omega) ?_
            refine z_bipush (M := M_X12_feet) 73 dX12_feet_73 ?_
            refine z_iload_n (M := M_X12_feet) 75 dX12_feet_75 rfl ?_
            refine z_iaddN (M := M_X12_feet) 76 dX12_feet_76 (by omega) (by omega) ?_
            refine z_istore (M := M_X12_feet) 77 dX12_feet_77 (ls' := [some (mR 108), some (mI a1), some (mI a2), some (mI a3), some (mI (12 + a2)), none, none, none]) (by decide) rfl ?_
            refine z_aload_n (M := M_X12_feet) 79 dX12_feet_79 rfl ?_
            refine z_getR (M := M_X12_feet) 80 dX12_feet_80 f_X12_70 o_108 rfl (g_108_32 G6) ?_
            refine z_iload (M := M_X12_feet) 83 dX12_feet_83 rfl ?_
            refine z_zaldG (M := M_X12_feet) 85 dX12_feet_85 o_127 (by omega) (by omega) (g_127 G6 (by omega)) (fun x8 ex8 ax8 bx8 => ?_)
            refine z_if_ne (M := M_X12_feet) 86 dX12_feet_86 99 rfl (fun c9 => ?_) (fun c9 => ?_)
            · refine z_iload_n (M := M_X12_feet) 99 dX12_feet_99 rfl ?_
              refine z_if_ne_T (M := M_X12_feet) 100 dX12_feet_100 128 rfl (by omega) ?_
              refine z_aload_n (M := M_X12_feet) 128 dX12_feet_128 rfl ?_
              refine z_aload_n (M := M_X12_feet) 129 dX12_feet_129 rfl ?_
              refine z_getR (M := M_X12_feet) 130 dX12_feet_130 f_X12_64 o_108 rfl (g_108_30 G6) ?_
              refine z_iconst (M := M_X12_feet) 133 dX12_feet_133 ?_
              refine z_iload (M := M_X12_feet) 134 dX12_feet_134 rfl ?_
              refine z_imulN (M := M_X12_feet) 136 dX12_feet_136 (by omega) (by omega) ?_
              refine z_aload_n (M := M_X12_feet) 137 dX12_feet_137 rfl ?_
              refine z_getR (M := M_X12_feet) 138 dX12_feet_138 f_X12_61 o_108 rfl (g_108_29 G6) ?_
              refine z_iconst (M := M_X12_feet) 141 dX12_feet_141 ?_
              refine z_iload (M := M_X12_feet) 142 dX12_feet_142 rfl ?_
              refine z_imulN (M := M_X12_feet) 144 dX12_feet_144 (by omega) (by omega) ?_
              refine z_iconst (M := M_X12_feet) 145 dX12_feet_145 ?_
              refine z_sipush (M := M_X12_feet) 146 dX12_feet_146 ?_
              refine z_vI (M := M_X12_feet) 149 dX12_feet_149 t_X12_share l_X12_402 (m_rr_of rfl) (rest := []) (c_X12_share2 h6 125 124 (5 * (12 + a2)) (5 * (12 + a2)) 1 2001 (Or.inr rfl) (Or.inl rfl) G6 ⟨by omega, by omega⟩ ⟨by omega, by omega⟩ ⟨by omega, by omega⟩ ⟨by omega, by omega⟩) o_108 rfl rfl rfl (Nat.le_of_ble_eq_true rfl) ⟨rfl, rfl⟩ (fun x10 h7 qx10 => ?_)
              obtain ⟨G7, S7, ax10, bx10, fx10⟩ := qx10
              have R7 := R6.call S7 (by decide +kernel)
              refine z_istore (M := M_X12_feet) 152 dX12_feet_152 (ls' := [some (mR 108), some (mI a1), some (mI a2), some (mI a3), some (mI (12 + a2)), some (mI x10), none, none]) (by decide) rfl ?_
              refine z_aload_n (M := M_X12_feet) 154 dX12_feet_154 rfl ?_
              refine z_getR (M := M_X12_feet) 155 dX12_feet_155 f_X12_94 o_108 rfl (g_108_40 G7) ?_
              refine z_aload_n (M := M_X12_feet) 158 dX12_feet_158 rfl ?_
              refine z_getR (M := M_X12_feet) 159 dX12_feet_159 f_X12_64 o_108 rfl (g_108_30 G7) ?_
              refine z_iconst (M := M_X12_feet) 162 dX12_feet_162 ?_
              refine z_iload (M := M_X12_feet) 163 dX12_feet_163 rfl ?_
              refine z_imulN (M := M_X12_feet) 165 dX12_feet_165 (by omega) (by omega) ?_
              refine z_lconst (M := M_X12_feet) 166 dX12_feet_166 (v := 1) ?_
              refine z_sV (M := M_X12_feet) 167 dX12_feet_167 t_X12_wide l_X12_387 (m_rr_of rfl) (rest := []) (c_X12_wide80x h7 135 125 (5 * (12 + a2)) 1 (Or.inl rfl) (Or.inr rfl) G7 ⟨by omega, by omega⟩ ⟨by omega, by omega⟩) rfl rfl (Nat.le_of_ble_eq_true rfl) ⟨rfl, rfl⟩ (fun h8 qx11 => ?_)
              obtain ⟨G8, S8, fx11_0, fx11_1⟩ := qx11
              have R8 := R7.call S8 (by decide +kernel)
              refine z_aload_n (M := M_X12_feet) 170 dX12_feet_170 rfl ?_
              refine z_getR (M := M_X12_feet) 171 dX12_feet_171 f_X12_97 o_108 rfl (g_108_41 G8) ?_
              refine z_aload_n (M := M_X12_feet) 174 dX12_feet_174 rfl ?_
              refine z_getR (M := M_X12_feet) 175 dX12_feet_175 f_X12_61 o_108 rfl (g_108_29 G8) ?_
              refine z_iconst (M := M_X12_feet) 178 dX12_feet_178 ?_
              refine z_iload (M := M_X12_feet) 179 dX12_feet_179 rfl ?_
              refine z_imulN (M := M_X12_feet) 181 dX12_feet_181 (by omega) (by omega) ?_
              refine z_iload (M := M_X12_feet) 182 dX12_feet_182 rfl ?_
              refine z_i2l (M := M_X12_feet) 184 dX12_feet_184 ?_
              refine z_sV (M := M_X12_feet) 185 dX12_feet_185 t_X12_wide l_X12_387 (m_rr_of rfl) (rest := []) (c_X12_wide80x h8 136 124 (5 * (12 + a2)) x10 (Or.inr rfl) (Or.inl rfl) G8 ⟨by omega, by omega⟩ ⟨by omega, by omega⟩) rfl rfl (Nat.le_of_ble_eq_true rfl) ⟨rfl, rfl⟩ (fun h9 qx12 => ?_)
              obtain ⟨G9, S9, fx12_0, fx12_1⟩ := qx12
              have R9 := R8.call S9 (by decide +kernel)
              refine z_iconst (M := M_X12_feet) 188 dX12_feet_188 ?_
              refine z_istore (M := M_X12_feet) 189 dX12_feet_189 (ls' := [some (mR 108), some (mI a1), some (mI a2), some (mI a3), some (mI (12 + a2)), some (mI x10), some (mI 1), none]) (by decide) rfl ?_
              refine z_iconst (M := M_X12_feet) 191 dX12_feet_191 ?_
              refine z_istore (M := M_X12_feet) 192 dX12_feet_192 (ls' := [some (mR 108), some (mI a1), some (mI a2), some (mI a3), some (mI (12 + a2)), some (mI x10), some (mI 1), some (mI 0)]) (by decide) rfl ?_
              exact z_mask [true, false, false, false, true, true, true, true] rfl (ih x10 1 0 h9 G9 R9 (by omega) (by omega) (by omega) (by omega) (by omega) (by omega) (by omega) (by omega) (by omega) (by omega) (by omega) (by omega) (ft_in (by omega) ⟨cx1, ⟨by omega, by omega⟩, k_.1, k_.2.2⟩ g_ b_ (by omega) fx10 S7 S8 S9 fx11_0 fx11_1 fx12_0 fx12_1) ⟨fun _ j hj => absurd hj (Nat.not_lt_zero _), fun _ => rfl⟩ (by omega))
            · refine z_iload_n (M := M_X12_feet) 89 dX12_feet_89 rfl ?_
              refine z_if_ne_T (M := M_X12_feet) 90 dX12_feet_90 97 rfl (by omega) ?_
              refine z_iconst (M := M_X12_feet) 97 dX12_feet_97 ?_
              exact z_retI (M := M_X12_feet) 98 dX12_feet_98 rfl ⟨G6, R6, by omega, by omega, Or.inr ⟨⟨⟨by omega, by omega⟩, ⟨cx1, ⟨by omega, by omega⟩, k_.1, k_.2.2⟩⟩, Or.inr ⟨by omega, (1, 0, 1), ⟨by have z := b_; rw [bOf_n ex8 (by omega)] at z; exact z, fun _ => rfl⟩, by decide⟩⟩⟩
          · refine z_bipush (M := M_X12_feet) 54 dX12_feet_54 ?_
            refine z_iload_n (M := M_X12_feet) 56 dX12_feet_56 rfl ?_
            refine z_iaddN (M := M_X12_feet) 57 dX12_feet_57 (by omega) (by omega) ?_
            refine z_goto (M := M_X12_feet) 58 dX12_feet_58 62 rfl ?_
            refine z_vV (M := M_X12_feet) 62 dX12_feet_62 t_X12_goFrom l_X12_397 (m_rr_of rfl) (rest := []) (c_X12_goFrom2 h5 (12 + a2) G5 ⟨by omega, by omega⟩ (NP.call hN R5 (fun _ => rfl) (fun _ => rfl) (fun _ => rfl)) (gG_f (gG_b an.2.2 R1 (fun _ => rfl)) R5 (fun _ => rfl))) o_108 rfl rfl rfl (Nat.le_of_ble_eq_true rfl) ⟨rfl, rfl⟩ (fun h10 qx13 => ?_)
            obtain ⟨G10, S10, fx13_0, fx13_1⟩ := qx13
            rw [e5_] at fx13_1
            have b_ := fx13_1 a1.toNat (by omega)
            have g_ := fx13_0 a1.toNat (by omega)
            have k_ := fx4_1.mp (by omega)
            have R10 := R5.call S10 (by decide +kernel)
            refine z_iload_n (M := M_X12_feet) 65 dX12_feet_65 rfl ?_
            refine z_if_ne_F (M := M_X12_feet) 66 dX12_feet_66 73 rfl (by omega) ?_
            refine z_iload_n (M := M_X12_feet) 69 dX12_feet_69 rfl ?_
            refine z_goto (M := M_X12_feet) 70 dX12_feet_70 77 rfl ?_
            refine z_istore (M := M_X12_feet) 77 dX12_feet_77 (ls' := [some (mR 108), some (mI a1), some (mI a2), some (mI a3), some (mI a1), none, none, none]) (by decide) rfl ?_
            refine z_aload_n (M := M_X12_feet) 79 dX12_feet_79 rfl ?_
            refine z_getR (M := M_X12_feet) 80 dX12_feet_80 f_X12_70 o_108 rfl (g_108_32 G10) ?_
            refine z_iload (M := M_X12_feet) 83 dX12_feet_83 rfl ?_
            refine z_zaldG (M := M_X12_feet) 85 dX12_feet_85 o_127 (by omega) (by omega) (g_127 G10 (by omega)) (fun x14 ex14 ax14 bx14 => ?_)
            refine z_if_ne (M := M_X12_feet) 86 dX12_feet_86 99 rfl (fun c15 => ?_) (fun c15 => ?_)
            · refine z_iload_n (M := M_X12_feet) 99 dX12_feet_99 rfl ?_
              refine z_if_ne_F (M := M_X12_feet) 100 dX12_feet_100 128 rfl (by omega) ?_
              refine z_aload_n (M := M_X12_feet) 103 dX12_feet_103 rfl ?_
              refine z_aload_n (M := M_X12_feet) 104 dX12_feet_104 rfl ?_
              refine z_getR (M := M_X12_feet) 105 dX12_feet_105 f_X12_61 o_108 rfl (g_108_29 G10) ?_
              refine z_iconst (M := M_X12_feet) 108 dX12_feet_108 ?_
              refine z_iload (M := M_X12_feet) 109 dX12_feet_109 rfl ?_
              refine z_imulN (M := M_X12_feet) 111 dX12_feet_111 (by omega) (by omega) ?_
              refine z_aload_n (M := M_X12_feet) 112 dX12_feet_112 rfl ?_
              refine z_getR (M := M_X12_feet) 113 dX12_feet_113 f_X12_64 o_108 rfl (g_108_30 G10) ?_
              refine z_iconst (M := M_X12_feet) 116 dX12_feet_116 ?_
              refine z_iload (M := M_X12_feet) 117 dX12_feet_117 rfl ?_
              refine z_imulN (M := M_X12_feet) 119 dX12_feet_119 (by omega) (by omega) ?_
              refine z_iconst (M := M_X12_feet) 120 dX12_feet_120 ?_
              refine z_sipush (M := M_X12_feet) 121 dX12_feet_121 ?_
              refine z_vI (M := M_X12_feet) 124 dX12_feet_124 t_X12_share l_X12_402 (m_rr_of rfl) (rest := []) (c_X12_share3 h10 124 125 (5 * a1) (5 * a1) 1 2000 (Or.inl rfl) (Or.inr rfl) G10 ⟨by omega, by omega⟩ ⟨by omega, by omega⟩ ⟨by omega, by omega⟩ ⟨by omega, by omega⟩) o_108 rfl rfl rfl (Nat.le_of_ble_eq_true rfl) ⟨rfl, rfl⟩ (fun x16 h11 qx16 => ?_)
              obtain ⟨G11, S11, ax16, bx16, fx16, cx16⟩ := qx16
              have R11 := R10.call S11 (by decide +kernel)
              exact z_retI (M := M_X12_feet) 127 dX12_feet_127 rfl ⟨G11, R11, by omega, by omega, Or.inr ⟨⟨⟨by omega, by omega⟩, ⟨cx1, ⟨by omega, by omega⟩, k_.1, k_.2.2⟩⟩, Or.inl ⟨by omega, (vS (h10 125) (5 * a1.toNat) 5, vS (h10 124) (5 * a1.toNat) 5, h10 126 a1.toNat), ⟨by have z := b_; rw [bOf_y ex14 (by omega)] at z; exact z, fun z => absurd (show vS (h10 124) (5 * a1.toNat) 5 = 0 from z) (by have y : 1 ≤ vS (h10 124) (5 * a1.toNat) 5 := (g_.2.2 (ex14.trans (by omega))).1.1; omega)⟩, ft_l (by have y : 1 ≤ vS (h10 125) (5 * a1.toNat) 5 := (g_.2.2 (ex14.trans (by omega))).2.1; show 0 < vS (h10 125) (5 * a1.toNat) 5; omega) (by have z := fx16; rw [at5 (by omega)] at z; exact z) cx16⟩⟩⟩
            · refine z_iload_n (M := M_X12_feet) 89 dX12_feet_89 rfl ?_
              refine z_if_ne_F (M := M_X12_feet) 90 dX12_feet_90 97 rfl (by omega) ?_
              refine z_iconst (M := M_X12_feet) 93 dX12_feet_93 ?_
              refine z_goto (M := M_X12_feet) 94 dX12_feet_94 98 rfl ?_
              exact z_retI (M := M_X12_feet) 98 dX12_feet_98 rfl ⟨G10, R10, by omega, by omega, Or.inr ⟨⟨⟨by omega, by omega⟩, ⟨cx1, ⟨by omega, by omega⟩, k_.1, k_.2.2⟩⟩, Or.inl ⟨by omega, (1, 0, 1), ⟨by have z := b_; rw [bOf_n ex14 (by omega)] at z; exact z, fun _ => rfl⟩, by decide⟩⟩⟩
        · refine z_bipush (M := M_X12_feet) 46 dX12_feet_46 ?_
          exact z_retI (M := M_X12_feet) 48 dX12_feet_48 rfl ⟨G5, R5, by omega, by omega, Or.inl ⟨fun z => absurd (fx4_1.mpr ⟨z.2.2.2.1, ⟨by omega, by omega, Or.inr (Or.inl (by omega))⟩, z.2.2.2.2⟩) (by omega), rfl⟩⟩
      · refine z_if_eq_T (M := M_X12_feet) 31 dX12_feet_31 46 rfl (by omega) ?_
        refine z_bipush (M := M_X12_feet) 46 dX12_feet_46 ?_
        exact z_retI (M := M_X12_feet) 48 dX12_feet_48 rfl ⟨G1, R1, by omega, by omega, Or.inl ⟨fun z => cx3 z.1, rfl⟩⟩
    · refine z_if_eq_T (M := M_X12_feet) 21 dX12_feet_21 46 rfl (by omega) ?_
      refine z_bipush (M := M_X12_feet) 46 dX12_feet_46 ?_
      exact z_retI (M := M_X12_feet) 48 dX12_feet_48 rfl ⟨G1, R1, by omega, by omega, Or.inl ⟨fun z => cx2 z.2.2.1, rfl⟩⟩
  · refine z_if_eq_T (M := M_X12_feet) 14 dX12_feet_14 46 rfl (by omega) ?_
    refine z_bipush (M := M_X12_feet) 46 dX12_feet_46 ?_
    exact z_retI (M := M_X12_feet) 48 dX12_feet_48 rfl ⟨G1, R1, by omega, by omega, Or.inl ⟨fun z => cx1 z.2.1, rfl⟩⟩
theorem LX.feet {h h1 : m_H} {a b w x y : Int} {cs : List Nat} {ss : List (Nat × Nat)} (G : GI h) (N : NP h) (S1 : FR cs ss h h1) (A : ftQ (h 110) a b w x) (B : ftQ (h1 110) a b w y) (o : out 110 110 cs ss = true) : x = y := by
  rw [rowz S1 (fr_out o (by decide) (by decide))] at B
  exact ft_eq (bR_ok G N) A B
/-! ends and what they tell -/
def eLo (h : m_H) : Int × Int × Int := if h 108 44 = 1 then (vS (h 138) 5 5, vS (h 138) 0 5, if h 108 46 = 1 then 0 else 1) else (1, 0, 1)
def eHi (h : m_H) : Int × Int × Int := if h 108 45 = 1 then (vS (h 138) 10 5, vS (h 138) 15 5, if h 108 47 = 1 then 0 else 1) else (1, 0, 1)
def eOk (h : m_H) : Prop := (h 108 46 = 1 → h 108 44 = 1) ∧ (h 108 47 = 1 → h 108 45 = 1)
def ofK (k : Int) : Int := if k = 2 then 2 else 1
def loK (n k : Int) : Int := if k = 2 then 2 * n - 1 else n
def hiK (n k : Int) : Int := if k = 0 then n else if k = 1 then n + 1 else 2 * n + 1
def tlU (B : Int × Int × Int) (n k : Int) : Prop := B.2.1 * ofK k < B.1 * hiK n k ∨ (B.2.1 * ofK k = B.1 * hiK n k ∧ k = 0 ∧ B.2.2 ≠ 1)
def tlO (C : Int × Int × Int) (n k : Int) : Prop := C.2.1 * loK n k < C.1 * ofK k ∨ (C.1 * ofK k = C.2.1 * loK n k ∧ C.2.2 ≠ 1)
def tlI (B C : Int × Int × Int) (n k : Int) : Prop := B.1 * loK n k ≤ B.2.1 * ofK k ∧ (C.1 * ofK k < C.2.1 * hiK n k ∨ (C.1 * ofK k = C.2.1 * hiK n k ∧ (k = 0 ∨ C.2.2 = 1)))
def tlF (B C : Int × Int × Int) (n k x : Int) : Prop := (¬ (tlU B n k ∧ tlO C n k) ∧ x = 0) ∨ ((tlU B n k ∧ tlO C n k) ∧ ((tlI B C n k ∧ x = 1) ∨ (¬ tlI B C n k ∧ x = 2)))
theorem eLo_y {h : m_H} (e : h 108 44 = 1) : eLo h = (vS (h 138) 5 5, vS (h 138) 0 5, if h 108 46 = 1 then 0 else 1) := if_pos e
theorem eLo_n {h : m_H} (e : h 108 44 ≠ 1) : eLo h = (1, 0, 1) := if_neg e
theorem eHi_y {h : m_H} (e : h 108 45 = 1) : eHi h = (vS (h 138) 10 5, vS (h 138) 15 5, if h 108 47 = 1 then 0 else 1) := if_pos e
theorem eHi_n {h : m_H} (e : h 108 45 ≠ 1) : eHi h = (1, 0, 1) := if_neg e
theorem eLo_c {h0 h : m_H} {x : Int} (R : FR [135, 136] [] h0 h) (ex : h 108 46 = x) (c : x ≠ 1) : (eLo h0).2.2 = 1 := by
  have e : h0 108 46 ≠ 1 := by rw [← (R 108 46 rfl : h 108 46 = h0 108 46), ex]; exact c
  by_cases g : h0 108 44 = 1
  · rw [eLo_y g]; exact if_neg e
  · rw [eLo_n g]
theorem eHi_c {h0 h : m_H} {x : Int} (R : FR [135, 136] [] h0 h) (ex : h 108 47 = x) (c : x ≠ 1) : (eHi h0).2.2 = 1 := by
  have e : h0 108 47 ≠ 1 := by rw [← (R 108 47 rfl : h 108 47 = h0 108 47), ex]; exact c
  by_cases g : h0 108 45 = 1
  · rw [eHi_y g]; exact if_neg e
  · rw [eHi_n g]
theorem eLo_o {h0 h : m_H} {x : Int} (R : FR [135, 136] [] h0 h) (hE : eOk h0) (ex : h 108 46 = x) (c : x = 1) : (eLo h0).2.2 ≠ 1 := by
  have e : h0 108 46 = 1 := ((R 108 46 rfl).symm.trans ex).trans c
  rw [eLo_y (hE.1 e)]
  show (if h0 108 46 = 1 then (0 : Int) else 1) ≠ 1
  rw [if_pos e]; decide
theorem eHi_o {h0 h : m_H} {x : Int} (R : FR [135, 136] [] h0 h) (hE : eOk h0) (ex : h 108 47 = x) (c : x = 1) : (eHi h0).2.2 ≠ 1 := by
  have e : h0 108 47 = 1 := ((R 108 47 rfl).symm.trans ex).trans c
  rw [eHi_y (hE.2 e)]
  show (if h0 108 47 = 1 then (0 : Int) else 1) ≠ 1
  rw [if_pos e]; decide
theorem tl_ln {h0 h : m_H} {x c m : Int} (R : FR [135, 136] [] h0 h) (ex : h 108 44 = x) (cx : x ≠ 1) (hm : 1 ≤ m) : cmpQ (-1) ((eLo h0).2.1 * c) ((eLo h0).1 * m) := by
  rw [eLo_n (by rw [← (R 108 44 rfl : h 108 44 = h0 108 44), ex]; exact cx)]
  exact Or.inl ⟨rfl, by show (0 : Int) * c < 1 * m; rw [Int.zero_mul, Int.one_mul]; omega⟩
theorem tl_hn {h0 h : m_H} {x c m : Int} (R : FR [135, 136] [] h0 h) (ex : h 108 45 = x) (cx : x ≠ 1) (hc : 1 ≤ c) : cmpQ 1 ((eHi h0).1 * c) ((eHi h0).2.1 * m) := by
  rw [eHi_n (by rw [← (R 108 45 rfl : h 108 45 = h0 108 45), ex]; exact cx)]
  exact Or.inr (Or.inr ⟨rfl, by show (0 : Int) * m < 1 * c; rw [Int.zero_mul, Int.one_mul]; omega⟩)
theorem tl_ly {h0 h g : m_H} {x y c m c' m' : Int} (R : FR [135, 136] [] h0 h) (ex : h 108 44 = x) (cx : x = 1) (Rg : FR [135, 136] [] h0 g) (e1 : c = c') (e2 : m = m') (q : cmpQ y (vS (g 138) (0 : Int).toNat 5 * c) (vS (g 138) (0 + 5 : Int).toNat 5 * m)) : cmpQ y ((eLo h0).2.1 * c') ((eLo h0).1 * m') := by
  rw [eLo_y (((R 108 44 rfl).symm.trans ex).trans cx), ← e1, ← e2]
  rw [(FR.row Rg (fun _ => rfl) : g 138 = h0 138)] at q
  exact q
theorem tl_hy {h0 h g : m_H} {x y c m c' m' : Int} (R : FR [135, 136] [] h0 h) (ex : h 108 45 = x) (cx : x = 1) (Rg : FR [135, 136] [] h0 g) (e1 : c = c') (e2 : m = m') (q : cmpQ y (vS (g 138) (10 : Int).toNat 5 * c) (vS (g 138) (10 + 5 : Int).toNat 5 * m)) : cmpQ y ((eHi h0).1 * c') ((eHi h0).2.1 * m') := by
  rw [eHi_y (((R 108 45 rfl).symm.trans ex).trans cx), ← e1, ← e2]
  rw [(FR.row Rg (fun _ => rfl) : g 138 = h0 138)] at q
  exact q
theorem tu_1 {B : Int × Int × Int} {n k l : Int} (q : cmpQ l (B.2.1 * ofK k) (B.1 * hiK n k)) (c : l < 0) : tlU B n k := by
  unfold cmpQ at q
  exact Or.inl (by omega)
theorem tu_2 {B : Int × Int × Int} {n k l : Int} (q : cmpQ l (B.2.1 * ofK k) (B.1 * hiK n k)) (c : l = 0) (hk : k = 0) (o : B.2.2 ≠ 1) : tlU B n k := by
  unfold cmpQ at q
  exact Or.inr ⟨by omega, hk, o⟩
theorem tu_n {B : Int × Int × Int} {n k l : Int} (q : cmpQ l (B.2.1 * ofK k) (B.1 * hiK n k)) (c : 0 < l ∨ (l = 0 ∧ (k ≠ 0 ∨ B.2.2 = 1))) : ¬ tlU B n k := by
  unfold cmpQ at q
  rintro (z | ⟨z1, z2, z3⟩)
  · omega
  · rcases c with c | ⟨c1, c2 | c2⟩
    · omega
    · exact c2 z2
    · exact z3 c2
theorem to_1 {C : Int × Int × Int} {n k l : Int} (q : cmpQ l (C.1 * ofK k) (C.2.1 * loK n k)) (c : 0 < l) : tlO C n k := by
  unfold cmpQ at q
  exact Or.inl (by omega)
theorem to_2 {C : Int × Int × Int} {n k l : Int} (q : cmpQ l (C.1 * ofK k) (C.2.1 * loK n k)) (c : l = 0) (o : C.2.2 ≠ 1) : tlO C n k := by
  unfold cmpQ at q
  exact Or.inr ⟨by omega, o⟩
theorem to_n {C : Int × Int × Int} {n k l : Int} (q : cmpQ l (C.1 * ofK k) (C.2.1 * loK n k)) (c : l < 0 ∨ (l = 0 ∧ C.2.2 = 1)) : ¬ tlO C n k := by
  unfold cmpQ at q
  rintro (z | ⟨z1, z2⟩)
  · omega
  · rcases c with c | ⟨c1, c2⟩
    · omega
    · exact z2 c2
theorem ti_y {B C : Int × Int × Int} {n k l m : Int} (q : cmpQ l (B.2.1 * ofK k) (B.1 * loK n k)) (c : 0 ≤ l) (p : cmpQ m (C.1 * ofK k) (C.2.1 * hiK n k)) (d : m < 0 ∨ (m = 0 ∧ (k = 0 ∨ C.2.2 = 1))) : tlI B C n k := by
  unfold cmpQ at q p
  refine ⟨by omega, ?_⟩
  rcases d with d | ⟨d1, d2⟩
  · exact Or.inl (by omega)
  · exact Or.inr ⟨by omega, d2⟩
theorem ti_n1 {B C : Int × Int × Int} {n k l : Int} (q : cmpQ l (B.2.1 * ofK k) (B.1 * loK n k)) (c : l < 0) : ¬ tlI B C n k := by
  unfold cmpQ at q
  rintro ⟨z, _⟩
  omega
theorem ti_n2 {B C : Int × Int × Int} {n k m : Int} (p : cmpQ m (C.1 * ofK k) (C.2.1 * hiK n k)) (d : 0 < m ∨ (m = 0 ∧ k ≠ 0 ∧ C.2.2 ≠ 1)) : ¬ tlI B C n k := by
  unfold cmpQ at p
  rintro ⟨_, z | ⟨z1, z2⟩⟩
  · omega
  · rcases d with d | ⟨d1, d2, d3⟩
    · omega
    · exact z2.elim d2 d3
abbrev P_X12_beside4 (h0 : m_H) (a1 a2 a3 : Int) : Int → m_H → Prop := fun x h' => GI h' ∧ FR [135, 136] [] h0 h' ∧ (-1) ≤ x ∧ x ≤ 1 ∧ cmpQ x (vS (h0 138) a1.toNat 5 * a3) (vS (h0 138) (a1 + 5).toNat 5 * a2)
def q_X12_beside4 (h0 : m_H) (a1 a2 a3 : Int) (n : Nat) : Prop := (∀ (l4 : Int) (h : m_H), GI h → FR [135, 136] [] h0 h → (-1) ≤ l4 → l4 ≤ 9 → (-2147483648) ≤ a2 → a2 ≤ 2147483647 → (-2147483648) ≤ a3 → a3 ≤ 2147483647 → (cpI (h 135) (h 136) (vS (h0 138) a1.toNat 5 * a3) (vS (h0 138) (a1 + 5).toNat 5 * a2) l4) → 2 * (l4 - (-1)) + (1) ≤ (n : Int) → m_Z oF M_X12_beside 34 [some (mR 108), none, none, none, some (mI l4)] [] h (m_QI (P_X12_beside4 h0 a1 a2 a3)))
set_option maxHeartbeats 4000000 in
set_option maxRecDepth 100000 in
theorem s_X12_beside4_34 (h0 : m_H) (a1 a2 a3 : Int) (G0 : GI h0) (pa1 : 0 ≤ a1 ∧ a1 ≤ 10) (hb2 : 0 ≤ a2 ∧ a2 ≤ 2000000000) (hb3 : 0 ≤ a3 ∧ a3 ≤ 2000000000) (n : Nat) (ih : q_X12_beside4 h0 a1 a2 a3 n) : ∀ (l4 : Int) (h : m_H), GI h → FR [135, 136] [] h0 h → (-1) ≤ l4 → l4 ≤ 9 → (-2147483648) ≤ a2 → a2 ≤ 2147483647 → (-2147483648) ≤ a3 → a3 ≤ 2147483647 → (cpI (h 135) (h 136) (vS (h0 138) a1.toNat 5 * a3) (vS (h0 138) (a1 + 5).toNat 5 * a2) l4) → 2 * (l4 - (-1)) + (1) ≤ ((n + 1 : Nat) : Int) → m_Z oF M_X12_beside 34 [some (mR 108), none, none, none, some (mI l4)] [] h (m_QI (P_X12_beside4 h0 a1 a2 a3)) := by
  intro l4 h G R v0 v1 v2 v3 v4 v5 i0 hr
  refine z_iload (M := M_X12_beside) 34 dX12_beside_34 rfl ?_
  refine z_if_lt (M := M_X12_beside) 36 dX12_beside_36 87 rfl (fun c1 => ?_) (fun c1 => ?_)
  · refine z_iconst (M := M_X12_beside) 87 dX12_beside_87 ?_
    exact z_retI (M := M_X12_beside) 88 dX12_beside_88 rfl ⟨G, R, by omega, by omega, cpI_eq i0 (by omega)⟩
  · refine z_aload_n (M := M_X12_beside) 39 dX12_beside_39 rfl ?_
    refine z_getR (M := M_X12_beside) 40 dX12_beside_40 f_X12_94 o_108 rfl (g_108_40 G) ?_
    refine z_iload (M := M_X12_beside) 43 dX12_beside_43 rfl ?_
    refine z_laldV (M := M_X12_beside) 45 dX12_beside_45 o_135 (by omega) (by omega) (fun x2 ex2 => ?_)
    refine z_aload_n (M := M_X12_beside) 46 dX12_beside_46 rfl ?_
    refine z_getR (M := M_X12_beside) 47 dX12_beside_47 f_X12_97 o_108 rfl (g_108_41 G) ?_
    refine z_iload (M := M_X12_beside) 50 dX12_beside_50 rfl ?_
    refine z_laldV (M := M_X12_beside) 52 dX12_beside_52 o_136 (by omega) (by omega) (fun x3 ex3 => ?_)
    refine z_lcmp (M := M_X12_beside) 53 dX12_beside_53 ?_
    refine z_if_eq (M := M_X12_beside) 54 dX12_beside_54 81 rfl (fun c4 => ?_) (fun c4 => ?_)
    · rw [m_cmp_eq] at c4
      refine z_iincN (M := M_X12_beside) 81 dX12_beside_81 (ls' := [some (mR 108), none, none, none, some (mI (l4 + (-1)))]) (by decide) rfl (by (unfold m_32; decide)) (by omega) (by omega) rfl ?_
      refine z_goto (M := M_X12_beside) 84 dX12_beside_84 34 rfl ?_
      exact z_mask [true, false, false, false, true] rfl (ih (l4 + (-1)) h G R (by omega) (by omega) (by omega) (by omega) (by omega) (by omega) (cpI_step i0 (by omega) ex2 ex3 (by omega)) (by omega))
    · rw [m_cmp_eq] at c4
      refine z_aload_n (M := M_X12_beside) 57 dX12_beside_57 rfl ?_
      refine z_getR (M := M_X12_beside) 58 dX12_beside_58 f_X12_94 o_108 rfl (g_108_40 G) ?_
      refine z_iload (M := M_X12_beside) 61 dX12_beside_61 rfl ?_
      refine z_laldE (M := M_X12_beside) 63 dX12_beside_63 o_135 (by omega) (by omega) ex2 ?_
      refine z_aload_n (M := M_X12_beside) 64 dX12_beside_64 rfl ?_
      refine z_getR (M := M_X12_beside) 65 dX12_beside_65 f_X12_97 o_108 rfl (g_108_41 G) ?_
      refine z_iload (M := M_X12_beside) 68 dX12_beside_68 rfl ?_
      refine z_laldE (M := M_X12_beside) 70 dX12_beside_70 o_136 (by omega) (by omega) ex3 ?_
      refine z_lcmp (M := M_X12_beside) 71 dX12_beside_71 ?_
      refine z_if_ge (M := M_X12_beside) 72 dX12_beside_72 79 rfl (fun c5 => ?_) (fun c5 => ?_)
      · rw [m_cmp_ge] at c5
        refine z_iconst (M := M_X12_beside) 79 dX12_beside_79 ?_
        exact z_retI (M := M_X12_beside) 80 dX12_beside_80 rfl ⟨G, R, by omega, by omega, cpI_gt i0 (by omega) (by omega) ex2 ex3 (by omega)⟩
      · rw [m_cmp_ge] at c5
        refine z_iconst (M := M_X12_beside) 75 dX12_beside_75 ?_
        refine z_goto (M := M_X12_beside) 76 dX12_beside_76 80 rfl ?_
        exact z_retI (M := M_X12_beside) 80 dX12_beside_80 rfl ⟨G, R, by omega, by omega, cpI_lt i0 (by omega) (by omega) ex2 ex3 (by omega)⟩
theorem a_X12_beside4 (h0 : m_H) (a1 a2 a3 : Int) (G0 : GI h0) (pa1 : 0 ≤ a1 ∧ a1 ≤ 10) (hb2 : 0 ≤ a2 ∧ a2 ≤ 2000000000) (hb3 : 0 ≤ a3 ∧ a3 ≤ 2000000000) : ∀ n, q_X12_beside4 h0 a1 a2 a3 n := by
  intro n
  induction n with
  | zero => unfold q_X12_beside4; intros; omega
  | succ n ih => exact s_X12_beside4_34 h0 a1 a2 a3 G0 pa1 hb2 hb3 n ih
set_option maxHeartbeats 4000000 in
set_option maxRecDepth 100000 in
theorem c_X12_beside4 (h0 : m_H) (a1 a2 a3 : Int) (G0 : GI h0) (pa1 : 0 ≤ a1 ∧ a1 ≤ 10) (hb2 : 0 ≤ a2 ∧ a2 ≤ 2000000000) (hb3 : 0 ≤ a3 ∧ a3 ≤ 2000000000) : m_CI M_X12_beside [mR 108, mI a1, mI a2, mI a3] h0 (P_X12_beside4 h0 a1 a2 a3) := by
  refine m_CI_of ⟨by decide, rfl, by simp [m_arg, m_isL, M_X12_beside], ⟨rfl, rfl⟩, rfl, rfl⟩ (ls := [some (mR 108), some (mI a1), some (mI a2), some (mI a3), none]) rfl ?_
  have ih := a_X12_beside4 h0 a1 a2 a3 G0 pa1 hb2 hb3 28
  refine z_ok (fun _ _ ok => ?_)
  have oa2 : m_32 a2 := ok 2 _ rfl
  unfold m_32 at oa2
  have oa3 : m_32 a3 := ok 3 _ rfl
  unfold m_32 at oa3
  refine z_aload_n (M := M_X12_beside) 0 dX12_beside_0 rfl ?_
  refine z_getR (M := M_X12_beside) 1 dX12_beside_1 f_X12_94 o_108 rfl (g_108_40 G0) ?_
  refine z_aload_n (M := M_X12_beside) 4 dX12_beside_4 rfl ?_
  refine z_getR (M := M_X12_beside) 5 dX12_beside_5 f_X12_103 o_108 rfl (g_108_43 G0) ?_
  refine z_iload_n (M := M_X12_beside) 8 dX12_beside_8 rfl ?_
  refine z_iload_n (M := M_X12_beside) 9 dX12_beside_9 rfl ?_
  refine z_i2l (M := M_X12_beside) 10 dX12_beside_10 ?_
  refine z_sV (M := M_X12_beside) 11 dX12_beside_11 t_X12_wide l_X12_387 (m_rr_of rfl) (rest := []) (c_X12_wide20x h0 135 138 a1 a3 (Or.inl rfl) rfl G0 ⟨by omega, by omega⟩ ⟨by omega, by omega⟩) rfl rfl (Nat.le_of_ble_eq_true rfl) ⟨rfl, rfl⟩ (fun h1 qx1 => ?_)
  obtain ⟨G1, S1, d1_, w1_⟩ := qx1
  have R1 := (FR.rf (cs := [135, 136]) (ss := []) (h := h0)).call S1 (by decide +kernel)
  refine z_aload_n (M := M_X12_beside) 14 dX12_beside_14 rfl ?_
  refine z_getR (M := M_X12_beside) 15 dX12_beside_15 f_X12_97 o_108 rfl (g_108_41 G1) ?_
  refine z_aload_n (M := M_X12_beside) 18 dX12_beside_18 rfl ?_
  refine z_getR (M := M_X12_beside) 19 dX12_beside_19 f_X12_103 o_108 rfl (g_108_43 G1) ?_
  refine z_iload_n (M := M_X12_beside) 22 dX12_beside_22 rfl ?_
  refine z_iconst (M := M_X12_beside) 23 dX12_beside_23 ?_
  refine z_iaddN (M := M_X12_beside) 24 dX12_beside_24 (by omega) (by omega) ?_
  refine z_iload_n (M := M_X12_beside) 25 dX12_beside_25 rfl ?_
  refine z_i2l (M := M_X12_beside) 26 dX12_beside_26 ?_
  refine z_sV (M := M_X12_beside) 27 dX12_beside_27 t_X12_wide l_X12_387 (m_rr_of rfl) (rest := []) (c_X12_wide20x h1 136 138 (a1 + 5) a2 (Or.inr rfl) rfl G1 ⟨by omega, by omega⟩ ⟨by omega, by omega⟩) rfl rfl (Nat.le_of_ble_eq_true rfl) ⟨rfl, rfl⟩ (fun h2 qx2 => ?_)
  obtain ⟨G2, S2, d2_, w2_⟩ := qx2
  rw [(FR.row S1 (fun _ => rfl) : h1 138 = h0 138)] at w2_
  have r_ : h2 135 = h1 135 := FR.row S2 (fun _ => rfl)
  have R2 := R1.call S2 (by decide +kernel)
  refine z_bipush (M := M_X12_beside) 30 dX12_beside_30 ?_
  refine z_istore (M := M_X12_beside) 32 dX12_beside_32 (ls' := [some (mR 108), some (mI a1), some (mI a2), some (mI a3), some (mI 9)]) (by decide) rfl ?_
  exact z_mask [true, false, false, false, true] rfl (ih 9 h2 G2 R2 (by omega) (by omega) (by omega) (by omega) (by omega) (by omega) ⟨by rw [r_]; exact d1_, d2_, by rw [r_]; exact w1_, w2_, fun j z1 z2 => by omega⟩ (by omega))
abbrev P_X12_tells4 (h0 : m_H) (a1 a2 : Int) : Int → m_H → Prop := fun x h' => GI h' ∧ FR [135, 136] [] h0 h' ∧ 0 ≤ x ∧ x ≤ 2 ∧ tlF (eLo h0) (eHi h0) a1 a2 x
def q_X12_tells4 (h0 : m_H) (a1 a2 : Int) (n : Nat) : Prop := (∀ (l3 l4 k0 : Int) (h : m_H), GI h → FR [135, 136] [] h0 h → 1 ≤ l3 → l3 ≤ 2 → 1 ≤ l4 → l4 ≤ 197 → 1 ≤ k0 → k0 ≤ 199 → (l3 = ofK a2) → (l4 = loK a1 a2) → (k0 = hiK a1 a2) → (5) ≤ (n : Int) → m_Z oF M_X12_tells 51 [some (mR 108), none, some (mI a2), some (mI l3), some (mI l4), none, none, none, none, none, none, none, none] [mI k0] h (m_QI (P_X12_tells4 h0 a1 a2))) ∧ (∀ (l6 l7 l8 k0 : Int) (h : m_H), GI h → FR [135, 136] [] h0 h → (-1) ≤ l6 → l6 ≤ 1 → (-1) ≤ l7 → l7 ≤ 1 → (-1) ≤ l8 → l8 ≤ 1 → (-1) ≤ k0 → k0 ≤ 1 → (cmpQ l6 ((eLo h0).2.1 * ofK a2) ((eLo h0).1 * loK a1 a2)) → (cmpQ l7 ((eLo h0).2.1 * ofK a2) ((eLo h0).1 * hiK a1 a2)) → (cmpQ l8 ((eHi h0).1 * ofK a2) ((eHi h0).2.1 * loK a1 a2)) → (cmpQ k0 ((eHi h0).1 * ofK a2) ((eHi h0).2.1 * hiK a1 a2)) → (4) ≤ (n : Int) → m_Z oF M_X12_tells 137 [some (mR 108), none, some (mI a2), none, none, none, some (mI l6), some (mI l7), some (mI l8), none, none, none, none] [mI k0] h (m_QI (P_X12_tells4 h0 a1 a2))) ∧ (∀ (l6 l9 l10 : Int) (h : m_H), GI h → FR [135, 136] [] h0 h → (-1) ≤ l6 → l6 ≤ 1 → (-1) ≤ l9 → l9 ≤ 1 → 0 ≤ l10 → l10 ≤ 1 → (cmpQ l6 ((eLo h0).2.1 * ofK a2) ((eLo h0).1 * loK a1 a2)) → (cmpQ l9 ((eHi h0).1 * ofK a2) ((eHi h0).2.1 * hiK a1 a2)) → (l10 = 1 ↔ tlU (eLo h0) a1 a2) → (tlO (eHi h0) a1 a2) → (3) ≤ (n : Int) → m_Z oF M_X12_tells 184 [some (mR 108), none, some (mI a2), none, none, none, some (mI l6), none, none, some (mI l9), some (mI l10), none, none] [] h (m_QI (P_X12_tells4 h0 a1 a2))) ∧ (∀ (l6 l9 l10 : Int) (h : m_H), GI h → FR [135, 136] [] h0 h → (-1) ≤ l6 → l6 ≤ 1 → (-1) ≤ l9 → l9 ≤ 1 → 0 ≤ l10 → l10 ≤ 1 → (l10 = 1 ↔ tlU (eLo h0) a1 a2) → (¬ tlO (eHi h0) a1 a2) → (2) ≤ (n : Int) → m_Z oF M_X12_tells 188 [some (mR 108), none, some (mI a2), none, none, none, some (mI l6), none, none, some (mI l9), some (mI l10), none, none] [] h (m_QI (P_X12_tells4 h0 a1 a2))) ∧ (∀ (k0 : Int) (h : m_H), GI h → FR [135, 136] [] h0 h → 1 ≤ k0 → k0 ≤ 2 → (tlF (eLo h0) (eHi h0) a1 a2 k0) → (1) ≤ (n : Int) → m_Z oF M_X12_tells 246 [none, none, none, none, none, none, none, none, none, none, none, none, none] [mI k0] h (m_QI (P_X12_tells4 h0 a1 a2)))
set_option maxHeartbeats 4000000 in
set_option maxRecDepth 100000 in
theorem s_X12_tells4_51 (h0 : m_H) (a1 a2 : Int) (G0 : GI h0) (pa1 : 1 ≤ a1 ∧ a1 ≤ 99) (pa2 : 0 ≤ a2 ∧ a2 ≤ 2) (hE : eOk h0) (n : Nat) (ih : q_X12_tells4 h0 a1 a2 n) : ∀ (l3 l4 k0 : Int) (h : m_H), GI h → FR [135, 136] [] h0 h → 1 ≤ l3 → l3 ≤ 2 → 1 ≤ l4 → l4 ≤ 197 → 1 ≤ k0 → k0 ≤ 199 → (l3 = ofK a2) → (l4 = loK a1 a2) → (k0 = hiK a1 a2) → (5) ≤ ((n + 1 : Nat) : Int) → m_Z oF M_X12_tells 51 [some (mR 108), none, some (mI a2), some (mI l3), some (mI l4), none, none, none, none, none, none, none, none] [mI k0] h (m_QI (P_X12_tells4 h0 a1 a2)) := by
  intro l3 l4 k0 h G R v0 v1 v2 v3 v4 v5 i1 i2 i3 hr
  refine z_istore (M := M_X12_tells) 51 dX12_tells_51 (ls' := [some (mR 108), none, some (mI a2), some (mI l3), some (mI l4), some (mI k0), none, none, none, none, none, none, none]) (by decide) rfl ?_
  refine z_aload_n (M := M_X12_tells) 53 dX12_tells_53 rfl ?_
  refine z_getIG (M := M_X12_tells) 54 dX12_tells_54 f_X12_409 o_108 (by decide) (g_108_44 G) (fun x1 ex1 ax1 bx1 => ?_)
  refine z_if_eq (M := M_X12_tells) 57 dX12_tells_57 71 rfl (fun c2 => ?_) (fun c2 => ?_)
  · refine z_iconst (M := M_X12_tells) 71 dX12_tells_71 ?_
    refine z_istore (M := M_X12_tells) 72 dX12_tells_72 (ls' := [some (mR 108), none, some (mI a2), some (mI l3), some (mI l4), some (mI k0), some (mI (-1)), none, none, none, none, none, none]) (by decide) rfl ?_
    refine z_aload_n (M := M_X12_tells) 74 dX12_tells_74 rfl ?_
    refine z_getIE (M := M_X12_tells) 75 dX12_tells_75 f_X12_409 o_108 (by decide) ex1 ?_
    refine z_if_eq_T (M := M_X12_tells) 78 dX12_tells_78 92 rfl (by omega) ?_
    refine z_iconst (M := M_X12_tells) 92 dX12_tells_92 ?_
    refine z_istore (M := M_X12_tells) 93 dX12_tells_93 (ls' := [some (mR 108), none, some (mI a2), some (mI l3), some (mI l4), some (mI k0), some (mI (-1)), some (mI (-1)), none, none, none, none, none]) (by decide) rfl ?_
    refine z_aload_n (M := M_X12_tells) 95 dX12_tells_95 rfl ?_
    refine z_getIG (M := M_X12_tells) 96 dX12_tells_96 f_X12_415 o_108 (by decide) (g_108_45 G) (fun x3 ex3 ax3 bx3 => ?_)
    refine z_if_eq (M := M_X12_tells) 99 dX12_tells_99 114 rfl (fun c4 => ?_) (fun c4 => ?_)
    · refine z_iconst (M := M_X12_tells) 114 dX12_tells_114 ?_
      refine z_istore (M := M_X12_tells) 115 dX12_tells_115 (ls' := [some (mR 108), none, some (mI a2), some (mI l3), some (mI l4), some (mI k0), some (mI (-1)), some (mI (-1)), some (mI 1), none, none, none, none]) (by decide) rfl ?_
      refine z_aload_n (M := M_X12_tells) 117 dX12_tells_117 rfl ?_
      refine z_getIE (M := M_X12_tells) 118 dX12_tells_118 f_X12_415 o_108 (by decide) ex3 ?_
      refine z_if_eq_T (M := M_X12_tells) 121 dX12_tells_121 136 rfl (by omega) ?_
      refine z_iconst (M := M_X12_tells) 136 dX12_tells_136 ?_
      exact z_mask [true, false, true, false, false, false, true, true, true, false, false, false, false] rfl (ih.2.1 (-1) (-1) 1 1 h G R (by omega) (by omega) (by omega) (by omega) (by omega) (by omega) (by omega) (by omega) (tl_ln R ex1 (by omega) (by omega)) (tl_ln R ex1 (by omega) (by omega)) (tl_hn R ex3 (by omega) (by omega)) (tl_hn R ex3 (by omega) (by omega)) (by omega))
    · refine z_aload_n (M := M_X12_tells) 102 dX12_tells_102 rfl ?_
      refine z_bipush (M := M_X12_tells) 103 dX12_tells_103 ?_
      refine z_iload (M := M_X12_tells) 105 dX12_tells_105 rfl ?_
      refine z_iload_n (M := M_X12_tells) 107 dX12_tells_107 rfl ?_
      refine z_vI (M := M_X12_tells) 108 dX12_tells_108 t_X12_beside l_X12_421 (m_rr_of rfl) (rest := []) (c_X12_beside4 h 10 l4 l3 G ⟨by omega, by omega⟩ ⟨by omega, by omega⟩ ⟨by omega, by omega⟩) o_108 rfl rfl rfl (Nat.le_of_ble_eq_true rfl) ⟨rfl, rfl⟩ (fun x5 h1 qx5 => ?_)
      obtain ⟨G1, S1, ax5, bx5, fx5⟩ := qx5
      have R1 := R.call S1 (by decide +kernel)
      refine z_goto (M := M_X12_tells) 111 dX12_tells_111 115 rfl ?_
      refine z_istore (M := M_X12_tells) 115 dX12_tells_115 (ls' := [some (mR 108), none, some (mI a2), some (mI l3), some (mI l4), some (mI k0), some (mI (-1)), some (mI (-1)), some (mI x5), none, none, none, none]) (by decide) rfl ?_
      refine z_aload_n (M := M_X12_tells) 117 dX12_tells_117 rfl ?_
      refine z_getIE (M := M_X12_tells) 118 dX12_tells_118 f_X12_415 o_108 (by decide) ((S1 108 45 rfl).trans ex3) ?_
      refine z_if_eq_F (M := M_X12_tells) 121 dX12_tells_121 136 rfl (by omega) ?_
      refine z_aload_n (M := M_X12_tells) 124 dX12_tells_124 rfl ?_
      refine z_bipush (M := M_X12_tells) 125 dX12_tells_125 ?_
      refine z_iload (M := M_X12_tells) 127 dX12_tells_127 rfl ?_
      refine z_iload_n (M := M_X12_tells) 129 dX12_tells_129 rfl ?_
      refine z_vI (M := M_X12_tells) 130 dX12_tells_130 t_X12_beside l_X12_421 (m_rr_of rfl) (rest := []) (c_X12_beside4 h1 10 k0 l3 G1 ⟨by omega, by omega⟩ ⟨by omega, by omega⟩ ⟨by omega, by omega⟩) o_108 rfl rfl rfl (Nat.le_of_ble_eq_true rfl) ⟨rfl, rfl⟩ (fun x6 h2 qx6 => ?_)
      obtain ⟨G2, S2, ax6, bx6, fx6⟩ := qx6
      have R2 := R1.call S2 (by decide +kernel)
      refine z_goto (M := M_X12_tells) 133 dX12_tells_133 137 rfl ?_
      exact z_mask [true, false, true, false, false, false, true, true, true, false, false, false, false] rfl (ih.2.1 (-1) (-1) x5 x6 h2 G2 R2 (by omega) (by omega) (by omega) (by omega) (by omega) (by omega) (by omega) (by omega) (tl_ln R ex1 (by omega) (by omega)) (tl_ln R ex1 (by omega) (by omega)) (tl_hy R ex3 (by omega) R i1 i2 fx5) (tl_hy R ex3 (by omega) R1 i1 i3 fx6) (by omega))
  · refine z_aload_n (M := M_X12_tells) 60 dX12_tells_60 rfl ?_
    refine z_iconst (M := M_X12_tells) 61 dX12_tells_61 ?_
    refine z_iload (M := M_X12_tells) 62 dX12_tells_62 rfl ?_
    refine z_iload_n (M := M_X12_tells) 64 dX12_tells_64 rfl ?_
    refine z_vI (M := M_X12_tells) 65 dX12_tells_65 t_X12_beside l_X12_421 (m_rr_of rfl) (rest := []) (c_X12_beside4 h 0 l4 l3 G ⟨by omega, by omega⟩ ⟨by omega, by omega⟩ ⟨by omega, by omega⟩) o_108 rfl rfl rfl (Nat.le_of_ble_eq_true rfl) ⟨rfl, rfl⟩ (fun x7 h3 qx7 => ?_)
    obtain ⟨G3, S3, ax7, bx7, fx7⟩ := qx7
    have R3 := R.call S3 (by decide +kernel)
    refine z_goto (M := M_X12_tells) 68 dX12_tells_68 72 rfl ?_
    refine z_istore (M := M_X12_tells) 72 dX12_tells_72 (ls' := [some (mR 108), none, some (mI a2), some (mI l3), some (mI l4), some (mI k0), some (mI x7), none, none, none, none, none, none]) (by decide) rfl ?_
    refine z_aload_n (M := M_X12_tells) 74 dX12_tells_74 rfl ?_
    refine z_getIE (M := M_X12_tells) 75 dX12_tells_75 f_X12_409 o_108 (by decide) ((S3 108 44 rfl).trans ex1) ?_
    refine z_if_eq_F (M := M_X12_tells) 78 dX12_tells_78 92 rfl (by omega) ?_
    refine z_aload_n (M := M_X12_tells) 81 dX12_tells_81 rfl ?_
    refine z_iconst (M := M_X12_tells) 82 dX12_tells_82 ?_
    refine z_iload (M := M_X12_tells) 83 dX12_tells_83 rfl ?_
    refine z_iload_n (M := M_X12_tells) 85 dX12_tells_85 rfl ?_
    refine z_vI (M := M_X12_tells) 86 dX12_tells_86 t_X12_beside l_X12_421 (m_rr_of rfl) (rest := []) (c_X12_beside4 h3 0 k0 l3 G3 ⟨by omega, by omega⟩ ⟨by omega, by omega⟩ ⟨by omega, by omega⟩) o_108 rfl rfl rfl (Nat.le_of_ble_eq_true rfl) ⟨rfl, rfl⟩ (fun x8 h4 qx8 => ?_)
    obtain ⟨G4, S4, ax8, bx8, fx8⟩ := qx8
    have R4 := R3.call S4 (by decide +kernel)
    refine z_goto (M := M_X12_tells) 89 dX12_tells_89 93 rfl ?_
    refine z_istore (M := M_X12_tells) 93 dX12_tells_93 (ls' := [some (mR 108), none, some (mI a2), some (mI l3), some (mI l4), some (mI k0), some (mI x7), some (mI x8), none, none, none, none, none]) (by decide) rfl ?_
    refine z_aload_n (M := M_X12_tells) 95 dX12_tells_95 rfl ?_
    refine z_getIG (M := M_X12_tells) 96 dX12_tells_96 f_X12_415 o_108 (by decide) (g_108_45 G4) (fun x9 ex9 ax9 bx9 => ?_)
    refine z_if_eq (M := M_X12_tells) 99 dX12_tells_99 114 rfl (fun c10 => ?_) (fun c10 => ?_)
    · refine z_iconst (M := M_X12_tells) 114 dX12_tells_114 ?_
      refine z_istore (M := M_X12_tells) 115 dX12_tells_115 (ls' := [some (mR 108), none, some (mI a2), some (mI l3), some (mI l4), some (mI k0), some (mI x7), some (mI x8), some (mI 1), none, none, none, none]) (by decide) rfl ?_
      refine z_aload_n (M := M_X12_tells) 117 dX12_tells_117 rfl ?_
      refine z_getIE (M := M_X12_tells) 118 dX12_tells_118 f_X12_415 o_108 (by decide) ex9 ?_
      refine z_if_eq_T (M := M_X12_tells) 121 dX12_tells_121 136 rfl (by omega) ?_
      refine z_iconst (M := M_X12_tells) 136 dX12_tells_136 ?_
      exact z_mask [true, false, true, false, false, false, true, true, true, false, false, false, false] rfl (ih.2.1 x7 x8 1 1 h4 G4 R4 (by omega) (by omega) (by omega) (by omega) (by omega) (by omega) (by omega) (by omega) (tl_ly R ex1 (by omega) R i1 i2 fx7) (tl_ly R ex1 (by omega) R3 i1 i3 fx8) (tl_hn R4 ex9 (by omega) (by omega)) (tl_hn R4 ex9 (by omega) (by omega)) (by omega))
    · refine z_aload_n (M := M_X12_tells) 102 dX12_tells_102 rfl ?_
      refine z_bipush (M := M_X12_tells) 103 dX12_tells_103 ?_
      refine z_iload (M := M_X12_tells) 105 dX12_tells_105 rfl ?_
      refine z_iload_n (M := M_X12_tells) 107 dX12_tells_107 rfl ?_
      refine z_vI (M := M_X12_tells) 108 dX12_tells_108 t_X12_beside l_X12_421 (m_rr_of rfl) (rest := []) (c_X12_beside4 h4 10 l4 l3 G4 ⟨by omega, by omega⟩ ⟨by omega, by omega⟩ ⟨by omega, by omega⟩) o_108 rfl rfl rfl (Nat.le_of_ble_eq_true rfl) ⟨rfl, rfl⟩ (fun x11 h5 qx11 => ?_)
      obtain ⟨G5, S5, ax11, bx11, fx11⟩ := qx11
      have R5 := R4.call S5 (by decide +kernel)
      refine z_goto (M := M_X12_tells) 111 dX12_tells_111 115 rfl ?_
      refine z_istore (M := M_X12_tells) 115 dX12_tells_115 (ls' := [some (mR 108), none, some (mI a2), some (mI l3), some (mI l4), some (mI k0), some (mI x7), some (mI x8), some (mI x11), none, none, none, none]) (by decide) rfl ?_
      refine z_aload_n (M := M_X12_tells) 117 dX12_tells_117 rfl ?_
      refine z_getIE (M := M_X12_tells) 118 dX12_tells_118 f_X12_415 o_108 (by decide) ((S5 108 45 rfl).trans ex9) ?_
      refine z_if_eq_F (M := M_X12_tells) 121 dX12_tells_121 136 rfl (by omega) ?_
      refine z_aload_n (M := M_X12_tells) 124 dX12_tells_124 rfl ?_
      refine z_bipush (M := M_X12_tells) 125 dX12_tells_125 ?_
      refine z_iload (M := M_X12_tells) 127 dX12_tells_127 rfl ?_
      refine z_iload_n (M := M_X12_tells) 129 dX12_tells_129 rfl ?_
      refine z_vI (M := M_X12_tells) 130 dX12_tells_130 t_X12_beside l_X12_421 (m_rr_of rfl) (rest := []) (c_X12_beside4 h5 10 k0 l3 G5 ⟨by omega, by omega⟩ ⟨by omega, by omega⟩ ⟨by omega, by omega⟩) o_108 rfl rfl rfl (Nat.le_of_ble_eq_true rfl) ⟨rfl, rfl⟩ (fun x12 h6 qx12 => ?_)
      obtain ⟨G6, S6, ax12, bx12, fx12⟩ := qx12
      have R6 := R5.call S6 (by decide +kernel)
      refine z_goto (M := M_X12_tells) 133 dX12_tells_133 137 rfl ?_
      exact z_mask [true, false, true, false, false, false, true, true, true, false, false, false, false] rfl (ih.2.1 x7 x8 x11 x12 h6 G6 R6 (by omega) (by omega) (by omega) (by omega) (by omega) (by omega) (by omega) (by omega) (tl_ly R ex1 (by omega) R i1 i2 fx7) (tl_ly R ex1 (by omega) R3 i1 i3 fx8) (tl_hy R4 ex9 (by omega) R4 i1 i2 fx11) (tl_hy R4 ex9 (by omega) R5 i1 i3 fx12) (by omega))
set_option maxHeartbeats 4000000 in
set_option maxRecDepth 100000 in
theorem s_X12_tells4_137 (h0 : m_H) (a1 a2 : Int) (G0 : GI h0) (pa1 : 1 ≤ a1 ∧ a1 ≤ 99) (pa2 : 0 ≤ a2 ∧ a2 ≤ 2) (hE : eOk h0) (n : Nat) (ih : q_X12_tells4 h0 a1 a2 n) : ∀ (l6 l7 l8 k0 : Int) (h : m_H), GI h → FR [135, 136] [] h0 h → (-1) ≤ l6 → l6 ≤ 1 → (-1) ≤ l7 → l7 ≤ 1 → (-1) ≤ l8 → l8 ≤ 1 → (-1) ≤ k0 → k0 ≤ 1 → (cmpQ l6 ((eLo h0).2.1 * ofK a2) ((eLo h0).1 * loK a1 a2)) → (cmpQ l7 ((eLo h0).2.1 * ofK a2) ((eLo h0).1 * hiK a1 a2)) → (cmpQ l8 ((eHi h0).1 * ofK a2) ((eHi h0).2.1 * loK a1 a2)) → (cmpQ k0 ((eHi h0).1 * ofK a2) ((eHi h0).2.1 * hiK a1 a2)) → (4) ≤ ((n + 1 : Nat) : Int) → m_Z oF M_X12_tells 137 [some (mR 108), none, some (mI a2), none, none, none, some (mI l6), some (mI l7), some (mI l8), none, none, none, none] [mI k0] h (m_QI (P_X12_tells4 h0 a1 a2)) := by
  intro l6 l7 l8 k0 h G R v0 v1 v2 v3 v4 v5 v6 v7 i1 i2 i3 i4 hr
  refine z_istore (M := M_X12_tells) 137 dX12_tells_137 (ls' := [some (mR 108), none, some (mI a2), none, none, none, some (mI l6), some (mI l7), some (mI l8), some (mI k0), none, none, none]) (by decide) rfl ?_
  refine z_iload (M := M_X12_tells) 139 dX12_tells_139 rfl ?_
  refine z_if_lt (M := M_X12_tells) 141 dX12_tells_141 160 rfl (fun c1 => ?_) (fun c1 => ?_)
  · refine z_iconst (M := M_X12_tells) 160 dX12_tells_160 ?_
    refine z_goto (M := M_X12_tells) 161 dX12_tells_161 165 rfl ?_
    refine z_istore (M := M_X12_tells) 165 dX12_tells_165 (ls' := [some (mR 108), none, some (mI a2), none, none, none, some (mI l6), some (mI l7), some (mI l8), some (mI k0), some (mI 1), none, none]) (by decide) rfl ?_
    refine z_iload (M := M_X12_tells) 167 dX12_tells_167 rfl ?_
    refine z_if_gt (M := M_X12_tells) 169 dX12_tells_169 184 rfl (fun c2 => ?_) (fun c2 => ?_)
    · exact z_mask [true, false, true, false, false, false, true, false, false, true, true, false, false] rfl (ih.2.2.1 l6 k0 1 h G R (by omega) (by omega) (by omega) (by omega) (by omega) (by omega) i1 i4 ⟨fun _ => tu_1 i2 (by omega), fun _ => rfl⟩ (to_1 i3 (by omega)) (by omega))
    · refine z_iload (M := M_X12_tells) 172 dX12_tells_172 rfl ?_
      refine z_if_ne (M := M_X12_tells) 174 dX12_tells_174 188 rfl (fun c3 => ?_) (fun c3 => ?_)
      · exact z_mask [true, false, true, false, false, false, true, false, false, true, true, false, false] rfl (ih.2.2.2.1 l6 k0 1 h G R (by omega) (by omega) (by omega) (by omega) (by omega) (by omega) ⟨fun _ => tu_1 i2 (by omega), fun _ => rfl⟩ (to_n i3 (Or.inl (by omega))) (by omega))
      · refine z_aload_n (M := M_X12_tells) 177 dX12_tells_177 rfl ?_
        refine z_getIG (M := M_X12_tells) 178 dX12_tells_178 f_X12_418 o_108 (by decide) (g_108_47 G) (fun x4 ex4 ax4 bx4 => ?_)
        refine z_if_eq (M := M_X12_tells) 181 dX12_tells_181 188 rfl (fun c5 => ?_) (fun c5 => ?_)
        · exact z_mask [true, false, true, false, false, false, true, false, false, true, true, false, false] rfl (ih.2.2.2.1 l6 k0 1 h G R (by omega) (by omega) (by omega) (by omega) (by omega) (by omega) ⟨fun _ => tu_1 i2 (by omega), fun _ => rfl⟩ (to_n i3 (Or.inr ⟨by omega, eHi_c R ex4 (by omega)⟩)) (by omega))
        · exact z_mask [true, false, true, false, false, false, true, false, false, true, true, false, false] rfl (ih.2.2.1 l6 k0 1 h G R (by omega) (by omega) (by omega) (by omega) (by omega) (by omega) i1 i4 ⟨fun _ => tu_1 i2 (by omega), fun _ => rfl⟩ (to_2 i3 (by omega) (eHi_o R hE ex4 (by omega))) (by omega))
  · refine z_iload (M := M_X12_tells) 144 dX12_tells_144 rfl ?_
    refine z_if_ne (M := M_X12_tells) 146 dX12_tells_146 164 rfl (fun c6 => ?_) (fun c6 => ?_)
    · refine z_iconst (M := M_X12_tells) 164 dX12_tells_164 ?_
      refine z_istore (M := M_X12_tells) 165 dX12_tells_165 (ls' := [some (mR 108), none, some (mI a2), none, none, none, some (mI l6), some (mI l7), some (mI l8), some (mI k0), some (mI 0), none, none]) (by decide) rfl ?_
      refine z_iload (M := M_X12_tells) 167 dX12_tells_167 rfl ?_
      refine z_if_gt (M := M_X12_tells) 169 dX12_tells_169 184 rfl (fun c7 => ?_) (fun c7 => ?_)
      · exact z_mask [true, false, true, false, false, false, true, false, false, true, true, false, false] rfl (ih.2.2.1 l6 k0 0 h G R (by omega) (by omega) (by omega) (by omega) (by omega) (by omega) i1 i4 ⟨fun z => absurd z (by decide), fun z => absurd z (tu_n i2 (Or.inl (by omega)))⟩ (to_1 i3 (by omega)) (by omega))
      · refine z_iload (M := M_X12_tells) 172 dX12_tells_172 rfl ?_
        refine z_if_ne (M := M_X12_tells) 174 dX12_tells_174 188 rfl (fun c8 => ?_) (fun c8 => ?_)
        · exact z_mask [true, false, true, false, false, false, true, false, false, true, true, false, false] rfl (ih.2.2.2.1 l6 k0 0 h G R (by omega) (by omega) (by omega) (by omega) (by omega) (by omega) ⟨fun z => absurd z (by decide), fun z => absurd z (tu_n i2 (Or.inl (by omega)))⟩ (to_n i3 (Or.inl (by omega))) (by omega))
        · refine z_aload_n (M := M_X12_tells) 177 dX12_tells_177 rfl ?_
          refine z_getIG (M := M_X12_tells) 178 dX12_tells_178 f_X12_418 o_108 (by decide) (g_108_47 G) (fun x9 ex9 ax9 bx9 => ?_)
          refine z_if_eq (M := M_X12_tells) 181 dX12_tells_181 188 rfl (fun c10 => ?_) (fun c10 => ?_)
          · exact z_mask [true, false, true, false, false, false, true, false, false, true, true, false, false] rfl (ih.2.2.2.1 l6 k0 0 h G R (by omega) (by omega) (by omega) (by omega) (by omega) (by omega) ⟨fun z => absurd z (by decide), fun z => absurd z (tu_n i2 (Or.inl (by omega)))⟩ (to_n i3 (Or.inr ⟨by omega, eHi_c R ex9 (by omega)⟩)) (by omega))
          · exact z_mask [true, false, true, false, false, false, true, false, false, true, true, false, false] rfl (ih.2.2.1 l6 k0 0 h G R (by omega) (by omega) (by omega) (by omega) (by omega) (by omega) i1 i4 ⟨fun z => absurd z (by decide), fun z => absurd z (tu_n i2 (Or.inl (by omega)))⟩ (to_2 i3 (by omega) (eHi_o R hE ex9 (by omega))) (by omega))
    · refine z_iload_n (M := M_X12_tells) 149 dX12_tells_149 rfl ?_
      refine z_if_ne (M := M_X12_tells) 150 dX12_tells_150 164 rfl (fun c11 => ?_) (fun c11 => ?_)
      · refine z_iconst (M := M_X12_tells) 164 dX12_tells_164 ?_
        refine z_istore (M := M_X12_tells) 165 dX12_tells_165 (ls' := [some (mR 108), none, some (mI a2), none, none, none, some (mI l6), some (mI l7), some (mI l8), some (mI k0), some (mI 0), none, none]) (by decide) rfl ?_
        refine z_iload (M := M_X12_tells) 167 dX12_tells_167 rfl ?_
        refine z_if_gt (M := M_X12_tells) 169 dX12_tells_169 184 rfl (fun c12 => ?_) (fun c12 => ?_)
        · exact z_mask [true, false, true, false, false, false, true, false, false, true, true, false, false] rfl (ih.2.2.1 l6 k0 0 h G R (by omega) (by omega) (by omega) (by omega) (by omega) (by omega) i1 i4 ⟨fun z => absurd z (by decide), fun z => absurd z (tu_n i2 (Or.inr ⟨by omega, Or.inl (by omega)⟩))⟩ (to_1 i3 (by omega)) (by omega))
        · refine z_iload (M := M_X12_tells) 172 dX12_tells_172 rfl ?_
          refine z_if_ne (M := M_X12_tells) 174 dX12_tells_174 188 rfl (fun c13 => ?_) (fun c13 => ?_)
          · exact z_mask [true, false, true, false, false, false, true, false, false, true, true, false, false] rfl (ih.2.2.2.1 l6 k0 0 h G R (by omega) (by omega) (by omega) (by omega) (by omega) (by omega) ⟨fun z => absurd z (by decide), fun z => absurd z (tu_n i2 (Or.inr ⟨by omega, Or.inl (by omega)⟩))⟩ (to_n i3 (Or.inl (by omega))) (by omega))
          · refine z_aload_n (M := M_X12_tells) 177 dX12_tells_177 rfl ?_
            refine z_getIG (M := M_X12_tells) 178 dX12_tells_178 f_X12_418 o_108 (by decide) (g_108_47 G) (fun x14 ex14 ax14 bx14 => ?_)
            refine z_if_eq (M := M_X12_tells) 181 dX12_tells_181 188 rfl (fun c15 => ?_) (fun c15 => ?_)
            · exact z_mask [true, false, true, false, false, false, true, false, false, true, true, false, false] rfl (ih.2.2.2.1 l6 k0 0 h G R (by omega) (by omega) (by omega) (by omega) (by omega) (by omega) ⟨fun z => absurd z (by decide), fun z => absurd z (tu_n i2 (Or.inr ⟨by omega, Or.inl (by omega)⟩))⟩ (to_n i3 (Or.inr ⟨by omega, eHi_c R ex14 (by omega)⟩)) (by omega))
            · exact z_mask [true, false, true, false, false, false, true, false, false, true, true, false, false] rfl (ih.2.2.1 l6 k0 0 h G R (by omega) (by omega) (by omega) (by omega) (by omega) (by omega) i1 i4 ⟨fun z => absurd z (by decide), fun z => absurd z (tu_n i2 (Or.inr ⟨by omega, Or.inl (by omega)⟩))⟩ (to_2 i3 (by omega) (eHi_o R hE ex14 (by omega))) (by omega))
      · refine z_aload_n (M := M_X12_tells) 153 dX12_tells_153 rfl ?_
        refine z_getIG (M := M_X12_tells) 154 dX12_tells_154 f_X12_412 o_108 (by decide) (g_108_46 G) (fun x16 ex16 ax16 bx16 => ?_)
        refine z_if_eq (M := M_X12_tells) 157 dX12_tells_157 164 rfl (fun c17 => ?_) (fun c17 => ?_)
        · refine z_iconst (M := M_X12_tells) 164 dX12_tells_164 ?_
          refine z_istore (M := M_X12_tells) 165 dX12_tells_165 (ls' := [some (mR 108), none, some (mI a2), none, none, none, some (mI l6), some (mI l7), some (mI l8), some (mI k0), some (mI 0), none, none]) (by decide) rfl ?_
          refine z_iload (M := M_X12_tells) 167 dX12_tells_167 rfl ?_
          refine z_if_gt (M := M_X12_tells) 169 dX12_tells_169 184 rfl (fun c18 => ?_) (fun c18 => ?_)
          · exact z_mask [true, false, true, false, false, false, true, false, false, true, true, false, false] rfl (ih.2.2.1 l6 k0 0 h G R (by omega) (by omega) (by omega) (by omega) (by omega) (by omega) i1 i4 ⟨fun z => absurd z (by decide), fun z => absurd z (tu_n i2 (Or.inr ⟨by omega, Or.inr (eLo_c R ex16 (by omega))⟩))⟩ (to_1 i3 (by omega)) (by omega))
          · refine z_iload (M := M_X12_tells) 172 dX12_tells_172 rfl ?_
            refine z_if_ne (M := M_X12_tells) 174 dX12_tells_174 188 rfl (fun c19 => ?_) (fun c19 => ?_)
            · exact z_mask [true, false, true, false, false, false, true, false, false, true, true, false, false] rfl (ih.2.2.2.1 l6 k0 0 h G R (by omega) (by omega) (by omega) (by omega) (by omega) (by omega) ⟨fun z => absurd z (by decide), fun z => absurd z (tu_n i2 (Or.inr ⟨by omega, Or.inr (eLo_c R ex16 (by omega))⟩))⟩ (to_n i3 (Or.inl (by omega))) (by omega))
            · refine z_aload_n (M := M_X12_tells) 177 dX12_tells_177 rfl ?_
              refine z_getIG (M := M_X12_tells) 178 dX12_tells_178 f_X12_418 o_108 (by decide) (g_108_47 G) (fun x20 ex20 ax20 bx20 => ?_)
              refine z_if_eq (M := M_X12_tells) 181 dX12_tells_181 188 rfl (fun c21 => ?_) (fun c21 => ?_)
              · exact z_mask [true, false, true, false, false, false, true, false, false, true, true, false, false] rfl (ih.2.2.2.1 l6 k0 0 h G R (by omega) (by omega) (by omega) (by omega) (by omega) (by omega) ⟨fun z => absurd z (by decide), fun z => absurd z (tu_n i2 (Or.inr ⟨by omega, Or.inr (eLo_c R ex16 (by omega))⟩))⟩ (to_n i3 (Or.inr ⟨by omega, eHi_c R ex20 (by omega)⟩)) (by omega))
              · exact z_mask [true, false, true, false, false, false, true, false, false, true, true, false, false] rfl (ih.2.2.1 l6 k0 0 h G R (by omega) (by omega) (by omega) (by omega) (by omega) (by omega) i1 i4 ⟨fun z => absurd z (by decide), fun z => absurd z (tu_n i2 (Or.inr ⟨by omega, Or.inr (eLo_c R ex16 (by omega))⟩))⟩ (to_2 i3 (by omega) (eHi_o R hE ex20 (by omega))) (by omega))
        · refine z_iconst (M := M_X12_tells) 160 dX12_tells_160 ?_
          refine z_goto (M := M_X12_tells) 161 dX12_tells_161 165 rfl ?_
          refine z_istore (M := M_X12_tells) 165 dX12_tells_165 (ls' := [some (mR 108), none, some (mI a2), none, none, none, some (mI l6), some (mI l7), some (mI l8), some (mI k0), some (mI 1), none, none]) (by decide) rfl ?_
          refine z_iload (M := M_X12_tells) 167 dX12_tells_167 rfl ?_
          refine z_if_gt (M := M_X12_tells) 169 dX12_tells_169 184 rfl (fun c22 => ?_) (fun c22 => ?_)
          · exact z_mask [true, false, true, false, false, false, true, false, false, true, true, false, false] rfl (ih.2.2.1 l6 k0 1 h G R (by omega) (by omega) (by omega) (by omega) (by omega) (by omega) i1 i4 ⟨fun _ => tu_2 i2 (by omega) (by omega) (eLo_o R hE ex16 (by omega)), fun _ => rfl⟩ (to_1 i3 (by omega)) (by omega))
          · refine z_iload (M := M_X12_tells) 172 dX12_tells_172 rfl ?_
            refine z_if_ne (M := M_X12_tells) 174 dX12_tells_174 188 rfl (fun c23 => ?_) (fun c23 => ?_)
            · exact z_mask [true, false, true, false, false, false, true, false, false, true, true, false, false] rfl (ih.2.2.2.1 l6 k0 1 h G R (by omega) (by omega) (by omega) (by omega) (by omega) (by omega) ⟨fun _ => tu_2 i2 (by omega) (by omega) (eLo_o R hE ex16 (by omega)), fun _ => rfl⟩ (to_n i3 (Or.inl (by omega))) (by omega))
            · refine z_aload_n (M := M_X12_tells) 177 dX12_tells_177 rfl ?_
              refine z_getIG (M := M_X12_tells) 178 dX12_tells_178 f_X12_418 o_108 (by decide) (g_108_47 G) (fun x24 ex24 ax24 bx24 => ?_)
              refine z_if_eq (M := M_X12_tells) 181 dX12_tells_181 188 rfl (fun c25 => ?_) (fun c25 => ?_)
              · exact z_mask [true, false, true, false, false, false, true, false, false, true, true, false, false] rfl (ih.2.2.2.1 l6 k0 1 h G R (by omega) (by omega) (by omega) (by omega) (by omega) (by omega) ⟨fun _ => tu_2 i2 (by omega) (by omega) (eLo_o R hE ex16 (by omega)), fun _ => rfl⟩ (to_n i3 (Or.inr ⟨by omega, eHi_c R ex24 (by omega)⟩)) (by omega))
              · exact z_mask [true, false, true, false, false, false, true, false, false, true, true, false, false] rfl (ih.2.2.1 l6 k0 1 h G R (by omega) (by omega) (by omega) (by omega) (by omega) (by omega) i1 i4 ⟨fun _ => tu_2 i2 (by omega) (by omega) (eLo_o R hE ex16 (by omega)), fun _ => rfl⟩ (to_2 i3 (by omega) (eHi_o R hE ex24 (by omega))) (by omega))
set_option maxHeartbeats 4000000 in
set_option maxRecDepth 100000 in
theorem s_X12_tells4_184 (h0 : m_H) (a1 a2 : Int) (G0 : GI h0) (pa1 : 1 ≤ a1 ∧ a1 ≤ 99) (pa2 : 0 ≤ a2 ∧ a2 ≤ 2) (hE : eOk h0) (n : Nat) (ih : q_X12_tells4 h0 a1 a2 n) : ∀ (l6 l9 l10 : Int) (h : m_H), GI h → FR [135, 136] [] h0 h → (-1) ≤ l6 → l6 ≤ 1 → (-1) ≤ l9 → l9 ≤ 1 → 0 ≤ l10 → l10 ≤ 1 → (cmpQ l6 ((eLo h0).2.1 * ofK a2) ((eLo h0).1 * loK a1 a2)) → (cmpQ l9 ((eHi h0).1 * ofK a2) ((eHi h0).2.1 * hiK a1 a2)) → (l10 = 1 ↔ tlU (eLo h0) a1 a2) → (tlO (eHi h0) a1 a2) → (3) ≤ ((n + 1 : Nat) : Int) → m_Z oF M_X12_tells 184 [some (mR 108), none, some (mI a2), none, none, none, some (mI l6), none, none, some (mI l9), some (mI l10), none, none] [] h (m_QI (P_X12_tells4 h0 a1 a2)) := by
  intro l6 l9 l10 h G R v0 v1 v2 v3 v4 v5 i1 i2 i3 i4 hr
  refine z_iconst (M := M_X12_tells) 184 dX12_tells_184 ?_
  refine z_goto (M := M_X12_tells) 185 dX12_tells_185 189 rfl ?_
  refine z_istore (M := M_X12_tells) 189 dX12_tells_189 (ls' := [some (mR 108), none, some (mI a2), none, none, none, some (mI l6), none, none, some (mI l9), some (mI l10), some (mI 1), none]) (by decide) rfl ?_
  refine z_iload (M := M_X12_tells) 191 dX12_tells_191 rfl ?_
  refine z_if_eq (M := M_X12_tells) 193 dX12_tells_193 201 rfl (fun c1 => ?_) (fun c1 => ?_)
  · refine z_iconst (M := M_X12_tells) 201 dX12_tells_201 ?_
    exact z_retI (M := M_X12_tells) 202 dX12_tells_202 rfl ⟨G, R, by omega, by omega, Or.inl ⟨fun z => absurd (i3.mpr z.1) (by omega), rfl⟩⟩
  · refine z_iload (M := M_X12_tells) 196 dX12_tells_196 rfl ?_
    refine z_if_ne_T (M := M_X12_tells) 198 dX12_tells_198 203 rfl (by omega) ?_
    refine z_iload (M := M_X12_tells) 203 dX12_tells_203 rfl ?_
    refine z_if_lt (M := M_X12_tells) 205 dX12_tells_205 233 rfl (fun c2 => ?_) (fun c2 => ?_)
    · refine z_iconst (M := M_X12_tells) 233 dX12_tells_233 ?_
      refine z_istore (M := M_X12_tells) 234 dX12_tells_234 (ls' := [some (mR 108), none, some (mI a2), none, none, none, some (mI l6), none, none, some (mI l9), some (mI l10), some (mI 1), some (mI 0)]) (by decide) rfl ?_
      refine z_iload (M := M_X12_tells) 236 dX12_tells_236 rfl ?_
      refine z_if_eq_T (M := M_X12_tells) 238 dX12_tells_238 245 rfl (by omega) ?_
      refine z_iconst (M := M_X12_tells) 245 dX12_tells_245 ?_
      exact z_mask [false, false, false, false, false, false, false, false, false, false, false, false, false] rfl (ih.2.2.2.2 2 h G R (by omega) (by omega) (Or.inr ⟨⟨i3.mp (by omega), i4⟩, Or.inr ⟨ti_n1 i1 (by omega), rfl⟩⟩) (by omega))
    · refine z_iload (M := M_X12_tells) 208 dX12_tells_208 rfl ?_
      refine z_if_lt (M := M_X12_tells) 210 dX12_tells_210 229 rfl (fun c3 => ?_) (fun c3 => ?_)
      · refine z_iconst (M := M_X12_tells) 229 dX12_tells_229 ?_
        refine z_goto (M := M_X12_tells) 230 dX12_tells_230 234 rfl ?_
        refine z_istore (M := M_X12_tells) 234 dX12_tells_234 (ls' := [some (mR 108), none, some (mI a2), none, none, none, some (mI l6), none, none, some (mI l9), some (mI l10), some (mI 1), some (mI 1)]) (by decide) rfl ?_
        refine z_iload (M := M_X12_tells) 236 dX12_tells_236 rfl ?_
        refine z_if_eq_F (M := M_X12_tells) 238 dX12_tells_238 245 rfl (by omega) ?_
        refine z_iconst (M := M_X12_tells) 241 dX12_tells_241 ?_
        refine z_goto (M := M_X12_tells) 242 dX12_tells_242 246 rfl ?_
        exact z_mask [false, false, false, false, false, false, false, false, false, false, false, false, false] rfl (ih.2.2.2.2 1 h G R (by omega) (by omega) (Or.inr ⟨⟨i3.mp (by omega), i4⟩, Or.inl ⟨ti_y i1 (by omega) i2 (Or.inl (by omega)), rfl⟩⟩) (by omega))
      · refine z_iload (M := M_X12_tells) 213 dX12_tells_213 rfl ?_
        refine z_if_ne (M := M_X12_tells) 215 dX12_tells_215 233 rfl (fun c4 => ?_) (fun c4 => ?_)
        · refine z_iconst (M := M_X12_tells) 233 dX12_tells_233 ?_
          refine z_istore (M := M_X12_tells) 234 dX12_tells_234 (ls' := [some (mR 108), none, some (mI a2), none, none, none, some (mI l6), none, none, some (mI l9), some (mI l10), some (mI 1), some (mI 0)]) (by decide) rfl ?_
          refine z_iload (M := M_X12_tells) 236 dX12_tells_236 rfl ?_
          refine z_if_eq_T (M := M_X12_tells) 238 dX12_tells_238 245 rfl (by omega) ?_
          refine z_iconst (M := M_X12_tells) 245 dX12_tells_245 ?_
          exact z_mask [false, false, false, false, false, false, false, false, false, false, false, false, false] rfl (ih.2.2.2.2 2 h G R (by omega) (by omega) (Or.inr ⟨⟨i3.mp (by omega), i4⟩, Or.inr ⟨ti_n2 i2 (Or.inl (by omega)), rfl⟩⟩) (by omega))
        · refine z_iload_n (M := M_X12_tells) 218 dX12_tells_218 rfl ?_
          refine z_if_eq (M := M_X12_tells) 219 dX12_tells_219 229 rfl (fun c5 => ?_) (fun c5 => ?_)
          · refine z_iconst (M := M_X12_tells) 229 dX12_tells_229 ?_
            refine z_goto (M := M_X12_tells) 230 dX12_tells_230 234 rfl ?_
            refine z_istore (M := M_X12_tells) 234 dX12_tells_234 (ls' := [some (mR 108), none, some (mI a2), none, none, none, some (mI l6), none, none, some (mI l9), some (mI l10), some (mI 1), some (mI 1)]) (by decide) rfl ?_
            refine z_iload (M := M_X12_tells) 236 dX12_tells_236 rfl ?_
            refine z_if_eq_F (M := M_X12_tells) 238 dX12_tells_238 245 rfl (by omega) ?_
            refine z_iconst (M := M_X12_tells) 241 dX12_tells_241 ?_
            refine z_goto (M := M_X12_tells) 242 dX12_tells_242 246 rfl ?_
            exact z_mask [false, false, false, false, false, false, false, false, false, false, false, false, false] rfl (ih.2.2.2.2 1 h G R (by omega) (by omega) (Or.inr ⟨⟨i3.mp (by omega), i4⟩, Or.inl ⟨ti_y i1 (by omega) i2 (Or.inr ⟨by omega, Or.inl (by omega)⟩), rfl⟩⟩) (by omega))
          · refine z_aload_n (M := M_X12_tells) 222 dX12_tells_222 rfl ?_
            refine z_getIG (M := M_X12_tells) 223 dX12_tells_223 f_X12_418 o_108 (by decide) (g_108_47 G) (fun x6 ex6 ax6 bx6 => ?_)
            refine z_if_ne (M := M_X12_tells) 226 dX12_tells_226 233 rfl (fun c7 => ?_) (fun c7 => ?_)
            · refine z_iconst (M := M_X12_tells) 233 dX12_tells_233 ?_
              refine z_istore (M := M_X12_tells) 234 dX12_tells_234 (ls' := [some (mR 108), none, some (mI a2), none, none, none, some (mI l6), none, none, some (mI l9), some (mI l10), some (mI 1), some (mI 0)]) (by decide) rfl ?_
              refine z_iload (M := M_X12_tells) 236 dX12_tells_236 rfl ?_
              refine z_if_eq_T (M := M_X12_tells) 238 dX12_tells_238 245 rfl (by omega) ?_
              refine z_iconst (M := M_X12_tells) 245 dX12_tells_245 ?_
              exact z_mask [false, false, false, false, false, false, false, false, false, false, false, false, false] rfl (ih.2.2.2.2 2 h G R (by omega) (by omega) (Or.inr ⟨⟨i3.mp (by omega), i4⟩, Or.inr ⟨ti_n2 i2 (Or.inr ⟨by omega, by omega, eHi_o R hE ex6 (by omega)⟩), rfl⟩⟩) (by omega))
            · refine z_iconst (M := M_X12_tells) 229 dX12_tells_229 ?_
              refine z_goto (M := M_X12_tells) 230 dX12_tells_230 234 rfl ?_
              refine z_istore (M := M_X12_tells) 234 dX12_tells_234 (ls' := [some (mR 108), none, some (mI a2), none, none, none, some (mI l6), none, none, some (mI l9), some (mI l10), some (mI 1), some (mI 1)]) (by decide) rfl ?_
              refine z_iload (M := M_X12_tells) 236 dX12_tells_236 rfl ?_
              refine z_if_eq_F (M := M_X12_tells) 238 dX12_tells_238 245 rfl (by omega) ?_
              refine z_iconst (M := M_X12_tells) 241 dX12_tells_241 ?_
              refine z_goto (M := M_X12_tells) 242 dX12_tells_242 246 rfl ?_
              exact z_mask [false, false, false, false, false, false, false, false, false, false, false, false, false] rfl (ih.2.2.2.2 1 h G R (by omega) (by omega) (Or.inr ⟨⟨i3.mp (by omega), i4⟩, Or.inl ⟨ti_y i1 (by omega) i2 (Or.inr ⟨by omega, Or.inr (eHi_c R ex6 (by omega))⟩), rfl⟩⟩) (by omega))
set_option maxHeartbeats 4000000 in
set_option maxRecDepth 100000 in
theorem s_X12_tells4_188 (h0 : m_H) (a1 a2 : Int) (G0 : GI h0) (pa1 : 1 ≤ a1 ∧ a1 ≤ 99) (pa2 : 0 ≤ a2 ∧ a2 ≤ 2) (hE : eOk h0) (n : Nat) (ih : q_X12_tells4 h0 a1 a2 n) : ∀ (l6 l9 l10 : Int) (h : m_H), GI h → FR [135, 136] [] h0 h → (-1) ≤ l6 → l6 ≤ 1 → (-1) ≤ l9 → l9 ≤ 1 → 0 ≤ l10 → l10 ≤ 1 → (l10 = 1 ↔ tlU (eLo h0) a1 a2) → (¬ tlO (eHi h0) a1 a2) → (2) ≤ ((n + 1 : Nat) : Int) → m_Z oF M_X12_tells 188 [some (mR 108), none, some (mI a2), none, none, none, some (mI l6), none, none, some (mI l9), some (mI l10), none, none] [] h (m_QI (P_X12_tells4 h0 a1 a2)) := by
  intro l6 l9 l10 h G R v0 v1 v2 v3 v4 v5 i1 i2 hr
  refine z_iconst (M := M_X12_tells) 188 dX12_tells_188 ?_
  refine z_istore (M := M_X12_tells) 189 dX12_tells_189 (ls' := [some (mR 108), none, some (mI a2), none, none, none, some (mI l6), none, none, some (mI l9), some (mI l10), some (mI 0), none]) (by decide) rfl ?_
  refine z_iload (M := M_X12_tells) 191 dX12_tells_191 rfl ?_
  refine z_if_eq (M := M_X12_tells) 193 dX12_tells_193 201 rfl (fun c1 => ?_) (fun c1 => ?_)
  · refine z_iconst (M := M_X12_tells) 201 dX12_tells_201 ?_
    exact z_retI (M := M_X12_tells) 202 dX12_tells_202 rfl ⟨G, R, by omega, by omega, Or.inl ⟨fun z => absurd (i1.mpr z.1) (by omega), rfl⟩⟩
  · refine z_iload (M := M_X12_tells) 196 dX12_tells_196 rfl ?_
    refine z_if_ne_F (M := M_X12_tells) 198 dX12_tells_198 203 rfl (by omega) ?_
    refine z_iconst (M := M_X12_tells) 201 dX12_tells_201 ?_
    exact z_retI (M := M_X12_tells) 202 dX12_tells_202 rfl ⟨G, R, by omega, by omega, Or.inl ⟨fun z => i2 z.2, rfl⟩⟩
set_option maxHeartbeats 4000000 in
set_option maxRecDepth 100000 in
theorem s_X12_tells4_246 (h0 : m_H) (a1 a2 : Int) (G0 : GI h0) (pa1 : 1 ≤ a1 ∧ a1 ≤ 99) (pa2 : 0 ≤ a2 ∧ a2 ≤ 2) (hE : eOk h0) (n : Nat) (ih : q_X12_tells4 h0 a1 a2 n) : ∀ (k0 : Int) (h : m_H), GI h → FR [135, 136] [] h0 h → 1 ≤ k0 → k0 ≤ 2 → (tlF (eLo h0) (eHi h0) a1 a2 k0) → (1) ≤ ((n + 1 : Nat) : Int) → m_Z oF M_X12_tells 246 [none, none, none, none, none, none, none, none, none, none, none, none, none] [mI k0] h (m_QI (P_X12_tells4 h0 a1 a2)) := by
  intro k0 h G R v0 v1 i1 hr
  exact z_retI (M := M_X12_tells) 246 dX12_tells_246 rfl ⟨G, R, by omega, by omega, i1⟩
theorem a_X12_tells4 (h0 : m_H) (a1 a2 : Int) (G0 : GI h0) (pa1 : 1 ≤ a1 ∧ a1 ≤ 99) (pa2 : 0 ≤ a2 ∧ a2 ≤ 2) (hE : eOk h0) : ∀ n, q_X12_tells4 h0 a1 a2 n := by
  intro n
  induction n with
  | zero => unfold q_X12_tells4; refine ⟨?_, ?_, ?_, ?_, ?_⟩ <;> (intros; omega)
  | succ n ih => exact ⟨s_X12_tells4_51 h0 a1 a2 G0 pa1 pa2 hE n ih, s_X12_tells4_137 h0 a1 a2 G0 pa1 pa2 hE n ih, s_X12_tells4_184 h0 a1 a2 G0 pa1 pa2 hE n ih, s_X12_tells4_188 h0 a1 a2 G0 pa1 pa2 hE n ih, s_X12_tells4_246 h0 a1 a2 G0 pa1 pa2 hE n ih⟩
set_option maxHeartbeats 4000000 in
set_option maxRecDepth 100000 in
theorem c_X12_tells4 (h0 : m_H) (a1 a2 : Int) (G0 : GI h0) (pa1 : 1 ≤ a1 ∧ a1 ≤ 99) (pa2 : 0 ≤ a2 ∧ a2 ≤ 2) (hE : eOk h0) : m_CI M_X12_tells [mR 108, mI a1, mI a2] h0 (P_X12_tells4 h0 a1 a2) := by
  refine m_CI_of ⟨by decide, rfl, by simp [m_arg, m_isL, M_X12_tells], ⟨rfl, rfl⟩, rfl, rfl⟩ (ls := [some (mR 108), some (mI a1), some (mI a2), none, none, none, none, none, none, none, none, none, none]) rfl ?_
  have ih := a_X12_tells4 h0 a1 a2 G0 pa1 pa2 hE 10
  refine z_iload_n (M := M_X12_tells) 0 dX12_tells_0 rfl ?_
  refine z_iconst (M := M_X12_tells) 1 dX12_tells_1 ?_
  refine z_icmp_ne (M := M_X12_tells) 2 dX12_tells_2 9 rfl (fun c1 => ?_) (fun c1 => ?_)
  · refine z_iconst (M := M_X12_tells) 9 dX12_tells_9 ?_
    refine z_istore_n (M := M_X12_tells) 10 dX12_tells_10 (ls' := [some (mR 108), some (mI a1), some (mI a2), some (mI 1), none, none, none, none, none, none, none, none, none]) (by decide) rfl ?_
    refine z_iload_n (M := M_X12_tells) 11 dX12_tells_11 rfl ?_
    refine z_iconst (M := M_X12_tells) 12 dX12_tells_12 ?_
    refine z_icmp_ne_T (M := M_X12_tells) 13 dX12_tells_13 24 rfl (by omega) ?_
    refine z_iload_n (M := M_X12_tells) 24 dX12_tells_24 rfl ?_
    refine z_istore (M := M_X12_tells) 25 dX12_tells_25 (ls' := [some (mR 108), some (mI a1), some (mI a2), some (mI 1), some (mI a1), none, none, none, none, none, none, none, none]) (by decide) rfl ?_
    refine z_iload_n (M := M_X12_tells) 27 dX12_tells_27 rfl ?_
    refine z_if_ne (M := M_X12_tells) 28 dX12_tells_28 35 rfl (fun c2 => ?_) (fun c2 => ?_)
    · refine z_iload_n (M := M_X12_tells) 35 dX12_tells_35 rfl ?_
      refine z_iconst (M := M_X12_tells) 36 dX12_tells_36 ?_
      refine z_icmp_ne_F (M := M_X12_tells) 37 dX12_tells_37 46 rfl (by omega) ?_
      refine z_iload_n (M := M_X12_tells) 40 dX12_tells_40 rfl ?_
      refine z_iconst (M := M_X12_tells) 41 dX12_tells_41 ?_
      refine z_iaddN (M := M_X12_tells) 42 dX12_tells_42 (by omega) (by omega) ?_
      refine z_goto (M := M_X12_tells) 43 dX12_tells_43 51 rfl ?_
      exact z_mask [true, false, true, true, true, false, false, false, false, false, false, false, false] rfl (ih.1 1 a1 (a1 + 1) h0 G0 (FR.rf (cs := [135, 136]) (ss := []) (h := h0)) (by omega) (by omega) (by omega) (by omega) (by omega) (by omega) (by unfold ofK; split <;> omega) (by unfold loK; split <;> omega) (by unfold hiK; split <;> (try split) <;> omega) (by omega))
    · refine z_iload_n (M := M_X12_tells) 31 dX12_tells_31 rfl ?_
      refine z_goto (M := M_X12_tells) 32 dX12_tells_32 51 rfl ?_
      exact z_mask [true, false, true, true, true, false, false, false, false, false, false, false, false] rfl (ih.1 1 a1 a1 h0 G0 (FR.rf (cs := [135, 136]) (ss := []) (h := h0)) (by omega) (by omega) (by omega) (by omega) (by omega) (by omega) (by unfold ofK; split <;> omega) (by unfold loK; split <;> omega) (by unfold hiK; split <;> (try split) <;> omega) (by omega))
  · refine z_iconst (M := M_X12_tells) 5 dX12_tells_5 ?_
    refine z_goto (M := M_X12_tells) 6 dX12_tells_6 10 rfl ?_
    refine z_istore_n (M := M_X12_tells) 10 dX12_tells_10 (ls' := [some (mR 108), some (mI a1), some (mI a2), some (mI 2), none, none, none, none, none, none, none, none, none]) (by decide) rfl ?_
    refine z_iload_n (M := M_X12_tells) 11 dX12_tells_11 rfl ?_
    refine z_iconst (M := M_X12_tells) 12 dX12_tells_12 ?_
    refine z_icmp_ne_F (M := M_X12_tells) 13 dX12_tells_13 24 rfl (by omega) ?_
    refine z_iconst (M := M_X12_tells) 16 dX12_tells_16 ?_
    refine z_iload_n (M := M_X12_tells) 17 dX12_tells_17 rfl ?_
    refine z_imulN (M := M_X12_tells) 18 dX12_tells_18 (by omega) (by omega) ?_
    refine z_iconst (M := M_X12_tells) 19 dX12_tells_19 ?_
    refine z_isubN (M := M_X12_tells) 20 dX12_tells_20 (by omega) (by omega) ?_
    refine z_goto (M := M_X12_tells) 21 dX12_tells_21 25 rfl ?_
    refine z_istore (M := M_X12_tells) 25 dX12_tells_25 (ls' := [some (mR 108), some (mI a1), some (mI a2), some (mI 2), some (mI ((2 * a1) - 1)), none, none, none, none, none, none, none, none]) (by decide) rfl ?_
    refine z_iload_n (M := M_X12_tells) 27 dX12_tells_27 rfl ?_
    refine z_if_ne_T (M := M_X12_tells) 28 dX12_tells_28 35 rfl (by omega) ?_
    refine z_iload_n (M := M_X12_tells) 35 dX12_tells_35 rfl ?_
    refine z_iconst (M := M_X12_tells) 36 dX12_tells_36 ?_
    refine z_icmp_ne_T (M := M_X12_tells) 37 dX12_tells_37 46 rfl (by omega) ?_
    refine z_iconst (M := M_X12_tells) 46 dX12_tells_46 ?_
    refine z_iload_n (M := M_X12_tells) 47 dX12_tells_47 rfl ?_
    refine z_imulN (M := M_X12_tells) 48 dX12_tells_48 (by omega) (by omega) ?_
    refine z_iconst (M := M_X12_tells) 49 dX12_tells_49 ?_
    refine z_iaddN (M := M_X12_tells) 50 dX12_tells_50 (by omega) (by omega) ?_
    exact z_mask [true, false, true, true, true, false, false, false, false, false, false, false, false] rfl (ih.1 2 ((2 * a1) - 1) ((2 * a1) + 1) h0 G0 (FR.rf (cs := [135, 136]) (ss := []) (h := h0)) (by omega) (by omega) (by omega) (by omega) (by omega) (by omega) (by unfold ofK; split <;> omega) (by unfold loK; split <;> omega) (by unfold hiK; split <;> (try split) <;> omega) (by omega))
/-- the lower end, as goFrom left it -/
def fL (h0 h : m_H) (a f : Int) : Prop := BW (bR (h0 110)) (12 + f).toNat a.toNat (bOf (aS h a.toNat)) ∧ (h 108 46 = 1 ↔ (h 127 a.toNat = 1 ∧ h 126 a.toNat ≠ 1))
def fH (h0 h : m_H) (a f : Int) : Prop := BW (bR (h0 110)) a.toNat (12 + f).toNat (bOf (aS h (12 + f).toNat)) ∧ (h 108 47 = 1 ↔ (h 127 (12 + f).toNat = 1 ∧ h 126 (12 + f).toNat ≠ 1))
def lP (h0 h : m_H) (a f : Int) : Prop := BX (bR (h0 110)) (12 + f).toNat a.toNat (eLo h) ∧ (h 108 46 = 1 → h 108 44 = 1)
def hP (h0 h : m_H) (a f : Int) : Prop := BX (bR (h0 110)) a.toNat (12 + f).toNat (eHi h) ∧ (h 108 47 = 1 → h 108 45 = 1)
theorem aS_sam4 {h h' : m_H} {l : Nat} (e1 : h' 124 = h 124) (e2 : h' 125 = h 125) (e3 : h' 126 = h 126) (e4 : h' 127 = h 127) : aS h' l = aS h l := by
  unfold aS
  rw [e1, e2, e3, e4]
theorem fL.put {h0 h h' : m_H} {a f v : Int} {j : Nat} (I : fL h0 h a f) (E : h' = m_up h 138 j v) : fL h0 h' a f := by
  have e1 : h' 124 = h 124 := upo E (by decide)
  have e2 : h' 125 = h 125 := upo E (by decide)
  have e3 : h' 126 = h 126 := upo E (by decide)
  have e4 : h' 127 = h 127 := upo E (by decide)
  have e5 : h' 108 = h 108 := upo E (by decide)
  unfold fL
  rw [aS_sam4 e1 e2 e3 e4, e3, e4, e5]; exact I
theorem fH.put {h0 h h' : m_H} {a f v : Int} {j : Nat} (I : fH h0 h a f) (E : h' = m_up h 138 j v) : fH h0 h' a f := by
  have e1 : h' 124 = h 124 := upo E (by decide)
  have e2 : h' 125 = h 125 := upo E (by decide)
  have e3 : h' 126 = h 126 := upo E (by decide)
  have e4 : h' 127 = h 127 := upo E (by decide)
  have e5 : h' 108 = h 108 := upo E (by decide)
  unfold fH
  rw [aS_sam4 e1 e2 e3 e4, e3, e4, e5]; exact I
theorem fL_0 {h0 h1 h2 h3 : m_H} {a f x v : Int} (b : BW (bR (h0 110)) (12 + f).toNat a.toNat (bOf (aS h1 a.toNat))) (ex : h1 127 a.toNat = x) (E2 : h2 = m_up h1 108 44 x) (E3 : h3 = m_up h2 108 46 v) (c : v = 1 ↔ (x = 1 ∧ h1 126 a.toNat ≠ 1)) : fL h0 h3 a f := by
  have e1 : h3 124 = h1 124 := (upo E3 (by decide)).trans (upo E2 (by decide))
  have e2 : h3 125 = h1 125 := (upo E3 (by decide)).trans (upo E2 (by decide))
  have e3 : h3 126 = h1 126 := (upo E3 (by decide)).trans (upo E2 (by decide))
  have e4 : h3 127 = h1 127 := (upo E3 (by decide)).trans (upo E2 (by decide))
  unfold fL
  rw [aS_sam4 e1 e2 e3 e4, e3, e4, ex, upE E3]; exact ⟨b, c⟩
theorem fH_0 {h0 h1 h2 h3 : m_H} {a f x v : Int} (b : BW (bR (h0 110)) a.toNat (12 + f).toNat (bOf (aS h1 (12 + f).toNat))) (ex : h1 127 (12 + f).toNat = x) (E2 : h2 = m_up h1 108 45 x) (E3 : h3 = m_up h2 108 47 v) (c : v = 1 ↔ (x = 1 ∧ h1 126 (12 + f).toNat ≠ 1)) : fH h0 h3 a f := by
  have e1 : h3 124 = h1 124 := (upo E3 (by decide)).trans (upo E2 (by decide))
  have e2 : h3 125 = h1 125 := (upo E3 (by decide)).trans (upo E2 (by decide))
  have e3 : h3 126 = h1 126 := (upo E3 (by decide)).trans (upo E2 (by decide))
  have e4 : h3 127 = h1 127 := (upo E3 (by decide)).trans (upo E2 (by decide))
  unfold fH
  rw [aS_sam4 e1 e2 e3 e4, e3, e4, ex, upE E3]; exact ⟨b, c⟩
/-- one end: the state's limit is the end's -/
theorem end_bx {Ls : List gE} {h : m_H} {a b : Nat} {t l : Nat} {c y : Int} (B : BW Ls a b (bOf (aS h b))) (g : ga (aS h b)) (e1 : vS (h 138) t 5 = vS (h 125) (5 * b) 5) (e2 : vS (h 138) l 5 = vS (h 124) (5 * b) 5) (hy : h 127 b = y) (hc : c = 1 ↔ (y = 1 ∧ h 126 b ≠ 1)) : BX Ls a b (if y = 1 then (vS (h 138) t 5, vS (h 138) l 5, if c = 1 then 0 else 1) else (1, 0, 1)) := by
  by_cases q : y = 1
  · rw [if_pos q, e1, e2]
    rw [bOf_y hy q] at B
    have u1 : 1 ≤ vS (h 124) (5 * b) 5 := (g.2.2 (hy.trans q)).1.1
    have o : (if c = 1 then (0 : Int) else 1) = h 126 b := by
      have g2 : h 126 b = 0 ∨ h 126 b = 1 := g.2.1
      by_cases r : c = 1
      · rw [if_pos r]; have := (hc.mp r).2; omega
      · rw [if_neg r]
        rcases g2 with z | z
        · exact absurd (hc.mpr ⟨q, by omega⟩) r
        · exact z.symm
    rw [o]
    exact ⟨B, fun z => absurd (show vS (h 124) (5 * b) 5 = 0 from z) (by omega)⟩
  · rw [if_neg q]
    rw [bOf_n hy q] at B
    exact ⟨B, fun _ => rfl⟩
theorem lP_of {h0 h : m_H} {a f l : Int} (hl : 5 ≤ l) (ha : 0 ≤ a ∧ a ≤ 15) (I : feA h a l) (J : fL h0 h a f) : lP h0 h a f := by
  obtain ⟨g, e, d⟩ := I
  refine ⟨?_, fun z => e.trans (J.2.mp z).1⟩
  unfold eLo
  refine end_bx J.1 (g _ (by omega)) (vS_same (fun j hj => ?_)) (vS_same (fun j hj => ?_)) e.symm ?_
  · exact (d j (by omega)).2
  · rw [Nat.zero_add]; exact (d j (by omega)).1
  · rw [e]; exact J.2
theorem hP_of {h0 h : m_H} {a f l : Int} (hl : 5 ≤ l) (hf : 0 ≤ f ∧ f ≤ 3) (I : feB h (12 + f) l) (J : fH h0 h a f) : hP h0 h a f := by
  obtain ⟨g, e, d⟩ := I
  refine ⟨?_, fun z => e.trans (J.2.mp z).1⟩
  unfold eHi
  refine end_bx J.1 (g _ (by omega)) (vS_same (fun j hj => ?_)) (vS_same (fun j hj => ?_)) e.symm ?_
  · exact (d j (by omega)).1
  · exact (d j (by omega)).2
  · rw [e]; exact J.2
theorem lP.same {h0 h h' : m_H} {a f : Int} (I : lP h0 h a f) (e1 : h' 108 44 = h 108 44) (e2 : h' 108 46 = h 108 46) (e3 : ∀ j, j < 10 → h' 138 j = h 138 j) : lP h0 h' a f := by
  have k : eLo h' = eLo h := by
    unfold eLo
    rw [e1, e2, vS_same (f := h' 138) (g := h 138) (a := 5) (b := 5) (n := 5) (fun j hj => e3 _ (by omega)), vS_same (f := h' 138) (g := h 138) (a := 0) (b := 0) (n := 5) (fun j hj => e3 _ (by omega))]
  unfold lP
  rw [k, e1, e2]; exact I
theorem lP.put {h0 h h' : m_H} {a f v : Int} {j : Nat} (I : lP h0 h a f) (E : h' = m_up h 138 j v) (hj : 10 ≤ j) : lP h0 h' a f :=
  I.same (upN E (fun z => absurd z.1 (by decide))) (upN E (fun z => absurd z.1 (by decide))) (fun i hi => upN E (fun z => by have := z.2; omega))
abbrev P_X12_findEnds4 (h0 : m_H) (a1 a2 : Int) : m_H → Prop := fun h' => GI h' ∧ FR [115, 116, 117, 118, 119, 120, 121, 122, 123, 124, 125, 126, 127, 128, 129, 130, 131, 132, 133, 138] [(108, 21), (108, 44), (108, 45), (108, 46), (108, 47)] h0 h' ∧ enQ h' ∧ (lP h0 h' a1 a2 ∧ hP h0 h' a1 a2)
def q_X12_findEnds4 (h0 : m_H) (a1 a2 : Int) (n : Nat) : Prop := (∀ (l3 : Int) (h : m_H), GI h → FR [115, 116, 117, 118, 119, 120, 121, 122, 123, 124, 125, 126, 127, 128, 129, 130, 131, 132, 133, 138] [(108, 21), (108, 44), (108, 45), (108, 46), (108, 47)] h0 h → 0 ≤ l3 → l3 ≤ 5 → (feA h a1 l3) → (fL h0 h a1 a2) → 2 * (5 - l3) + (14) ≤ (n : Int) → m_Z oF M_X12_findEnds 45 [some (mR 108), some (mI a1), some (mI a2), some (mI l3), none] [] h (m_QV (P_X12_findEnds4 h0 a1 a2))) ∧ (∀ (l4 : Int) (h : m_H), GI h → FR [115, 116, 117, 118, 119, 120, 121, 122, 123, 124, 125, 126, 127, 128, 129, 130, 131, 132, 133, 138] [(108, 21), (108, 44), (108, 45), (108, 46), (108, 47)] h0 h → 0 ≤ l4 → l4 ≤ 5 → (e1Q h) → (feB h (12 + a2) l4) → (lP h0 h a1 a2) → (fH h0 h a1 a2) → 2 * (5 - l4) + (1) ≤ (n : Int) → m_Z oF M_X12_findEnds 138 [some (mR 108), none, none, some (mI (12 + a2)), some (mI l4)] [] h (m_QV (P_X12_findEnds4 h0 a1 a2)))
set_option maxHeartbeats 4000000 in
set_option maxRecDepth 100000 in
theorem s_X12_findEnds4_45 (h0 : m_H) (a1 a2 : Int) (G0 : GI h0) (pa1 : 0 ≤ a1 ∧ a1 ≤ 11) (pa2 : 0 ≤ a2 ∧ a2 ≤ 3) (hN : NP h0) (hG : gG (bR (h0 110))) (n : Nat) (ih : q_X12_findEnds4 h0 a1 a2 n) : ∀ (l3 : Int) (h : m_H), GI h → FR [115, 116, 117, 118, 119, 120, 121, 122, 123, 124, 125, 126, 127, 128, 129, 130, 131, 132, 133, 138] [(108, 21), (108, 44), (108, 45), (108, 46), (108, 47)] h0 h → 0 ≤ l3 → l3 ≤ 5 → (feA h a1 l3) → (fL h0 h a1 a2) → 2 * (5 - l3) + (14) ≤ ((n + 1 : Nat) : Int) → m_Z oF M_X12_findEnds 45 [some (mR 108), some (mI a1), some (mI a2), some (mI l3), none] [] h (m_QV (P_X12_findEnds4 h0 a1 a2)) := by
  intro l3 h G R v0 v1 i0 j0 hr
  refine z_iload_n (M := M_X12_findEnds) 45 dX12_findEnds_45 rfl ?_
  refine z_iconst (M := M_X12_findEnds) 46 dX12_findEnds_46 ?_
  refine z_icmp_ge (M := M_X12_findEnds) 47 dX12_findEnds_47 90 rfl (fun c1 => ?_) (fun c1 => ?_)
  · refine z_bipush (M := M_X12_findEnds) 90 dX12_findEnds_90 ?_
    refine z_iload_n (M := M_X12_findEnds) 92 dX12_findEnds_92 rfl ?_
    refine z_iaddN (M := M_X12_findEnds) 93 dX12_findEnds_93 (by omega) (by omega) ?_
    refine z_istore_n (M := M_X12_findEnds) 94 dX12_findEnds_94 (ls' := [some (mR 108), some (mI a1), some (mI a2), some (mI (12 + a2)), none]) (by decide) rfl ?_
    refine z_aload_n (M := M_X12_findEnds) 95 dX12_findEnds_95 rfl ?_
    refine z_iload_n (M := M_X12_findEnds) 96 dX12_findEnds_96 rfl ?_
    refine z_vV (M := M_X12_findEnds) 97 dX12_findEnds_97 t_X12_goFrom l_X12_397 (m_rr_of rfl) (rest := []) (c_X12_goFrom2 h a1 G ⟨by omega, by omega⟩ (NP.call hN R (fun _ => rfl) (fun _ => rfl) (fun _ => rfl)) (gG_f hG R (fun _ => rfl))) o_108 rfl rfl rfl (Nat.le_of_ble_eq_true rfl) ⟨rfl, rfl⟩ (fun h1 qx2 => ?_)
    obtain ⟨G1, S1, fx2_0, fx2_1⟩ := qx2
    rw [(FR.row R (fun _ => rfl) : h 110 = h0 110)] at fx2_1
    have b_ := fx2_1 (12 + a2).toNat (by omega)
    have R1 := R.call S1 (by decide +kernel)
    refine z_aload_n (M := M_X12_findEnds) 100 dX12_findEnds_100 rfl ?_
    refine z_aload_n (M := M_X12_findEnds) 101 dX12_findEnds_101 rfl ?_
    refine z_getR (M := M_X12_findEnds) 102 dX12_findEnds_102 f_X12_70 o_108 rfl (g_108_32 G1) ?_
    refine z_iload_n (M := M_X12_findEnds) 105 dX12_findEnds_105 rfl ?_
    refine z_zaldG (M := M_X12_findEnds) 106 dX12_findEnds_106 o_127 (by omega) (by omega) (g_127 G1 (by omega)) (fun x3 ex3 ax3 bx3 => ?_)
    refine z_putZH (M := M_X12_findEnds) 107 dX12_findEnds_107 p_X12_415 o_108 rfl (by omega) (u_108_45 G1 (by omega) (by omega)) (R1.up rfl) (fun h2 E2 G2 R2 => ?_)
    refine z_aload_n (M := M_X12_findEnds) 110 dX12_findEnds_110 rfl ?_
    refine z_aload_n (M := M_X12_findEnds) 111 dX12_findEnds_111 rfl ?_
    refine z_getIE (M := M_X12_findEnds) 112 dX12_findEnds_112 f_X12_415 o_108 (by decide) (upE E2) ?_
    refine z_if_eq (M := M_X12_findEnds) 115 dX12_findEnds_115 131 rfl (fun c4 => ?_) (fun c4 => ?_)
    · refine z_iconst (M := M_X12_findEnds) 131 dX12_findEnds_131 ?_
      refine z_putZH (M := M_X12_findEnds) 132 dX12_findEnds_132 p_X12_418 o_108 rfl (by omega) (u_108_47 G2 (by omega) (by omega)) (R2.up rfl) (fun h3 E3 G3 R3 => ?_)
      refine z_iconst (M := M_X12_findEnds) 135 dX12_findEnds_135 ?_
      refine z_istore (M := M_X12_findEnds) 136 dX12_findEnds_136 (ls' := [some (mR 108), some (mI a1), some (mI a2), some (mI (12 + a2)), some (mI 0)]) (by decide) rfl ?_
      exact z_mask [true, false, false, true, true] rfl (ih.2 0 h3 G3 R3 (by omega) (by omega) (e1Q.same (feA_end G (by omega) (by omega) (by omega) i0) ((upN E3 (by decide)).trans ((upN E2 (by decide)).trans (S1 108 44 rfl))) ((upo E3 (by decide)).trans ((upo E2 (by decide)).trans (FR.row S1 (fun _ => rfl))))) (feB_0 fx2_0 ex3 E2 E3) ((lP_of (by omega) ⟨by omega, by omega⟩ i0 j0).same ((upN E3 (by decide)).trans ((upN E2 (by decide)).trans (S1 108 44 rfl))) ((upN E3 (by decide)).trans ((upN E2 (by decide)).trans (S1 108 46 rfl))) (fun j _ => (congrFun ((upo E3 (by decide)).trans ((upo E2 (by decide)).trans (FR.row S1 (fun _ => rfl)))) j))) (fH_0 b_ ex3 E2 E3 ⟨fun z => absurd z (by decide), fun z => absurd z.1 (by omega)⟩) (by omega))
    · refine z_aload_n (M := M_X12_findEnds) 118 dX12_findEnds_118 rfl ?_
      refine z_getR (M := M_X12_findEnds) 119 dX12_findEnds_119 f_X12_67 o_108 rfl (g_108_31 G2) ?_
      refine z_iload_n (M := M_X12_findEnds) 122 dX12_findEnds_122 rfl ?_
      refine z_zaldG (M := M_X12_findEnds) 123 dX12_findEnds_123 o_126 (by omega) (by omega) (g_126 G2 (by omega)) (fun x5 ex5 ax5 bx5 => ?_)
      refine z_if_ne (M := M_X12_findEnds) 124 dX12_findEnds_124 131 rfl (fun c6 => ?_) (fun c6 => ?_)
      · refine z_iconst (M := M_X12_findEnds) 131 dX12_findEnds_131 ?_
        refine z_putZH (M := M_X12_findEnds) 132 dX12_findEnds_132 p_X12_418 o_108 rfl (by omega) (u_108_47 G2 (by omega) (by omega)) (R2.up rfl) (fun h4 E4 G4 R4 => ?_)
        refine z_iconst (M := M_X12_findEnds) 135 dX12_findEnds_135 ?_
        refine z_istore (M := M_X12_findEnds) 136 dX12_findEnds_136 (ls' := [some (mR 108), some (mI a1), some (mI a2), some (mI (12 + a2)), some (mI 0)]) (by decide) rfl ?_
        exact z_mask [true, false, false, true, true] rfl (ih.2 0 h4 G4 R4 (by omega) (by omega) (e1Q.same (feA_end G (by omega) (by omega) (by omega) i0) ((upN E4 (by decide)).trans ((upN E2 (by decide)).trans (S1 108 44 rfl))) ((upo E4 (by decide)).trans ((upo E2 (by decide)).trans (FR.row S1 (fun _ => rfl))))) (feB_0 fx2_0 ex3 E2 E4) ((lP_of (by omega) ⟨by omega, by omega⟩ i0 j0).same ((upN E4 (by decide)).trans ((upN E2 (by decide)).trans (S1 108 44 rfl))) ((upN E4 (by decide)).trans ((upN E2 (by decide)).trans (S1 108 46 rfl))) (fun j _ => (congrFun ((upo E4 (by decide)).trans ((upo E2 (by decide)).trans (FR.row S1 (fun _ => rfl)))) j))) (fH_0 b_ ex3 E2 E4 ⟨fun z => absurd z (by decide), fun z => absurd ((show h1 126 (12 + a2).toNat = x5 by rw [← (upo E2 (by decide) : h2 126 = h1 126)]; exact ex5).trans (by omega)) z.2⟩) (by omega))
      · refine z_iconst (M := M_X12_findEnds) 127 dX12_findEnds_127 ?_
        refine z_goto (M := M_X12_findEnds) 128 dX12_findEnds_128 132 rfl ?_
        refine z_putZH (M := M_X12_findEnds) 132 dX12_findEnds_132 p_X12_418 o_108 rfl (by omega) (u_108_47 G2 (by omega) (by omega)) (R2.up rfl) (fun h5 E5 G5 R5 => ?_)
        refine z_iconst (M := M_X12_findEnds) 135 dX12_findEnds_135 ?_
        refine z_istore (M := M_X12_findEnds) 136 dX12_findEnds_136 (ls' := [some (mR 108), some (mI a1), some (mI a2), some (mI (12 + a2)), some (mI 0)]) (by decide) rfl ?_
        exact z_mask [true, false, false, true, true] rfl (ih.2 0 h5 G5 R5 (by omega) (by omega) (e1Q.same (feA_end G (by omega) (by omega) (by omega) i0) ((upN E5 (by decide)).trans ((upN E2 (by decide)).trans (S1 108 44 rfl))) ((upo E5 (by decide)).trans ((upo E2 (by decide)).trans (FR.row S1 (fun _ => rfl))))) (feB_0 fx2_0 ex3 E2 E5) ((lP_of (by omega) ⟨by omega, by omega⟩ i0 j0).same ((upN E5 (by decide)).trans ((upN E2 (by decide)).trans (S1 108 44 rfl))) ((upN E5 (by decide)).trans ((upN E2 (by decide)).trans (S1 108 46 rfl))) (fun j _ => (congrFun ((upo E5 (by decide)).trans ((upo E2 (by decide)).trans (FR.row S1 (fun _ => rfl)))) j))) (fH_0 b_ ex3 E2 E5 ⟨fun _ => ⟨by omega, fun z => absurd ((show h1 126 (12 + a2).toNat = x5 by rw [← (upo E2 (by decide) : h2 126 = h1 126)]; exact ex5).symm.trans z) (by omega)⟩, fun _ => rfl⟩) (by omega))
  · refine z_aload_n (M := M_X12_findEnds) 50 dX12_findEnds_50 rfl ?_
    refine z_getR (M := M_X12_findEnds) 51 dX12_findEnds_51 f_X12_103 o_108 rfl (g_108_43 G) ?_
    refine z_iload_n (M := M_X12_findEnds) 54 dX12_findEnds_54 rfl ?_
    refine z_aload_n (M := M_X12_findEnds) 55 dX12_findEnds_55 rfl ?_
    refine z_getR (M := M_X12_findEnds) 56 dX12_findEnds_56 f_X12_61 o_108 rfl (g_108_29 G) ?_
    refine z_iconst (M := M_X12_findEnds) 59 dX12_findEnds_59 ?_
    refine z_iload_n (M := M_X12_findEnds) 60 dX12_findEnds_60 rfl ?_
    refine z_imulN (M := M_X12_findEnds) 61 dX12_findEnds_61 (by omega) (by omega) ?_
    refine z_iload_n (M := M_X12_findEnds) 62 dX12_findEnds_62 rfl ?_
    refine z_iaddN (M := M_X12_findEnds) 63 dX12_findEnds_63 (by omega) (by omega) ?_
    refine z_laldG (M := M_X12_findEnds) 64 dX12_findEnds_64 o_124 (by omega) (by omega) (g_124 G (by omega)) (fun x7 ex7 ax7 bx7 => ?_)
    refine z_lastH (M := M_X12_findEnds) 65 dX12_findEnds_65 o_138 (by omega) (by omega) (u_138 G (by omega) (by omega)) (R.up rfl) (fun h6 E6 G6 R6 => ?_)
    refine z_aload_n (M := M_X12_findEnds) 66 dX12_findEnds_66 rfl ?_
    refine z_getR (M := M_X12_findEnds) 67 dX12_findEnds_67 f_X12_103 o_108 rfl (g_108_43 G6) ?_
    refine z_iconst (M := M_X12_findEnds) 70 dX12_findEnds_70 ?_
    refine z_iload_n (M := M_X12_findEnds) 71 dX12_findEnds_71 rfl ?_
    refine z_iaddN (M := M_X12_findEnds) 72 dX12_findEnds_72 (by omega) (by omega) ?_
    refine z_aload_n (M := M_X12_findEnds) 73 dX12_findEnds_73 rfl ?_
    refine z_getR (M := M_X12_findEnds) 74 dX12_findEnds_74 f_X12_64 o_108 rfl (g_108_30 G6) ?_
    refine z_iconst (M := M_X12_findEnds) 77 dX12_findEnds_77 ?_
    refine z_iload_n (M := M_X12_findEnds) 78 dX12_findEnds_78 rfl ?_
    refine z_imulN (M := M_X12_findEnds) 79 dX12_findEnds_79 (by omega) (by omega) ?_
    refine z_iload_n (M := M_X12_findEnds) 80 dX12_findEnds_80 rfl ?_
    refine z_iaddN (M := M_X12_findEnds) 81 dX12_findEnds_81 (by omega) (by omega) ?_
    refine z_laldG (M := M_X12_findEnds) 82 dX12_findEnds_82 o_125 (by omega) (by omega) (g_125 G6 (by omega)) (fun x8 ex8 ax8 bx8 => ?_)
    refine z_lastH (M := M_X12_findEnds) 83 dX12_findEnds_83 o_138 (by omega) (by omega) (u_138 G6 (by omega) (by omega)) (R6.up rfl) (fun h7 E7 G7 R7 => ?_)
    refine z_iincN (M := M_X12_findEnds) 84 dX12_findEnds_84 (ls' := [some (mR 108), some (mI a1), some (mI a2), some (mI (l3 + 1)), none]) (by decide) rfl (by (unfold m_32; decide)) (by omega) (by omega) rfl ?_
    refine z_goto (M := M_X12_findEnds) 87 dX12_findEnds_87 45 rfl ?_
    exact z_mask [true, true, true, true, false] rfl (ih.1 (l3 + 1) h7 G7 R7 (by omega) (by omega) (feA_step (by omega) (by omega) (by omega) i0 ex7 E6 ex8 E7) ((j0.put E6).put E7) (by omega))
set_option maxHeartbeats 4000000 in
set_option maxRecDepth 100000 in
theorem s_X12_findEnds4_138 (h0 : m_H) (a1 a2 : Int) (G0 : GI h0) (pa1 : 0 ≤ a1 ∧ a1 ≤ 11) (pa2 : 0 ≤ a2 ∧ a2 ≤ 3) (hN : NP h0) (hG : gG (bR (h0 110))) (n : Nat) (ih : q_X12_findEnds4 h0 a1 a2 n) : ∀ (l4 : Int) (h : m_H), GI h → FR [115, 116, 117, 118, 119, 120, 121, 122, 123, 124, 125, 126, 127, 128, 129, 130, 131, 132, 133, 138] [(108, 21), (108, 44), (108, 45), (108, 46), (108, 47)] h0 h → 0 ≤ l4 → l4 ≤ 5 → (e1Q h) → (feB h (12 + a2) l4) → (lP h0 h a1 a2) → (fH h0 h a1 a2) → 2 * (5 - l4) + (1) ≤ ((n + 1 : Nat) : Int) → m_Z oF M_X12_findEnds 138 [some (mR 108), none, none, some (mI (12 + a2)), some (mI l4)] [] h (m_QV (P_X12_findEnds4 h0 a1 a2)) := by
  intro l4 h G R v0 v1 i0 i1 j0 j1 hr
  refine z_iload (M := M_X12_findEnds) 138 dX12_findEnds_138 rfl ?_
  refine z_iconst (M := M_X12_findEnds) 140 dX12_findEnds_140 ?_
  refine z_icmp_ge (M := M_X12_findEnds) 141 dX12_findEnds_141 192 rfl (fun c1 => ?_) (fun c1 => ?_)
  · exact z_retV (M := M_X12_findEnds) 192 dX12_findEnds_192 rfl ⟨G, R, ⟨i0, feB_end G (by omega) (by omega) (by omega) i1⟩, ⟨j0, hP_of (by omega) ⟨by omega, by omega⟩ i1 j1⟩⟩
  · refine z_aload_n (M := M_X12_findEnds) 144 dX12_findEnds_144 rfl ?_
    refine z_getR (M := M_X12_findEnds) 145 dX12_findEnds_145 f_X12_103 o_108 rfl (g_108_43 G) ?_
    refine z_bipush (M := M_X12_findEnds) 148 dX12_findEnds_148 ?_
    refine z_iload (M := M_X12_findEnds) 150 dX12_findEnds_150 rfl ?_
    refine z_iaddN (M := M_X12_findEnds) 152 dX12_findEnds_152 (by omega) (by omega) ?_
    refine z_aload_n (M := M_X12_findEnds) 153 dX12_findEnds_153 rfl ?_
    refine z_getR (M := M_X12_findEnds) 154 dX12_findEnds_154 f_X12_64 o_108 rfl (g_108_30 G) ?_
    refine z_iconst (M := M_X12_findEnds) 157 dX12_findEnds_157 ?_
    refine z_iload_n (M := M_X12_findEnds) 158 dX12_findEnds_158 rfl ?_
    refine z_imulN (M := M_X12_findEnds) 159 dX12_findEnds_159 (by omega) (by omega) ?_
    refine z_iload (M := M_X12_findEnds) 160 dX12_findEnds_160 rfl ?_
    refine z_iaddN (M := M_X12_findEnds) 162 dX12_findEnds_162 (by omega) (by omega) ?_
    refine z_laldG (M := M_X12_findEnds) 163 dX12_findEnds_163 o_125 (by omega) (by omega) (g_125 G (by omega)) (fun x2 ex2 ax2 bx2 => ?_)
    refine z_lastH (M := M_X12_findEnds) 164 dX12_findEnds_164 o_138 (by omega) (by omega) (u_138 G (by omega) (by omega)) (R.up rfl) (fun h1 E1 G1 R1 => ?_)
    refine z_aload_n (M := M_X12_findEnds) 165 dX12_findEnds_165 rfl ?_
    refine z_getR (M := M_X12_findEnds) 166 dX12_findEnds_166 f_X12_103 o_108 rfl (g_108_43 G1) ?_
    refine z_bipush (M := M_X12_findEnds) 169 dX12_findEnds_169 ?_
    refine z_iload (M := M_X12_findEnds) 171 dX12_findEnds_171 rfl ?_
    refine z_iaddN (M := M_X12_findEnds) 173 dX12_findEnds_173 (by omega) (by omega) ?_
    refine z_aload_n (M := M_X12_findEnds) 174 dX12_findEnds_174 rfl ?_
    refine z_getR (M := M_X12_findEnds) 175 dX12_findEnds_175 f_X12_61 o_108 rfl (g_108_29 G1) ?_
    refine z_iconst (M := M_X12_findEnds) 178 dX12_findEnds_178 ?_
    refine z_iload_n (M := M_X12_findEnds) 179 dX12_findEnds_179 rfl ?_
    refine z_imulN (M := M_X12_findEnds) 180 dX12_findEnds_180 (by omega) (by omega) ?_
    refine z_iload (M := M_X12_findEnds) 181 dX12_findEnds_181 rfl ?_
    refine z_iaddN (M := M_X12_findEnds) 183 dX12_findEnds_183 (by omega) (by omega) ?_
    refine z_laldG (M := M_X12_findEnds) 184 dX12_findEnds_184 o_124 (by omega) (by omega) (g_124 G1 (by omega)) (fun x3 ex3 ax3 bx3 => ?_)
    refine z_lastH (M := M_X12_findEnds) 185 dX12_findEnds_185 o_138 (by omega) (by omega) (u_138 G1 (by omega) (by omega)) (R1.up rfl) (fun h2 E2 G2 R2 => ?_)
    refine z_iincN (M := M_X12_findEnds) 186 dX12_findEnds_186 (ls' := [some (mR 108), none, none, some (mI (12 + a2)), some (mI (l4 + 1))]) (by decide) rfl (by (unfold m_32; decide)) (by omega) (by omega) rfl ?_
    refine z_goto (M := M_X12_findEnds) 189 dX12_findEnds_189 138 rfl ?_
    exact z_mask [true, false, false, true, true] rfl (ih.2 (l4 + 1) h2 G2 R2 (by omega) (by omega) ((i0.put E1 (by omega)).put E2 (by omega)) (feB_step (by omega) (by omega) (by omega) i1 ex2 E1 ex3 E2) ((j0.put E1 (by omega)).put E2 (by omega)) ((j1.put E1).put E2) (by omega))
theorem a_X12_findEnds4 (h0 : m_H) (a1 a2 : Int) (G0 : GI h0) (pa1 : 0 ≤ a1 ∧ a1 ≤ 11) (pa2 : 0 ≤ a2 ∧ a2 ≤ 3) (hN : NP h0) (hG : gG (bR (h0 110))) : ∀ n, q_X12_findEnds4 h0 a1 a2 n := by
  intro n
  induction n with
  | zero => unfold q_X12_findEnds4; refine ⟨?_, ?_⟩ <;> (intros; omega)
  | succ n ih => exact ⟨s_X12_findEnds4_45 h0 a1 a2 G0 pa1 pa2 hN hG n ih, s_X12_findEnds4_138 h0 a1 a2 G0 pa1 pa2 hN hG n ih⟩
set_option maxHeartbeats 4000000 in
set_option maxRecDepth 100000 in
theorem c_X12_findEnds4 (h0 : m_H) (a1 a2 : Int) (G0 : GI h0) (pa1 : 0 ≤ a1 ∧ a1 ≤ 11) (pa2 : 0 ≤ a2 ∧ a2 ≤ 3) (hN : NP h0) (hG : gG (bR (h0 110))) : m_CV M_X12_findEnds [mR 108, mI a1, mI a2] h0 (P_X12_findEnds4 h0 a1 a2) := by
  refine m_CV_of ⟨by decide, rfl, by simp [m_arg, m_isL, M_X12_findEnds], ⟨rfl, rfl⟩, rfl, rfl⟩ (ls := [some (mR 108), some (mI a1), some (mI a2), none, none]) rfl ?_
  have ih := a_X12_findEnds4 h0 a1 a2 G0 pa1 pa2 hN hG 31
  refine z_aload_n (M := M_X12_findEnds) 0 dX12_findEnds_0 rfl ?_
  refine z_bipush (M := M_X12_findEnds) 1 dX12_findEnds_1 ?_
  refine z_iload_n (M := M_X12_findEnds) 3 dX12_findEnds_3 rfl ?_
  refine z_iaddN (M := M_X12_findEnds) 4 dX12_findEnds_4 (by omega) (by omega) ?_
  refine z_vV (M := M_X12_findEnds) 5 dX12_findEnds_5 t_X12_goFrom l_X12_397 (m_rr_of rfl) (rest := []) (c_X12_goFrom2 h0 (12 + a2) G0 ⟨by omega, by omega⟩ (NP.call hN (FR.rf (cs := [115, 116, 117, 118, 119, 120, 121, 122, 123, 124, 125, 126, 127, 128, 129, 130, 131, 132, 133, 138]) (ss := [(108, 21), (108, 44), (108, 45), (108, 46), (108, 47)]) (h := h0)) (fun _ => rfl) (fun _ => rfl) (fun _ => rfl)) (gG_f hG (FR.rf (cs := [115, 116, 117, 118, 119, 120, 121, 122, 123, 124, 125, 126, 127, 128, 129, 130, 131, 132, 133, 138]) (ss := [(108, 21), (108, 44), (108, 45), (108, 46), (108, 47)]) (h := h0)) (fun _ => rfl))) o_108 rfl rfl rfl (Nat.le_of_ble_eq_true rfl) ⟨rfl, rfl⟩ (fun h1 qx1 => ?_)
  obtain ⟨G1, S1, fx1_0, fx1_1⟩ := qx1
  have b_ := fx1_1 a1.toNat (by omega)
  have R1 := (FR.rf (cs := [115, 116, 117, 118, 119, 120, 121, 122, 123, 124, 125, 126, 127, 128, 129, 130, 131, 132, 133, 138]) (ss := [(108, 21), (108, 44), (108, 45), (108, 46), (108, 47)]) (h := h0)).call S1 (by decide +kernel)
  refine z_aload_n (M := M_X12_findEnds) 8 dX12_findEnds_8 rfl ?_
  refine z_aload_n (M := M_X12_findEnds) 9 dX12_findEnds_9 rfl ?_
  refine z_getR (M := M_X12_findEnds) 10 dX12_findEnds_10 f_X12_70 o_108 rfl (g_108_32 G1) ?_
  refine z_iload_n (M := M_X12_findEnds) 13 dX12_findEnds_13 rfl ?_
  refine z_zaldG (M := M_X12_findEnds) 14 dX12_findEnds_14 o_127 (by omega) (by omega) (g_127 G1 (by omega)) (fun x2 ex2 ax2 bx2 => ?_)
  refine z_putZH (M := M_X12_findEnds) 15 dX12_findEnds_15 p_X12_409 o_108 rfl (by omega) (u_108_44 G1 (by omega) (by omega)) (R1.up rfl) (fun h2 E2 G2 R2 => ?_)
  refine z_aload_n (M := M_X12_findEnds) 18 dX12_findEnds_18 rfl ?_
  refine z_aload_n (M := M_X12_findEnds) 19 dX12_findEnds_19 rfl ?_
  refine z_getIE (M := M_X12_findEnds) 20 dX12_findEnds_20 f_X12_409 o_108 (by decide) (upE E2) ?_
  refine z_if_eq (M := M_X12_findEnds) 23 dX12_findEnds_23 39 rfl (fun c3 => ?_) (fun c3 => ?_)
  · refine z_iconst (M := M_X12_findEnds) 39 dX12_findEnds_39 ?_
    refine z_putZH (M := M_X12_findEnds) 40 dX12_findEnds_40 p_X12_412 o_108 rfl (by omega) (u_108_46 G2 (by omega) (by omega)) (R2.up rfl) (fun h3 E3 G3 R3 => ?_)
    refine z_iconst (M := M_X12_findEnds) 43 dX12_findEnds_43 ?_
    refine z_istore_n (M := M_X12_findEnds) 44 dX12_findEnds_44 (ls' := [some (mR 108), some (mI a1), some (mI a2), some (mI 0), none]) (by decide) rfl ?_
    exact z_mask [true, true, true, true, false] rfl (ih.1 0 h3 G3 R3 (by omega) (by omega) (feA_0 fx1_0 ex2 E2 E3) (fL_0 b_ ex2 E2 E3 ⟨fun z => absurd z (by decide), fun z => absurd z.1 (by omega)⟩) (by omega))
  · refine z_aload_n (M := M_X12_findEnds) 26 dX12_findEnds_26 rfl ?_
    refine z_getR (M := M_X12_findEnds) 27 dX12_findEnds_27 f_X12_67 o_108 rfl (g_108_31 G2) ?_
    refine z_iload_n (M := M_X12_findEnds) 30 dX12_findEnds_30 rfl ?_
    refine z_zaldG (M := M_X12_findEnds) 31 dX12_findEnds_31 o_126 (by omega) (by omega) (g_126 G2 (by omega)) (fun x4 ex4 ax4 bx4 => ?_)
    refine z_if_ne (M := M_X12_findEnds) 32 dX12_findEnds_32 39 rfl (fun c5 => ?_) (fun c5 => ?_)
    · refine z_iconst (M := M_X12_findEnds) 39 dX12_findEnds_39 ?_
      refine z_putZH (M := M_X12_findEnds) 40 dX12_findEnds_40 p_X12_412 o_108 rfl (by omega) (u_108_46 G2 (by omega) (by omega)) (R2.up rfl) (fun h4 E4 G4 R4 => ?_)
      refine z_iconst (M := M_X12_findEnds) 43 dX12_findEnds_43 ?_
      refine z_istore_n (M := M_X12_findEnds) 44 dX12_findEnds_44 (ls' := [some (mR 108), some (mI a1), some (mI a2), some (mI 0), none]) (by decide) rfl ?_
      exact z_mask [true, true, true, true, false] rfl (ih.1 0 h4 G4 R4 (by omega) (by omega) (feA_0 fx1_0 ex2 E2 E4) (fL_0 b_ ex2 E2 E4 ⟨fun z => absurd z (by decide), fun z => absurd ((show h1 126 a1.toNat = x4 by rw [← (upo E2 (by decide) : h2 126 = h1 126)]; exact ex4).trans (by omega)) z.2⟩) (by omega))
    · refine z_iconst (M := M_X12_findEnds) 35 dX12_findEnds_35 ?_
      refine z_goto (M := M_X12_findEnds) 36 dX12_findEnds_36 40 rfl ?_
      refine z_putZH (M := M_X12_findEnds) 40 dX12_findEnds_40 p_X12_412 o_108 rfl (by omega) (u_108_46 G2 (by omega) (by omega)) (R2.up rfl) (fun h5 E5 G5 R5 => ?_)
      refine z_iconst (M := M_X12_findEnds) 43 dX12_findEnds_43 ?_
      refine z_istore_n (M := M_X12_findEnds) 44 dX12_findEnds_44 (ls' := [some (mR 108), some (mI a1), some (mI a2), some (mI 0), none]) (by decide) rfl ?_
      exact z_mask [true, true, true, true, false] rfl (ih.1 0 h5 G5 R5 (by omega) (by omega) (feA_0 fx1_0 ex2 E2 E5) (fL_0 b_ ex2 E2 E5 ⟨fun _ => ⟨by omega, fun z => absurd ((show h1 126 a1.toNat = x4 by rw [← (upo E2 (by decide) : h2 126 = h1 126)]; exact ex4).symm.trans z) (by omega)⟩, fun _ => rfl⟩) (by omega))
abbrev P_X12_isAsked4 (h0 : m_H) (a1 a2 : Int) : Int → m_H → Prop := fun x h' => GI h' ∧ FR [115, 116, 117, 118, 119, 120, 121, 122, 123, 124, 125, 126, 127, 128, 129, 130, 131, 132, 133, 134] [(108, 21)] h0 h' ∧ 0 ≤ x ∧ x ≤ 1 ∧ akQ x a1 a2 (bR (h0 110)) ∧ (x = 1 ↔ ftK (h0 110) a1 a2)
set_option maxHeartbeats 4000000 in
set_option maxRecDepth 100000 in
theorem c_X12_isAsked4 (h0 : m_H) (a1 a2 : Int) (G0 : GI h0) (hN : NP h0) : m_CI M_X12_isAsked [mR 108, mI a1, mI a2] h0 (P_X12_isAsked4 h0 a1 a2) := by
  refine m_CI_of ⟨by decide, rfl, by simp [m_arg, m_isL, M_X12_isAsked], ⟨rfl, rfl⟩, rfl, rfl⟩ (ls := [some (mR 108), some (mI a1), some (mI a2)]) rfl ?_
  refine z_ok (fun _ _ ok => ?_)
  have oa1 : m_32 a1 := ok 1 _ rfl
  unfold m_32 at oa1
  have oa2 : m_32 a2 := ok 2 _ rfl
  unfold m_32 at oa2
  refine z_iload_n (M := M_X12_isAsked) 0 dX12_isAsked_0 rfl ?_
  refine z_i2l (M := M_X12_isAsked) 1 dX12_isAsked_1 ?_
  refine z_lconst (M := M_X12_isAsked) 2 dX12_isAsked_2 (v := 0) ?_
  refine z_ldc2 (M := M_X12_isAsked) 3 dX12_isAsked_3 k_X12_385 ?_
  refine z_sI (M := M_X12_isAsked) 6 dX12_isAsked_6 t_X12_in l_X12_143 (m_rr_of rfl) (rest := []) (c_X12_in h0 a1 0 11 G0) rfl rfl (Nat.le_of_ble_eq_true rfl) ⟨rfl, rfl⟩ (fun x1 h1 qx1 => ?_)
  obtain ⟨rfl, ⟨rfl, cx1⟩ | ⟨rfl, cx1⟩⟩ := qx1
  · refine z_if_eq_F (M := M_X12_isAsked) 9 dX12_isAsked_9 35 rfl (by omega) ?_
    refine z_iload_n (M := M_X12_isAsked) 12 dX12_isAsked_12 rfl ?_
    refine z_sI (M := M_X12_isAsked) 13 dX12_isAsked_13 t_X12_isKeeper l_X12_169 (m_rr_of rfl) (rest := []) (c_X12_isKeeper h0 a2 G0) rfl rfl (Nat.le_of_ble_eq_true rfl) ⟨rfl, rfl⟩ (fun x2 h2 qx2 => ?_)
    obtain ⟨rfl, ⟨rfl, cx2⟩ | ⟨rfl, cx2⟩⟩ := qx2
    · refine z_if_eq_F (M := M_X12_isAsked) 16 dX12_isAsked_16 35 rfl (by omega) ?_
      refine z_aload_n (M := M_X12_isAsked) 19 dX12_isAsked_19 rfl ?_
      refine z_iload_n (M := M_X12_isAsked) 20 dX12_isAsked_20 rfl ?_
      refine z_bipush (M := M_X12_isAsked) 21 dX12_isAsked_21 ?_
      refine z_iload_n (M := M_X12_isAsked) 23 dX12_isAsked_23 rfl ?_
      refine z_iaddN (M := M_X12_isAsked) 24 dX12_isAsked_24 (by omega) (by omega) ?_
      refine z_vI (M := M_X12_isAsked) 25 dX12_isAsked_25 t_X12_isAnswered l_X12_394 (m_rr_of rfl) (rest := []) (c_X12_isAnswered2 h0 a1 (12 + a2) G0 (NP.call hN (FR.rf (cs := [115, 116, 117, 118, 119, 120, 121, 122, 123, 124, 125, 126, 127, 128, 129, 130, 131, 132, 133, 134]) (ss := [(108, 21)]) (h := h0)) (fun _ => rfl) (fun _ => rfl) (fun _ => rfl))) o_108 rfl rfl rfl (Nat.le_of_ble_eq_true rfl) ⟨rfl, rfl⟩ (fun x3 h3 qx3 => ?_)
      obtain ⟨G3, S3, ax3, bx3, fx3_0, fx3_1⟩ := qx3
      have R3 := (FR.rf (cs := [115, 116, 117, 118, 119, 120, 121, 122, 123, 124, 125, 126, 127, 128, 129, 130, 131, 132, 133, 134]) (ss := [(108, 21)]) (h := h0)).call S3 (by decide +kernel)
      refine z_if_eq (M := M_X12_isAsked) 28 dX12_isAsked_28 35 rfl (fun c4 => ?_) (fun c4 => ?_)
      · refine z_iconst (M := M_X12_isAsked) 35 dX12_isAsked_35 ?_
        exact z_retZ (M := M_X12_isAsked) 36 dX12_isAsked_36 rfl (by omega) ⟨G3, R3, by omega, by omega, akQ_0, ⟨fun z => absurd z (by decide), fun z => absurd (fx3_1.mpr ⟨z.2.2.1, ⟨by omega, by omega, Or.inr (Or.inl (by omega))⟩, z.2.2.2⟩) (by omega)⟩⟩
      · refine z_iconst (M := M_X12_isAsked) 31 dX12_isAsked_31 ?_
        refine z_goto (M := M_X12_isAsked) 32 dX12_isAsked_32 36 rfl ?_
        exact z_retZ (M := M_X12_isAsked) 36 dX12_isAsked_36 rfl (by omega) ⟨G3, R3, by omega, by omega, fun _ => ⟨⟨by omega, by omega⟩, ⟨by omega, by omega⟩, gG_b (fx3_0 (by omega)).2.2 (FR.rf (cs := [115, 116, 117, 118, 119, 120, 121, 122, 123, 124, 125, 126, 127, 128, 129, 130, 131, 132, 133, 134]) (ss := [(108, 21)]) (h := h0)) (fun _ => rfl)⟩, ⟨fun _ => ⟨cx1, ⟨by omega, by omega⟩, (fx3_1.mp (by omega)).1, (fx3_1.mp (by omega)).2.2⟩, fun _ => rfl⟩⟩
    · refine z_if_eq_T (M := M_X12_isAsked) 16 dX12_isAsked_16 35 rfl (by omega) ?_
      refine z_iconst (M := M_X12_isAsked) 35 dX12_isAsked_35 ?_
      exact z_retZ (M := M_X12_isAsked) 36 dX12_isAsked_36 rfl (by omega) ⟨G0, (FR.rf (cs := [115, 116, 117, 118, 119, 120, 121, 122, 123, 124, 125, 126, 127, 128, 129, 130, 131, 132, 133, 134]) (ss := [(108, 21)]) (h := h0)), by omega, by omega, akQ_0, ⟨fun z => absurd z (by decide), fun z => absurd z.2.1 cx2⟩⟩
  · refine z_if_eq_T (M := M_X12_isAsked) 9 dX12_isAsked_9 35 rfl (by omega) ?_
    refine z_iconst (M := M_X12_isAsked) 35 dX12_isAsked_35 ?_
    exact z_retZ (M := M_X12_isAsked) 36 dX12_isAsked_36 rfl (by omega) ⟨G0, (FR.rf (cs := [115, 116, 117, 118, 119, 120, 121, 122, 123, 124, 125, 126, 127, 128, 129, 130, 131, 132, 133, 134]) (ss := [(108, 21)]) (h := h0)), by omega, by omega, akQ_0, ⟨fun z => absurd z (by decide), fun z => absurd z.1 cx1⟩⟩
def wdK (r : Nat → Int) (a f n k : Int) : Prop := (1 ≤ n ∧ n ≤ 99) ∧ (0 ≤ k ∧ k ≤ 2) ∧ ftK r a f
def wdQ (r : Nat → Int) (a f n k x : Int) : Prop := (¬ wdK r a f n k ∧ x = -2) ∨ (wdK r a f n k ∧ ∃ B C, BX (bR r) (12 + f).toNat a.toNat B ∧ BX (bR r) a.toNat (12 + f).toNat C ∧ tlF B C n k x)
abbrev P_X12_would3 (h0 : m_H) (a1 a2 a3 a4 : Int) : Int → m_H → Prop := fun x h' => GI h' ∧ FR [115, 116, 117, 118, 119, 120, 121, 122, 123, 124, 125, 126, 127, 128, 129, 130, 131, 132, 133, 134, 135, 136, 138] [(108, 0), (108, 21), (108, 44), (108, 45), (108, 46), (108, 47)] h0 h' ∧ (-2) ≤ x ∧ x ≤ 2 ∧ wdQ (h0 110) a1 a2 a3 a4 x
set_option maxHeartbeats 4000000 in
set_option maxRecDepth 100000 in
theorem c_X12_would3 (h0 : m_H) (a1 a2 a3 a4 : Int) (G0 : GI h0) (hN : NP h0) : m_CI M_X12_would [mR 108, mI a1, mI a2, mI a3, mI a4] h0 (P_X12_would3 h0 a1 a2 a3 a4) := by
  refine m_CI_of ⟨by decide, rfl, by simp [m_arg, m_isL, M_X12_would], ⟨rfl, rfl⟩, rfl, rfl⟩ (ls := [some (mR 108), some (mI a1), some (mI a2), some (mI a3), some (mI a4)]) rfl ?_
  refine z_ok (fun _ _ ok => ?_)
  have oa1 : m_32 a1 := ok 1 _ rfl
  unfold m_32 at oa1
  have oa2 : m_32 a2 := ok 2 _ rfl
  unfold m_32 at oa2
  have oa3 : m_32 a3 := ok 3 _ rfl
  unfold m_32 at oa3
  have oa4 : m_32 a4 := ok 4 _ rfl
  unfold m_32 at oa4
  refine z_aload_n (M := M_X12_would) 0 dX12_would_0 rfl ?_
  refine z_iconst (M := M_X12_would) 1 dX12_would_1 ?_
  refine z_putIH (M := M_X12_would) 2 dX12_would_2 p_X12_133 o_108 rfl (u_108_0 G0) ((FR.rf (cs := [115, 116, 117, 118, 119, 120, 121, 122, 123, 124, 125, 126, 127, 128, 129, 130, 131, 132, 133, 134, 135, 136, 138]) (ss := [(108, 0), (108, 21), (108, 44), (108, 45), (108, 46), (108, 47)]) (h := h0)).up rfl) (fun h1 E1 G1 R1 => ?_)
  refine z_iload_n (M := M_X12_would) 5 dX12_would_5 rfl ?_
  refine z_i2l (M := M_X12_would) 6 dX12_would_6 ?_
  refine z_lconst (M := M_X12_would) 7 dX12_would_7 (v := 1) ?_
  refine z_ldc2 (M := M_X12_would) 8 dX12_would_8 k_X12_180 ?_
  refine z_sI (M := M_X12_would) 11 dX12_would_11 t_X12_in l_X12_143 (m_rr_of rfl) (rest := []) (c_X12_in h1 a3 1 99 G1) rfl rfl (Nat.le_of_ble_eq_true rfl) ⟨rfl, rfl⟩ (fun x1 h2 qx1 => ?_)
  obtain ⟨rfl, ⟨rfl, cx1⟩ | ⟨rfl, cx1⟩⟩ := qx1
  · refine z_if_eq_F (M := M_X12_would) 14 dX12_would_14 39 rfl (by omega) ?_
    refine z_iload (M := M_X12_would) 17 dX12_would_17 rfl ?_
    refine z_i2l (M := M_X12_would) 19 dX12_would_19 ?_
    refine z_lconst (M := M_X12_would) 20 dX12_would_20 (v := 0) ?_
    refine z_ldc2 (M := M_X12_would) 21 dX12_would_21 k_X12_182 ?_
    refine z_sI (M := M_X12_would) 24 dX12_would_24 t_X12_in l_X12_143 (m_rr_of rfl) (rest := []) (c_X12_in h1 a4 0 2 G1) rfl rfl (Nat.le_of_ble_eq_true rfl) ⟨rfl, rfl⟩ (fun x2 h3 qx2 => ?_)
    obtain ⟨rfl, ⟨rfl, cx2⟩ | ⟨rfl, cx2⟩⟩ := qx2
    · refine z_if_eq_F (M := M_X12_would) 27 dX12_would_27 39 rfl (by omega) ?_
      refine z_aload_n (M := M_X12_would) 30 dX12_would_30 rfl ?_
      refine z_iload_n (M := M_X12_would) 31 dX12_would_31 rfl ?_
      refine z_iload_n (M := M_X12_would) 32 dX12_would_32 rfl ?_
      refine z_vI (M := M_X12_would) 33 dX12_would_33 t_X12_isAsked l_X12_425 (m_rr_of rfl) (rest := []) (c_X12_isAsked4 h1 a1 a2 G1 (NP.call hN R1 (fun _ => rfl) (fun _ => rfl) (fun _ => rfl))) o_108 rfl rfl rfl (Nat.le_of_ble_eq_true rfl) ⟨rfl, rfl⟩ (fun x3 h4 qx3 => ?_)
      obtain ⟨G4, S4, ax3, bx3, fx3_0, fx3_1⟩ := qx3
      rw [(FR.row R1 (fun _ => rfl) : h1 110 = h0 110)] at fx3_1
      have R4 := R1.call S4 (by decide +kernel)
      refine z_if_ne (M := M_X12_would) 36 dX12_would_36 42 rfl (fun c4 => ?_) (fun c4 => ?_)
      · have an := fx3_0 (by omega)
        have an1 := an.1
        have an2 := an.2.1
        refine z_aload_n (M := M_X12_would) 42 dX12_would_42 rfl ?_
        refine z_iload_n (M := M_X12_would) 43 dX12_would_43 rfl ?_
        refine z_iload_n (M := M_X12_would) 44 dX12_would_44 rfl ?_
        refine z_vV (M := M_X12_would) 45 dX12_would_45 t_X12_findEnds l_X12_428 (m_rr_of rfl) (rest := []) (c_X12_findEnds4 h4 a1 a2 G4 ⟨by omega, by omega⟩ ⟨by omega, by omega⟩ (NP.call hN R4 (fun _ => rfl) (fun _ => rfl) (fun _ => rfl)) (gG_f (gG_b an.2.2 R1 (fun _ => rfl)) R4 (fun _ => rfl))) o_108 rfl rfl rfl (Nat.le_of_ble_eq_true rfl) ⟨rfl, rfl⟩ (fun h5 qx5 => ?_)
        obtain ⟨G5, S5, fx5_0, fx5_1, fx5_2⟩ := qx5
        unfold lP at fx5_1
        unfold hP at fx5_2
        rw [(FR.row R4 (fun _ => rfl) : h4 110 = h0 110)] at fx5_1 fx5_2
        have R5 := R4.call S5 (by decide +kernel)
        refine z_aload_n (M := M_X12_would) 48 dX12_would_48 rfl ?_
        refine z_iload_n (M := M_X12_would) 49 dX12_would_49 rfl ?_
        refine z_iload (M := M_X12_would) 50 dX12_would_50 rfl ?_
        refine z_vI (M := M_X12_would) 52 dX12_would_52 t_X12_tells l_X12_431 (m_rr_of rfl) (rest := []) (c_X12_tells4 h5 a3 a4 G5 ⟨by omega, by omega⟩ ⟨by omega, by omega⟩ ⟨fx5_1.2, fx5_2.2⟩) o_108 rfl rfl rfl (Nat.le_of_ble_eq_true rfl) ⟨rfl, rfl⟩ (fun x6 h6 qx6 => ?_)
        obtain ⟨G6, S6, ax6, bx6, fx6⟩ := qx6
        have R6 := R5.call S6 (by decide +kernel)
        exact z_retI (M := M_X12_would) 55 dX12_would_55 rfl ⟨G6, R6, by omega, by omega, Or.inr ⟨⟨⟨by omega, by omega⟩, ⟨by omega, by omega⟩, fx3_1.mp (by omega)⟩, _, _, fx5_1.1, fx5_2.1, fx6⟩⟩
      · refine z_bipush (M := M_X12_would) 39 dX12_would_39 ?_
        exact z_retI (M := M_X12_would) 41 dX12_would_41 rfl ⟨G4, R4, by omega, by omega, Or.inl ⟨fun z => absurd (fx3_1.mpr z.2.2) (by omega), rfl⟩⟩
    · refine z_if_eq_T (M := M_X12_would) 27 dX12_would_27 39 rfl (by omega) ?_
      refine z_bipush (M := M_X12_would) 39 dX12_would_39 ?_
      exact z_retI (M := M_X12_would) 41 dX12_would_41 rfl ⟨G1, R1, by omega, by omega, Or.inl ⟨fun z => cx2 z.2.1, rfl⟩⟩
  · refine z_if_eq_T (M := M_X12_would) 14 dX12_would_14 39 rfl (by omega) ?_
    refine z_bipush (M := M_X12_would) 39 dX12_would_39 ?_
    exact z_retI (M := M_X12_would) 41 dX12_would_41 rfl ⟨G1, R1, by omega, by omega, Or.inl ⟨fun z => cx1 z.1, rfl⟩⟩
/-! part: reduced ratios -/
def gd (a b : Int) : Int := ((Nat.gcd a.toNat b.toNat : Nat) : Int)
theorem gd_0 {x : Int} (h : 0 ≤ x) : gd x 0 = x := by
  unfold gd
  rw [show (0 : Int).toNat = 0 from rfl, Nat.gcd_zero_right]; omega
theorem gd_c (a b : Int) : gd a b = gd b a := by unfold gd; rw [Nat.gcd_comm]
theorem gd_s {x y : Int} (hx : 0 ≤ x) (hy : 0 ≤ y) : gd y (x % y) = gd x y := by
  unfold gd
  rw [Int.toNat_emod hx hy, Nat.gcd_comm x.toNat, Nat.gcd_rec y.toNat x.toNat, Nat.gcd_comm]
theorem gd_p {a b : Int} (ha : 0 < a) : 0 < gd a b := by
  unfold gd
  have := Nat.gcd_pos_of_pos_left b.toNat (show 0 < a.toNat by omega)
  omega
theorem gd_m {m a b : Int} (hm : 0 ≤ m) (ha : 0 ≤ a) (hb : 0 ≤ b) : gd (m * a) (m * b) = m * gd a b := by
  unfold gd
  rw [Int.toNat_mul hm ha, Int.toNat_mul hm hb, Nat.gcd_mul_left, Int.natCast_mul, Int.toNat_of_nonneg hm]
theorem gd_dv {a : Int} (b : Int) (ha : 0 ≤ a) : ∃ k, a = gd a b * k := by
  obtain ⟨k, hk⟩ := Nat.gcd_dvd_left a.toNat b.toNat
  refine ⟨(k : Int), ?_⟩
  have e : ((a.toNat : Nat) : Int) = ((Nat.gcd a.toNat b.toNat * k : Nat) : Int) := congrArg _ hk
  rw [Int.natCast_mul, Int.toNat_of_nonneg ha] at e
  exact e
theorem gd_x {a : Int} (b : Int) (ha : 0 < a) : gd a b * (a / gd a b) = a := by
  obtain ⟨k, hk⟩ := gd_dv b (Int.le_of_lt ha)
  have g := gd_p (b := b) ha
  have q : a / gd a b = k := by
    have z := Int.mul_ediv_cancel_left k (Int.ne_of_gt g)
    rw [← hk] at z; exact z
  rw [q]; exact hk.symm
theorem rd_eq {t l t' l' : Int} (ht : 0 < t) (ht' : 0 < t') (hl : 0 ≤ l) (hl' : 0 ≤ l') (e : t * l' = t' * l) : t / gd t l = t' / gd t' l' ∧ l / gd t l = l' / gd t' l' := by
  have g := gd_p (b := l) ht
  have g' := gd_p (b := l') ht'
  have k : t * gd t' l' = t' * gd t l := by
    rw [← gd_m (Int.le_of_lt ht) (Int.le_of_lt ht') hl', ← gd_m (Int.le_of_lt ht') (Int.le_of_lt ht) hl, e, Int.mul_comm t t']
  refine ⟨sc_div g g' ?_, sc_div g g' ?_⟩
  · rw [Int.mul_comm (gd t l), Int.mul_comm (gd t' l')]; exact k.symm
  · refine Int.eq_of_mul_eq_mul_left (Int.ne_of_gt ht) ?_
    have k1 : t * (gd t l * l') = gd t l * (t * l') := by ac_rfl
    have k2 : t * (gd t' l' * l) = l * (t * gd t' l') := by ac_rfl
    rw [k1, k2, e, k]; ac_rfl
/-- Euclid's steps: few -/
def cdI (a b x y i : Int) : Prop := (0 ≤ x ∧ 0 ≤ y) ∧ gd x y = gd a b ∧ ((i = 0 ∧ x ≤ 1600000000 ∧ y ≤ 1600000000) ∨ (1 ≤ i ∧ y ≤ x ∧ x * y * (2 : Int) ^ (i - 1).toNat ≤ 4611686018427387904))
theorem cdI_s {a b x y i r : Int} (I : cdI a b x y i) (hy : y ≠ 0) (hi : 0 ≤ i) (e : x % y = r) : cdI a b y r (i + 1) := by
  obtain ⟨⟨x0, y0⟩, g, c⟩ := I
  have y1 : 0 < y := by omega
  have r0 := Int.emod_nonneg x hy
  have r1 := Int.emod_lt_of_pos x y1
  rw [e] at r0 r1
  refine ⟨⟨y0, r0⟩, by rw [← e, gd_s x0 y0]; exact g, Or.inr ⟨by omega, by omega, ?_⟩⟩
  rw [show i + 1 - 1 = i by omega]
  rcases c with ⟨i0, xw, yw⟩ | ⟨i1, yx, p⟩
  · subst i0
    have m := mul_bd y0 yw r0 (show r ≤ 1600000000 by omega)
    show y * r * (2 : Int) ^ 0 ≤ _
    rw [Int.pow_zero, Int.mul_one]
    omega
  · have hr : 2 * r ≤ x := by
      have d := Int.emod_def x y
      rw [e] at d
      have q : 1 ≤ x / y := Int.le_ediv_of_mul_le y1 (by omega)
      have m := Int.mul_le_mul_of_nonneg_left q y0
      omega
    have m := Int.mul_le_mul_of_nonneg_left hr y0
    have k : i.toNat = (i - 1).toNat + 1 := by omega
    rw [k, Int.pow_succ]
    have p2 : (0 : Int) ≤ (2 : Int) ^ (i - 1).toNat := Int.le_of_lt (Int.pow_pos (by decide))
    have m2 := Int.mul_le_mul_of_nonneg_right m p2
    have k1 : y * r * ((2 : Int) ^ (i - 1).toNat * 2) = y * (2 * r) * (2 : Int) ^ (i - 1).toNat := by ac_rfl
    rw [k1]
    rw [Int.mul_comm y x] at m2
    omega
theorem cdI_e {a b x y i : Int} (I : cdI a b x y i) (h : i = 200 ∨ y = 0) : gd a b = x := by
  obtain ⟨⟨x0, y0⟩, g, c⟩ := I
  have yz : y = 0 := by
    rcases h with z | z
    · subst z
      rcases c with ⟨z, _⟩ | ⟨_, yx, p⟩
      · omega
      · by_cases q : y = 0
        · exact q
        · exfalso
          have m := Int.mul_le_mul (show 1 ≤ x by omega) (show 1 ≤ y by omega) (by decide) x0
          have p2 : (0 : Int) ≤ (2 : Int) ^ (200 - 1 : Int).toNat := Int.le_of_lt (Int.pow_pos (by decide))
          have m2 := Int.mul_le_mul_of_nonneg_right m p2
          have k : (4611686018427387904 : Int) < (2 : Int) ^ (200 - 1 : Int).toNat := by decide
          omega
    · exact z
  rw [← g, yz, gd_0 x0]
abbrev P_X11_commonDivisor4 (h0 : m_H) (a0 a1 : Int) : Int → m_H → Prop := fun x h' => GI h' ∧ FR [] [] h0 h' ∧ gd a0 a1 = x
def q_X11_commonDivisor4 (h0 : m_H) (a0 a1 : Int) (n : Nat) : Prop := (∀ (l4 l6 l8 : Int) (h : m_H), GI h → FR [] [] h0 h → 0 ≤ l8 → l8 ≤ 200 → (cdI a0 a1 l4 l6 l8) → 2 * (200 - l8) + (1) ≤ (n : Int) → m_Z oF M_X11_commonDivisor 9 [none, none, none, none, some (mJ l4), none, some (mJ l6), none, some (mI l8), none, none] [] h (m_QJ (P_X11_commonDivisor4 h0 a0 a1)))
set_option maxHeartbeats 4000000 in
set_option maxRecDepth 100000 in
theorem s_X11_commonDivisor4_9 (h0 : m_H) (a0 a1 : Int) (G0 : GI h0) (p0 : 0 ≤ a0 ∧ a0 ≤ 1600000000) (p1 : 0 ≤ a1 ∧ a1 ≤ 1600000000) (n : Nat) (ih : q_X11_commonDivisor4 h0 a0 a1 n) : ∀ (l4 l6 l8 : Int) (h : m_H), GI h → FR [] [] h0 h → 0 ≤ l8 → l8 ≤ 200 → (cdI a0 a1 l4 l6 l8) → 2 * (200 - l8) + (1) ≤ ((n + 1 : Nat) : Int) → m_Z oF M_X11_commonDivisor 9 [none, none, none, none, some (mJ l4), none, some (mJ l6), none, some (mI l8), none, none] [] h (m_QJ (P_X11_commonDivisor4 h0 a0 a1)) := by
  intro l4 l6 l8 h G R v0 v1 i0 hr
  have i1 := i0.1
  refine z_iload (M := M_X11_commonDivisor) 9 dX11_commonDivisor_9 rfl ?_
  refine z_sipush (M := M_X11_commonDivisor) 11 dX11_commonDivisor_11 ?_
  refine z_icmp_ge (M := M_X11_commonDivisor) 14 dX11_commonDivisor_14 45 rfl (fun c1 => ?_) (fun c1 => ?_)
  · refine z_lload (M := M_X11_commonDivisor) 45 dX11_commonDivisor_45 rfl ?_
    exact z_retJ (M := M_X11_commonDivisor) 47 dX11_commonDivisor_47 rfl ⟨G, R, cdI_e i0 (Or.inl (by omega))⟩
  · refine z_lload (M := M_X11_commonDivisor) 17 dX11_commonDivisor_17 rfl ?_
    refine z_lconst (M := M_X11_commonDivisor) 19 dX11_commonDivisor_19 (v := 0) ?_
    refine z_lcmp (M := M_X11_commonDivisor) 20 dX11_commonDivisor_20 ?_
    refine z_if_eq (M := M_X11_commonDivisor) 21 dX11_commonDivisor_21 45 rfl (fun c2 => ?_) (fun c2 => ?_)
    · rw [m_cmp_eq] at c2
      refine z_lload (M := M_X11_commonDivisor) 45 dX11_commonDivisor_45 rfl ?_
      exact z_retJ (M := M_X11_commonDivisor) 47 dX11_commonDivisor_47 rfl ⟨G, R, cdI_e i0 (Or.inr (by omega))⟩
    · rw [m_cmp_eq] at c2
      refine z_lload (M := M_X11_commonDivisor) 24 dX11_commonDivisor_24 rfl ?_
      refine z_lload (M := M_X11_commonDivisor) 26 dX11_commonDivisor_26 rfl ?_
      refine z_lremN (M := M_X11_commonDivisor) 28 dX11_commonDivisor_28 (by omega) (by omega) ?_
      refine z_topJ (fun x3 ex3 => ?_)
      refine z_lstore (M := M_X11_commonDivisor) 29 dX11_commonDivisor_29 (ls' := [none, none, none, none, some (mJ l4), none, some (mJ l6), none, some (mI l8), some (mJ x3), none]) (by decide) rfl ?_
      refine z_lload (M := M_X11_commonDivisor) 31 dX11_commonDivisor_31 rfl ?_
      refine z_lstore (M := M_X11_commonDivisor) 33 dX11_commonDivisor_33 (ls' := [none, none, none, none, some (mJ l6), none, some (mJ l6), none, some (mI l8), some (mJ x3), none]) (by decide) rfl ?_
      refine z_lload (M := M_X11_commonDivisor) 35 dX11_commonDivisor_35 rfl ?_
      refine z_lstore (M := M_X11_commonDivisor) 37 dX11_commonDivisor_37 (ls' := [none, none, none, none, some (mJ l6), none, some (mJ x3), none, some (mI l8), some (mJ x3), none]) (by decide) rfl ?_
      refine z_iincN (M := M_X11_commonDivisor) 39 dX11_commonDivisor_39 (ls' := [none, none, none, none, some (mJ l6), none, some (mJ x3), none, some (mI (l8 + 1)), some (mJ x3), none]) (by decide) rfl (by (unfold m_32; decide)) (by omega) (by omega) rfl ?_
      refine z_goto (M := M_X11_commonDivisor) 42 dX11_commonDivisor_42 9 rfl ?_
      exact z_mask [false, false, false, false, true, false, true, false, true, false, false] rfl (ih l6 x3 (l8 + 1) h G R (by omega) (by omega) (cdI_s i0 (by omega) (by omega) ex3) (by omega))
theorem a_X11_commonDivisor4 (h0 : m_H) (a0 a1 : Int) (G0 : GI h0) (p0 : 0 ≤ a0 ∧ a0 ≤ 1600000000) (p1 : 0 ≤ a1 ∧ a1 ≤ 1600000000) : ∀ n, q_X11_commonDivisor4 h0 a0 a1 n := by
  intro n
  induction n with
  | zero => unfold q_X11_commonDivisor4; intros; omega
  | succ n ih => exact s_X11_commonDivisor4_9 h0 a0 a1 G0 p0 p1 n ih
set_option maxHeartbeats 4000000 in
set_option maxRecDepth 100000 in
theorem c_X11_commonDivisor4 (h0 : m_H) (a0 a1 : Int) (G0 : GI h0) (p0 : 0 ≤ a0 ∧ a0 ≤ 1600000000) (p1 : 0 ≤ a1 ∧ a1 ≤ 1600000000) : m_CJ M_X11_commonDivisor [mJ a0, mJ a1] h0 (P_X11_commonDivisor4 h0 a0 a1) := by
  refine m_CJ_of ⟨by decide, rfl, by simp [m_arg, m_isL, M_X11_commonDivisor], ⟨rfl, rfl⟩, rfl, rfl⟩ (ls := [some (mJ a0), none, some (mJ a1), none, none, none, none, none, none, none, none]) rfl ?_
  have ih := a_X11_commonDivisor4 h0 a0 a1 G0 p0 p1 408
  refine z_lload_n (M := M_X11_commonDivisor) 0 dX11_commonDivisor_0 rfl ?_
  refine z_lstore (M := M_X11_commonDivisor) 1 dX11_commonDivisor_1 (ls' := [some (mJ a0), none, some (mJ a1), none, some (mJ a0), none, none, none, none, none, none]) (by decide) rfl ?_
  refine z_lload_n (M := M_X11_commonDivisor) 3 dX11_commonDivisor_3 rfl ?_
  refine z_lstore (M := M_X11_commonDivisor) 4 dX11_commonDivisor_4 (ls' := [some (mJ a0), none, some (mJ a1), none, some (mJ a0), none, some (mJ a1), none, none, none, none]) (by decide) rfl ?_
  refine z_iconst (M := M_X11_commonDivisor) 6 dX11_commonDivisor_6 ?_
  refine z_istore (M := M_X11_commonDivisor) 7 dX11_commonDivisor_7 (ls' := [some (mJ a0), none, some (mJ a1), none, some (mJ a0), none, some (mJ a1), none, some (mI 0), none, none]) (by decide) rfl ?_
  exact z_mask [false, false, false, false, true, false, true, false, true, false, false] rfl (ih a0 a1 0 h0 G0 (FR.rf (cs := []) (ss := []) (h := h0)) (by omega) (by omega) ⟨⟨by omega, by omega⟩, rfl, Or.inl ⟨rfl, by omega, by omega⟩⟩ (by omega))
abbrev P_X7_isTheSame4 (h0 : m_H) : Int → m_H → Prop := fun x h' => GI h' ∧ FR [] [] h0 h' ∧ 0 ≤ x ∧ x ≤ 1 ∧ (x = 1 ↔ (bd h0 95).1 * (bd h0 94).1 = (bd h0 95).2.1 * (bd h0 94).2.1)
set_option maxHeartbeats 4000000 in
set_option maxRecDepth 100000 in
theorem c_X7_isTheSame4 (h0 : m_H) (G0 : GI h0) (q95 : (0 < h0 95 0 ∧ h0 95 0 ≤ 1600000000) ∧ 0 ≤ h0 95 1 ∧ h0 95 1 ≤ 1600000000) (q94 : (0 < h0 94 0 ∧ h0 94 0 ≤ 1600000000) ∧ 0 ≤ h0 94 1 ∧ h0 94 1 ≤ 1600000000) : m_CI M_X7_isTheSame [mR 93] h0 (P_X7_isTheSame4 h0) := by
  refine m_CI_of ⟨by decide, rfl, by simp [m_arg, m_isL, M_X7_isTheSame], ⟨rfl, rfl⟩, rfl, rfl⟩ (ls := [some (mR 93)]) rfl ?_
  refine z_aload_n (M := M_X7_isTheSame) 0 dX7_isTheSame_0 rfl ?_
  refine z_getR (M := M_X7_isTheSame) 1 dX7_isTheSame_1 f_X7_18 o_93 rfl (g_93_1 G0) ?_
  refine z_getJV (M := M_X7_isTheSame) 4 dX7_isTheSame_4 f_X7_33 o_95 rfl (fun x1 ex1 => ?_)
  rw [ex1] at q95
  refine z_aload_n (M := M_X7_isTheSame) 7 dX7_isTheSame_7 rfl ?_
  refine z_getR (M := M_X7_isTheSame) 8 dX7_isTheSame_8 f_X7_12 o_93 rfl (g_93_0 G0) ?_
  refine z_getJV (M := M_X7_isTheSame) 11 dX7_isTheSame_11 f_X7_33 o_94 rfl (fun x2 ex2 => ?_)
  rw [ex2] at q94
  have mx3 := mul_bd (x := x1) (y := x2) (X := 1600000000) (Y := 1600000000) (by omega) (by omega) (by omega) (by omega)
  refine z_lmulN (M := M_X7_isTheSame) 14 dX7_isTheSame_14 (by omega) (by omega) ?_
  refine z_topBJ (lo := 0) (hi := 2560000000000000000) ⟨by omega, by omega⟩ (fun x3 ex3 ax3 bx3 => ?_)
  refine z_aload_n (M := M_X7_isTheSame) 15 dX7_isTheSame_15 rfl ?_
  refine z_getR (M := M_X7_isTheSame) 16 dX7_isTheSame_16 f_X7_18 o_93 rfl (g_93_1 G0) ?_
  refine z_getJV (M := M_X7_isTheSame) 19 dX7_isTheSame_19 f_X7_29 o_95 rfl (fun x4 ex4 => ?_)
  rw [ex4] at q95
  refine z_aload_n (M := M_X7_isTheSame) 22 dX7_isTheSame_22 rfl ?_
  refine z_getR (M := M_X7_isTheSame) 23 dX7_isTheSame_23 f_X7_12 o_93 rfl (g_93_0 G0) ?_
  refine z_getJV (M := M_X7_isTheSame) 26 dX7_isTheSame_26 f_X7_29 o_94 rfl (fun x5 ex5 => ?_)
  rw [ex5] at q94
  have mx6 := mul_bd (x := x4) (y := x5) (X := 1600000000) (Y := 1600000000) (by omega) (by omega) (by omega) (by omega)
  refine z_lmulN (M := M_X7_isTheSame) 29 dX7_isTheSame_29 (by omega) (by omega) ?_
  refine z_topBJ (lo := 0) (hi := 2560000000000000000) ⟨by omega, by omega⟩ (fun x6 ex6 ax6 bx6 => ?_)
  refine z_lcmp (M := M_X7_isTheSame) 30 dX7_isTheSame_30 ?_
  refine z_if_ne (M := M_X7_isTheSame) 31 dX7_isTheSame_31 38 rfl (fun c7 => ?_) (fun c7 => ?_)
  · rw [m_cmp_eq] at c7
    refine z_iconst (M := M_X7_isTheSame) 38 dX7_isTheSame_38 ?_
    exact z_retZ (M := M_X7_isTheSame) 39 dX7_isTheSame_39 rfl (by omega) ⟨G0, (FR.rf (cs := []) (ss := []) (h := h0)), by omega, by omega, ⟨fun z => absurd z (by decide), fun z => absurd ((show h0 95 0 * h0 94 0 = h0 95 1 * h0 94 1 ↔ x3 = x6 by rw [ex1, ex2, ex4, ex5, ex3, ex6]).mp z) c7⟩⟩
  · rw [m_cmp_eq] at c7
    refine z_iconst (M := M_X7_isTheSame) 34 dX7_isTheSame_34 ?_
    refine z_goto (M := M_X7_isTheSame) 35 dX7_isTheSame_35 39 rfl ?_
    exact z_retZ (M := M_X7_isTheSame) 39 dX7_isTheSame_39 rfl (by omega) ⟨G0, (FR.rf (cs := []) (ss := []) (h := h0)), by omega, by omega, ⟨fun _ => (show h0 95 0 * h0 94 0 = h0 95 1 * h0 94 1 ↔ x3 = x6 by rw [ex1, ex2, ex4, ex5, ex3, ex6]).mpr (by omega), fun _ => rfl⟩⟩
def ptK (r : Nat → Int) (a b w : Int) : Prop := (0 ≤ w ∧ w ≤ 1) ∧ thr r a ∧ thr r b ∧ ¬ gain (bR r)
def ptV (B C : Int × Int × Int) (w x : Int) : Prop := (¬ C.1 * B.1 = C.2.1 * B.2.1 ∧ x = 0) ∨ (C.1 * B.1 = C.2.1 * B.2.1 ∧ ((w = 0 ∧ C.1 / gd C.1 C.2.1 = x) ∨ (w = 1 ∧ C.2.1 / gd C.1 C.2.1 = x)))
def ptQ (r : Nat → Int) (a b w x : Int) : Prop := (¬ ptK r a b w ∧ x = -2) ∨ (ptK r a b w ∧ ∃ B, BW (bR r) b.toNat a.toNat B ∧ ((B.2.1 = 0 ∧ x = 0) ∨ (B.2.1 ≠ 0 ∧ ∃ C, BW (bR r) a.toNat b.toNat C ∧ ptV B C w x)))
theorem pt_same {Ls : List gE} (hE : ∀ e ∈ Ls, gEo e) {a b : Nat} {B B' C C' : Int × Int × Int} (h : BW Ls b a B) (h' : BW Ls b a B') (g : BW Ls a b C) (g' : BW Ls a b C') (e : C.1 * B.1 = C.2.1 * B.2.1) : C'.1 * B'.1 = C'.2.1 * B'.2.1 := by
  have z1 := (BW_eq hE h h').2.1
  have z2 := (BW_eq hE g g').2.1
  have p : 0 < C.1 * B.1 := Int.mul_pos g.1.1 h.1.1
  have k1 : (C.1 * B.1) * (C'.2.1 * B'.2.1) = (C.1 * C'.2.1) * (B.1 * B'.2.1) := by ac_rfl
  have k2 : (C'.1 * C.2.1) * (B'.1 * B.2.1) = (C.2.1 * B.2.1) * (C'.1 * B'.1) := by ac_rfl
  rw [z1, z2, k2, ← e] at k1
  exact (Int.eq_of_mul_eq_mul_left (Int.ne_of_gt p) k1).symm
theorem pt_eq {r : Nat → Int} (hE : ∀ e ∈ bR r, gEo e) {a b w x y : Int} (h : ptQ r a b w x) (h' : ptQ r a b w y) : x = y := by
  rcases h with ⟨n, e⟩ | ⟨K, B, bb, h⟩
  · rcases h' with ⟨_, e'⟩ | ⟨K', _⟩
    · omega
    · exact absurd K' n
  · rcases h' with ⟨n', _⟩ | ⟨_, B', bb', h'⟩
    · exact absurd K n'
    · have z := (BW_eq hE bb bb').1
      rcases h with ⟨e, q⟩ | ⟨e, C, cc, v⟩ <;> rcases h' with ⟨e', q'⟩ | ⟨e', C', cc', v'⟩
      · omega
      · exact absurd (z.mp e) e'
      · exact absurd (z.mpr e') e
      · have rd := rd_eq cc.1.1 cc'.1.1 cc.1.2 cc'.1.2 (BW_eq hE cc cc').2.1
        rcases v with ⟨s, q⟩ | ⟨s, q⟩ <;> rcases v' with ⟨s', q'⟩ | ⟨s', q'⟩
        · omega
        · exact absurd (pt_same hE bb' bb cc' cc s') s
        · exact absurd (pt_same hE bb bb' cc cc' s) s'
        · rcases q with ⟨w0, q⟩ | ⟨w0, q⟩ <;> rcases q' with ⟨w1, q'⟩ | ⟨w1, q'⟩
          · rw [← q, ← q']; exact rd.1
          · omega
          · omega
          · rw [← q, ← q']; exact rd.2
theorem LX.part {h h1 : m_H} {a b w x y : Int} {cs : List Nat} {ss : List (Nat × Nat)} (G : GI h) (N : NP h) (S1 : FR cs ss h h1) (A : ptQ (h 110) a b w x) (B : ptQ (h1 110) a b w y) (o : out 110 110 cs ss = true) : x = y := by
  rw [rowz S1 (fr_out o (by decide) (by decide))] at B
  exact pt_eq (bR_ok G N) A B
theorem pt_of {B C : Int × Int × Int} {r : Nat → Int} {a b w x : Int} (K : ptK r a b w) (b1 : BW (bR r) b.toNat a.toNat B) (c1 : BW (bR r) a.toNat b.toNat C) (v : ptV B C w x) : ptQ r a b w x := by
  by_cases q : B.2.1 = 0
  · refine Or.inr ⟨K, B, b1, Or.inl ⟨q, ?_⟩⟩
    rcases v with ⟨_, e⟩ | ⟨e, _⟩
    · exact e
    · have p : 0 < C.1 * B.1 := Int.mul_pos c1.1.1 b1.1.1
      rw [q, Int.mul_zero] at e
      omega
  · exact Or.inr ⟨K, B, b1, Or.inr ⟨q, C, c1, v⟩⟩
abbrev P_X11_part3 (h0 : m_H) (a1 a2 a3 : Int) : Int → m_H → Prop := fun x h' => GI h' ∧ FR (csB ++ [39, 40, 41]) [] h0 h' ∧ ptQ (h0 110) a1 a2 a3 x
set_option maxHeartbeats 4000000 in
set_option maxRecDepth 100000 in
theorem c_X11_part3 (h0 : m_H) (a1 a2 a3 : Int) (G0 : GI h0) (hR : LR 1 h0 (h0 110)) (hN : NP h0) : m_CJ M_X11_part [mR 0, mI a1, mI a2, mI a3] h0 (P_X11_part3 h0 a1 a2 a3) := by
  refine m_CJ_of ⟨by decide, rfl, by simp [m_arg, m_isL, M_X11_part], ⟨rfl, rfl⟩, rfl, rfl⟩ (ls := [some (mR 0), some (mI a1), some (mI a2), some (mI a3), none]) rfl ?_
  refine z_ok (fun _ _ ok => ?_)
  have oa1 : m_32 a1 := ok 1 _ rfl
  unfold m_32 at oa1
  have oa2 : m_32 a2 := ok 2 _ rfl
  unfold m_32 at oa2
  have oa3 : m_32 a3 := ok 3 _ rfl
  unfold m_32 at oa3
  refine z_iload_n (M := M_X11_part) 0 dX11_part_0 rfl ?_
  refine z_iconst (M := M_X11_part) 1 dX11_part_1 ?_
  refine z_iconst (M := M_X11_part) 2 dX11_part_2 ?_
  refine z_sI (M := M_X11_part) 3 dX11_part_3 t_X11_within l_X11_112 (m_rr_of rfl) (rest := []) (c_X11_within h0 a3 0 1 G0) rfl rfl (Nat.le_of_ble_eq_true rfl) ⟨rfl, rfl⟩ (fun x1 h1 qx1 => ?_)
  obtain ⟨rfl, ⟨rfl, cx1⟩ | ⟨rfl, cx1⟩⟩ := qx1
  · refine z_if_eq_F (M := M_X11_part) 6 dX11_part_6 18 rfl (by omega) ?_
    refine z_aload_n (M := M_X11_part) 9 dX11_part_9 rfl ?_
    refine z_iload_n (M := M_X11_part) 10 dX11_part_10 rfl ?_
    refine z_iload_n (M := M_X11_part) 11 dX11_part_11 rfl ?_
    refine z_vI (M := M_X11_part) 12 dX11_part_12 t_X11_compare l_X11_211 (m_rr_of rfl) (rest := []) (c_X11_compare2 h0 a1 a2 G0 hR hN) o_0 rfl rfl rfl (Nat.le_of_ble_eq_true rfl) ⟨rfl, rfl⟩ (fun x2 h2 qx2 => ?_)
    obtain ⟨G2, S2, ax2, bx2, fx2⟩ := qx2
    have R2 := (FR.rf (cs := (csB ++ [39, 40, 41])) (ss := []) (h := h0)).call S2 (by decide +kernel)
    refine z_if_ne (M := M_X11_part) 15 dX11_part_15 22 rfl (fun c3 => ?_) (fun c3 => ?_)
    · have k_ : ptK (h0 110) a1 a2 a3 := ⟨cx1, fx2.1.mp (by omega)⟩
      have p_ := fx2.2 (by omega)
      have pb1_ : (0 < h2 95 0 ∧ h2 95 0 ≤ 1600000000) ∧ 0 ≤ h2 95 1 ∧ h2 95 1 ≤ 1600000000 := p_.1.2.1
      have pb2_ : (0 < h2 94 0 ∧ h2 94 0 ≤ 1600000000) ∧ 0 ≤ h2 94 1 ∧ h2 94 1 ≤ 1600000000 := p_.2.2.1
      refine z_aload_n (M := M_X11_part) 22 dX11_part_22 rfl ?_
      refine z_getR (M := M_X11_part) 23 dX11_part_23 f_X11_53 o_0 rfl (g_0_7 G2) ?_
      refine z_vI (M := M_X11_part) 26 dX11_part_26 t_X7_isTheSame l_X11_261 (m_rr_of rfl) (rest := []) (c_X7_isTheSame4 h2 G2 pb1_ pb2_) o_93 rfl rfl rfl (Nat.le_of_ble_eq_true rfl) ⟨rfl, rfl⟩ (fun x4 h3 qx4 => ?_)
      obtain ⟨G3, S3, ax4, bx4, fx4⟩ := qx4
      have e3_ := frE S3
      have R3 := R2.call S3 (by decide +kernel)
      refine z_if_ne (M := M_X11_part) 29 dX11_part_29 34 rfl (fun c5 => ?_) (fun c5 => ?_)
      · refine z_aload_n (M := M_X11_part) 34 dX11_part_34 rfl ?_
        refine z_getR (M := M_X11_part) 35 dX11_part_35 f_X11_53 o_0 rfl (g_0_7 G3) ?_
        refine z_getR (M := M_X11_part) 38 dX11_part_38 f_X11_237 o_93 rfl (g_93_1 G3) ?_
        refine z_astore (M := M_X11_part) 41 dX11_part_41 (ls' := [some (mR 0), some (mI a1), some (mI a2), some (mI a3), some (mR 95)]) (by decide) rfl ?_
        refine z_iload_n (M := M_X11_part) 43 dX11_part_43 rfl ?_
        refine z_if_ne (M := M_X11_part) 44 dX11_part_44 55 rfl (fun c6 => ?_) (fun c6 => ?_)
        · refine z_aload (M := M_X11_part) 55 dX11_part_55 rfl ?_
          refine z_getJV (M := M_X11_part) 57 dX11_part_57 f_X11_268 o_95 rfl (fun x7 ex7 => ?_)
          have ex7' := ex7
          rw [e3_] at ex7'
          have u7_ := pb1_
          rw [ex7'] at u7_
          refine z_aload (M := M_X11_part) 60 dX11_part_60 rfl ?_
          refine z_getJV (M := M_X11_part) 62 dX11_part_62 f_X11_264 o_95 rfl (fun x8 ex8 => ?_)
          have ex8' := ex8
          rw [e3_] at ex8'
          rw [ex8'] at u7_
          refine z_aload (M := M_X11_part) 65 dX11_part_65 rfl ?_
          refine z_getJE (M := M_X11_part) 67 dX11_part_67 f_X11_268 o_95 rfl ex7 ?_
          refine z_sJ (M := M_X11_part) 70 dX11_part_70 t_X11_commonDivisor l_X11_271 (m_rr_of rfl) (rest := [mJ x7]) (c_X11_commonDivisor4 h3 x8 x7 G3 ⟨by omega, by omega⟩ ⟨by omega, by omega⟩) rfl rfl (Nat.le_of_ble_eq_true rfl) ⟨rfl, rfl⟩ (fun x9 h4 qx9 => ?_)
          obtain ⟨G4, S4, fx9⟩ := qx9
          have gp_ := gd_p (a := x8) (b := x7) (by omega)
          have R4 := R3.call S4 (by decide +kernel)
          refine z_sJ (M := M_X11_part) 73 dX11_part_73 t_X11_quotient l_X11_275 (m_rr_of rfl) (rest := []) (c_X11_quotientQ h4 x7 x9 G4 (by omega) (by omega)) rfl rfl (Nat.le_of_ble_eq_true rfl) ⟨rfl, rfl⟩ (fun x10 h5 qx10 => ?_)
          obtain ⟨G5, S5, fx10⟩ := qx10
          have R5 := R4.call S5 (by decide +kernel)
          exact z_retJ (M := M_X11_part) 76 dX11_part_76 rfl ⟨G5, R5, pt_of k_ p_.2.1 p_.1.1 (Or.inr ⟨fx4.mp (by omega), Or.inr ⟨by omega, by show h2 95 1 / gd (h2 95 0) (h2 95 1) = _; rw [ex7', ex8', fx9]; exact fx10⟩⟩)⟩
        · refine z_aload (M := M_X11_part) 47 dX11_part_47 rfl ?_
          refine z_getJV (M := M_X11_part) 49 dX11_part_49 f_X11_264 o_95 rfl (fun x11 ex11 => ?_)
          have ex11' := ex11
          rw [e3_] at ex11'
          have u7_ := pb1_
          rw [ex11'] at u7_
          refine z_goto (M := M_X11_part) 52 dX11_part_52 60 rfl ?_
          refine z_aload (M := M_X11_part) 60 dX11_part_60 rfl ?_
          refine z_getJE (M := M_X11_part) 62 dX11_part_62 f_X11_264 o_95 rfl ex11 ?_
          refine z_aload (M := M_X11_part) 65 dX11_part_65 rfl ?_
          refine z_getJV (M := M_X11_part) 67 dX11_part_67 f_X11_268 o_95 rfl (fun x12 ex12 => ?_)
          have ex12' := ex12
          rw [e3_] at ex12'
          rw [ex12'] at u7_
          refine z_sJ (M := M_X11_part) 70 dX11_part_70 t_X11_commonDivisor l_X11_271 (m_rr_of rfl) (rest := [mJ x11]) (c_X11_commonDivisor4 h3 x11 x12 G3 ⟨by omega, by omega⟩ ⟨by omega, by omega⟩) rfl rfl (Nat.le_of_ble_eq_true rfl) ⟨rfl, rfl⟩ (fun x13 h6 qx13 => ?_)
          obtain ⟨G6, S6, fx13⟩ := qx13
          have gp_ := gd_p (a := x11) (b := x12) (by omega)
          have R6 := R3.call S6 (by decide +kernel)
          refine z_sJ (M := M_X11_part) 73 dX11_part_73 t_X11_quotient l_X11_275 (m_rr_of rfl) (rest := []) (c_X11_quotientQ h6 x11 x13 G6 (by omega) (by omega)) rfl rfl (Nat.le_of_ble_eq_true rfl) ⟨rfl, rfl⟩ (fun x14 h7 qx14 => ?_)
          obtain ⟨G7, S7, fx14⟩ := qx14
          have R7 := R6.call S7 (by decide +kernel)
          exact z_retJ (M := M_X11_part) 76 dX11_part_76 rfl ⟨G7, R7, pt_of k_ p_.2.1 p_.1.1 (Or.inr ⟨fx4.mp (by omega), Or.inl ⟨by omega, by show h2 95 0 / gd (h2 95 0) (h2 95 1) = _; rw [ex11', ex12', fx13]; exact fx14⟩⟩)⟩
      · refine z_lconst (M := M_X11_part) 32 dX11_part_32 (v := 0) ?_
        exact z_retJ (M := M_X11_part) 33 dX11_part_33 rfl ⟨G3, R3, pt_of k_ p_.2.1 p_.1.1 (Or.inl ⟨fun z => absurd (fx4.mpr z) (by omega), rfl⟩)⟩
    · refine z_ldc2 (M := M_X11_part) 18 dX11_part_18 k_X11_259 ?_
      exact z_retJ (M := M_X11_part) 21 dX11_part_21 rfl ⟨G2, R2, Or.inl ⟨fun z => absurd (fx2.1.mpr z.2) (by omega), rfl⟩⟩
  · refine z_if_eq_T (M := M_X11_part) 6 dX11_part_6 18 rfl (by omega) ?_
    refine z_ldc2 (M := M_X11_part) 18 dX11_part_18 k_X11_259 ?_
    exact z_retJ (M := M_X11_part) 21 dX11_part_21 rfl ⟨G0, (FR.rf (cs := (csB ++ [39, 40, 41])) (ss := []) (h := h0)), Or.inl ⟨fun z => cx1 z.1, rfl⟩⟩
theorem vS_three {f : Nat → Int} {a : Nat} (hd : ∀ j, j < 5 → 0 ≤ f (a + j) ∧ f (a + j) ≤ 99999999) (h2 : vS f a 5 ≤ 25091827216) : f (a + 2) = 0 ∧ f a + 100000000 * f (a + 1) = vS f a 5 ∧ f (a + 1) ≤ 251 := by
  have d0 : 0 ≤ f a ∧ f a ≤ 99999999 := hd 0 (by omega)
  have d1 := hd 1 (by omega); have d2 := hd 2 (by omega); have d3 := hd 3 (by omega); have d4 := hd 4 (by omega)
  simp only [vS, Nat.add_zero] at h2 ⊢
  omega
abbrev P_X12_whole124x (h0 : m_H) (a1 : Int) : Int → m_H → Prop := fun x h' => GI h' ∧ FR [] [] h0 h' ∧ x = vS (h0 124) a1.toNat 5
set_option maxHeartbeats 4000000 in
set_option maxRecDepth 100000 in
theorem c_X12_whole124x (h0 : m_H) (a1 : Int) (G0 : GI h0) (pa1 : 0 ≤ a1 ∧ a1 ≤ 77) (h75 : a1 ≤ 75) (hv : vS (h0 124) a1.toNat 5 ≤ 25091827216) : m_CJ M_X12_whole [mR 124, mI a1] h0 (P_X12_whole124x h0 a1) := by
  refine m_CJ_of ⟨by decide, rfl, by simp [m_arg, m_isL, M_X12_whole], ⟨rfl, rfl⟩, rfl, rfl⟩ (ls := [some (mR 124), some (mI a1)]) rfl ?_
  refine z_aload_n (M := M_X12_whole) 0 dX12_whole_0 rfl ?_
  refine z_iload_n (M := M_X12_whole) 1 dX12_whole_1 rfl ?_
  refine z_laldG (M := M_X12_whole) 2 dX12_whole_2 o_124 (by omega) (by omega) (g_124 G0 (by omega)) (fun x1 ex1 ax1 bx1 => ?_)
  refine z_ldc2 (M := M_X12_whole) 3 dX12_whole_3 k_X12_327 ?_
  refine z_aload_n (M := M_X12_whole) 6 dX12_whole_6 rfl ?_
  refine z_iload_n (M := M_X12_whole) 7 dX12_whole_7 rfl ?_
  refine z_iconst (M := M_X12_whole) 8 dX12_whole_8 ?_
  refine z_iaddN (M := M_X12_whole) 9 dX12_whole_9 (by omega) (by omega) ?_
  refine z_laldG (M := M_X12_whole) 10 dX12_whole_10 o_124 (by omega) (by omega) (g_124 G0 (by omega)) (fun x2 ex2 ax2 bx2 => ?_)
  refine z_ldc2 (M := M_X12_whole) 11 dX12_whole_11 k_X12_327 ?_
  refine z_aload_n (M := M_X12_whole) 14 dX12_whole_14 rfl ?_
  refine z_iload_n (M := M_X12_whole) 15 dX12_whole_15 rfl ?_
  refine z_iconst (M := M_X12_whole) 16 dX12_whole_16 ?_
  refine z_iaddN (M := M_X12_whole) 17 dX12_whole_17 (by omega) (by omega) ?_
  refine z_laldG (M := M_X12_whole) 18 dX12_whole_18 o_124 (by omega) (by omega) (g_124 G0 (by omega)) (fun x3 ex3 ax3 bx3 => ?_)
  obtain ⟨t1_, t2_, t3_⟩ := vS_three (fun j hj => g_124 G0 (by omega)) hv
  rw [show a1.toNat + 2 = (a1 + 2).toNat by omega, ex3] at t1_
  rw [show a1.toNat + 1 = (a1 + 1).toNat by omega, ex2] at t3_
  rw [show a1.toNat + 1 = (a1 + 1).toNat by omega, ex1, ex2] at t2_
  refine z_lmulN (M := M_X12_whole) 19 dX12_whole_19 (by omega) (by omega) ?_
  refine z_laddN (M := M_X12_whole) 20 dX12_whole_20 (by omega) (by omega) ?_
  refine z_lmulN (M := M_X12_whole) 21 dX12_whole_21 (by omega) (by omega) ?_
  refine z_laddN (M := M_X12_whole) 22 dX12_whole_22 (by omega) (by omega) ?_
  exact z_retJ (M := M_X12_whole) 23 dX12_whole_23 rfl ⟨G0, (FR.rf (cs := []) (ss := []) (h := h0)), by rw [← t2_, t1_]; omega⟩
abbrev P_X12_whole125x (h0 : m_H) (a1 : Int) : Int → m_H → Prop := fun x h' => GI h' ∧ FR [] [] h0 h' ∧ x = vS (h0 125) a1.toNat 5
set_option maxHeartbeats 4000000 in
set_option maxRecDepth 100000 in
theorem c_X12_whole125x (h0 : m_H) (a1 : Int) (G0 : GI h0) (pa1 : 0 ≤ a1 ∧ a1 ≤ 77) (h75 : a1 ≤ 75) (hv : vS (h0 125) a1.toNat 5 ≤ 25091827216) : m_CJ M_X12_whole [mR 125, mI a1] h0 (P_X12_whole125x h0 a1) := by
  refine m_CJ_of ⟨by decide, rfl, by simp [m_arg, m_isL, M_X12_whole], ⟨rfl, rfl⟩, rfl, rfl⟩ (ls := [some (mR 125), some (mI a1)]) rfl ?_
  refine z_aload_n (M := M_X12_whole) 0 dX12_whole_0 rfl ?_
  refine z_iload_n (M := M_X12_whole) 1 dX12_whole_1 rfl ?_
  refine z_laldG (M := M_X12_whole) 2 dX12_whole_2 o_125 (by omega) (by omega) (g_125 G0 (by omega)) (fun x1 ex1 ax1 bx1 => ?_)
  refine z_ldc2 (M := M_X12_whole) 3 dX12_whole_3 k_X12_327 ?_
  refine z_aload_n (M := M_X12_whole) 6 dX12_whole_6 rfl ?_
  refine z_iload_n (M := M_X12_whole) 7 dX12_whole_7 rfl ?_
  refine z_iconst (M := M_X12_whole) 8 dX12_whole_8 ?_
  refine z_iaddN (M := M_X12_whole) 9 dX12_whole_9 (by omega) (by omega) ?_
  refine z_laldG (M := M_X12_whole) 10 dX12_whole_10 o_125 (by omega) (by omega) (g_125 G0 (by omega)) (fun x2 ex2 ax2 bx2 => ?_)
  refine z_ldc2 (M := M_X12_whole) 11 dX12_whole_11 k_X12_327 ?_
  refine z_aload_n (M := M_X12_whole) 14 dX12_whole_14 rfl ?_
  refine z_iload_n (M := M_X12_whole) 15 dX12_whole_15 rfl ?_
  refine z_iconst (M := M_X12_whole) 16 dX12_whole_16 ?_
  refine z_iaddN (M := M_X12_whole) 17 dX12_whole_17 (by omega) (by omega) ?_
  refine z_laldG (M := M_X12_whole) 18 dX12_whole_18 o_125 (by omega) (by omega) (g_125 G0 (by omega)) (fun x3 ex3 ax3 bx3 => ?_)
  obtain ⟨t1_, t2_, t3_⟩ := vS_three (fun j hj => g_125 G0 (by omega)) hv
  rw [show a1.toNat + 2 = (a1 + 2).toNat by omega, ex3] at t1_
  rw [show a1.toNat + 1 = (a1 + 1).toNat by omega, ex2] at t3_
  rw [show a1.toNat + 1 = (a1 + 1).toNat by omega, ex1, ex2] at t2_
  refine z_lmulN (M := M_X12_whole) 19 dX12_whole_19 (by omega) (by omega) ?_
  refine z_laddN (M := M_X12_whole) 20 dX12_whole_20 (by omega) (by omega) ?_
  refine z_lmulN (M := M_X12_whole) 21 dX12_whole_21 (by omega) (by omega) ?_
  refine z_laddN (M := M_X12_whole) 22 dX12_whole_22 (by omega) (by omega) ?_
  exact z_retJ (M := M_X12_whole) 23 dX12_whole_23 rfl ⟨G0, (FR.rf (cs := []) (ss := []) (h := h0)), by rw [← t2_, t1_]; omega⟩
abbrev P_X12_whole138x (h0 : m_H) (a1 : Int) : Int → m_H → Prop := fun x h' => GI h' ∧ FR [] [] h0 h' ∧ x = vS (h0 138) a1.toNat 5
set_option maxHeartbeats 4000000 in
set_option maxRecDepth 100000 in
theorem c_X12_whole138x (h0 : m_H) (a1 : Int) (G0 : GI h0) (pa1 : 0 ≤ a1 ∧ a1 ≤ 17) (h75 : a1 ≤ 15) (hv : vS (h0 138) a1.toNat 5 ≤ 25091827216) : m_CJ M_X12_whole [mR 138, mI a1] h0 (P_X12_whole138x h0 a1) := by
  refine m_CJ_of ⟨by decide, rfl, by simp [m_arg, m_isL, M_X12_whole], ⟨rfl, rfl⟩, rfl, rfl⟩ (ls := [some (mR 138), some (mI a1)]) rfl ?_
  refine z_aload_n (M := M_X12_whole) 0 dX12_whole_0 rfl ?_
  refine z_iload_n (M := M_X12_whole) 1 dX12_whole_1 rfl ?_
  refine z_laldG (M := M_X12_whole) 2 dX12_whole_2 o_138 (by omega) (by omega) (g_138 G0 (by omega)) (fun x1 ex1 ax1 bx1 => ?_)
  refine z_ldc2 (M := M_X12_whole) 3 dX12_whole_3 k_X12_327 ?_
  refine z_aload_n (M := M_X12_whole) 6 dX12_whole_6 rfl ?_
  refine z_iload_n (M := M_X12_whole) 7 dX12_whole_7 rfl ?_
  refine z_iconst (M := M_X12_whole) 8 dX12_whole_8 ?_
  refine z_iaddN (M := M_X12_whole) 9 dX12_whole_9 (by omega) (by omega) ?_
  refine z_laldG (M := M_X12_whole) 10 dX12_whole_10 o_138 (by omega) (by omega) (g_138 G0 (by omega)) (fun x2 ex2 ax2 bx2 => ?_)
  refine z_ldc2 (M := M_X12_whole) 11 dX12_whole_11 k_X12_327 ?_
  refine z_aload_n (M := M_X12_whole) 14 dX12_whole_14 rfl ?_
  refine z_iload_n (M := M_X12_whole) 15 dX12_whole_15 rfl ?_
  refine z_iconst (M := M_X12_whole) 16 dX12_whole_16 ?_
  refine z_iaddN (M := M_X12_whole) 17 dX12_whole_17 (by omega) (by omega) ?_
  refine z_laldG (M := M_X12_whole) 18 dX12_whole_18 o_138 (by omega) (by omega) (g_138 G0 (by omega)) (fun x3 ex3 ax3 bx3 => ?_)
  obtain ⟨t1_, t2_, t3_⟩ := vS_three (fun j hj => g_138 G0 (by omega)) hv
  rw [show a1.toNat + 2 = (a1 + 2).toNat by omega, ex3] at t1_
  rw [show a1.toNat + 1 = (a1 + 1).toNat by omega, ex2] at t3_
  rw [show a1.toNat + 1 = (a1 + 1).toNat by omega, ex1, ex2] at t2_
  refine z_lmulN (M := M_X12_whole) 19 dX12_whole_19 (by omega) (by omega) ?_
  refine z_laddN (M := M_X12_whole) 20 dX12_whole_20 (by omega) (by omega) ?_
  refine z_lmulN (M := M_X12_whole) 21 dX12_whole_21 (by omega) (by omega) ?_
  refine z_laddN (M := M_X12_whole) 22 dX12_whole_22 (by omega) (by omega) ?_
  exact z_retJ (M := M_X12_whole) 23 dX12_whole_23 rfl ⟨G0, (FR.rf (cs := []) (ss := []) (h := h0)), by rw [← t2_, t1_]; omega⟩
abbrev P_X12_common4 (h0 : m_H) (a0 a1 : Int) : Int → m_H → Prop := fun x h' => GI h' ∧ FR [] [] h0 h' ∧ gd a0 a1 = x
def q_X12_common4 (h0 : m_H) (a0 a1 : Int) (n : Nat) : Prop := (∀ (l4 l6 : Int) (h : m_H), GI h → FR [] [] h0 h → ((0 ≤ l4 ∧ 0 ≤ l6) ∧ gd l4 l6 = gd a0 a1) → 2 * (((l6.natAbs : Nat) : Int)) + (1) ≤ (n : Int) → m_Z oF M_X12_common 6 [none, none, none, none, some (mJ l4), none, some (mJ l6), none, none, none] [] h (m_QJ (P_X12_common4 h0 a0 a1)))
set_option maxHeartbeats 4000000 in
set_option maxRecDepth 100000 in
theorem s_X12_common4_6 (h0 : m_H) (a0 a1 : Int) (G0 : GI h0) (p0 : 0 ≤ a0) (p1 : 0 ≤ a1) (n : Nat) (ih : q_X12_common4 h0 a0 a1 n) : ∀ (l4 l6 : Int) (h : m_H), GI h → FR [] [] h0 h → ((0 ≤ l4 ∧ 0 ≤ l6) ∧ gd l4 l6 = gd a0 a1) → 2 * (((l6.natAbs : Nat) : Int)) + (1) ≤ ((n + 1 : Nat) : Int) → m_Z oF M_X12_common 6 [none, none, none, none, some (mJ l4), none, some (mJ l6), none, none, none] [] h (m_QJ (P_X12_common4 h0 a0 a1)) := by
  intro l4 l6 h G R i0 hr
  refine z_lload (M := M_X12_common) 6 dX12_common_6 rfl ?_
  refine z_lconst (M := M_X12_common) 8 dX12_common_8 (v := 0) ?_
  refine z_lcmp (M := M_X12_common) 9 dX12_common_9 ?_
  refine z_if_eq (M := M_X12_common) 10 dX12_common_10 31 rfl (fun c1 => ?_) (fun c1 => ?_)
  · rw [m_cmp_eq] at c1
    refine z_lload (M := M_X12_common) 31 dX12_common_31 rfl ?_
    exact z_retJ (M := M_X12_common) 33 dX12_common_33 rfl ⟨G, R, by rw [← i0.2, show l6 = 0 by omega, gd_0 i0.1.1]⟩
  · rw [m_cmp_eq] at c1
    refine z_lload (M := M_X12_common) 13 dX12_common_13 rfl ?_
    refine z_lload (M := M_X12_common) 15 dX12_common_15 rfl ?_
    refine z_lrem (M := M_X12_common) 17 dX12_common_17 (by omega) ?_
    refine z_topJ (fun x2 ex2 => ?_)
    have tm := tm_lt (by omega) ex2
    refine z_lstore (M := M_X12_common) 18 dX12_common_18 (ls' := [none, none, none, none, some (mJ l4), none, some (mJ l6), none, some (mJ x2), none]) (by decide) rfl ?_
    refine z_lload (M := M_X12_common) 20 dX12_common_20 rfl ?_
    refine z_lstore (M := M_X12_common) 22 dX12_common_22 (ls' := [none, none, none, none, some (mJ l6), none, some (mJ l6), none, some (mJ x2), none]) (by decide) rfl ?_
    refine z_lload (M := M_X12_common) 24 dX12_common_24 rfl ?_
    refine z_lstore (M := M_X12_common) 26 dX12_common_26 (ls' := [none, none, none, none, some (mJ l6), none, some (mJ x2), none, some (mJ x2), none]) (by decide) rfl ?_
    refine z_goto (M := M_X12_common) 28 dX12_common_28 6 rfl ?_
    exact z_mask [false, false, false, false, true, false, true, false, false, false] rfl (ih l6 x2 h G R ⟨⟨i0.1.2, by rw [← ex2, Int.tmod_eq_emod_of_nonneg i0.1.1]; exact Int.emod_nonneg _ (by omega)⟩, by rw [← ex2, Int.tmod_eq_emod_of_nonneg i0.1.1, gd_s i0.1.1 i0.1.2]; exact i0.2⟩ (by omega))
theorem a_X12_common4 (h0 : m_H) (a0 a1 : Int) (G0 : GI h0) (p0 : 0 ≤ a0) (p1 : 0 ≤ a1) : ∀ n, q_X12_common4 h0 a0 a1 n := by
  intro n
  induction n with
  | zero => unfold q_X12_common4; intros; omega
  | succ n ih => exact s_X12_common4_6 h0 a0 a1 G0 p0 p1 n ih
set_option maxHeartbeats 4000000 in
set_option maxRecDepth 100000 in
theorem c_X12_common4 (h0 : m_H) (a0 a1 : Int) (G0 : GI h0) (p0 : 0 ≤ a0) (p1 : 0 ≤ a1) : m_CJ M_X12_common [mJ a0, mJ a1] h0 (P_X12_common4 h0 a0 a1) := by
  refine m_CJ_of ⟨by decide, rfl, by simp [m_arg, m_isL, M_X12_common], ⟨rfl, rfl⟩, rfl, rfl⟩ (ls := [some (mJ a0), none, some (mJ a1), none, none, none, none, none, none, none]) rfl ?_
  have ih := a_X12_common4 h0 a0 a1 G0 p0 p1 18446744073709551624
  refine z_ok (fun _ _ ok => ?_)
  have oa1 : m_64 a1 := ok 2 _ rfl
  unfold m_64 at oa1
  refine z_lload_n (M := M_X12_common) 0 dX12_common_0 rfl ?_
  refine z_lstore (M := M_X12_common) 1 dX12_common_1 (ls' := [some (mJ a0), none, some (mJ a1), none, some (mJ a0), none, none, none, none, none]) (by decide) rfl ?_
  refine z_lload_n (M := M_X12_common) 3 dX12_common_3 rfl ?_
  refine z_lstore (M := M_X12_common) 4 dX12_common_4 (ls' := [some (mJ a0), none, some (mJ a1), none, some (mJ a0), none, some (mJ a1), none, none, none]) (by decide) rfl ?_
  exact z_mask [false, false, false, false, true, false, true, false, false, false] rfl (ih a0 a1 h0 G0 (FR.rf (cs := []) (ss := []) (h := h0)) ⟨⟨p0, p1⟩, rfl⟩ (by omega))
theorem pt_ref {L1 T1 L2 T2 : Int} (a : 0 < L1) (b : 0 < T1) (c : 0 < L2) (d : 0 < T2) : (T2 * T1 = L2 * L1 ↔ (L1 / gd L1 T1 = T2 / gd T2 L2 ∧ T1 / gd L1 T1 = L2 / gd T2 L2)) := by
  constructor
  · intro e
    exact rd_eq a d (Int.le_of_lt b) (Int.le_of_lt c) (by rw [Int.mul_comm L1 L2]; exact e.symm)
  · rintro ⟨e1, e2⟩
    have x1 := gd_x T1 a
    have x2 := gd_x L1 b
    have x3 := gd_x L2 d
    have x4 := gd_x T2 c
    rw [gd_c T1 L1, e2] at x2
    rw [e1] at x1
    rw [gd_c L2 T2] at x4
    generalize T2 / gd T2 L2 = p at *
    generalize L2 / gd T2 L2 = q at *
    generalize gd L1 T1 = u at *
    generalize gd T2 L2 = v at *
    rw [← x1, ← x2, ← x3, ← x4]
    ac_rfl
abbrev P_X12_part3 (h0 : m_H) (a1 a2 a3 : Int) : Int → m_H → Prop := fun x h' => GI h' ∧ FR [115, 116, 117, 118, 119, 120, 121, 122, 123, 124, 125, 126, 127, 128, 129, 130, 131, 132, 133, 134] [(108, 0), (108, 21)] h0 h' ∧ ptQ (h0 110) a1 a2 a3 x
set_option maxHeartbeats 4000000 in
set_option maxRecDepth 100000 in
theorem c_X12_part3 (h0 : m_H) (a1 a2 a3 : Int) (G0 : GI h0) (hN : NP h0) : m_CJ M_X12_part [mR 108, mI a1, mI a2, mI a3] h0 (P_X12_part3 h0 a1 a2 a3) := by
  refine m_CJ_of ⟨by decide, rfl, by simp [m_arg, m_isL, M_X12_part], ⟨rfl, rfl⟩, rfl, rfl⟩ (ls := [some (mR 108), some (mI a1), some (mI a2), some (mI a3), none, none, none, none, none, none, none, none, none, none, none, none]) rfl ?_
  refine z_ok (fun _ _ ok => ?_)
  have oa1 : m_32 a1 := ok 1 _ rfl
  unfold m_32 at oa1
  have oa2 : m_32 a2 := ok 2 _ rfl
  unfold m_32 at oa2
  have oa3 : m_32 a3 := ok 3 _ rfl
  unfold m_32 at oa3
  refine z_aload_n (M := M_X12_part) 0 dX12_part_0 rfl ?_
  refine z_iconst (M := M_X12_part) 1 dX12_part_1 ?_
  refine z_putIH (M := M_X12_part) 2 dX12_part_2 p_X12_133 o_108 rfl (u_108_0 G0) ((FR.rf (cs := [115, 116, 117, 118, 119, 120, 121, 122, 123, 124, 125, 126, 127, 128, 129, 130, 131, 132, 133, 134]) (ss := [(108, 0), (108, 21)]) (h := h0)).up rfl) (fun h1 E1 G1 R1 => ?_)
  refine z_iload_n (M := M_X12_part) 5 dX12_part_5 rfl ?_
  refine z_i2l (M := M_X12_part) 6 dX12_part_6 ?_
  refine z_lconst (M := M_X12_part) 7 dX12_part_7 (v := 0) ?_
  refine z_lconst (M := M_X12_part) 8 dX12_part_8 (v := 1) ?_
  refine z_sI (M := M_X12_part) 9 dX12_part_9 t_X12_in l_X12_143 (m_rr_of rfl) (rest := []) (c_X12_in h1 a3 0 1 G1) rfl rfl (Nat.le_of_ble_eq_true rfl) ⟨rfl, rfl⟩ (fun x1 h2 qx1 => ?_)
  obtain ⟨rfl, ⟨rfl, cx1⟩ | ⟨rfl, cx1⟩⟩ := qx1
  · refine z_if_eq_F (M := M_X12_part) 12 dX12_part_12 24 rfl (by omega) ?_
    refine z_aload_n (M := M_X12_part) 15 dX12_part_15 rfl ?_
    refine z_iload_n (M := M_X12_part) 16 dX12_part_16 rfl ?_
    refine z_iload_n (M := M_X12_part) 17 dX12_part_17 rfl ?_
    refine z_vI (M := M_X12_part) 18 dX12_part_18 t_X12_isAnswered l_X12_394 (m_rr_of rfl) (rest := []) (c_X12_isAnswered2 h1 a1 a2 G1 (NP.call hN R1 (fun _ => rfl) (fun _ => rfl) (fun _ => rfl))) o_108 rfl rfl rfl (Nat.le_of_ble_eq_true rfl) ⟨rfl, rfl⟩ (fun x2 h3 qx2 => ?_)
    obtain ⟨G3, S3, ax2, bx2, fx2_0, fx2_1⟩ := qx2
    have R3 := R1.call S3 (by decide +kernel)
    rw [(FR.row R1 (fun _ => rfl) : h1 110 = h0 110)] at fx2_1
    have e3_ : h3 110 = h0 110 := FR.row R3 (fun _ => rfl)
    refine z_if_ne (M := M_X12_part) 21 dX12_part_21 28 rfl (fun c3 => ?_) (fun c3 => ?_)
    · have an := fx2_0 (by omega)
      have an1 := an.1
      have an2 := an.2.1
      refine z_aload_n (M := M_X12_part) 28 dX12_part_28 rfl ?_
      refine z_iload_n (M := M_X12_part) 29 dX12_part_29 rfl ?_
      refine z_vV (M := M_X12_part) 30 dX12_part_30 t_X12_goFrom l_X12_397 (m_rr_of rfl) (rest := []) (c_X12_goFrom2 h3 a2 G3 ⟨by omega, by omega⟩ (NP.call hN R3 (fun _ => rfl) (fun _ => rfl) (fun _ => rfl)) (gG_f (gG_b an.2.2 R1 (fun _ => rfl)) R3 (fun _ => rfl))) o_108 rfl rfl rfl (Nat.le_of_ble_eq_true rfl) ⟨rfl, rfl⟩ (fun h4 qx4 => ?_)
      obtain ⟨G4, S4, fx4_0, fx4_1⟩ := qx4
      rw [e3_] at fx4_1
      have b_ := fx4_1 a1.toNat (by omega)
      have g_ := fx4_0 a1.toNat (by omega)
      have k_ : ptK (h0 110) a1 a2 a3 := ⟨cx1, fx2_1.mp (by omega)⟩
      have R4 := R3.call S4 (by decide +kernel)
      refine z_aload_n (M := M_X12_part) 33 dX12_part_33 rfl ?_
      refine z_getR (M := M_X12_part) 34 dX12_part_34 f_X12_70 o_108 rfl (g_108_32 G4) ?_
      refine z_iload_n (M := M_X12_part) 37 dX12_part_37 rfl ?_
      refine z_zaldG (M := M_X12_part) 38 dX12_part_38 o_127 (by omega) (by omega) (g_127 G4 (by omega)) (fun x5 ex5 ax5 bx5 => ?_)
      refine z_if_ne (M := M_X12_part) 39 dX12_part_39 44 rfl (fun c6 => ?_) (fun c6 => ?_)
      · have u_ := g_.2.2 (ex5.trans (by omega))
        have u1_ : 1 ≤ vS (h4 124) (5 * a1.toNat) 5 := u_.1.1
        have u2_ : vS (h4 124) (5 * a1.toNat) 5 ≤ 25091827216 := u_.1.2
        have u3_ : 1 ≤ vS (h4 125) (5 * a1.toNat) 5 := u_.2.1
        have u4_ : vS (h4 125) (5 * a1.toNat) 5 ≤ 25091827216 := u_.2.2
        rw [bOf_y ex5 (by omega)] at b_
        have a5_ : (5 * a1).toNat = 5 * a1.toNat := at5 (by omega)
        refine z_aload_n (M := M_X12_part) 44 dX12_part_44 rfl ?_
        refine z_getR (M := M_X12_part) 45 dX12_part_45 f_X12_61 o_108 rfl (g_108_29 G4) ?_
        refine z_iconst (M := M_X12_part) 48 dX12_part_48 ?_
        refine z_iload_n (M := M_X12_part) 49 dX12_part_49 rfl ?_
        refine z_imulN (M := M_X12_part) 50 dX12_part_50 (by omega) (by omega) ?_
        refine z_sJ (M := M_X12_part) 51 dX12_part_51 t_X12_whole l_X12_439 (m_rr_of rfl) (rest := []) (c_X12_whole124x h4 (5 * a1) G4 ⟨by omega, by omega⟩ (by omega) (by rw [a5_]; exact u2_)) rfl rfl (Nat.le_of_ble_eq_true rfl) ⟨rfl, rfl⟩ (fun x7 h5 qx7 => ?_)
        obtain ⟨G5, S5, fx7_0⟩ := qx7
        rw [a5_] at fx7_0
        have e5_ := frE S5
        have R5 := R4.call S5 (by decide +kernel)
        refine z_lstore (M := M_X12_part) 54 dX12_part_54 (ls' := [some (mR 108), some (mI a1), some (mI a2), some (mI a3), some (mJ x7), none, none, none, none, none, none, none, none, none, none, none]) (by decide) rfl ?_
        refine z_aload_n (M := M_X12_part) 56 dX12_part_56 rfl ?_
        refine z_getR (M := M_X12_part) 57 dX12_part_57 f_X12_64 o_108 rfl (g_108_30 G5) ?_
        refine z_iconst (M := M_X12_part) 60 dX12_part_60 ?_
        refine z_iload_n (M := M_X12_part) 61 dX12_part_61 rfl ?_
        refine z_imulN (M := M_X12_part) 62 dX12_part_62 (by omega) (by omega) ?_
        refine z_sJ (M := M_X12_part) 63 dX12_part_63 t_X12_whole l_X12_439 (m_rr_of rfl) (rest := []) (c_X12_whole125x h5 (5 * a1) G5 ⟨by omega, by omega⟩ (by omega) (by rw [a5_, e5_]; exact u4_)) rfl rfl (Nat.le_of_ble_eq_true rfl) ⟨rfl, rfl⟩ (fun x8 h6 qx8 => ?_)
        obtain ⟨G6, S6, fx8_0⟩ := qx8
        rw [a5_, e5_] at fx8_0
        rw [← fx7_0, ← fx8_0] at b_
        rw [← fx7_0] at u1_ u2_
        rw [← fx8_0] at u3_ u4_
        have R6 := R5.call S6 (by decide +kernel)
        refine z_lstore (M := M_X12_part) 66 dX12_part_66 (ls' := [some (mR 108), some (mI a1), some (mI a2), some (mI a3), some (mJ x7), none, some (mJ x8), none, none, none, none, none, none, none, none, none]) (by decide) rfl ?_
        refine z_lload (M := M_X12_part) 68 dX12_part_68 rfl ?_
        refine z_lload (M := M_X12_part) 70 dX12_part_70 rfl ?_
        refine z_sJ (M := M_X12_part) 72 dX12_part_72 t_X12_common l_X12_443 (m_rr_of rfl) (rest := []) (c_X12_common4 h6 x7 x8 G6 (by omega) (by omega)) rfl rfl (Nat.le_of_ble_eq_true rfl) ⟨rfl, rfl⟩ (fun x9 h7 qx9 => ?_)
        obtain ⟨G7, S7, fx9_0⟩ := qx9
        have gp_ := gd_p (a := x7) (b := x8) (by omega)
        have R7 := R6.call S7 (by decide +kernel)
        refine z_lstore (M := M_X12_part) 75 dX12_part_75 (ls' := [some (mR 108), some (mI a1), some (mI a2), some (mI a3), some (mJ x7), none, some (mJ x8), none, some (mJ x9), none, none, none, none, none, none, none]) (by decide) rfl ?_
        have du := (ga_dgi G4 fx4_0 (by omega) (by omega) ex5 (by omega)).1
        have wu := u1_
        have wc : x9 ≠ 0 := by omega
        have e7_ : h7 110 = h0 110 := FR.row R7 (fun _ => rfl)
        refine z_aload_n (M := M_X12_part) 77 dX12_part_77 rfl ?_
        refine z_iload_n (M := M_X12_part) 78 dX12_part_78 rfl ?_
        refine z_vV (M := M_X12_part) 79 dX12_part_79 t_X12_goFrom l_X12_397 (m_rr_of rfl) (rest := []) (c_X12_goFrom2 h7 a1 G7 ⟨by omega, by omega⟩ (NP.call hN R7 (fun _ => rfl) (fun _ => rfl) (fun _ => rfl)) (gG_f (gG_b an.2.2 R1 (fun _ => rfl)) R7 (fun _ => rfl))) o_108 rfl rfl rfl (Nat.le_of_ble_eq_true rfl) ⟨rfl, rfl⟩ (fun h8 qx10 => ?_)
        obtain ⟨G8, S8, fx10_0, fx10_1⟩ := qx10
        rw [e7_] at fx10_1
        have d_ := fx10_1 a2.toNat (by omega)
        have g2_ := fx10_0 a2.toNat (by omega)
        have R8 := R7.call S8 (by decide +kernel)
        refine z_aload_n (M := M_X12_part) 82 dX12_part_82 rfl ?_
        refine z_getR (M := M_X12_part) 83 dX12_part_83 f_X12_70 o_108 rfl (g_108_32 G8) ?_
        refine z_iload_n (M := M_X12_part) 86 dX12_part_86 rfl ?_
        refine z_zaldG (M := M_X12_part) 87 dX12_part_87 o_127 (by omega) (by omega) (g_127 G8 (by omega)) (fun x11 ex11 ax11 bx11 => ?_)
        refine z_if_ne (M := M_X12_part) 88 dX12_part_88 93 rfl (fun c12 => ?_) (fun c12 => ?_)
        · have v_ := g2_.2.2 (ex11.trans (by omega))
          have v1_ : 1 ≤ vS (h8 124) (5 * a2.toNat) 5 := v_.1.1
          have v2_ : vS (h8 124) (5 * a2.toNat) 5 ≤ 25091827216 := v_.1.2
          have v3_ : 1 ≤ vS (h8 125) (5 * a2.toNat) 5 := v_.2.1
          have v4_ : vS (h8 125) (5 * a2.toNat) 5 ≤ 25091827216 := v_.2.2
          rw [bOf_y ex11 (by omega)] at d_
          have a6_ : (5 * a2).toNat = 5 * a2.toNat := at5 (by omega)
          refine z_aload_n (M := M_X12_part) 93 dX12_part_93 rfl ?_
          refine z_getR (M := M_X12_part) 94 dX12_part_94 f_X12_61 o_108 rfl (g_108_29 G8) ?_
          refine z_iconst (M := M_X12_part) 97 dX12_part_97 ?_
          refine z_iload_n (M := M_X12_part) 98 dX12_part_98 rfl ?_
          refine z_imulN (M := M_X12_part) 99 dX12_part_99 (by omega) (by omega) ?_
          refine z_sJ (M := M_X12_part) 100 dX12_part_100 t_X12_whole l_X12_439 (m_rr_of rfl) (rest := []) (c_X12_whole124x h8 (5 * a2) G8 ⟨by omega, by omega⟩ (by omega) (by rw [a6_]; exact v2_)) rfl rfl (Nat.le_of_ble_eq_true rfl) ⟨rfl, rfl⟩ (fun x13 h9 qx13 => ?_)
          obtain ⟨G9, S9, fx13_0⟩ := qx13
          rw [a6_] at fx13_0
          have e9_ := frE S9
          have R9 := R8.call S9 (by decide +kernel)
          refine z_lstore (M := M_X12_part) 103 dX12_part_103 (ls' := [some (mR 108), some (mI a1), some (mI a2), some (mI a3), some (mJ x7), none, some (mJ x8), none, some (mJ x9), none, some (mJ x13), none, none, none, none, none]) (by decide) rfl ?_
          refine z_aload_n (M := M_X12_part) 105 dX12_part_105 rfl ?_
          refine z_getR (M := M_X12_part) 106 dX12_part_106 f_X12_64 o_108 rfl (g_108_30 G9) ?_
          refine z_iconst (M := M_X12_part) 109 dX12_part_109 ?_
          refine z_iload_n (M := M_X12_part) 110 dX12_part_110 rfl ?_
          refine z_imulN (M := M_X12_part) 111 dX12_part_111 (by omega) (by omega) ?_
          refine z_sJ (M := M_X12_part) 112 dX12_part_112 t_X12_whole l_X12_439 (m_rr_of rfl) (rest := []) (c_X12_whole125x h9 (5 * a2) G9 ⟨by omega, by omega⟩ (by omega) (by rw [a6_, e9_]; exact v4_)) rfl rfl (Nat.le_of_ble_eq_true rfl) ⟨rfl, rfl⟩ (fun x14 h10 qx14 => ?_)
          obtain ⟨G10, S10, fx14_0⟩ := qx14
          rw [a6_, e9_] at fx14_0
          rw [← fx13_0, ← fx14_0] at d_
          rw [← fx13_0] at v1_ v2_
          rw [← fx14_0] at v3_ v4_
          have R10 := R9.call S10 (by decide +kernel)
          refine z_lstore (M := M_X12_part) 115 dX12_part_115 (ls' := [some (mR 108), some (mI a1), some (mI a2), some (mI a3), some (mJ x7), none, some (mJ x8), none, some (mJ x9), none, some (mJ x13), none, some (mJ x14), none, none, none]) (by decide) rfl ?_
          refine z_lload (M := M_X12_part) 117 dX12_part_117 rfl ?_
          refine z_lload (M := M_X12_part) 119 dX12_part_119 rfl ?_
          refine z_sJ (M := M_X12_part) 121 dX12_part_121 t_X12_common l_X12_443 (m_rr_of rfl) (rest := []) (c_X12_common4 h10 x13 x14 G10 (by omega) (by omega)) rfl rfl (Nat.le_of_ble_eq_true rfl) ⟨rfl, rfl⟩ (fun x15 h11 qx15 => ?_)
          obtain ⟨G11, S11, fx15_0⟩ := qx15
          have gp2_ := gd_p (a := x13) (b := x14) (by omega)
          have R11 := R10.call S11 (by decide +kernel)
          refine z_lstore (M := M_X12_part) 124 dX12_part_124 (ls' := [some (mR 108), some (mI a1), some (mI a2), some (mI a3), some (mJ x7), none, some (mJ x8), none, some (mJ x9), none, some (mJ x13), none, some (mJ x14), none, some (mJ x15), none]) (by decide) rfl ?_
          have db := (ga_dgi G8 fx10_0 (by omega) (by omega) ex11 (by omega)).1
          have wb := v1_
          have wd : x15 ≠ 0 := by omega
          have pe_ := pt_ref (L1 := x7) (T1 := x8) (L2 := x13) (T2 := x14) (by omega) (by omega) (by omega) (by omega)
          rw [fx9_0, gd_c x14 x13, fx15_0] at pe_
          refine z_lload (M := M_X12_part) 126 dX12_part_126 rfl ?_
          refine z_lload (M := M_X12_part) 128 dX12_part_128 rfl ?_
          refine z_ldivN (M := M_X12_part) 130 dX12_part_130 (by omega) (by omega) ?_
          refine z_topJ (fun x16 ex16 => ?_)
          refine z_lload (M := M_X12_part) 131 dX12_part_131 rfl ?_
          refine z_lload (M := M_X12_part) 133 dX12_part_133 rfl ?_
          refine z_ldivN (M := M_X12_part) 135 dX12_part_135 (by omega) (by omega) ?_
          refine z_topJ (fun x17 ex17 => ?_)
          refine z_lcmp (M := M_X12_part) 136 dX12_part_136 ?_
          refine z_if_ne (M := M_X12_part) 137 dX12_part_137 154 rfl (fun c18 => ?_) (fun c18 => ?_)
          · rw [m_cmp_eq] at c18
            refine z_lconst (M := M_X12_part) 154 dX12_part_154 (v := 0) ?_
            exact z_retJ (M := M_X12_part) 155 dX12_part_155 rfl ⟨G11, R11, pt_of k_ b_ d_ (Or.inl ⟨fun z => absurd (by have y := (pe_.mp z).1; rw [ex16, ex17] at y; exact y) c18, rfl⟩)⟩
          · rw [m_cmp_eq] at c18
            refine z_lload (M := M_X12_part) 140 dX12_part_140 rfl ?_
            refine z_lload (M := M_X12_part) 142 dX12_part_142 rfl ?_
            refine z_ldivN (M := M_X12_part) 144 dX12_part_144 (by omega) (by omega) ?_
            refine z_topJ (fun x19 ex19 => ?_)
            refine z_lload (M := M_X12_part) 145 dX12_part_145 rfl ?_
            refine z_lload (M := M_X12_part) 147 dX12_part_147 rfl ?_
            refine z_ldivN (M := M_X12_part) 149 dX12_part_149 (by omega) (by omega) ?_
            refine z_topJ (fun x20 ex20 => ?_)
            refine z_lcmp (M := M_X12_part) 150 dX12_part_150 ?_
            refine z_if_eq (M := M_X12_part) 151 dX12_part_151 156 rfl (fun c21 => ?_) (fun c21 => ?_)
            · rw [m_cmp_eq] at c21
              refine z_iload_n (M := M_X12_part) 156 dX12_part_156 rfl ?_
              refine z_if_ne (M := M_X12_part) 157 dX12_part_157 168 rfl (fun c22 => ?_) (fun c22 => ?_)
              · refine z_lload (M := M_X12_part) 168 dX12_part_168 rfl ?_
                refine z_lload (M := M_X12_part) 170 dX12_part_170 rfl ?_
                refine z_ldivN (M := M_X12_part) 172 dX12_part_172 (by omega) (by omega) ?_
                refine z_topJ (fun x23 ex23 => ?_)
                exact z_retJ (M := M_X12_part) 173 dX12_part_173 rfl ⟨G11, R11, pt_of k_ b_ d_ (Or.inr ⟨(show x14 * x8 = x13 * x7 from pe_.mpr ⟨by rw [ex16, ex17]; omega, by rw [ex19, ex20]; omega⟩), Or.inr ⟨by omega, by show x13 / gd x14 x13 = _; rw [(show gd x14 x13 = x15 by rw [gd_c]; exact fx15_0), ex20, ← ex23, ex19]; omega⟩⟩)⟩
              · refine z_lload (M := M_X12_part) 160 dX12_part_160 rfl ?_
                refine z_lload (M := M_X12_part) 162 dX12_part_162 rfl ?_
                refine z_ldivN (M := M_X12_part) 164 dX12_part_164 (by omega) (by omega) ?_
                refine z_topJ (fun x24 ex24 => ?_)
                refine z_goto (M := M_X12_part) 165 dX12_part_165 173 rfl ?_
                exact z_retJ (M := M_X12_part) 173 dX12_part_173 rfl ⟨G11, R11, pt_of k_ b_ d_ (Or.inr ⟨(show x14 * x8 = x13 * x7 from pe_.mpr ⟨by rw [ex16, ex17]; omega, by rw [ex19, ex20]; omega⟩), Or.inl ⟨by omega, by show x14 / gd x14 x13 = _; rw [(show gd x14 x13 = x15 by rw [gd_c]; exact fx15_0), ex17, ← ex24, ex16]; omega⟩⟩)⟩
            · rw [m_cmp_eq] at c21
              refine z_lconst (M := M_X12_part) 154 dX12_part_154 (v := 0) ?_
              exact z_retJ (M := M_X12_part) 155 dX12_part_155 rfl ⟨G11, R11, pt_of k_ b_ d_ (Or.inl ⟨fun z => absurd (by have y := (pe_.mp z).2; rw [ex19, ex20] at y; exact y) c21, rfl⟩)⟩
        · refine z_lconst (M := M_X12_part) 91 dX12_part_91 (v := 0) ?_
          exact z_retJ (M := M_X12_part) 92 dX12_part_92 rfl ⟨G8, R8, pt_of k_ b_ (by have z := d_; rw [bOf_n ex11 (by omega)] at z; exact z) (Or.inl ⟨fun z => by have y : (1 : Int) * x8 = 0 * x7 := z; omega, rfl⟩)⟩
      · refine z_lconst (M := M_X12_part) 42 dX12_part_42 (v := 0) ?_
        exact z_retJ (M := M_X12_part) 43 dX12_part_43 rfl ⟨G4, R4, Or.inr ⟨k_, _, b_, Or.inl ⟨by rw [bOf_n ex5 (by omega)], rfl⟩⟩⟩
    · refine z_ldc2 (M := M_X12_part) 24 dX12_part_24 k_X12_437 ?_
      exact z_retJ (M := M_X12_part) 27 dX12_part_27 rfl ⟨G3, R3, Or.inl ⟨fun z => absurd (fx2_1.mpr z.2) (by omega), rfl⟩⟩
  · refine z_if_eq_T (M := M_X12_part) 12 dX12_part_12 24 rfl (by omega) ?_
    refine z_ldc2 (M := M_X12_part) 24 dX12_part_24 k_X12_437 ?_
    exact z_retJ (M := M_X12_part) 27 dX12_part_27 rfl ⟨G1, R1, Or.inl ⟨fun z => cx1 z.1, rfl⟩⟩
