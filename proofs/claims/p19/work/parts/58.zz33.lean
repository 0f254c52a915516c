/-! wide and share -/
def dg10 (g : Nat → Int) : Prop := ∀ j, j < 10 → 0 ≤ g j ∧ g j ≤ 99999999
def wdI (g f : Nat → Int) (a l c b : Int) : Prop := vS g 0 l.toNat + c * (100000000 : Int) ^ l.toNat = vS f a.toNat (min l.toNat 5) * b ∧ (0 ≤ c ∧ c ≤ b) ∧ ∀ j : Nat, (j : Int) < l → 0 ≤ g j ∧ g j ≤ 99999999
theorem wdI_0 {g f : Nat → Int} {a b : Int} (hb : 0 ≤ b) : wdI g f a 0 0 b := by
  refine ⟨?_, ⟨Int.le_refl _, hb⟩, fun j hj => by omega⟩
  show (0 : Int) + 0 * _ = 0 * b
  rw [Int.zero_mul, Int.zero_mul]; rfl
theorem wdI_s {h h' : m_H} {f : Nat → Int} {t : Nat} {a l c b m r c' : Int} (hl : 0 ≤ l) (I : wdI (h t) f a l c b) (hm : vS f a.toNat (min (l + 1).toNat 5) * b = vS f a.toNat (min l.toNat 5) * b + m * (100000000 : Int) ^ l.toNat) (mb : 0 ≤ m ∧ m ≤ 99999999 * b) (er : (m + c) % 100000000 = r) (eq : (m + c) / 100000000 = c') (E : h' = m_up h t l.toNat r) : wdI (h' t) f a (l + 1) c' b := by
  obtain ⟨i1, i2, i3⟩ := I
  have e1 : (l + 1).toNat = l.toNat + 1 := by omega
  refine ⟨?_, by omega, fun j hj => ?_⟩
  · rw [hm, ← i1, e1, vS_succ]
    have e4 : vS (h' t) 0 l.toNat = vS (h t) 0 l.toNat := vS_same (fun j hj => upN E (fun q => by have := q.2; omega))
    have e5 : h' t (0 + l.toNat) = r := by rw [Nat.zero_add]; exact upE E
    rw [e4, e5, Int.pow_succ]
    have e6 : m + c = r + 100000000 * c' := by omega
    generalize (100000000 : Int) ^ l.toNat = P at *
    have e0 : c' * (P * (100000000 : Int)) = 100000000 * c' * P := by
      rw [Int.mul_comm P 100000000, ← Int.mul_assoc, Int.mul_comm c']
    have e7 : (m + c) * P = r * P + 100000000 * c' * P := by rw [e6, Int.add_mul]
    rw [Int.add_mul] at e7
    omega
  · by_cases g : j = l.toNat
    · rw [g, upE E]; omega
    · rw [upN E (fun q => g q.2)]; exact i3 j (by omega)
theorem wdI_a {h h' : m_H} {f : Nat → Int} {t s : Nat} {a l c b d m r c' : Int} (ha : 0 ≤ a) (hl : 0 ≤ l) (l5 : l ≤ 4) (hb : 0 ≤ b) (I : wdI (h t) f a l c b) (hf : ∀ j, h s j = f j) (ed : h s (a + l).toNat = d) (bd_ : 0 ≤ d ∧ d ≤ 99999999) (em : d * b = m) (er : (m + c) % 100000000 = r) (eq : (m + c) / 100000000 = c') (E : h' = m_up h t l.toNat r) : wdI (h' t) f a (l + 1) c' b := by
  refine wdI_s hl I ?_ ?_ er eq E
  · have e3 : (a + l).toNat = a.toNat + l.toNat := by omega
    rw [hf, e3] at ed
    rw [show min (l + 1).toNat 5 = l.toNat + 1 by omega, show min l.toNat 5 = l.toNat by omega, vS_succ, ed, Int.add_mul, ← em]
    have k : d * (100000000 : Int) ^ l.toNat * b = d * b * (100000000 : Int) ^ l.toNat := by ac_rfl
    rw [k]
  · have z := mul_bd bd_.1 bd_.2 hb (Int.le_refl b)
    omega
theorem wdI_b {h h' : m_H} {f : Nat → Int} {t : Nat} {a l c b r c' : Int} (hl : 5 ≤ l) (hb : 0 ≤ b) (I : wdI (h t) f a l c b) (er : (0 + c) % 100000000 = r) (eq : (0 + c) / 100000000 = c') (E : h' = m_up h t l.toNat r) : wdI (h' t) f a (l + 1) c' b := by
  refine wdI_s (by omega) I ?_ ⟨Int.le_refl _, by omega⟩ er eq E
  rw [show min (l + 1).toNat 5 = 5 by omega, show min l.toNat 5 = 5 by omega, Int.zero_mul, Int.add_zero]
theorem wd_end {g f : Nat → Int} {a l c b : Int} (e : l = 10) (hb : b ≤ 2000000000) (hf : ∀ j, j < 5 → 0 ≤ f (a.toNat + j) ∧ f (a.toNat + j) ≤ 99999999) (I : wdI g f a l c b) : dg10 g ∧ vS g 0 10 = vS f a.toNat 5 * b := by
  subst e
  obtain ⟨i1, i2, i3⟩ := I
  have d : dg10 g := fun j hj => i3 j (by omega)
  have hg := vS_bd (f := g) (a := 0) (n := 10) (fun j hj => by rw [Nat.zero_add]; exact d j hj)
  have hF := vS_bd (f := f) (a := a.toNat) (n := 5) hf
  have i1' : vS g 0 10 + c * (100000000 : Int) ^ 10 = vS f a.toNat 5 * b := i1
  have p5 : (100000000 : Int) ^ 5 = 10000000000000000000000000000000000000000 := by decide
  have p10 : (100000000 : Int) ^ 10 = 100000000000000000000000000000000000000000000000000000000000000000000000000000000 := by decide
  rw [p5] at hF
  rw [p10] at i1' hg
  have m := mul_bd hF.1 (Int.le_of_lt hF.2) (show 0 ≤ b by omega) hb
  refine ⟨d, ?_⟩
  have c0 : c = 0 := by omega
  rw [c0] at i1'
  omega
abbrev P_X12_wide80x (h0 : m_H) (t : Nat) (f : Nat) (a2 a3 : Int) : m_H → Prop := fun h' => GI h' ∧ FR [t] [] h0 h' ∧ dg10 (h' t) ∧ vS (h' t) 0 10 = vS (h0 f) a2.toNat 5 * a3
def q_X12_wide80x (h0 : m_H) (t : Nat) (f : Nat) (a2 a3 : Int) (n : Nat) : Prop := (∀ (l5 l7 : Int) (h : m_H), GI h → FR [t] [] h0 h → 0 ≤ l5 → l5 ≤ 2000000000 → 0 ≤ l7 → l7 ≤ 10 → (wdI (h t) (h0 f) a2 l7 l5 a3) → 2 * (10 - l7) + (1) ≤ (n : Int) → m_Z oF M_X12_wide 6 [some (mR t), some (mR f), some (mI a2), some (mJ a3), none, some (mJ l5), none, some (mI l7), none, none] [] h (m_QV (P_X12_wide80x h0 t f a2 a3)))
set_option maxHeartbeats 4000000 in
set_option maxRecDepth 100000 in
theorem s_X12_wide80x_6 (h0 : m_H) (t : Nat) (f : Nat) (a2 a3 : Int) (w_t : t = 135 ∨ t = 136) (w_f : f = 124 ∨ f = 125) (G0 : GI h0) (pa2 : 0 ≤ a2 ∧ a2 ≤ 75) (pa3 : 0 ≤ a3 ∧ a3 ≤ 2000000000) (n : Nat) (ih : q_X12_wide80x h0 t f a2 a3 n) : ∀ (l5 l7 : Int) (h : m_H), GI h → FR [t] [] h0 h → 0 ≤ l5 → l5 ≤ 2000000000 → 0 ≤ l7 → l7 ≤ 10 → (wdI (h t) (h0 f) a2 l7 l5 a3) → 2 * (10 - l7) + (1) ≤ ((n + 1 : Nat) : Int) → m_Z oF M_X12_wide 6 [some (mR t), some (mR f), some (mI a2), some (mJ a3), none, some (mJ l5), none, some (mI l7), none, none] [] h (m_QV (P_X12_wide80x h0 t f a2 a3)) := by
  intro l5 l7 h G R v0 v1 v2 v3 i0 hr
  refine z_iload (M := M_X12_wide) 6 dX12_wide_6 rfl ?_
  refine z_bipush (M := M_X12_wide) 8 dX12_wide_8 ?_
  refine z_icmp_ge (M := M_X12_wide) 10 dX12_wide_10 60 rfl (fun c1 => ?_) (fun c1 => ?_)
  · exact z_retV (M := M_X12_wide) 60 dX12_wide_60 rfl ⟨G, R, (wd_end (by omega) (by omega) (fun j hj => gC_124_125 w_f G0 (by omega)) i0).1, (wd_end (by omega) (by omega) (fun j hj => gC_124_125 w_f G0 (by omega)) i0).2⟩
  · refine z_iload (M := M_X12_wide) 13 dX12_wide_13 rfl ?_
    refine z_iconst (M := M_X12_wide) 15 dX12_wide_15 ?_
    refine z_icmp_ge (M := M_X12_wide) 16 dX12_wide_16 30 rfl (fun c2 => ?_) (fun c2 => ?_)
    · refine z_lconst (M := M_X12_wide) 30 dX12_wide_30 (v := 0) ?_
      refine z_lload (M := M_X12_wide) 31 dX12_wide_31 rfl ?_
      refine z_laddN (M := M_X12_wide) 33 dX12_wide_33 (by omega) (by omega) ?_
      refine z_lstore (M := M_X12_wide) 34 dX12_wide_34 (ls' := [some (mR t), some (mR f), some (mI a2), some (mJ a3), none, some (mJ l5), none, some (mI l7), some (mJ (0 + l5)), none]) (by decide) rfl ?_
      refine z_aload_n (M := M_X12_wide) 36 dX12_wide_36 rfl ?_
      refine z_iload (M := M_X12_wide) 37 dX12_wide_37 rfl ?_
      refine z_lload (M := M_X12_wide) 39 dX12_wide_39 rfl ?_
      refine z_ldc2 (M := M_X12_wide) 41 dX12_wide_41 k_X12_327 ?_
      refine z_lremN (M := M_X12_wide) 44 dX12_wide_44 (by omega) (by omega) ?_
      refine z_topBJ (lo := 0) (hi := 99999999) ⟨by omega, by omega⟩ (fun x3 ex3 ax3 bx3 => ?_)
      refine z_lastH (M := M_X12_wide) 45 dX12_wide_45 (oC_135_136 w_t) (by omega) (by omega) (uC_135_136 w_t G) (R.up (by simp [fr])) (fun h1 E1 G1 R1 => ?_)
      refine z_lload (M := M_X12_wide) 46 dX12_wide_46 rfl ?_
      refine z_ldc2 (M := M_X12_wide) 48 dX12_wide_48 k_X12_327 ?_
      refine z_ldivN (M := M_X12_wide) 51 dX12_wide_51 (by omega) (by omega) ?_
      refine z_topBJ (lo := 0) (hi := 20) ⟨by omega, by omega⟩ (fun x4 ex4 ax4 bx4 => ?_)
      refine z_lstore (M := M_X12_wide) 52 dX12_wide_52 (ls' := [some (mR t), some (mR f), some (mI a2), some (mJ a3), none, some (mJ x4), none, some (mI l7), some (mJ (0 + l5)), none]) (by decide) rfl ?_
      refine z_iincN (M := M_X12_wide) 54 dX12_wide_54 (ls' := [some (mR t), some (mR f), some (mI a2), some (mJ a3), none, some (mJ x4), none, some (mI (l7 + 1)), some (mJ (0 + l5)), none]) (by decide) rfl (by (unfold m_32; decide)) (by omega) (by omega) rfl ?_
      refine z_goto (M := M_X12_wide) 57 dX12_wide_57 6 rfl ?_
      exact z_mask [true, true, true, true, false, true, false, true, false, false] rfl (ih x4 (l7 + 1) h1 G1 R1 (by omega) (by omega) (by omega) (by omega) (wdI_b (by omega) (by omega) i0 ex3 ex4 E1) (by omega))
    · refine z_aload_n (M := M_X12_wide) 19 dX12_wide_19 rfl ?_
      refine z_iload_n (M := M_X12_wide) 20 dX12_wide_20 rfl ?_
      refine z_iload (M := M_X12_wide) 21 dX12_wide_21 rfl ?_
      refine z_iaddN (M := M_X12_wide) 23 dX12_wide_23 (by omega) (by omega) ?_
      refine z_laldG (M := M_X12_wide) 24 dX12_wide_24 (oC_124_125 w_f) (by omega) (by omega) (gC_124_125 w_f G (by omega)) (fun x5 ex5 ax5 bx5 => ?_)
      refine z_lload_n (M := M_X12_wide) 25 dX12_wide_25 rfl ?_
      have mx6 := mul_bd (x := x5) (y := a3) (X := 99999999) (Y := 2000000000) (by omega) (by omega) (by omega) (by omega)
      refine z_lmulN (M := M_X12_wide) 26 dX12_wide_26 (by omega) (by omega) ?_
      refine z_topBJ (lo := 0) (hi := 199999998000000000) ⟨by omega, by omega⟩ (fun x6 ex6 ax6 bx6 => ?_)
      refine z_goto (M := M_X12_wide) 27 dX12_wide_27 31 rfl ?_
      refine z_lload (M := M_X12_wide) 31 dX12_wide_31 rfl ?_
      refine z_laddN (M := M_X12_wide) 33 dX12_wide_33 (by omega) (by omega) ?_
      refine z_lstore (M := M_X12_wide) 34 dX12_wide_34 (ls' := [some (mR t), some (mR f), some (mI a2), some (mJ a3), none, some (mJ l5), none, some (mI l7), some (mJ (x6 + l5)), none]) (by decide) rfl ?_
      refine z_aload_n (M := M_X12_wide) 36 dX12_wide_36 rfl ?_
      refine z_iload (M := M_X12_wide) 37 dX12_wide_37 rfl ?_
      refine z_lload (M := M_X12_wide) 39 dX12_wide_39 rfl ?_
      refine z_ldc2 (M := M_X12_wide) 41 dX12_wide_41 k_X12_327 ?_
      refine z_lremN (M := M_X12_wide) 44 dX12_wide_44 (by omega) (by omega) ?_
      refine z_topBJ (lo := 0) (hi := 99999999) ⟨by omega, by omega⟩ (fun x7 ex7 ax7 bx7 => ?_)
      refine z_lastH (M := M_X12_wide) 45 dX12_wide_45 (oC_135_136 w_t) (by omega) (by omega) (uC_135_136 w_t G) (R.up (by simp [fr])) (fun h2 E2 G2 R2 => ?_)
      refine z_lload (M := M_X12_wide) 46 dX12_wide_46 rfl ?_
      refine z_ldc2 (M := M_X12_wide) 48 dX12_wide_48 k_X12_327 ?_
      refine z_ldivN (M := M_X12_wide) 51 dX12_wide_51 (by omega) (by omega) ?_
      refine z_topBJ (lo := 0) (hi := 2000000000) ⟨by omega, by omega⟩ (fun x8 ex8 ax8 bx8 => ?_)
      refine z_lstore (M := M_X12_wide) 52 dX12_wide_52 (ls' := [some (mR t), some (mR f), some (mI a2), some (mJ a3), none, some (mJ x8), none, some (mI l7), some (mJ (x6 + l5)), none]) (by decide) rfl ?_
      refine z_iincN (M := M_X12_wide) 54 dX12_wide_54 (ls' := [some (mR t), some (mR f), some (mI a2), some (mJ a3), none, some (mJ x8), none, some (mI (l7 + 1)), some (mJ (x6 + l5)), none]) (by decide) rfl (by (unfold m_32; decide)) (by omega) (by omega) rfl ?_
      refine z_goto (M := M_X12_wide) 57 dX12_wide_57 6 rfl ?_
      exact z_mask [true, true, true, true, false, true, false, true, false, false] rfl (ih x8 (l7 + 1) h2 G2 R2 (by omega) (by omega) (by omega) (by omega) (wdI_a (by omega) (by omega) (by omega) (by omega) i0 (fun j => R f j (by rcases w_f with rfl | rfl <;> rcases w_t with rfl | rfl <;> rfl)) ex5 ⟨by omega, by omega⟩ ex6 ex7 ex8 E2) (by omega))
theorem a_X12_wide80x (h0 : m_H) (t : Nat) (f : Nat) (a2 a3 : Int) (w_t : t = 135 ∨ t = 136) (w_f : f = 124 ∨ f = 125) (G0 : GI h0) (pa2 : 0 ≤ a2 ∧ a2 ≤ 75) (pa3 : 0 ≤ a3 ∧ a3 ≤ 2000000000) : ∀ n, q_X12_wide80x h0 t f a2 a3 n := by
  intro n
  induction n with
  | zero => unfold q_X12_wide80x; intros; omega
  | succ n ih => exact s_X12_wide80x_6 h0 t f a2 a3 w_t w_f G0 pa2 pa3 n ih
set_option maxHeartbeats 4000000 in
set_option maxRecDepth 100000 in
theorem c_X12_wide80x (h0 : m_H) (t : Nat) (f : Nat) (a2 a3 : Int) (w_t : t = 135 ∨ t = 136) (w_f : f = 124 ∨ f = 125) (G0 : GI h0) (pa2 : 0 ≤ a2 ∧ a2 ≤ 75) (pa3 : 0 ≤ a3 ∧ a3 ≤ 2000000000) : m_CV M_X12_wide [mR t, mR f, mI a2, mJ a3] h0 (P_X12_wide80x h0 t f a2 a3) := by
  refine m_CV_of ⟨by decide, rfl, by simp [m_arg, m_isL, M_X12_wide], ⟨rfl, rfl⟩, rfl, rfl⟩ (ls := [some (mR t), some (mR f), some (mI a2), some (mJ a3), none, none, none, none, none, none]) rfl ?_
  have ih := a_X12_wide80x h0 t f a2 a3 w_t w_f G0 pa2 pa3 28
  refine z_lconst (M := M_X12_wide) 0 dX12_wide_0 (v := 0) ?_
  refine z_lstore (M := M_X12_wide) 1 dX12_wide_1 (ls' := [some (mR t), some (mR f), some (mI a2), some (mJ a3), none, some (mJ 0), none, none, none, none]) (by decide) rfl ?_
  refine z_iconst (M := M_X12_wide) 3 dX12_wide_3 ?_
  refine z_istore (M := M_X12_wide) 4 dX12_wide_4 (ls' := [some (mR t), some (mR f), some (mI a2), some (mJ a3), none, some (mJ 0), none, some (mI 0), none, none]) (by decide) rfl ?_
  exact z_mask [true, true, true, true, false, true, false, true, false, false] rfl (ih 0 0 h0 G0 (FR.rf (cs := [t]) (ss := []) (h := h0)) (by omega) (by omega) (by omega) (by omega) (wdI_0 (by omega)) (by omega))
abbrev P_X12_wide20x (h0 : m_H) (t : Nat) (f : Nat) (a2 a3 : Int) : m_H → Prop := fun h' => GI h' ∧ FR [t] [] h0 h' ∧ dg10 (h' t) ∧ vS (h' t) 0 10 = vS (h0 f) a2.toNat 5 * a3
def q_X12_wide20x (h0 : m_H) (t : Nat) (f : Nat) (a2 a3 : Int) (n : Nat) : Prop := (∀ (l5 l7 : Int) (h : m_H), GI h → FR [t] [] h0 h → 0 ≤ l5 → l5 ≤ 2000000000 → 0 ≤ l7 → l7 ≤ 10 → (wdI (h t) (h0 f) a2 l7 l5 a3) → 2 * (10 - l7) + (1) ≤ (n : Int) → m_Z oF M_X12_wide 6 [some (mR t), some (mR f), some (mI a2), some (mJ a3), none, some (mJ l5), none, some (mI l7), none, none] [] h (m_QV (P_X12_wide20x h0 t f a2 a3)))
set_option maxHeartbeats 4000000 in
set_option maxRecDepth 100000 in
theorem s_X12_wide20x_6 (h0 : m_H) (t : Nat) (f : Nat) (a2 a3 : Int) (w_t : t = 135 ∨ t = 136) (w_f : f = 138) (G0 : GI h0) (pa2 : 0 ≤ a2 ∧ a2 ≤ 15) (pa3 : 0 ≤ a3 ∧ a3 ≤ 2000000000) (n : Nat) (ih : q_X12_wide20x h0 t f a2 a3 n) : ∀ (l5 l7 : Int) (h : m_H), GI h → FR [t] [] h0 h → 0 ≤ l5 → l5 ≤ 2000000000 → 0 ≤ l7 → l7 ≤ 10 → (wdI (h t) (h0 f) a2 l7 l5 a3) → 2 * (10 - l7) + (1) ≤ ((n + 1 : Nat) : Int) → m_Z oF M_X12_wide 6 [some (mR t), some (mR f), some (mI a2), some (mJ a3), none, some (mJ l5), none, some (mI l7), none, none] [] h (m_QV (P_X12_wide20x h0 t f a2 a3)) := by
  intro l5 l7 h G R v0 v1 v2 v3 i0 hr
  refine z_iload (M := M_X12_wide) 6 dX12_wide_6 rfl ?_
  refine z_bipush (M := M_X12_wide) 8 dX12_wide_8 ?_
  refine z_icmp_ge (M := M_X12_wide) 10 dX12_wide_10 60 rfl (fun c1 => ?_) (fun c1 => ?_)
  · exact z_retV (M := M_X12_wide) 60 dX12_wide_60 rfl ⟨G, R, (wd_end (by omega) (by omega) (fun j hj => gC_138 w_f G0 (by omega)) i0).1, (wd_end (by omega) (by omega) (fun j hj => gC_138 w_f G0 (by omega)) i0).2⟩
  · refine z_iload (M := M_X12_wide) 13 dX12_wide_13 rfl ?_
    refine z_iconst (M := M_X12_wide) 15 dX12_wide_15 ?_
    refine z_icmp_ge (M := M_X12_wide) 16 dX12_wide_16 30 rfl (fun c2 => ?_) (fun c2 => ?_)
    · refine z_lconst (M := M_X12_wide) 30 dX12_wide_30 (v := 0) ?_
      refine z_lload (M := M_X12_wide) 31 dX12_wide_31 rfl ?_
      refine z_laddN (M := M_X12_wide) 33 dX12_wide_33 (by omega) (by omega) ?_
      refine z_lstore (M := M_X12_wide) 34 dX12_wide_34 (ls' := [some (mR t), some (mR f), some (mI a2), some (mJ a3), none, some (mJ l5), none, some (mI l7), some (mJ (0 + l5)), none]) (by decide) rfl ?_
      refine z_aload_n (M := M_X12_wide) 36 dX12_wide_36 rfl ?_
      refine z_iload (M := M_X12_wide) 37 dX12_wide_37 rfl ?_
      refine z_lload (M := M_X12_wide) 39 dX12_wide_39 rfl ?_
      refine z_ldc2 (M := M_X12_wide) 41 dX12_wide_41 k_X12_327 ?_
      refine z_lremN (M := M_X12_wide) 44 dX12_wide_44 (by omega) (by omega) ?_
      refine z_topBJ (lo := 0) (hi := 99999999) ⟨by omega, by omega⟩ (fun x3 ex3 ax3 bx3 => ?_)
      refine z_lastH (M := M_X12_wide) 45 dX12_wide_45 (oC_135_136 w_t) (by omega) (by omega) (uC_135_136 w_t G) (R.up (by simp [fr])) (fun h1 E1 G1 R1 => ?_)
      refine z_lload (M := M_X12_wide) 46 dX12_wide_46 rfl ?_
      refine z_ldc2 (M := M_X12_wide) 48 dX12_wide_48 k_X12_327 ?_
      refine z_ldivN (M := M_X12_wide) 51 dX12_wide_51 (by omega) (by omega) ?_
      refine z_topBJ (lo := 0) (hi := 20) ⟨by omega, by omega⟩ (fun x4 ex4 ax4 bx4 => ?_)
      refine z_lstore (M := M_X12_wide) 52 dX12_wide_52 (ls' := [some (mR t), some (mR f), some (mI a2), some (mJ a3), none, some (mJ x4), none, some (mI l7), some (mJ (0 + l5)), none]) (by decide) rfl ?_
      refine z_iincN (M := M_X12_wide) 54 dX12_wide_54 (ls' := [some (mR t), some (mR f), some (mI a2), some (mJ a3), none, some (mJ x4), none, some (mI (l7 + 1)), some (mJ (0 + l5)), none]) (by decide) rfl (by (unfold m_32; decide)) (by omega) (by omega) rfl ?_
      refine z_goto (M := M_X12_wide) 57 dX12_wide_57 6 rfl ?_
      exact z_mask [true, true, true, true, false, true, false, true, false, false] rfl (ih x4 (l7 + 1) h1 G1 R1 (by omega) (by omega) (by omega) (by omega) (wdI_b (by omega) (by omega) i0 ex3 ex4 E1) (by omega))
    · refine z_aload_n (M := M_X12_wide) 19 dX12_wide_19 rfl ?_
      refine z_iload_n (M := M_X12_wide) 20 dX12_wide_20 rfl ?_
      refine z_iload (M := M_X12_wide) 21 dX12_wide_21 rfl ?_
      refine z_iaddN (M := M_X12_wide) 23 dX12_wide_23 (by omega) (by omega) ?_
      refine z_laldG (M := M_X12_wide) 24 dX12_wide_24 (oC_138 w_f) (by omega) (by omega) (gC_138 w_f G (by omega)) (fun x5 ex5 ax5 bx5 => ?_)
      refine z_lload_n (M := M_X12_wide) 25 dX12_wide_25 rfl ?_
      have mx6 := mul_bd (x := x5) (y := a3) (X := 99999999) (Y := 2000000000) (by omega) (by omega) (by omega) (by omega)
      refine z_lmulN (M := M_X12_wide) 26 dX12_wide_26 (by omega) (by omega) ?_
      refine z_topBJ (lo := 0) (hi := 199999998000000000) ⟨by omega, by omega⟩ (fun x6 ex6 ax6 bx6 => ?_)
      refine z_goto (M := M_X12_wide) 27 dX12_wide_27 31 rfl ?_
      refine z_lload (M := M_X12_wide) 31 dX12_wide_31 rfl ?_
      refine z_laddN (M := M_X12_wide) 33 dX12_wide_33 (by omega) (by omega) ?_
      refine z_lstore (M := M_X12_wide) 34 dX12_wide_34 (ls' := [some (mR t), some (mR f), some (mI a2), some (mJ a3), none, some (mJ l5), none, some (mI l7), some (mJ (x6 + l5)), none]) (by decide) rfl ?_
      refine z_aload_n (M := M_X12_wide) 36 dX12_wide_36 rfl ?_
      refine z_iload (M := M_X12_wide) 37 dX12_wide_37 rfl ?_
      refine z_lload (M := M_X12_wide) 39 dX12_wide_39 rfl ?_
      refine z_ldc2 (M := M_X12_wide) 41 dX12_wide_41 k_X12_327 ?_
      refine z_lremN (M := M_X12_wide) 44 dX12_wide_44 (by omega) (by omega) ?_
      refine z_topBJ (lo := 0) (hi := 99999999) ⟨by omega, by omega⟩ (fun x7 ex7 ax7 bx7 => ?_)
      refine z_lastH (M := M_X12_wide) 45 dX12_wide_45 (oC_135_136 w_t) (by omega) (by omega) (uC_135_136 w_t G) (R.up (by simp [fr])) (fun h2 E2 G2 R2 => ?_)
      refine z_lload (M := M_X12_wide) 46 dX12_wide_46 rfl ?_
      refine z_ldc2 (M := M_X12_wide) 48 dX12_wide_48 k_X12_327 ?_
      refine z_ldivN (M := M_X12_wide) 51 dX12_wide_51 (by omega) (by omega) ?_
      refine z_topBJ (lo := 0) (hi := 2000000000) ⟨by omega, by omega⟩ (fun x8 ex8 ax8 bx8 => ?_)
      refine z_lstore (M := M_X12_wide) 52 dX12_wide_52 (ls' := [some (mR t), some (mR f), some (mI a2), some (mJ a3), none, some (mJ x8), none, some (mI l7), some (mJ (x6 + l5)), none]) (by decide) rfl ?_
      refine z_iincN (M := M_X12_wide) 54 dX12_wide_54 (ls' := [some (mR t), some (mR f), some (mI a2), some (mJ a3), none, some (mJ x8), none, some (mI (l7 + 1)), some (mJ (x6 + l5)), none]) (by decide) rfl (by (unfold m_32; decide)) (by omega) (by omega) rfl ?_
      refine z_goto (M := M_X12_wide) 57 dX12_wide_57 6 rfl ?_
      exact z_mask [true, true, true, true, false, true, false, true, false, false] rfl (ih x8 (l7 + 1) h2 G2 R2 (by omega) (by omega) (by omega) (by omega) (wdI_a (by omega) (by omega) (by omega) (by omega) i0 (fun j => R f j (by subst w_f; rcases w_t with rfl | rfl <;> rfl)) ex5 ⟨by omega, by omega⟩ ex6 ex7 ex8 E2) (by omega))
theorem a_X12_wide20x (h0 : m_H) (t : Nat) (f : Nat) (a2 a3 : Int) (w_t : t = 135 ∨ t = 136) (w_f : f = 138) (G0 : GI h0) (pa2 : 0 ≤ a2 ∧ a2 ≤ 15) (pa3 : 0 ≤ a3 ∧ a3 ≤ 2000000000) : ∀ n, q_X12_wide20x h0 t f a2 a3 n := by
  intro n
  induction n with
  | zero => unfold q_X12_wide20x; intros; omega
  | succ n ih => exact s_X12_wide20x_6 h0 t f a2 a3 w_t w_f G0 pa2 pa3 n ih
set_option maxHeartbeats 4000000 in
set_option maxRecDepth 100000 in
theorem c_X12_wide20x (h0 : m_H) (t : Nat) (f : Nat) (a2 a3 : Int) (w_t : t = 135 ∨ t = 136) (w_f : f = 138) (G0 : GI h0) (pa2 : 0 ≤ a2 ∧ a2 ≤ 15) (pa3 : 0 ≤ a3 ∧ a3 ≤ 2000000000) : m_CV M_X12_wide [mR t, mR f, mI a2, mJ a3] h0 (P_X12_wide20x h0 t f a2 a3) := by
  refine m_CV_of ⟨by decide, rfl, by simp [m_arg, m_isL, M_X12_wide], ⟨rfl, rfl⟩, rfl, rfl⟩ (ls := [some (mR t), some (mR f), some (mI a2), some (mJ a3), none, none, none, none, none, none]) rfl ?_
  have ih := a_X12_wide20x h0 t f a2 a3 w_t w_f G0 pa2 pa3 28
  refine z_lconst (M := M_X12_wide) 0 dX12_wide_0 (v := 0) ?_
  refine z_lstore (M := M_X12_wide) 1 dX12_wide_1 (ls' := [some (mR t), some (mR f), some (mI a2), some (mJ a3), none, some (mJ 0), none, none, none, none]) (by decide) rfl ?_
  refine z_iconst (M := M_X12_wide) 3 dX12_wide_3 ?_
  refine z_istore (M := M_X12_wide) 4 dX12_wide_4 (ls' := [some (mR t), some (mR f), some (mI a2), some (mJ a3), none, some (mJ 0), none, some (mI 0), none, none]) (by decide) rfl ?_
  exact z_mask [true, true, true, true, false, true, false, true, false, false] rfl (ih 0 0 h0 G0 (FR.rf (cs := [t]) (ss := []) (h := h0)) (by omega) (by omega) (by omega) (by omega) (wdI_0 (by omega)) (by omega))
/-- how often one number is in another, at most so many times -/
def shQ (x S L m : Int) : Prop := L * x ≤ S ∧ (x < m → S < L * (x + 1))
def shK (f g : Nat → Int) (X S e s k : Int) : Prop := (s = 0 ∨ s = 1) ∧ (s = 1 → e = 1 ∧ cpI f g X S k) ∧ (s = 0 → (e = 1 ↔ X ≤ S))
theorem shK_0 {f g : Nat → Int} {X S : Int} (d1 : dg10 f) (e1 : vS f 0 10 = X) (d2 : dg10 g) (e2 : vS g 0 10 = S) : shK f g X S 1 1 9 := ⟨Or.inr rfl, fun _ => ⟨rfl, d1, d2, e1, e2, fun j h1 h2 => by omega⟩, fun z => absurd z (by decide)⟩
theorem shK_end {f g : Nat → Int} {X S e s k : Int} (K : shK f g X S e s k) (h : k < 0 ∨ s = 0) : e = 1 ↔ X ≤ S := by
  obtain ⟨k1, k2, k3⟩ := K
  rcases k1 with q | q
  · exact k3 q
  · obtain ⟨h1, h2⟩ := k2 q
    have z := cpI_eq h2 (by omega)
    unfold cmpQ at z
    exact ⟨fun _ => by omega, fun _ => h1⟩
theorem shK_gt {f g : Nat → Int} {X S e k k' x y : Int} (K : shK f g X S e 1 k) (h0 : 0 ≤ k) (h9 : k ≤ 9) (ex : f k.toNat = x) (ey : g k.toNat = y) (c : y < x) : shK f g X S 0 0 k' := by
  have z := cpI_gt (K.2.1 rfl).2 h0 h9 ex ey c
  unfold cmpQ at z
  exact ⟨Or.inl rfl, fun q => absurd q (by decide), fun _ => ⟨fun q => absurd q (by decide), fun q => by omega⟩⟩
theorem shK_lt {f g : Nat → Int} {X S e k k' x y : Int} (K : shK f g X S e 1 k) (h0 : 0 ≤ k) (h9 : k ≤ 9) (ex : f k.toNat = x) (ey : g k.toNat = y) (c : x < y) : shK f g X S 1 0 k' := by
  have z := cpI_lt (K.2.1 rfl).2 h0 h9 ex ey c
  unfold cmpQ at z
  exact ⟨Or.inl rfl, fun q => absurd q (by decide), fun _ => ⟨fun q => by omega, fun _ => rfl⟩⟩
theorem shK_eq {f g : Nat → Int} {X S e k x y : Int} (K : shK f g X S e 1 k) (h0 : 0 ≤ k) (ex : f k.toNat = x) (ey : g k.toNat = y) (c : x = y) : shK f g X S 1 1 (k + (-1)) := by
  have z := cpI_step (K.2.1 rfl).2 h0 ex ey c
  rw [show k - 1 = k + (-1) by omega] at z
  exact ⟨Or.inr rfl, fun _ => ⟨rfl, z⟩, fun q => absurd q (by decide)⟩
abbrev P_X12_share2 (h0 : m_H) (f : Nat) (f2 : Nat) (a2 a4 a5 a6 : Int) : Int → m_H → Prop := fun x h' => GI h' ∧ FR [135, 136] [] h0 h' ∧ 0 ≤ x ∧ x ≤ 2000000000 ∧ shQ x (vS (h0 f) a2.toNat 5 * a5) (vS (h0 f2) a4.toNat 5) a6
def q_X12_share2 (h0 : m_H) (f : Nat) (f2 : Nat) (a2 a4 a5 a6 : Int) (n : Nat) : Prop := (∀ (l7 l8 : Int) (h : m_H), GI h → FR [135, 136] [] h0 h → 0 ≤ l7 → l7 ≤ 2000000000 → 0 ≤ l8 → l8 ≤ 2000000000 → (-2147483648) ≤ a5 → a5 ≤ 2147483647 → (l7 ≤ l8) → (dg10 (h 135) ∧ vS (h 135) 0 10 = (vS (h0 f) a2.toNat 5 * a5)) → ((vS (h0 f2) a4.toNat 5) * l7 ≤ (vS (h0 f) a2.toNat 5 * a5) ∧ (l8 < a6 → (vS (h0 f) a2.toNat 5 * a5) < (vS (h0 f2) a4.toNat 5) * (l8 + 1)) ∧ l8 ≤ a6) → 25 * (l8 - l7) + (24) ≤ (n : Int) → m_Z oF M_X12_share 19 [some (mR 108), none, none, some (mR f2), some (mI a4), none, none, some (mI l7), some (mI l8), none, none, none, none] [] h (m_QI (P_X12_share2 h0 f f2 a2 a4 a5 a6))) ∧ (∀ (l7 l8 l9 l10 l11 l12 : Int) (h : m_H), GI h → FR [135, 136] [] h0 h → 0 ≤ l7 → l7 ≤ 1999999999 → 1 ≤ l8 → l8 ≤ 2000000000 → 0 ≤ l9 → l9 ≤ 2000000000 → 0 ≤ l10 → l10 ≤ 1 → 0 ≤ l11 → l11 ≤ 1 → (-1) ≤ l12 → l12 ≤ 9 → (-2147483648) ≤ a5 → a5 ≤ 2147483647 → (l7 ≤ l9 - 1 ∧ l9 ≤ l8) → (dg10 (h 135) ∧ vS (h 135) 0 10 = (vS (h0 f) a2.toNat 5 * a5)) → ((vS (h0 f2) a4.toNat 5) * l7 ≤ (vS (h0 f) a2.toNat 5 * a5) ∧ (l8 < a6 → (vS (h0 f) a2.toNat 5 * a5) < (vS (h0 f2) a4.toNat 5) * (l8 + 1)) ∧ l8 ≤ a6) → (shK (h 136) (h 135) ((vS (h0 f2) a4.toNat 5) * l9) (vS (h0 f) a2.toNat 5 * a5) l10 l11 l12) → 25 * (l8 - l7) + 2 * (l12 - (-1)) + (1) ≤ (n : Int) → m_Z oF M_X12_share 63 [some (mR 108), none, none, some (mR f2), some (mI a4), none, none, some (mI l7), some (mI l8), some (mI l9), some (mI l10), some (mI l11), some (mI l12)] [] h (m_QI (P_X12_share2 h0 f f2 a2 a4 a5 a6)))
set_option maxHeartbeats 4000000 in
set_option maxRecDepth 100000 in
theorem s_X12_share2_19 (h0 : m_H) (f : Nat) (f2 : Nat) (a2 a4 a5 a6 : Int) (w_f : f = 124 ∨ f = 125) (w_f2 : f2 = 124 ∨ f2 = 125) (G0 : GI h0) (pa2 : 0 ≤ a2 ∧ a2 ≤ 75) (pa4 : 0 ≤ a4 ∧ a4 ≤ 75) (pa6 : 0 ≤ a6 ∧ a6 ≤ 2000000000) (hb5 : 0 ≤ a5 ∧ a5 ≤ 2000000000) (n : Nat) (ih : q_X12_share2 h0 f f2 a2 a4 a5 a6 n) : ∀ (l7 l8 : Int) (h : m_H), GI h → FR [135, 136] [] h0 h → 0 ≤ l7 → l7 ≤ 2000000000 → 0 ≤ l8 → l8 ≤ 2000000000 → (-2147483648) ≤ a5 → a5 ≤ 2147483647 → (l7 ≤ l8) → (dg10 (h 135) ∧ vS (h 135) 0 10 = (vS (h0 f) a2.toNat 5 * a5)) → ((vS (h0 f2) a4.toNat 5) * l7 ≤ (vS (h0 f) a2.toNat 5 * a5) ∧ (l8 < a6 → (vS (h0 f) a2.toNat 5 * a5) < (vS (h0 f2) a4.toNat 5) * (l8 + 1)) ∧ l8 ≤ a6) → 25 * (l8 - l7) + (24) ≤ ((n + 1 : Nat) : Int) → m_Z oF M_X12_share 19 [some (mR 108), none, none, some (mR f2), some (mI a4), none, none, some (mI l7), some (mI l8), none, none, none, none] [] h (m_QI (P_X12_share2 h0 f f2 a2 a4 a5 a6)) := by
  intro l7 l8 h G R v0 v1 v2 v3 v4 v5 i0 i1 i2 hr
  have ef_ : h f2 = h0 f2 := by rcases w_f2 with rfl | rfl <;> exact FR.row R (fun _ => rfl)
  refine z_iload (M := M_X12_share) 19 dX12_share_19 rfl ?_
  refine z_iload (M := M_X12_share) 21 dX12_share_21 rfl ?_
  refine z_icmp_ge (M := M_X12_share) 23 dX12_share_23 150 rfl (fun c1 => ?_) (fun c1 => ?_)
  · refine z_iload (M := M_X12_share) 150 dX12_share_150 rfl ?_
    exact z_retI (M := M_X12_share) 152 dX12_share_152 rfl ⟨G, R, by omega, by omega, by have e_ : l8 = l7 := (by omega); rw [e_] at i2; exact ⟨i2.1, i2.2.1⟩⟩
  · refine z_iload (M := M_X12_share) 26 dX12_share_26 rfl ?_
    refine z_iload (M := M_X12_share) 28 dX12_share_28 rfl ?_
    refine z_iload (M := M_X12_share) 30 dX12_share_30 rfl ?_
    refine z_isubN (M := M_X12_share) 32 dX12_share_32 (by omega) (by omega) ?_
    refine z_iconst (M := M_X12_share) 33 dX12_share_33 ?_
    refine z_iaddN (M := M_X12_share) 34 dX12_share_34 (by omega) (by omega) ?_
    refine z_iconst (M := M_X12_share) 35 dX12_share_35 ?_
    refine z_idivN (M := M_X12_share) 36 dX12_share_36 (by omega) (by omega) ?_
    refine z_topBI (lo := 0) (hi := 1000000000) ⟨by omega, by omega⟩ (fun x2 ex2 ax2 bx2 => ?_)
    refine z_iaddN (M := M_X12_share) 37 dX12_share_37 (by omega) (by omega) ?_
    refine z_topBI (lo := 0) (hi := 2000000000) ⟨by omega, by omega⟩ (fun x3 ex3 ax3 bx3 => ?_)
    refine z_istore (M := M_X12_share) 38 dX12_share_38 (ls' := [some (mR 108), none, none, some (mR f2), some (mI a4), none, none, some (mI l7), some (mI l8), some (mI x3), none, none, none]) (by decide) rfl ?_
    refine z_aload_n (M := M_X12_share) 40 dX12_share_40 rfl ?_
    refine z_getR (M := M_X12_share) 41 dX12_share_41 f_X12_97 o_108 rfl (g_108_41 G) ?_
    refine z_aload_n (M := M_X12_share) 44 dX12_share_44 rfl ?_
    refine z_iload (M := M_X12_share) 45 dX12_share_45 rfl ?_
    refine z_iload (M := M_X12_share) 47 dX12_share_47 rfl ?_
    refine z_i2l (M := M_X12_share) 49 dX12_share_49 ?_
    refine z_sV (M := M_X12_share) 50 dX12_share_50 t_X12_wide l_X12_387 (m_rr_of rfl) (rest := []) (c_X12_wide80x h 136 f2 a4 x3 (Or.inr rfl) w_f2 G ⟨by omega, by omega⟩ ⟨by omega, by omega⟩) rfl rfl (Nat.le_of_ble_eq_true rfl) ⟨rfl, rfl⟩ (fun h1 qx4 => ?_)
    obtain ⟨G1, S1, W1, W2⟩ := qx4
    have i1c : dg10 (h1 135) ∧ vS (h1 135) 0 10 = (vS (h0 f) a2.toNat 5 * a5) := by rw [FR.row (c := 135) S1 (fun _ => rfl)]; exact i1
    rw [ef_] at W2
    have R1 := R.call S1 (by decide +kernel)
    refine z_iconst (M := M_X12_share) 53 dX12_share_53 ?_
    refine z_istore (M := M_X12_share) 54 dX12_share_54 (ls' := [some (mR 108), none, none, some (mR f2), some (mI a4), none, none, some (mI l7), some (mI l8), some (mI x3), some (mI 1), none, none]) (by decide) rfl ?_
    refine z_iconst (M := M_X12_share) 56 dX12_share_56 ?_
    refine z_istore (M := M_X12_share) 57 dX12_share_57 (ls' := [some (mR 108), none, none, some (mR f2), some (mI a4), none, none, some (mI l7), some (mI l8), some (mI x3), some (mI 1), some (mI 1), none]) (by decide) rfl ?_
    refine z_bipush (M := M_X12_share) 59 dX12_share_59 ?_
    refine z_istore (M := M_X12_share) 61 dX12_share_61 (ls' := [some (mR 108), none, none, some (mR f2), some (mI a4), none, none, some (mI l7), some (mI l8), some (mI x3), some (mI 1), some (mI 1), some (mI 9)]) (by decide) rfl ?_
    exact z_mask [true, false, false, true, true, false, false, true, true, true, true, true, true] rfl (ih.2 l7 l8 x3 1 1 9 h1 G1 R1 (by omega) (by omega) (by omega) (by omega) (by omega) (by omega) (by omega) (by omega) (by omega) (by omega) (by omega) (by omega) (by omega) (by omega) (by omega) i1c i2 (shK_0 W1 W2 i1c.1 i1c.2) (by omega))
set_option maxHeartbeats 4000000 in
set_option maxRecDepth 100000 in
theorem s_X12_share2_63 (h0 : m_H) (f : Nat) (f2 : Nat) (a2 a4 a5 a6 : Int) (w_f : f = 124 ∨ f = 125) (w_f2 : f2 = 124 ∨ f2 = 125) (G0 : GI h0) (pa2 : 0 ≤ a2 ∧ a2 ≤ 75) (pa4 : 0 ≤ a4 ∧ a4 ≤ 75) (pa6 : 0 ≤ a6 ∧ a6 ≤ 2000000000) (hb5 : 0 ≤ a5 ∧ a5 ≤ 2000000000) (n : Nat) (ih : q_X12_share2 h0 f f2 a2 a4 a5 a6 n) : ∀ (l7 l8 l9 l10 l11 l12 : Int) (h : m_H), GI h → FR [135, 136] [] h0 h → 0 ≤ l7 → l7 ≤ 1999999999 → 1 ≤ l8 → l8 ≤ 2000000000 → 0 ≤ l9 → l9 ≤ 2000000000 → 0 ≤ l10 → l10 ≤ 1 → 0 ≤ l11 → l11 ≤ 1 → (-1) ≤ l12 → l12 ≤ 9 → (-2147483648) ≤ a5 → a5 ≤ 2147483647 → (l7 ≤ l9 - 1 ∧ l9 ≤ l8) → (dg10 (h 135) ∧ vS (h 135) 0 10 = (vS (h0 f) a2.toNat 5 * a5)) → ((vS (h0 f2) a4.toNat 5) * l7 ≤ (vS (h0 f) a2.toNat 5 * a5) ∧ (l8 < a6 → (vS (h0 f) a2.toNat 5 * a5) < (vS (h0 f2) a4.toNat 5) * (l8 + 1)) ∧ l8 ≤ a6) → (shK (h 136) (h 135) ((vS (h0 f2) a4.toNat 5) * l9) (vS (h0 f) a2.toNat 5 * a5) l10 l11 l12) → 25 * (l8 - l7) + 2 * (l12 - (-1)) + (1) ≤ ((n + 1 : Nat) : Int) → m_Z oF M_X12_share 63 [some (mR 108), none, none, some (mR f2), some (mI a4), none, none, some (mI l7), some (mI l8), some (mI l9), some (mI l10), some (mI l11), some (mI l12)] [] h (m_QI (P_X12_share2 h0 f f2 a2 a4 a5 a6)) := by
  intro l7 l8 l9 l10 l11 l12 h G R v0 v1 v2 v3 v4 v5 v6 v7 v8 v9 v10 v11 v12 v13 i0 i1 i2 i3 hr
  refine z_iload (M := M_X12_share) 63 dX12_share_63 rfl ?_
  refine z_if_lt (M := M_X12_share) 65 dX12_share_65 129 rfl (fun c1 => ?_) (fun c1 => ?_)
  · refine z_iload (M := M_X12_share) 129 dX12_share_129 rfl ?_
    refine z_if_eq (M := M_X12_share) 131 dX12_share_131 141 rfl (fun c2 => ?_) (fun c2 => ?_)
    · refine z_iload (M := M_X12_share) 141 dX12_share_141 rfl ?_
      refine z_iconst (M := M_X12_share) 143 dX12_share_143 ?_
      refine z_isubN (M := M_X12_share) 144 dX12_share_144 (by omega) (by omega) ?_
      refine z_istore (M := M_X12_share) 145 dX12_share_145 (ls' := [some (mR 108), none, none, some (mR f2), some (mI a4), none, none, some (mI l7), some (mI (l9 - 1)), some (mI l9), some (mI l10), some (mI l11), some (mI l12)]) (by decide) rfl ?_
      refine z_goto (M := M_X12_share) 147 dX12_share_147 19 rfl ?_
      exact z_mask [true, false, false, true, true, false, false, true, true, false, false, false, false] rfl (ih.1 l7 (l9 - 1) h G R (by omega) (by omega) (by omega) (by omega) (by omega) (by omega) (by omega) i1 ⟨i2.1, fun _ => by rw [show l9 - 1 + 1 = l9 by omega]; have e_ := shK_end i3 (by omega); omega, by omega⟩ (by omega))
    · refine z_iload (M := M_X12_share) 134 dX12_share_134 rfl ?_
      refine z_istore (M := M_X12_share) 136 dX12_share_136 (ls' := [some (mR 108), none, none, some (mR f2), some (mI a4), none, none, some (mI l9), some (mI l8), some (mI l9), some (mI l10), some (mI l11), some (mI l12)]) (by decide) rfl ?_
      refine z_goto (M := M_X12_share) 138 dX12_share_138 147 rfl ?_
      refine z_goto (M := M_X12_share) 147 dX12_share_147 19 rfl ?_
      exact z_mask [true, false, false, true, true, false, false, true, true, false, false, false, false] rfl (ih.1 l9 l8 h G R (by omega) (by omega) (by omega) (by omega) (by omega) (by omega) (by omega) i1 ⟨(shK_end i3 (by omega)).mp (by omega), i2.2.1, i2.2.2⟩ (by omega))
  · refine z_iload (M := M_X12_share) 68 dX12_share_68 rfl ?_
    refine z_if_eq (M := M_X12_share) 70 dX12_share_70 129 rfl (fun c3 => ?_) (fun c3 => ?_)
    · refine z_iload (M := M_X12_share) 129 dX12_share_129 rfl ?_
      refine z_if_eq (M := M_X12_share) 131 dX12_share_131 141 rfl (fun c4 => ?_) (fun c4 => ?_)
      · refine z_iload (M := M_X12_share) 141 dX12_share_141 rfl ?_
        refine z_iconst (M := M_X12_share) 143 dX12_share_143 ?_
        refine z_isubN (M := M_X12_share) 144 dX12_share_144 (by omega) (by omega) ?_
        refine z_istore (M := M_X12_share) 145 dX12_share_145 (ls' := [some (mR 108), none, none, some (mR f2), some (mI a4), none, none, some (mI l7), some (mI (l9 - 1)), some (mI l9), some (mI l10), some (mI l11), some (mI l12)]) (by decide) rfl ?_
        refine z_goto (M := M_X12_share) 147 dX12_share_147 19 rfl ?_
        exact z_mask [true, false, false, true, true, false, false, true, true, false, false, false, false] rfl (ih.1 l7 (l9 - 1) h G R (by omega) (by omega) (by omega) (by omega) (by omega) (by omega) (by omega) i1 ⟨i2.1, fun _ => by rw [show l9 - 1 + 1 = l9 by omega]; have e_ := shK_end i3 (by omega); omega, by omega⟩ (by omega))
      · refine z_iload (M := M_X12_share) 134 dX12_share_134 rfl ?_
        refine z_istore (M := M_X12_share) 136 dX12_share_136 (ls' := [some (mR 108), none, none, some (mR f2), some (mI a4), none, none, some (mI l9), some (mI l8), some (mI l9), some (mI l10), some (mI l11), some (mI l12)]) (by decide) rfl ?_
        refine z_goto (M := M_X12_share) 138 dX12_share_138 147 rfl ?_
        refine z_goto (M := M_X12_share) 147 dX12_share_147 19 rfl ?_
        exact z_mask [true, false, false, true, true, false, false, true, true, false, false, false, false] rfl (ih.1 l9 l8 h G R (by omega) (by omega) (by omega) (by omega) (by omega) (by omega) (by omega) i1 ⟨(shK_end i3 (by omega)).mp (by omega), i2.2.1, i2.2.2⟩ (by omega))
    · refine z_aload_n (M := M_X12_share) 73 dX12_share_73 rfl ?_
      refine z_getR (M := M_X12_share) 74 dX12_share_74 f_X12_97 o_108 rfl (g_108_41 G) ?_
      refine z_iload (M := M_X12_share) 77 dX12_share_77 rfl ?_
      refine z_laldV (M := M_X12_share) 79 dX12_share_79 o_136 (by omega) (by omega) (fun x5 ex5 => ?_)
      refine z_aload_n (M := M_X12_share) 80 dX12_share_80 rfl ?_
      refine z_getR (M := M_X12_share) 81 dX12_share_81 f_X12_94 o_108 rfl (g_108_40 G) ?_
      refine z_iload (M := M_X12_share) 84 dX12_share_84 rfl ?_
      refine z_laldV (M := M_X12_share) 86 dX12_share_86 o_135 (by omega) (by omega) (fun x6 ex6 => ?_)
      refine z_lcmp (M := M_X12_share) 87 dX12_share_87 ?_
      refine z_if_ne (M := M_X12_share) 88 dX12_share_88 95 rfl (fun c7 => ?_) (fun c7 => ?_)
      · rw [m_cmp_eq] at c7
        refine z_iconst (M := M_X12_share) 95 dX12_share_95 ?_
        refine z_istore (M := M_X12_share) 96 dX12_share_96 (ls' := [some (mR 108), none, none, some (mR f2), some (mI a4), none, none, some (mI l7), some (mI l8), some (mI l9), some (mI l10), some (mI 0), some (mI l12)]) (by decide) rfl ?_
        refine z_aload_n (M := M_X12_share) 98 dX12_share_98 rfl ?_
        refine z_getR (M := M_X12_share) 99 dX12_share_99 f_X12_97 o_108 rfl (g_108_41 G) ?_
        refine z_iload (M := M_X12_share) 102 dX12_share_102 rfl ?_
        refine z_laldE (M := M_X12_share) 104 dX12_share_104 o_136 (by omega) (by omega) ex5 ?_
        refine z_aload_n (M := M_X12_share) 105 dX12_share_105 rfl ?_
        refine z_getR (M := M_X12_share) 106 dX12_share_106 f_X12_94 o_108 rfl (g_108_40 G) ?_
        refine z_iload (M := M_X12_share) 109 dX12_share_109 rfl ?_
        refine z_laldE (M := M_X12_share) 111 dX12_share_111 o_135 (by omega) (by omega) ex6 ?_
        refine z_lcmp (M := M_X12_share) 112 dX12_share_112 ?_
        refine z_if_gt (M := M_X12_share) 113 dX12_share_113 120 rfl (fun c8 => ?_) (fun c8 => ?_)
        · rw [m_cmp_gt] at c8
          refine z_iconst (M := M_X12_share) 120 dX12_share_120 ?_
          refine z_istore (M := M_X12_share) 121 dX12_share_121 (ls' := [some (mR 108), none, none, some (mR f2), some (mI a4), none, none, some (mI l7), some (mI l8), some (mI l9), some (mI 0), some (mI 0), some (mI l12)]) (by decide) rfl ?_
          refine z_iincN (M := M_X12_share) 123 dX12_share_123 (ls' := [some (mR 108), none, none, some (mR f2), some (mI a4), none, none, some (mI l7), some (mI l8), some (mI l9), some (mI 0), some (mI 0), some (mI (l12 + (-1)))]) (by decide) rfl (by (unfold m_32; decide)) (by omega) (by omega) rfl ?_
          refine z_goto (M := M_X12_share) 126 dX12_share_126 63 rfl ?_
          exact z_mask [true, false, false, true, true, false, false, true, true, true, true, true, true] rfl (ih.2 l7 l8 l9 0 0 (l12 + (-1)) h G R (by omega) (by omega) (by omega) (by omega) (by omega) (by omega) (by omega) (by omega) (by omega) (by omega) (by omega) (by omega) (by omega) (by omega) (by omega) i1 i2 (shK_gt (by have q := i3; rw [show l11 = 1 by omega] at q; exact q) (by omega) (by omega) ex5 ex6 (by omega)) (by omega))
        · rw [m_cmp_gt] at c8
          refine z_iconst (M := M_X12_share) 116 dX12_share_116 ?_
          refine z_goto (M := M_X12_share) 117 dX12_share_117 121 rfl ?_
          refine z_istore (M := M_X12_share) 121 dX12_share_121 (ls' := [some (mR 108), none, none, some (mR f2), some (mI a4), none, none, some (mI l7), some (mI l8), some (mI l9), some (mI 1), some (mI 0), some (mI l12)]) (by decide) rfl ?_
          refine z_iincN (M := M_X12_share) 123 dX12_share_123 (ls' := [some (mR 108), none, none, some (mR f2), some (mI a4), none, none, some (mI l7), some (mI l8), some (mI l9), some (mI 1), some (mI 0), some (mI (l12 + (-1)))]) (by decide) rfl (by (unfold m_32; decide)) (by omega) (by omega) rfl ?_
          refine z_goto (M := M_X12_share) 126 dX12_share_126 63 rfl ?_
          exact z_mask [true, false, false, true, true, false, false, true, true, true, true, true, true] rfl (ih.2 l7 l8 l9 1 0 (l12 + (-1)) h G R (by omega) (by omega) (by omega) (by omega) (by omega) (by omega) (by omega) (by omega) (by omega) (by omega) (by omega) (by omega) (by omega) (by omega) (by omega) i1 i2 (shK_lt (by have q := i3; rw [show l11 = 1 by omega] at q; exact q) (by omega) (by omega) ex5 ex6 (by omega)) (by omega))
      · rw [m_cmp_eq] at c7
        refine z_iconst (M := M_X12_share) 91 dX12_share_91 ?_
        refine z_goto (M := M_X12_share) 92 dX12_share_92 96 rfl ?_
        refine z_istore (M := M_X12_share) 96 dX12_share_96 (ls' := [some (mR 108), none, none, some (mR f2), some (mI a4), none, none, some (mI l7), some (mI l8), some (mI l9), some (mI l10), some (mI 1), some (mI l12)]) (by decide) rfl ?_
        refine z_aload_n (M := M_X12_share) 98 dX12_share_98 rfl ?_
        refine z_getR (M := M_X12_share) 99 dX12_share_99 f_X12_97 o_108 rfl (g_108_41 G) ?_
        refine z_iload (M := M_X12_share) 102 dX12_share_102 rfl ?_
        refine z_laldE (M := M_X12_share) 104 dX12_share_104 o_136 (by omega) (by omega) ex5 ?_
        refine z_aload_n (M := M_X12_share) 105 dX12_share_105 rfl ?_
        refine z_getR (M := M_X12_share) 106 dX12_share_106 f_X12_94 o_108 rfl (g_108_40 G) ?_
        refine z_iload (M := M_X12_share) 109 dX12_share_109 rfl ?_
        refine z_laldE (M := M_X12_share) 111 dX12_share_111 o_135 (by omega) (by omega) ex6 ?_
        refine z_lcmp (M := M_X12_share) 112 dX12_share_112 ?_
        refine z_if_gt (M := M_X12_share) 113 dX12_share_113 120 rfl (fun c9 => ?_) (fun c9 => ?_)
        · rw [m_cmp_gt] at c9
          refine z_iconst (M := M_X12_share) 120 dX12_share_120 ?_
          refine z_istore (M := M_X12_share) 121 dX12_share_121 (ls' := [some (mR 108), none, none, some (mR f2), some (mI a4), none, none, some (mI l7), some (mI l8), some (mI l9), some (mI 0), some (mI 1), some (mI l12)]) (by decide) rfl ?_
          refine z_iincN (M := M_X12_share) 123 dX12_share_123 (ls' := [some (mR 108), none, none, some (mR f2), some (mI a4), none, none, some (mI l7), some (mI l8), some (mI l9), some (mI 0), some (mI 1), some (mI (l12 + (-1)))]) (by decide) rfl (by (unfold m_32; decide)) (by omega) (by omega) rfl ?_
          refine z_goto (M := M_X12_share) 126 dX12_share_126 63 rfl ?_
          exact z_mask [true, false, false, true, true, false, false, true, true, true, true, true, true] rfl (ih.2 l7 l8 l9 0 1 (l12 + (-1)) h G R (by omega) (by omega) (by omega) (by omega) (by omega) (by omega) (by omega) (by omega) (by omega) (by omega) (by omega) (by omega) (by omega) (by omega) (by omega) i1 i2 (False.elim (by omega)) (by omega))
        · rw [m_cmp_gt] at c9
          refine z_iconst (M := M_X12_share) 116 dX12_share_116 ?_
          refine z_goto (M := M_X12_share) 117 dX12_share_117 121 rfl ?_
          refine z_istore (M := M_X12_share) 121 dX12_share_121 (ls' := [some (mR 108), none, none, some (mR f2), some (mI a4), none, none, some (mI l7), some (mI l8), some (mI l9), some (mI 1), some (mI 1), some (mI l12)]) (by decide) rfl ?_
          refine z_iincN (M := M_X12_share) 123 dX12_share_123 (ls' := [some (mR 108), none, none, some (mR f2), some (mI a4), none, none, some (mI l7), some (mI l8), some (mI l9), some (mI 1), some (mI 1), some (mI (l12 + (-1)))]) (by decide) rfl (by (unfold m_32; decide)) (by omega) (by omega) rfl ?_
          refine z_goto (M := M_X12_share) 126 dX12_share_126 63 rfl ?_
          exact z_mask [true, false, false, true, true, false, false, true, true, true, true, true, true] rfl (ih.2 l7 l8 l9 1 1 (l12 + (-1)) h G R (by omega) (by omega) (by omega) (by omega) (by omega) (by omega) (by omega) (by omega) (by omega) (by omega) (by omega) (by omega) (by omega) (by omega) (by omega) i1 i2 (shK_eq (by have q := i3; rw [show l11 = 1 by omega] at q; exact q) (by omega) ex5 ex6 c7) (by omega))
theorem a_X12_share2 (h0 : m_H) (f : Nat) (f2 : Nat) (a2 a4 a5 a6 : Int) (w_f : f = 124 ∨ f = 125) (w_f2 : f2 = 124 ∨ f2 = 125) (G0 : GI h0) (pa2 : 0 ≤ a2 ∧ a2 ≤ 75) (pa4 : 0 ≤ a4 ∧ a4 ≤ 75) (pa6 : 0 ≤ a6 ∧ a6 ≤ 2000000000) (hb5 : 0 ≤ a5 ∧ a5 ≤ 2000000000) : ∀ n, q_X12_share2 h0 f f2 a2 a4 a5 a6 n := by
  intro n
  induction n with
  | zero => unfold q_X12_share2; refine ⟨?_, ?_⟩ <;> (intros; omega)
  | succ n ih => exact ⟨s_X12_share2_19 h0 f f2 a2 a4 a5 a6 w_f w_f2 G0 pa2 pa4 pa6 hb5 n ih, s_X12_share2_63 h0 f f2 a2 a4 a5 a6 w_f w_f2 G0 pa2 pa4 pa6 hb5 n ih⟩
set_option maxHeartbeats 4000000 in
set_option maxRecDepth 100000 in
theorem c_X12_share2 (h0 : m_H) (f : Nat) (f2 : Nat) (a2 a4 a5 a6 : Int) (w_f : f = 124 ∨ f = 125) (w_f2 : f2 = 124 ∨ f2 = 125) (G0 : GI h0) (pa2 : 0 ≤ a2 ∧ a2 ≤ 75) (pa4 : 0 ≤ a4 ∧ a4 ≤ 75) (pa6 : 0 ≤ a6 ∧ a6 ≤ 2000000000) (hb5 : 0 ≤ a5 ∧ a5 ≤ 2000000000) : m_CI M_X12_share [mR 108, mR f, mI a2, mR f2, mI a4, mI a5, mI a6] h0 (P_X12_share2 h0 f f2 a2 a4 a5 a6) := by
  refine m_CI_of ⟨by decide, rfl, by simp [m_arg, m_isL, M_X12_share], ⟨rfl, rfl⟩, rfl, rfl⟩ (ls := [some (mR 108), some (mR f), some (mI a2), some (mR f2), some (mI a4), some (mI a5), some (mI a6), none, none, none, none, none, none]) rfl ?_
  have ih := a_X12_share2 h0 f f2 a2 a4 a5 a6 w_f w_f2 G0 pa2 pa4 pa6 hb5 50000000031
  refine z_ok (fun _ _ ok => ?_)
  have oa5 : m_32 a5 := ok 5 _ rfl
  unfold m_32 at oa5
  refine z_iconst (M := M_X12_share) 0 dX12_share_0 ?_
  refine z_istore (M := M_X12_share) 1 dX12_share_1 (ls' := [some (mR 108), some (mR f), some (mI a2), some (mR f2), some (mI a4), some (mI a5), some (mI a6), some (mI 0), none, none, none, none, none]) (by decide) rfl ?_
  refine z_iload (M := M_X12_share) 3 dX12_share_3 rfl ?_
  refine z_istore (M := M_X12_share) 5 dX12_share_5 (ls' := [some (mR 108), some (mR f), some (mI a2), some (mR f2), some (mI a4), some (mI a5), some (mI a6), some (mI 0), some (mI a6), none, none, none, none]) (by decide) rfl ?_
  refine z_aload_n (M := M_X12_share) 7 dX12_share_7 rfl ?_
  refine z_getR (M := M_X12_share) 8 dX12_share_8 f_X12_94 o_108 rfl (g_108_40 G0) ?_
  refine z_aload_n (M := M_X12_share) 11 dX12_share_11 rfl ?_
  refine z_iload_n (M := M_X12_share) 12 dX12_share_12 rfl ?_
  refine z_iload (M := M_X12_share) 13 dX12_share_13 rfl ?_
  refine z_i2l (M := M_X12_share) 15 dX12_share_15 ?_
  refine z_sV (M := M_X12_share) 16 dX12_share_16 t_X12_wide l_X12_387 (m_rr_of rfl) (rest := []) (c_X12_wide80x h0 135 f a2 a5 (Or.inl rfl) w_f G0 ⟨by omega, by omega⟩ ⟨by omega, by omega⟩) rfl rfl (Nat.le_of_ble_eq_true rfl) ⟨rfl, rfl⟩ (fun h1 qx1 => ?_)
  obtain ⟨G1, S1, W1, W2⟩ := qx1
  have R1 := (FR.rf (cs := [135, 136]) (ss := []) (h := h0)).call S1 (by decide +kernel)
  exact z_mask [true, false, false, true, true, false, false, true, true, false, false, false, false] rfl (ih.1 0 a6 h1 G1 R1 (by omega) (by omega) (by omega) (by omega) (by omega) (by omega) (by omega) ⟨W1, W2⟩ ⟨by rw [Int.mul_zero]; exact Int.mul_nonneg (vS_bd (fun j hj => gC_124_125 w_f G0 (by omega))).1 hb5.1, fun z => absurd z (by omega), Int.le_refl _⟩ (by omega))
