/-! wide and share -/
def dg10 (g : Nat → Int) : Prop := ∀ j, j < 10 → 0 ≤ g j ∧ g j ≤ 99999999
def wdI (g f : Nat → Int) (a l c b : Int) : Prop := vS g 0 l.toNat + c * (100000000 : Int) ^ l.toNat = vS f a.toNat (min l.toNat 5) * b ∧ (0 ≤ c ∧ c ≤ b) ∧ ∀ j : Nat, (j : Int) < l → 0 ≤ g j ∧ g j ≤ 99999999
theorem wdI_0 {g f : Nat → Int} {a b : Int} (hb : 0 ≤ b) : wdI g f a 0 0 b := by
  refine ⟨?_, ⟨Int.le_refl _, hb⟩, fun j hj => by omega⟩
  show (0 : Int) + 0 * _ = 0 * b
  rw [Int.zero_mul, Int.zero_mul]; rfl
theorem wdI_s {h h' : m_H} {f : Nat → Int} {t : Nat} {a l c b m r c' : Int} (hl : 0 ≤ l) (I : wdI (h t) f a l c b) (hm : vS f a.toNat (min (l + 1).toNat 5) * b = vS f a.toNat (min l.toNat 5) * b + m * (100000000 : Int) ^ l.toNat) (mb : 0 ≤ m ∧ m ≤ 99999999 * b) (er : (m + c) % 100000000 = r) (eq : (m + c) / 100000000 = c') (E : h' = m_up h t l.toNat r) : wdI (h' t) f a (l + 1) c' b := by
  obtain ⟨i1, i2, i3⟩ := I
  have e1 : (l + 1).toNat = l.toNat + 1 := by omega
  refine ⟨?_, by omega, fun j hj => ?_⟩
  · rw [hm, ← i1, e1, vS_succ]
    have e4 : vS (h' t) 0 l.toNat = vS (h t) 0 l.toNat := vS_same (fun j hj => upN E (fun q => by have := q.2; omega))
    have e5 : h' t (0 + l.toNat) = r := by rw [Nat.zero_add]; exact upE E
    rw [e4, e5, Int.pow_succ]
    have e6 : m + c = r + 100000000 * c' := by omega
    generalize (100000000 : Int) ^ l.toNat = P at *
    have e0 : c' * (P * (100000000 : Int)) = 100000000 * c' * P := by
      rw [Int.mul_comm P 100000000, ← Int.mul_assoc, Int.mul_comm c']
    have e7 : (m + c) * P = r * P + 100000000 * c' * P := by rw [e6, Int.add_mul]
    rw [Int.add_mul] at e7
    omega
  · by_cases g : j = l.toNat
    · rw [g, upE E]; omega
    · rw [upN E (fun q => g q.2)]; exact i3 j (by omega)
theorem wdI_a {h h' : m_H} {f : Nat → Int} {t s : Nat} {a l c b d m r c' : Int} (ha : 0 ≤ a) (hl : 0 ≤ l) (l5 : l ≤ 4) (hb : 0 ≤ b) (I : wdI (h t) f a l c b) (hf : ∀ j, h s j = f j) (ed : h s (a + l).toNat = d) (bd_ : 0 ≤ d ∧ d ≤ 99999999) (em : d * b = m) (er : (m + c) % 100000000 = r) (eq : (m + c) / 100000000 = c') (E : h' = m_up h t l.toNat r) : wdI (h' t) f a (l + 1) c' b := by
  refine wdI_s hl I ?_ ?_ er eq E
  · have e3 : (a + l).toNat = a.toNat + l.toNat := by omega
    rw [hf, e3] at ed
    rw [show min (l + 1).toNat 5 = l.toNat + 1 by omega, show min l.toNat 5 = l.toNat by omega, vS_succ, ed, Int.add_mul, ← em]
    have k : d * (100000000 : Int) ^ l.toNat * b = d * b * (100000000 : Int) ^ l.toNat := by ac_rfl
    rw [k]
  · have z := mul_bd bd_.1 bd_.2 hb (Int.le_refl b)
    omega
theorem wdI_b {h h' : m_H} {f : Nat → Int} {t : Nat} {a l c b r c' : Int} (hl : 5 ≤ l) (hb : 0 ≤ b) (I : wdI (h t) f a l c b) (er : (0 + c) % 100000000 = r) (eq : (0 + c) / 100000000 = c') (E : h' = m_up h t l.toNat r) : wdI (h' t) f a (l + 1) c' b := by
  refine wdI_s (by omega) I ?_ ⟨Int.le_refl _, by omega⟩ er eq E
  rw [show min (l + 1).toNat 5 = 5 by omega, show min l.toNat 5 = 5 by omega, Int.zero_mul, Int.add_zero]
theorem wd_end {g f : Nat → Int} {a l c b : Int} (e : l = 10) (hb : b ≤ 2000000000) (hf : ∀ j, j < 5 → 0 ≤ f (a.toNat + j) ∧ f (a.toNat + j) ≤ 99999999) (I : wdI g f a l c b) : dg10 g ∧ vS g 0 10 = vS f a.toNat 5 * b := by
  subst e
  obtain ⟨i1, i2, i3⟩ := I
  have d : dg10 g := fun j hj => i3 j (by omega)
  have hg := vS_bd (f := g) (a := 0) (n := 10) (fun j hj => by rw [Nat.zero_add]; exact d j hj)
  have hF := vS_bd (f := f) (a := a.toNat) (n := 5) hf
  have i1' : vS g 0 10 + c * (100000000 : Int) ^ 10 = vS f a.toNat 5 * b := i1
  have p5 : (100000000 : Int) ^ 5 = 10000000000000000000000000000000000000000 := by decide
  have p10 : (100000000 : Int) ^ 10 = 100000000000000000000000000000000000000000000000000000000000000000000000000000000 := by decide
  rw [p5] at hF
  rw [p10] at i1' hg
  have m := mul_bd hF.1 (Int.le_of_lt hF.2) (show 0 ≤ b by omega) hb
  refine ⟨d, ?_⟩
  have c0 : c = 0 := by omega
  rw [c0] at i1'
  omega
abbrev P_X12_wide80x (h0 : m_H) (t : Nat) (f : Nat) (a2 a3 : Int) : m_H → Prop := fun h' => GI h' ∧ FR [t] [] h0 h' ∧ dg10 (h' t) ∧ vS (h' t) 0 10 = vS (h0 f) a2.toNat 5 * a3
def q_X12_wide80x (h0 : m_H) (t : Nat) (f : Nat) (a2 a3 : Int) (n : Nat) : Prop := (∀ (l5 l7 : Int) (h : m_H), GI h → FR [t] [] h0 h → 0 ≤ l5 → l5 ≤ 2000000000 → 0 ≤ l7 → l7 ≤ 10 → (wdI (h t) (h0 f) a2 l7 l5 a3) → 2 * (10 - l7) + (1) ≤ (n : Int) → m_Z oF M_X12_wide 6 [some (mR t), some (mR f), some (mI a2), some (mJ a3), none, some (mJ l5), none, some (mI l7), none, none] [] h (m_QV (P_X12_wide80x h0 t f a2 a3)))
set_option maxHeartbeats 4000000 in
set_option maxRecDepth 100000 in
theorem s_X12_wide80x_6 (h0 : m_H) (t : Nat) (f : Nat) (a2 a3 : Int) (w_t : t = 135 ∨ t = 136) (w_f : f = 124 ∨ f = 125) (G0 : GI h0) (pa2 : 0 ≤ a2 ∧ a2 ≤ 75) (pa3 : 0 ≤ a3 ∧ a3 ≤ 2000000000) (n : Nat) (ih : q_X12_wide80x h0 t f a2 a3 n) : ∀ (l5 l7 : Int) (h : m_H), GI h → FR [t] [] h0 h → 0 ≤ l5 → l5 ≤ 2000000000 → 0 ≤ l7 → l7 ≤ 10 → (wdI (h t) (h0 f) a2 l7 l5 a3) → 2 * (10 - l7) + (1) ≤ ((n + 1 : Nat) : Int) → m_Z oF M_X12_wide 6 [some (mR t), some (mR f), some (mI a2), some (mJ a3), none, some (mJ l5), none, some (mI l7), none, none] [] h (m_QV (P_X12_wide80x h0 t f a2 a3)) := by
  intro l5 l7 h G R v0 v1 v2 v3 i0 hr
  refine z_iload (M := M_X12_wide) 6 dX12_wide_6 rfl ?_
  refine z_bipush (M := M_X12_wide) 8 dX12_wide_8 ?_
  refine z_icmp_ge (M := M_X12_wide) 10 dX12_wide_10 60 rfl (fun c1 => ?_) (fun c1 => ?_)
  · exact z_retV (M := M_X12_wide) 60 dX12_wide_60 rfl ⟨G, R, (wd_end (by omega) (by omega) (fun j hj => gC_124_125 w_f G0 (by omega)) i0).1, (wd_end (by omega) (by omega) (fun j hj => gC_124_125 w_f G0 (by omega)) i0).2⟩
  · refine z_iload (M := M_X12_wide) 13 dX12_wide_13 rfl ?_
    refine z_iconst (M := M_X12_wide) 15 dX12_wide_15 ?_
    refine z_icmp_ge (M := M_X12_wide) 16 dX12_wide_16 30 rfl (fun c2 => ?_) (fun c2 => ?_)
    · refine z_lconst (M := M_X12_wide) 30 dX12_wide_30 (v := 0) ?_
      refine z_lload (M := M_X12_wide) 31 dX12_wide_31 rfl ?_
      refine z_laddN (M := M_X12_wide) 33 dX12_wide_33 (by omega) (by omega) ?_
      refine z_lstore (M := M_X12_wide) 34 dX12_wide_34 (ls' := [some (mR t), some (mR f), some (mI a2), some (mJ a3), none, some (mJ l5), none, some (mI l7), some (mJ (0 + l5)), none]) (by decide) rfl ?_
      refine z_aload_n (M := M_X12_wide) 36 dX12_wide_36 rfl ?_
      refine z_iload (M := M_X12_wide) 37 dX12_wide_37 rfl ?_
      refine z_lload (M := M_X12_wide) 39 dX12_wide_39 rfl ?_
      refine z_ldc2 (M := M_X12_wide) 41 dX12_wide_41 k_X12_327 ?_
      refine z_lremN (M := M_X12_wide) 44 dX12_wide_44 (by omega) (by omega) ?_
      refine z_topBJ (lo := 0) (hi := 99999999) ⟨by omega, by omega⟩ (fun x3 ex3 ax3 bx3 => ?_)
      refine z_lastH (M := M_X12_wide) 45 dX12_wide_45 (oC_135_136 w_t) (by omega) (by omega) (uC_135_136 w_t G) (R.up (by simp [fr])) (fun h1 E1 G1 R1 => ?_)
      refine z_lload (M := M_X12_wide) 46 dX12_wide_46 rfl ?_
      refine z_ldc2 (M := M_X12_wide) 48 dX12_wide_48 k_X12_327 ?_
      refine z_ldivN (M := M_X12_wide) 51 dX12_wide_51 (by omega) (by omega) ?_
      refine z_topBJ (lo := 0) (hi := 20) ⟨by omega, by omega⟩ (fun x4 ex4 ax4 bx4 => ?_)
      refine z_lstore (M := M_X12_wide) 52 dX12_wide_52 (ls' := [some (mR t), some (mR f), some (mI a2), some (mJ a3), none, some (mJ x4), none, some (mI l7), some (mJ (0 + l5)), none]) (by decide) rfl ?_
      refine z_iincN (M := M_X12_wide) 54 dX12_wide_54 (ls' := [some (mR t), some (mR f), some (mI a2), some (mJ a3), none, some (mJ x4), none, some (mI (l7 + 1)), some (mJ (0 + l5)), none]) (by decide) rfl (by (unfold m_32; decide)) (by omega) (by omega) rfl ?_
      refine z_goto (M := M_X12_wide) 57 dX12_wide_57 6 rfl ?_
      exact z_mask [true, true, true, true, false, true, false, true, false, false] rfl (ih x4 (l7 + 1) h1 G1 R1 (by omega) (by omega) (by omega) (by omega) (wdI_b (by omega) (by omega) i0 ex3 ex4 E1) (by omega))
    · refine z_aload_n (M := M_X12_wide) 19 dX12_wide_19 rfl ?_
      refine z_iload_n (M := M_X12_wide) 20 dX12_wide_20 rfl ?_
      refine z_iload (M := M_X12_wide) 21 dX12_wide_21 rfl ?_
      refine z_iaddN (M := M_X12_wide) 23 dX12_wide_23 (by omega) (by omega) ?_
      refine z_laldG (M := M_X12_wide) 24 dX12_wide_24 (oC_124_125 w_f) (by omega) (by omega) (gC_124_125 w_f G (by omega)) (fun x5 ex5 ax5 bx5 => ?_)
      refine z_lload_n (M := M_X12_wide) 25 dX12_wide_25 rfl ?_
      have mx6 := mul_bd (x := x5) (y := a3) (X := 99999999) (Y := 2000000000) (by omega) (by omega) (by omega) (by omega)
      refine z_lmulN (M := M_X12_wide) 26 dX12_wide_26 (by omega) (by omega) ?_
      refine z_topBJ (lo := 0) (hi := 199999998000000000) ⟨by omega, by omega⟩ (fun x6 ex6 ax6 bx6 => ?_)
      refine z_goto (M := M_X12_wide) 27 dX12_wide_27 31 rfl ?_
      refine z_lload (M := M_X12_wide) 31 dX12_wide_31 rfl ?_
      refine z_laddN (M := M_X12_wide) 33 dX12_wide_33 (by omega) (by omega) ?_
      refine z_lstore (M := M_X12_wide) 34 dX12_wide_34 (ls' := [some (mR t), some (mR f), some (mI a2), some (mJ a3), none, some (mJ l5), none, some (mI l7), some (mJ (x6 + l5)), none]) (by decide) rfl ?_
      refine z_aload_n (M := M_X12_wide) 36 dX12_wide_36 rfl ?_
      refine z_iload (M := M_X12_wide) 37 dX12_wide_37 rfl ?_
      refine z_lload (M := M_X12_wide) 39 dX12_wide_39 rfl ?_
      refine z_ldc2 (M := M_X12_wide) 41 dX12_wide_41 k_X12_327 ?_
      refine z_lremN (M := M_X12_wide) 44 dX12_wide_44 (by omega) (by omega) ?_
      refine z_topBJ (lo := 0) (hi := 99999999) ⟨by omega, by omega⟩ (fun x7 ex7 ax7 bx7 => ?_)
      refine z_lastH (M := M_X12_wide) 45 dX12_wide_45 (oC_135_136 w_t) (by omega) (by omega) (uC_135_136 w_t G) (R.up (by simp [fr])) (fun h2 E2 G2 R2 => ?_)
      refine z_lload (M := M_X12_wide) 46 dX12_wide_46 rfl ?_
      refine z_ldc2 (M := M_X12_wide) 48 dX12_wide_48 k_X12_327 ?_
      refine z_ldivN (M := M_X12_wide) 51 dX12_wide_51 (by omega) (by omega) ?_
      refine z_topBJ (lo := 0) (hi := 2000000000) ⟨by omega, by omega⟩ (fun x8 ex8 ax8 bx8 => ?_)
      refine z_lstore (M := M_X12_wide) 52 dX12_wide_52 (ls' := [some (mR t), some (mR f), some (mI a2), some (mJ a3), none, some (mJ x8), none, some (mI l7), some (mJ (x6 + l5)), none]) (by decide) rfl ?_
      refine z_iincN (M := M_X12_wide) 54 dX12_wide_54 (ls' := [some (mR t), some (mR f), some (mI a2), some (mJ a3), none, some (mJ x8), none, some (mI (l7 + 1)), some (mJ (x6 + l5)), none]) (by decide) rfl (by (unfold m_32; decide)) (by omega) (by omega) rfl ?_
      refine z_goto (M := M_X12_wide) 57 dX12_wide_57 6 rfl ?_
      exact z_mask [true, true, true, true, false, true, false, true, false, false] rfl (ih x8 (l7 + 1) h2 G2 R2 (by omega) (by omega) (by omega) (by omega) (wdI_a (by omega) (by omega) (by omega) (by omega) i0 (fun j => R f j (by rcases w_f with rfl | rfl <;> rcases w_t with rfl | rfl <;> rfl)) ex5 ⟨by omega, by omega⟩ ex6 ex7 ex8 E2) (by omega))
theorem a_X12_wide80x (h0 : m_H) (t : Nat) (f : Nat) (a2 a3 : Int) (w_t : t = 135 ∨ t = 136) (w_f : f = 124 ∨ f = 125) (G0 : GI h0) (pa2 : 0 ≤ a2 ∧ a2 ≤ 75) (pa3 : 0 ≤ a3 ∧ a3 ≤ 2000000000) : ∀ n, q_X12_wide80x h0 t f a2 a3 n := by
  intro n
  induction n with
  | zero => unfold q_X12_wide80x; intros; omega
  | succ n ih => exact s_X12_wide80x_6 h0 t f a2 a3 w_t w_f G0 pa2 pa3 n ih
set_option maxHeartbeats 4000000 in
set_option maxRecDepth 100000 in
theorem c_X12_wide80x (h0 : m_H) (t : Nat) (f : Nat) (a2 a3 : Int) (w_t : t = 135 ∨ t = 136) (w_f : f = 124 ∨ f = 125) (G0 : GI h0) (pa2 : 0 ≤ a2 ∧ a2 ≤ 75) (pa3 : 0 ≤ a3 ∧ a3 ≤ 2000000000) : m_CV M_X12_wide [mR t, mR f, mI a2, mJ a3] h0 (P_X12_wide80x h0 t f a2 a3) := by
  refine m_CV_of ⟨by decide, rfl, by simp [m_arg, m_isL, M_X12_wide], ⟨rfl, rfl⟩, rfl, rfl⟩ (ls := [some (mR t), some (mR f), some (mI a2), some (mJ a3), none, none, none, none, none, none]) rfl ?_
  have ih := a_X12_wide80x h0 t f a2 a3 w_t w_f G0 pa2 pa3 28
  refine z_lconst (M := M_X12_wide) 0 dX12_wide_0 (v := 0) ?_
  refine z_lstore (M := M_X12_wide) 1 dX12_wide_1 (ls' := [some (mR t), some (mR f), some (mI a2), some (mJ a3), none, some (mJ 0), none, none, none, none]) (by decide) rfl ?_
  refine z_iconst (M := M_X12_wide) 3 dX12_wide_3 ?_
  refine z_istore (M := M_X12_wide) 4 dX12_wide_4 (ls' := [some (mR t), some (mR f), some (mI a2), some (mJ a3), none, some (mJ 0), none, some (mI 0), none, none]) (by decide) rfl ?_
  exact z_mask [true, true, true, true, false, true, false, true, false, false] rfl (ih 0 0 h0 G0 (FR.rf (cs := [t]) (ss := []) (h := h0)) (by omega) (by omega) (by omega) (by omega) (wdI_0 (by omega)) (by omega))
abbrev P_X12_wide20x (h0 : m_H) (t : Nat) (f : Nat) (a2 a3 : Int) : m_H → Prop := fun h' => GI h' ∧ FR [t] [] h0 h' ∧ dg10 (h' t) ∧ vS (h' t) 0 10 = vS (h0 f) a2.toNat 5 * a3
def q_X12_wide20x (h0 : m_H) (t : Nat) (f : Nat) (a2 a3 : Int) (n : Nat) : Prop := (∀ (l5 l7 : Int) (h : m_H), GI h → FR [t] [] h0 h → 0 ≤ l5 → l5 ≤ 2000000000 → 0 ≤ l7 → l7 ≤ 10 → (wdI (h t) (h0 f) a2 l7 l5 a3) → 2 * (10 - l7) + (1) ≤ (n : Int) → m_Z oF M_X12_wide 6 [some (mR t), some (mR f), some (mI a2), some (mJ a3), none, some (mJ l5), none, some (mI l7), none, none] [] h (m_QV (P_X12_wide20x h0 t f a2 a3)))
set_option maxHeartbeats 4000000 in
set_option maxRecDepth 100000 in
theorem s_X12_wide20x_6 (h0 : m_H) (t : Nat) (f : Nat) (a2 a3 : Int) (w_t : t = 135 ∨ t = 136) (w_f : f = 138) (G0 : GI h0) (pa2 : 0 ≤ a2 ∧ a2 ≤ 15) (pa3 : 0 ≤ a3 ∧ a3 ≤ 2000000000) (n : Nat) (ih : q_X12_wide20x h0 t f a2 a3 n) : ∀ (l5 l7 : Int) (h : m_H), GI h → FR [t] [] h0 h → 0 ≤ l5 → l5 ≤ 2000000000 → 0 ≤ l7 → l7 ≤ 10 → (wdI (h t) (h0 f) a2 l7 l5 a3) → 2 * (10 - l7) + (1) ≤ ((n + 1 : Nat) : Int) → m_Z oF M_X12_wide 6 [some (mR t), some (mR f), some (mI a2), some (mJ a3), none, some (mJ l5), none, some (mI l7), none, none] [] h (m_QV (P_X12_wide20x h0 t f a2 a3)) := by
  intro l5 l7 h G R v0 v1 v2 v3 i0 hr
  refine z_iload (M := M_X12_wide) 6 dX12_wide_6 rfl ?_
  refine z_bipush (M := M_X12_wide) 8 dX12_wide_8 ?_
  refine z_icmp_ge (M := M_X12_wide) 10 dX12_wide_10 60 rfl (fun c1 => ?_) (fun c1 => ?_)
  · exact z_retV (M := M_X12_wide) 60 dX12_wide_60 rfl ⟨G, R, (wd_end (by omega) (by omega) (fun j hj => gC_138 w_f G0 (by omega)) i0).1, (wd_end (by omega) (by omega) (fun j hj => gC_138 w_f G0 (by omega)) i0).2⟩
  · refine z_iload (M := M_X12_wide) 13 dX12_wide_13 rfl ?_
    refine z_iconst (M := M_X12_wide) 15 dX12_wide_15 ?_
    refine z_icmp_ge (M := M_X12_wide) 16 dX12_wide_16 30 rfl (fun c2 => ?_) (fun c2 => ?_)
    · refine z_lconst (M := M_X12_wide) 30 dX12_wide_30 (v := 0) ?_
      refine z_lload (M := M_X12_wide) 31 dX12_wide_31 rfl ?_
      refine z_laddN (M := M_X12_wide) 33 dX12_wide_33 (by omega) (by omega) ?_
      refine z_lstore (M := M_X12_wide) 34 dX12_wide_34 (ls' := [some (mR t), some (mR f), some (mI a2), some (mJ a3), none, some (mJ l5), none, some (mI l7), some (mJ (0 + l5)), none]) (by decide) rfl ?_
      refine z_aload_n (M := M_X12_wide) 36 dX12_wide_36 rfl ?_
      refine z_iload (M := M_X12_wide) 37 dX12_wide_37 rfl ?_
      refine z_lload (M := M_X12_wide) 39 dX12_wide_39 rfl ?_
      refine z_ldc2 (M := M_X12_wide) 41 dX12_wide_41 k_X12_327 ?_
      refine z_lremN (M := M_X12_wide) 44 dX12_wide_44 (by omega) (by omega) ?_
      refine z_topBJ (lo := 0) (hi := 99999999) ⟨by omega, by omega⟩ (fun x3 ex3 ax3 bx3 => ?_)
      refine z_lastH (M := M_X12_wide) 45 dX12_wide_45 (oC_135_136 w_t) (by omega) (by omega) (uC_135_136 w_t G) (R.up (by simp [fr])) (fun h1 E1 G1 R1 => ?_)
      refine z_lload (M := M_X12_wide) 46 dX12_wide_46 rfl ?_
      refine z_ldc2 (M := M_X12_wide) 48 dX12_wide_48 k_X12_327 ?_
      refine z_ldivN (M := M_X12_wide) 51 dX12_wide_51 (by omega) (by omega) ?_
      refine z_topBJ (lo := 0) (hi := 20) ⟨by omega, by omega⟩ (fun x4 ex4 ax4 bx4 => ?_)
      refine z_lstore (M := M_X12_wide) 52 dX12_wide_52 (ls' := [some (mR t), some (mR f), some (mI a2), some (mJ a3), none, some (mJ x4), none, some (mI l7), some (mJ (0 + l5)), none]) (by decide) rfl ?_
      refine z_iincN (M := M_X12_wide) 54 dX12_wide_54 (ls' := [some (mR t), some (mR f), some (mI a2), some (mJ a3), none, some (mJ x4), none, some (mI (l7 + 1)), some (mJ (0 + l5)), none]) (by decide) rfl (by (unfold m_32; decide)) (by omega) (by omega) rfl ?_
      refine z_goto (M := M_X12_wide) 57 dX12_wide_57 6 rfl ?_
      exact z_mask [true, true, true, true, false, true, false, true, false, false] rfl (ih x4 (l7 + 1) h1 G1 R1 (by omega) (by omega) (by omega) (by omega) (wdI_b (by omega) (by omega) i0 ex3 ex4 E1) (by omega))
    · refine z_aload_n (M := M_X12_wide) 19 dX12_wide_19 rfl ?_
      refine z_iload_n (M := M_X12_wide) 20 dX12_wide_20 rfl ?_
      refine z_iload (M := M_X12_wide) 21 dX12_wide_21 rfl ?_
      refine z_iaddN (M := M_X12_wide) 23 dX12_wide_23 (by omega) (by omega) ?_
      refine z_laldG (M := M_X12_wide) 24 dX12_wide_24 (oC_138 w_f) (by omega) (by omega) (gC_138 w_f G (by omega)) (fun x5 ex5 ax5 bx5 => ?_)
      refine z_lload_n (M := M_X12_wide) 25 dX12_wide_25 rfl ?_
      have mx6 := mul_bd (x := x5) (y := a3) (X := 99999999) (Y := 2000000000) (by omega) (by omega) (by omega) (by omega)
      refine z_lmulN (M := M_X12_wide) 26 dX12_wide_26 (by omega) (by omega) ?_
      refine z_topBJ (lo := 0) (hi := 199999998000000000) ⟨by omega, by omega⟩ (fun x6 ex6 ax6 bx6 => ?_)
      refine z_goto (M := M_X12_wide) 27 dX12_wide_27 31 rfl ?_
      refine z_lload (M := M_X12_wide) 31 dX12_wide_31 rfl ?_
      refine z_laddN (M := M_X12_wide) 33 dX12_wide_33 (by omega) (by omega) ?_
      refine z_lstore (M := M_X12_wide) 34 dX12_wide_34 (ls' := [some (mR t), some (mR f), some (mI a2), some (mJ a3), none, some (mJ l5), none, some (mI l7), some (mJ (x6 + l5)), none]) (by decide) rfl ?_
      refine z_aload_n (M := M_X12_wide) 36 dX12_wide_36 rfl ?_
      refine z_iload (M := M_X12_wide) 37 dX12_wide_37 rfl ?_
      refine z_lload (M := M_X12_wide) 39 dX12_wide_39 rfl ?_
      refine z_ldc2 (M := M_X12_wide) 41 dX12_wide_41 k_X12_327 ?_
      refine z_lremN (M := M_X12_wide) 44 dX12_wide_44 (by omega) (by omega) ?_
      refine z_topBJ (lo := 0) (hi := 99999999) ⟨by omega, by omega⟩ (fun x7 ex7 ax7 bx7 => ?_)
      refine z_lastH (M := M_X12_wide) 45 dX12_wide_45 (oC_135_136 w_t) (by omega) (by omega) (uC_135_136 w_t G) (R.up (by simp [fr])) (fun h2 E2 G2 R2 => ?_)
      refine z_lload (M := M_X12_wide) 46 dX12_wide_46 rfl ?_
      refine z_ldc2 (M := M_X12_wide) 48 dX12_wide_48 k_X12_327 ?_
      refine z_ldivN (M := M_X12_wide) 51 dX12_wide_51 (by omega) (by omega) ?_
      refine z_topBJ (lo := 0) (hi := 2000000000) ⟨by omega, by omega⟩ (fun x8 ex8 ax8 bx8 => ?_)
      refine z_lstore (M := M_X12_wide) 52 dX12_wide_52 (ls' := [some (mR t), some (mR f), some (mI a2), some (mJ a3), none, some (mJ x8), none, some (mI l7), some (mJ (x6 + l5)), none]) (by decide) rfl ?_
      refine z_iincN (M := M_X12_wide) 54 dX12_wide_54 (ls' := [some (mR t), some (mR f), some (mI a2), some (mJ a3), none, some (mJ x8), none, some (mI (l7 + 1)), some (mJ (x6 + l5)), none]) (by decide) rfl (by (unfold m_32; decide)) (by omega) (by omega) rfl ?_
      refine z_goto (M := M_X12_wide) 57 dX12_wide_57 6 rfl ?_
      exact z_mask [true, true, true, true, false, true, false, true, false, false] rfl (ih x8 (l7 + 1) h2 G2 R2 (by omega) (by omega) (by omega) (by omega) (wdI_a (by omega) (by omega) (by omega) (by omega) i0 (fun j => R f j (by subst w_f; rcases w_t with rfl | rfl <;> rfl)) ex5 ⟨by omega, by omega⟩ ex6 ex7 ex8 E2) (by omega))
theorem a_X12_wide20x (h0 : m_H) (t : Nat) (f : Nat) (a2 a3 : Int) (w_t : t = 135 ∨ t = 136) (w_f : f = 138) (G0 : GI h0) (pa2 : 0 ≤ a2 ∧ a2 ≤ 15) (pa3 : 0 ≤ a3 ∧ a3 ≤ 2000000000) : ∀ n, q_X12_wide20x h0 t f a2 a3 n := by
  intro n
  induction n with
  | zero => unfold q_X12_wide20x; intros; omega
  | succ n ih => exact s_X12_wide20x_6 h0 t f a2 a3 w_t w_f G0 pa2 pa3 n ih
set_option maxHeartbeats 4000000 in
set_option maxRecDepth 100000 in
theorem c_X12_wide20x (h0 : m_H) (t : Nat) (f : Nat) (a2 a3 : Int) (w_t : t = 135 ∨ t = 136) (w_f : f = 138) (G0 : GI h0) (pa2 : 0 ≤ a2 ∧ a2 ≤ 15) (pa3 : 0 ≤ a3 ∧ a3 ≤ 2000000000) : m_CV M_X12_wide [mR t, mR f, mI a2, mJ a3] h0 (P_X12_wide20x h0 t f a2 a3) := by
  refine m_CV_of ⟨by decide, rfl, by simp [m_arg, m_isL, M_X12_wide], ⟨rfl, rfl⟩, rfl, rfl⟩ (ls := [some (mR t), some (mR f), some (mI a2), some (mJ a3), none, none, none, none, none, none]) rfl ?_
  have ih := a_X12_wide20x h0 t f a2 a3 w_t w_f G0 pa2 pa3 28
  refine z_lconst (M := M_X12_wide) 0 dX12_wide_0 (v := 0) ?_
  refine z_lstore (M := M_X12_wide) 1 dX12_wide_1 (ls' := [some (mR t), some (mR f), some (mI a2), some (mJ a3), none, some (mJ 0), none, none, none, none]) (by decide) rfl ?_
  refine z_iconst (M := M_X12_wide) 3 dX12_wide_3 ?_
  refine z_istore (M := M_X12_wide) 4 dX12_wide_4 (ls' := [some (mR t), some (mR f), some (mI a2), some (mJ a3), none, some (mJ 0), none, some (mI 0), none, none]) (by decide) rfl ?_
  exact z_mask [true, true, true, true, false, true, false, true, false, false] rfl (ih 0 0 h0 G0 (FR.rf (cs := [t]) (ss := []) (h := h0)) (by omega) (by omega) (by omega) (by omega) (wdI_0 (by omega)) (by omega))
/-- how often one number is in another, at most so many times -/
def shQ (x S L m : Int) : Prop := L * x ≤ S ∧ (x < m → S < L * (x + 1))
def shK (f g : Nat → Int) (X S e s k : Int) : Prop := (s = 0 ∨ s = 1) ∧ (s = 1 → e = 1 ∧ cpI f g X S k) ∧ (s = 0 → (e = 1 ↔ X ≤ S))
theorem shK_0 {f g : Nat → Int} {X S : Int} (d1 : dg10 f) (e1 : vS f 0 10 = X) (d2 : dg10 g) (e2 : vS g 0 10 = S) : shK f g X S 1 1 9 := ⟨Or.inr rfl, fun _ => ⟨rfl, d1, d2, e1, e2, fun j h1 h2 => by omega⟩, fun z => absurd z (by decide)⟩
theorem shK_end {f g : Nat → Int} {X S e s k : Int} (K : shK f g X S e s k) (h : k < 0 ∨ s = 0) : e = 1 ↔ X ≤ S := by
  obtain ⟨k1, k2, k3⟩ := K
  rcases k1 with q | q
  · exact k3 q
  · obtain ⟨h1, h2⟩ := k2 q
    have z := cpI_eq h2 (by omega)
    unfold cmpQ at z
    exact ⟨fun _ => by omega, fun _ => h1⟩
theorem shK_gt {f g : Nat → Int} {X S e k k' x y : Int} (K : shK f g X S e 1 k) (h0 : 0 ≤ k) (h9 : k ≤ 9) (ex : f k.toNat = x) (ey : g k.toNat = y) (c : y < x) : shK f g X S 0 0 k' := by
  have z := cpI_gt (K.2.1 rfl).2 h0 h9 ex ey c
  unfold cmpQ at z
  exact ⟨Or.inl rfl, fun q => absurd q (by decide), fun _ => ⟨fun q => absurd q (by decide), fun q => by omega⟩⟩
theorem shK_lt {f g : Nat → Int} {X S e k k' x y : Int} (K : shK f g X S e 1 k) (h0 : 0 ≤ k) (h9 : k ≤ 9) (ex : f k.toNat = x) (ey : g k.toNat = y) (c : x < y) : shK f g X S 1 0 k' := by
  have z := cpI_lt (K.2.1 rfl).2 h0 h9 ex ey c
  unfold cmpQ at z
  exact ⟨Or.inl rfl, fun q => absurd q (by decide), fun _ => ⟨fun q => by omega, fun _ => rfl⟩⟩
theorem shK_eq {f g : Nat → Int} {X S e k x y : Int} (K : shK f g X S e 1 k) (h0 : 0 ≤ k) (ex : f k.toNat = x) (ey : g k.toNat = y) (c : x = y) : shK f g X S 1 1 (k + (-1)) := by
  have z := cpI_step (K.2.1 rfl).2 h0 ex ey c
  rw [show k - 1 = k + (-1) by omega] at z
  exact ⟨Or.inr rfl, fun _ => ⟨rfl, z⟩, fun q => absurd q (by decide)⟩
abbrev P_X12_share2 (h0 : m_H) (f : Nat) (f2 : Nat) (a2 a4 a5 a6 : Int) : Int → m_H → Prop := fun x h' => GI h' ∧ FR [135, 136] [] h0 h' ∧ 0 ≤ x ∧ x ≤ 2000000000 ∧ shQ x (vS (h0 f) a2.toNat 5 * a5) (vS (h0 f2) a4.toNat 5) a6
def q_X12_share2 (h0 : m_H) (f : Nat) (f2 : Nat) (a2 a4 a5 a6 : Int) (n : Nat) : Prop := (∀ (l7 l8 : Int) (h : m_H), GI h → FR [135, 136] [] h0 h → 0 ≤ l7 → l7 ≤ 2000000000 → 0 ≤ l8 → l8 ≤ 2000000000 → (-2147483648) ≤ a5 → a5 ≤ 2147483647 → (l7 ≤ l8) → (dg10 (h 135) ∧ vS (h 135) 0 10 = (vS (h0 f) a2.toNat 5 * a5)) → ((vS (h0 f2) a4.toNat 5) * l7 ≤ (vS (h0 f) a2.toNat 5 * a5) ∧ (l8 < a6 → (vS (h0 f) a2.toNat 5 * a5) < (vS (h0 f2) a4.toNat 5) * (l8 + 1)) ∧ l8 ≤ a6) → 25 * (l8 - l7) + (24) ≤ (n : Int) → m_Z oF M_X12_share 19 [some (mR 108), none, none, some (mR f2), some (mI a4), none, none, some (mI l7), some (mI l8), none, none, none, none] [] h (m_QI (P_X12_share2 h0 f f2 a2 a4 a5 a6))) ∧ (∀ (l7 l8 l9 l10 l11 l12 : Int) (h : m_H), GI h → FR [135, 136] [] h0 h → 0 ≤ l7 → l7 ≤ 1999999999 → 1 ≤ l8 → l8 ≤ 2000000000 → 0 ≤ l9 → l9 ≤ 2000000000 → 0 ≤ l10 → l10 ≤ 1 → 0 ≤ l11 → l11 ≤ 1 → (-1) ≤ l12 → l12 ≤ 9 → (-2147483648) ≤ a5 → a5 ≤ 2147483647 → (l7 ≤ l9 - 1 ∧ l9 ≤ l8) → (dg10 (h 135) ∧ vS (h 135) 0 10 = (vS (h0 f) a2.toNat 5 * a5)) → ((vS (h0 f2) a4.toNat 5) * l7 ≤ (vS (h0 f) a2.toNat 5 * a5) ∧ (l8 < a6 → (vS (h0 f) a2.toNat 5 * a5) < (vS (h0 f2) a4.toNat 5) * (l8 + 1)) ∧ l8 ≤ a6) → (shK (h 136) (h 135) ((vS (h0 f2) a4.toNat 5) * l9) (vS (h0 f) a2.toNat 5 * a5) l10 l11 l12) → 25 * (l8 - l7) + 2 * (l12 - (-1)) + (1) ≤ (n : Int) → m_Z oF M_X12_share 63 [some (mR 108), none, none, some (mR f2), some (mI a4), none, none, some (mI l7), some (mI l8), some (mI l9), some (mI l10), some (mI l11), some (mI l12)] [] h (m_QI (P_X12_share2 h0 f f2 a2 a4 a5 a6)))
set_option maxHeartbeats 4000000 in
set_option maxRecDepth 100000 in
theorem s_X12_share2_19 (h0 : m_H) (f : Nat) (f2 : Nat) (a2 a4 a5 a6 : Int) (w_f : f = 124 ∨ f = 125) (w_f2 : f2 = 124 ∨ f2 = 125) (G0 : GI h0) (pa2 : 0 ≤ a2 ∧ a2 ≤ 75) (pa4 : 0 ≤ a4 ∧ a4 ≤ 75) (pa6 : 0 ≤ a6 ∧ a6 ≤ 2000000000) (hb5 : 0 ≤ a5 ∧ a5 ≤ 2000000000) (n : Nat) (ih : q_X12_share2 h0 f f2 a2 a4 a5 a6 n) : ∀ (l7 l8 : Int) (h : m_H), GI h → FR [135, 136] [] h0 h → 0 ≤ l7 → l7 ≤ 2000000000 → 0 ≤ l8 → l8 ≤ 2000000000 → (-2147483648) ≤ a5 → a5 ≤ 2147483647 → (l7 ≤ l8) → (dg10 (h 135) ∧ vS (h 135) 0 10 = (vS (h0 f) a2.toNat 5 * a5)) → ((vS (h0 f2) a4.toNat 5) * l7 ≤ (vS (h0 f) a2.toNat 5 * a5) ∧ (l8 < a6 → (vS (h0 f) a2.toNat 5 * a5) < (vS (h0 f2) a4.toNat 5) * (l8 + 1)) ∧ l8 ≤ a6) → 25 * (l8 - l7) + (24) ≤ ((n + 1 : Nat) : Int) → m_Z oF M_X12_share 19 [some (mR 108), none, none, some (mR f2), some (mI a4), none, none, some (mI l7), some (mI l8), none, none, none, none] [] h (m_QI (P_X12_share2 h0 f f2 a2 a4 a5 a6)) := by
  intro l7 l8 h G R v0 v1 v2 v3 v4 v5 i0 i1 i2 hr
  have ef_ : h f2 = h0 f2 := by rcases w_f2 with rfl | rfl <;> exact FR.row R (fun _ => rfl)
  refine z_iload (M := M_X12_share) 19 dX12_share_19 rfl ?_
  refine z_iload (M := M_X12_share) 21 dX12_share_21 rfl ?_
  refine z_icmp_ge (M := M_X12_share) 23 dX12_share_23 150 rfl (fun c1 => ?_) (fun c1 => ?_)
  · refine z_iload (M := M_X12_share) 150 dX12_share_150 rfl ?_
    exact z_retI (M := M_X12_share) 152 dX12_share_152 rfl ⟨G, R, by omega, by omega, by have e_ : l8 = l7 := (by omega); rw [e_] at i2; exact ⟨i2.1, i2.2.1⟩⟩
  · refine z_iload (M := M_X12_share) 26 dX12_share_26 rfl ?_
    refine z_iload (M := M_X12_share) 28 dX12_share_28 rfl ?_
    refine z_iload (M := M_X12_share) 30 dX12_share_30 rfl ?_
    refine z_isubN (M := M_X12_share) 32 dX12_share_32 (by omega) (by omega) ?_
    refine z_iconst (M := M_X12_share) 33 dX12_share_33 ?_
    refine z_iaddN (M := M_X12_share) 34 dX12_share_34 (by omega) (by omega) ?_
    refine z_iconst (M := M_X12_share) 35 dX12_share_35 ?_
    refine z_idivN (M := M_X12_share) 36 dX12_share_36 (by omega) (by omega) ?_
    refine z_topBI (lo := 0) (hi := 1000000000) ⟨by omega, by omega⟩ (fun x2 ex2 ax2 bx2 => ?_)
    refine z_iaddN (M := M_X12_share) 37 dX12_share_37 (by omega) (by omega) ?_
    refine z_topBI (lo := 0) (hi := 2000000000) ⟨by omega, by omega⟩ (fun x3 ex3 ax3 bx3 => ?_)
    refine z_istore (M := M_X12_share) 38 dX12_share_38 (ls' := [some (mR 108), none, none, some (mR f2), some (mI a4), none, none, some (mI l7), some (mI l8), some (mI x3), none, none, none]) (by decide) rfl ?_
    refine z_aload_n (M := M_X12_share) 40 dX12_share_40 rfl ?_
    refine z_getR (M := M_X12_share) 41 dX12_share_41 f_X12_97 o_108 rfl (g_108_41 G) ?_
    refine z_aload_n (M := M_X12_share) 44 dX12_share_44 rfl ?_
    refine z_iload (M := M_X12_share) 45 dX12_share_45 rfl ?_
    refine z_iload (M := M_X12_share) 47 dX12_share_47 rfl ?_
    refine z_i2l (M := M_X12_share) 49 dX12_share_49 ?_
    refine z_sV (M := M_X12_share) 50 dX12_share_50 t_X12_wide l_X12_387 (m_rr_of rfl) (rest := []) (c_X12_wide80x h 136 f2 a4 x3 (Or.inr rfl) w_f2 G ⟨by omega, by omega⟩ ⟨by omega, by omega⟩) rfl rfl (Nat.le_of_ble_eq_true rfl) ⟨rfl, rfl⟩ (fun h1 qx4 => ?_)
    obtain ⟨G1, S1, W1, W2⟩ := qx4
    have i1c : dg10 (h1 135) ∧ vS (h1 135) 0 10 = (vS (h0 f) a2.toNat 5 * a5) := by rw [FR.row (c := 135) S1 (fun _ => rfl)]; exact i1
    rw [ef_] at W2
    have R1 := R.call S1 (by decide +kernel)
    refine z_iconst (M := M_X12_share) 53 dX12_share_53 ?_
    refine z_istore (M := M_X12_share) 54 dX12_share_54 (ls' := [some (mR 108), none, none, some (mR f2), some (mI a4), none, none, some (mI l7), some (mI l8), some (mI x3), some (mI 1), none, none]) (by decide) rfl ?_
    refine z_iconst (M := M_X12_share) 56 dX12_share_56 ?_
    refine z_istore (M := M_X12_share) 57 dX12_share_57 (ls' := [some (mR 108), none, none, some (mR f2), some (mI a4), none, none, some (mI l7), some (mI l8), some (mI x3), some (mI 1), some (mI 1), none]) (by decide) rfl ?_
    refine z_bipush (M := M_X12_share) 59 dX12_share_59 ?_
    refine z_istore (M := M_X12_share) 61 dX12_share_61 (ls' := [some (mR 108), none, none, some (mR f2), some (mI a4), none, none, some (mI l7), some (mI l8), some (mI x3), some (mI 1), some (mI 1), some (mI 9)]) (by decide) rfl ?_
    exact z_mask [true, false, false, true, true, false, false, true, true, true, true, true, true] rfl (ih.2 l7 l8 x3 1 1 9 h1 G1 R1 (by omega) (by omega) (by omega) (by omega) (by omega) (by omega) (by omega) (by omega) (by omega) (by omega) (by omega) (by omega) (by omega) (by omega) (by omega) i1c i2 (shK_0 W1 W2 i1c.1 i1c.2) (by omega))
set_option maxHeartbeats 4000000 in
set_option maxRecDepth 100000 in
theorem s_X12_share2_63 (h0 : m_H) (f : Nat) (f2 : Nat) (a2 a4 a5 a6 : Int) (w_f : f = 124 ∨ f = 125) (w_f2 : f2 = 124 ∨ f2 = 125) (G0 : GI h0) (pa2 : 0 ≤ a2 ∧ a2 ≤ 75) (pa4 : 0 ≤ a4 ∧ a4 ≤ 75) (pa6 : 0 ≤ a6 ∧ a6 ≤ 2000000000) (hb5 : 0 ≤ a5 ∧ a5 ≤ 2000000000) (n : Nat) (ih : q_X12_share2 h0 f f2 a2 a4 a5 a6 n) : ∀ (l7 l8 l9 l10 l11 l12 : Int) (h : m_H), GI h → FR [135, 136] [] h0 h → 0 ≤ l7 → l7 ≤ 1999999999 → 1 ≤ l8 → l8 ≤ 2000000000 → 0 ≤ l9 → l9 ≤ 2000000000 → 0 ≤ l10 → l10 ≤ 1 → 0 ≤ l11 → l11 ≤ 1 → (-1) ≤ l12 → l12 ≤ 9 → (-2147483648) ≤ a5 → a5 ≤ 2147483647 → (l7 ≤ l9 - 1 ∧ l9 ≤ l8) → (dg10 (h 135) ∧ vS (h 135) 0 10 = (vS (h0 f) a2.toNat 5 * a5)) → ((vS (h0 f2) a4.toNat 5) * l7 ≤ (vS (h0 f) a2.toNat 5 * a5) ∧ (l8 < a6 → (vS (h0 f) a2.toNat 5 * a5) < (vS (h0 f2) a4.toNat 5) * (l8 + 1)) ∧ l8 ≤ a6) → (shK (h 136) (h 135) ((vS (h0 f2) a4.toNat 5) * l9) (vS (h0 f) a2.toNat 5 * a5) l10 l11 l12) → 25 * (l8 - l7) + 2 * (l12 - (-1)) + (1) ≤ ((n + 1 : Nat) : Int) → m_Z oF M_X12_share 63 [some (mR 108), none, none, some (mR f2), some (mI a4), none, none, some (mI l7), some (mI l8), some (mI l9), some (mI l10), some (mI l11), some (mI l12)] [] h (m_QI (P_X12_share2 h0 f f2 a2 a4 a5 a6)) := by
  intro l7 l8 l9 l10 l11 l12 h G R v0 v1 v2 v3 v4 v5 v6 v7 v8 v9 v10 v11 v12 v13 i0 i1 i2 i3 hr
  refine z_iload (M := M_X12_share) 63 dX12_share_63 rfl ?_
  refine z_if_lt (M := M_X12_share) 65 dX12_share_65 129 rfl (fun c1 => ?_) (fun c1 => ?_)
  · refine z_iload (M := M_X12_share) 129 dX12_share_129 rfl ?_
    refine z_if_eq (M := M_X12_share) 131 dX12_share_131 141 rfl (fun c2 => ?_) (fun c2 => ?_)
    · refine z_iload (M := M_X12_share) 141 dX12_share_141 rfl ?_
      refine z_iconst (M := M_X12_share) 143 dX12_share_143 ?_
      refine z_isubN (M := M_X12_share) 144 dX12_share_144 (by omega) (by omega) ?_
      refine z_istore (M := M_X12_share) 145 dX12_share_145 (ls' := [some (mR 108), none, none, some (mR f2), some (mI a4), none, none, some (mI l7), some (mI (l9 - 1)), some (mI l9), some (mI l10), some (mI l11), some (mI l12)]) (by decide) rfl ?_
      refine z_goto (M := M_X12_share) 147 dX12_share_147 19 rfl ?_
      exact z_mask [true, false, false, true, true, false, false, true, true, false, false, false, false] rfl (ih.1 l7 (l9 - 1) h G R (by omega) (by omega) (by omega) (by omega) (by omega) (by omega) (by omega) i1 ⟨i2.1, fun _ => by rw [show l9 - 1 + 1 = l9 by omega]; have e_ := shK_end i3 (by omega); omega, by omega⟩ (by omega))
    · refine z_iload (M := M_X12_share) 134 dX12_share_134 rfl ?_
      refine z_istore (M := M_X12_share) 136 dX12_share_136 (ls' := [some (mR 108), none, none, some (mR f2), some (mI a4), none, none, some (mI l9), some (mI l8), some (mI l9), some (mI l10), some (mI l11), some (mI l12)]) (by decide) rfl ?_
      refine z_goto (M := M_X12_share) 138 dX12_share_138 147 rfl ?_
      refine z_goto (M := M_X12_share) 147 dX12_share_147 19 rfl ?_
      exact z_mask [true, false, false, true, true, false, false, true, true, false, false, false, false] rfl (ih.1 l9 l8 h G R (by omega) (by omega) (by omega) (by omega) (by omega) (by omega) (by omega) i1 ⟨(shK_end i3 (by omega)).mp (by omega), i2.2.1, i2.2.2⟩ (by omega))
  · refine z_iload (M := M_X12_share) 68 dX12_share_68 rfl ?_
    refine z_if_eq (M := M_X12_share) 70 dX12_share_70 129 rfl (fun c3 => ?_) (fun c3 => ?_)
    · refine z_iload (M := M_X12_share) 129 dX12_share_129 rfl ?_
      refine z_if_eq (M := M_X12_share) 131 dX12_share_131 141 rfl (fun c4 => ?_) (fun c4 => ?_)
      · refine z_iload (M := M_X12_share) 141 dX12_share_141 rfl ?_
        refine z_iconst (M := M_X12_share) 143 dX12_share_143 ?_
        refine z_isubN (M := M_X12_share) 144 dX12_share_144 (by omega) (by omega) ?_
        refine z_istore (M := M_X12_share) 145 dX12_share_145 (ls' := [some (mR 108), none, none, some (mR f2), some (mI a4), none, none, some (mI l7), some (mI (l9 - 1)), some (mI l9), some (mI l10), some (mI l11), some (mI l12)]) (by decide) rfl ?_
        refine z_goto (M := M_X12_share) 147 dX12_share_147 19 rfl ?_
        exact z_mask [true, false, false, true, true, false, false, true, true, false, false, false, false] rfl (ih.1 l7 (l9 - 1) h G R (by omega) (by omega) (by omega) (by omega) (by omega) (by omega) (by omega) i1 ⟨i2.1, fun _ => by rw [show l9 - 1 + 1 = l9 by omega]; have e_ := shK_end i3 (by omega); omega, by omega⟩ (by omega))
      · refine z_iload (M := M_X12_share) 134 dX12_share_134 rfl ?_
        refine z_istore (M := M_X12_share) 136 dX12_share_136 (ls' := [some (mR 108), none, none, some (mR f2), some (mI a4), none, none, some (mI l9), some (mI l8), some (mI l9), some (mI l10), some (mI l11), some (mI l12)]) (by decide) rfl ?_
        refine z_goto (M := M_X12_share) 138 dX12_share_138 147 rfl ?_
        refine z_goto (M := M_X12_share) 147 dX12_share_147 19 rfl ?_
        exact z_mask [true, false, false, true, true, false, false, true, true, false, false, false, false] rfl (ih.1 l9 l8 h G R (by omega) (by omega) (by omega) (by omega) (by omega) (by omega) (by omega) i1 ⟨(shK_end i3 (by omega)).mp (by omega), i2.2.1, i2.2.2⟩ (by omega))
    · refine z_aload_n (M := M_X12_share) 73 dX12_share_73 rfl ?_
      refine z_getR (M := M_X12_share) 74 dX12_share_74 f_X12_97 o_108 rfl (g_108_41 G) ?_
      refine z_iload (M := M_X12_share) 77 dX12_share_77 rfl ?_
      refine z_laldV (M := M_X12_share) 79 dX12_share_79 o_136 (by omega) (by omega) (fun x5 ex5 => ?_)
      refine z_aload_n (M := M_X12_share) 80 dX12_share_80 rfl ?_
      refine z_getR (M := M_X12_share) 81 dX12_share_81 f_X12_94 o_108 rfl (g_108_40 G) ?_
      refine z_iload (M := M_X12_share) 84 dX12_share_84 rfl ?_
      refine z_laldV (M := M_X12_share) 86 dX12_share_86 o_135 (by omega) (by omega) (fun x6 ex6 => ?_)
      refine z_lcmp (M := M_X12_share) 87 dX12_share_87 ?_
      refine z_if_ne (M := M_X12_share) 88 dX12_share_88 95 rfl (fun c7 => ?_) (fun c7 => ?_)
      · rw [m_cmp_eq] at c7
        refine z_iconst (M := M_X12_share) 95 dX12_share_95 ?_
        refine z_istore (M := M_X12_share) 96 dX12_share_96 (ls' := [some (mR 108), none, none, some (mR f2), some (mI a4), none, none, some (mI l7), some (mI l8), some (mI l9), some (mI l10), some (mI 0), some (mI l12)]) (by decide) rfl ?_
        refine z_aload_n (M := M_X12_share) 98 dX12_share_98 rfl ?_
        refine z_getR (M := M_X12_share) 99 dX12_share_99 f_X12_97 o_108 rfl (g_108_41 G) ?_
        refine z_iload (M := M_X12_share) 102 dX12_share_102 rfl ?_
        refine z_laldE (M := M_X12_share) 104 dX12_share_104 o_136 (by omega) (by omega) ex5 ?_
        refine z_aload_n (M := M_X12_share) 105 dX12_share_105 rfl ?_
        refine z_getR (M := M_X12_share) 106 dX12_share_106 f_X12_94 o_108 rfl (g_108_40 G) ?_
        refine z_iload (M := M_X12_share) 109 dX12_share_109 rfl ?_
        refine z_laldE (M := M_X12_share) 111 dX12_share_111 o_135 (by omega) (by omega) ex6 ?_
        refine z_lcmp (M := M_X12_share) 112 dX12_share_112 ?_
        refine z_if_gt (M := M_X12_share) 113 dX12_share_113 120 rfl (fun c8 => ?_) (fun c8 => ?_)
        · rw [m_cmp_gt] at c8
          refine z_iconst (M := M_X12_share) 120 dX12_share_120 ?_
          refine z_istore (M := M_X12_share) 121 dX12_share_121 (ls' := [some (mR 108), none, none, some (mR f2), some (mI a4), none, none, some (mI l7), some (mI l8), some (mI l9), some (mI 0), some (mI 0), some (mI l12)]) (by decide) rfl ?_
          refine z_iincN (M := M_X12_share) 123 dX12_share_123 (ls' := [some (mR 108), none, none, some (mR f2), some (mI a4), none, none, some (mI l7), some (mI l8), some (mI l9), some (mI 0), some (mI 0), some (mI (l12 + (-1)))]) (by decide) rfl (by (unfold m_32; decide)) (by omega) (by omega) rfl ?_
          refine z_goto (M := M_X12_share) 126 dX12_share_126 63 rfl ?_
          exact z_mask [true, false, false, true, true, false, false, true, true, true, true, true, true] rfl (ih.2 l7 l8 l9 0 0 (l12 + (-1)) h G R (by omega) (by omega) (by omega) (by omega) (by omega) (by omega) (by omega) (by omega) (by omega) (by omega) (by omega) (by omega) (by omega) (by omega) (by omega) i1 i2 (shK_gt (by have q := i3; rw [show l11 = 1 by omega] at q; exact q) (by omega) (by omega) ex5 ex6 (by omega)) (by omega))
        · rw [m_cmp_gt] at c8
          refine z_iconst (M := M_X12_share) 116 dX12_share_116 ?_
          refine z_goto (M := M_X12_share) 117 dX12_share_117 121 rfl ?_
          refine z_istore (M := M_X12_share) 121 dX12_share_121 (ls' := [some (mR 108), none, none, some (mR f2), some (mI a4), none, none, some (mI l7), some (mI l8), some (mI l9), some (mI 1), some (mI 0), some (mI l12)]) (by decide) rfl ?_
          refine z_iincN (M := M_X12_share) 123 dX12_share_123 (ls' := [some (mR 108), none, none, some (mR f2), some (mI a4), none, none, some (mI l7), some (mI l8), some (mI l9), some (mI 1), some (mI 0), some (mI (l12 + (-1)))]) (by decide) rfl (by (unfold m_32; decide)) (by omega) (by omega) rfl ?_
          refine z_goto (M := M_X12_share) 126 dX12_share_126 63 rfl ?_
          exact z_mask [true, false, false, true, true, false, false, true, true, true, true, true, true] rfl (ih.2 l7 l8 l9 1 0 (l12 + (-1)) h G R (by omega) (by omega) (by omega) (by omega) (by omega) (by omega) (by omega) (by omega) (by omega) (by omega) (by omega) (by omega) (by omega) (by omega) (by omega) i1 i2 (shK_lt (by have q := i3; rw [show l11 = 1 by omega] at q; exact q) (by omega) (by omega) ex5 ex6 (by omega)) (by omega))
      · rw [m_cmp_eq] at c7
        refine z_iconst (M := M_X12_share) 91 dX12_share_91 ?_
        refine z_goto (M := M_X12_share) 92 dX12_share_92 96 rfl ?_
        refine z_istore (M := M_X12_share) 96 dX12_share_96 (ls' := [some (mR 108), none, none, some (mR f2), some (mI a4), none, none, some (mI l7), some (mI l8), some (mI l9), some (mI l10), some (mI 1), some (mI l12)]) (by decide) rfl ?_
        refine z_aload_n (M := M_X12_share) 98 dX12_share_98 rfl ?_
        refine z_getR (M := M_X12_share) 99 dX12_share_99 f_X12_97 o_108 rfl (g_108_41 G) ?_
        refine z_iload (M := M_X12_share) 102 dX12_share_102 rfl ?_
        refine z_laldE (M := M_X12_share) 104 dX12_share_104 o_136 (by omega) (by omega) ex5 ?_
        refine z_aload_n (M := M_X12_share) 105 dX12_share_105 rfl ?_
        refine z_getR (M := M_X12_share) 106 dX12_share_106 f_X12_94 o_108 rfl (g_108_40 G) ?_
        refine z_iload (M := M_X12_share) 109 dX12_share_109 rfl ?_
        refine z_laldE (M := M_X12_share) 111 dX12_share_111 o_135 (by omega) (by omega) ex6 ?_
        refine z_lcmp (M := M_X12_share) 112 dX12_share_112 ?_
        refine z_if_gt (M := M_X12_share) 113 dX12_share_113 120 rfl (fun c9 => ?_) (fun c9 => ?_)
        · rw [m_cmp_gt] at c9
          refine z_iconst (M := M_X12_share) 120 dX12_share_120 ?_
          refine z_istore (M := M_X12_share) 121 dX12_share_121 (ls' := [some (mR 108), none, none, some (mR f2), some (mI a4), none, none, some (mI l7), some (mI l8), some (mI l9), some (mI 0), some (mI 1), some (mI l12)]) (by decide) rfl ?_
          refine z_iincN (M := M_X12_share) 123 dX12_share_123 (ls' := [some (mR 108), none, none, some (mR f2), some (mI a4), none, none, some (mI l7), some (mI l8), some (mI l9), some (mI 0), some (mI 1), some (mI (l12 + (-1)))]) (by decide) rfl (by (unfold m_32; decide)) (by omega) (by omega) rfl ?_
          refine z_goto (M := M_X12_share) 126 dX12_share_126 63 rfl ?_
          exact z_mask [true, false, false, true, true, false, false, true, true, true, true, true, true] rfl (ih.2 l7 l8 l9 0 1 (l12 + (-1)) h G R (by omega) (by omega) (by omega) (by omega) (by omega) (by omega) (by omega) (by omega) (by omega) (by omega) (by omega) (by omega) (by omega) (by omega) (by omega) i1 i2 (False.elim (by omega)) (by omega))
        · rw [m_cmp_gt] at c9
          refine z_iconst (M := M_X12_share) 116 dX12_share_116 ?_
          refine z_goto (M := M_X12_share) 117 dX12_share_117 121 rfl ?_
          refine z_istore (M := M_X12_share) 121 dX12_share_121 (ls' := [some (mR 108), none, none, some (mR f2), some (mI a4), none, none, some (mI l7), some (mI l8), some (mI l9), some (mI 1), some (mI 1), some (mI l12)]) (by decide) rfl ?_
          refine z_iincN (M := M_X12_share) 123 dX12_share_123 (ls' := [some (mR 108), none, none, some (mR f2), some (mI a4), none, none, some (mI l7), some (mI l8), some (mI l9), some (mI 1), some (mI 1), some (mI (l12 + (-1)))]) (by decide) rfl (by (unfold m_32; decide)) (by omega) (by omega) rfl ?_
          refine z_goto (M := M_X12_share) 126 dX12_share_126 63 rfl ?_
          exact z_mask [true, false, false, true, true, false, false, true, true, true, true, true, true] rfl (ih.2 l7 l8 l9 1 1 (l12 + (-1)) h G R (by omega) (by omega) (by omega) (by omega) (by omega) (by omega) (by omega) (by omega) (by omega) (by omega) (by omega) (by omega) (by omega) (by omega) (by omega) i1 i2 (shK_eq (by have q := i3; rw [show l11 = 1 by omega] at q; exact q) (by omega) ex5 ex6 c7) (by omega))
theorem a_X12_share2 (h0 : m_H) (f : Nat) (f2 : Nat) (a2 a4 a5 a6 : Int) (w_f : f = 124 ∨ f = 125) (w_f2 : f2 = 124 ∨ f2 = 125) (G0 : GI h0) (pa2 : 0 ≤ a2 ∧ a2 ≤ 75) (pa4 : 0 ≤ a4 ∧ a4 ≤ 75) (pa6 : 0 ≤ a6 ∧ a6 ≤ 2000000000) (hb5 : 0 ≤ a5 ∧ a5 ≤ 2000000000) : ∀ n, q_X12_share2 h0 f f2 a2 a4 a5 a6 n := by
  intro n
  induction n with
  | zero => unfold q_X12_share2; refine ⟨?_, ?_⟩ <;> (intros; omega)
  | succ n ih => exact ⟨s_X12_share2_19 h0 f f2 a2 a4 a5 a6 w_f w_f2 G0 pa2 pa4 pa6 hb5 n ih, s_X12_share2_63 h0 f f2 a2 a4 a5 a6 w_f w_f2 G0 pa2 pa4 pa6 hb5 n ih⟩
set_option maxHeartbeats 4000000 in
set_option maxRecDepth 100000 in
theorem c_X12_share2 (h0 : m_H) (f : Nat) (f2 : Nat) (a2 a4 a5 a6 : Int) (w_f : f = 124 ∨ f = 125) (w_f2 : f2 = 124 ∨ f2 = 125) (G0 : GI h0) (pa2 : 0 ≤ a2 ∧ a2 ≤ 75) (pa4 : 0 ≤ a4 ∧ a4 ≤ 75) (pa6 : 0 ≤ a6 ∧ a6 ≤ 2000000000) (hb5 : 0 ≤ a5 ∧ a5 ≤ 2000000000) : m_CI M_X12_share [mR 108, mR f, mI a2, mR f2, mI a4, mI a5, mI a6] h0 (P_X12_share2 h0 f f2 a2 a4 a5 a6) := by
  refine m_CI_of ⟨by decide, rfl, by simp [m_arg, m_isL, M_X12_share], ⟨rfl, rfl⟩, rfl, rfl⟩ (ls := [some (mR 108), some (mR f), some (mI a2), some (mR f2), some (mI a4), some (mI a5), some (mI a6), none, none, none, none, none, none]) rfl ?_
  have ih := a_X12_share2 h0 f f2 a2 a4 a5 a6 w_f w_f2 G0 pa2 pa4 pa6 hb5 50000000031
  refine z_ok (fun _ _ ok => ?_)
  have oa5 : m_32 a5 := ok 5 _ rfl
  unfold m_32 at oa5
  refine z_iconst (M := M_X12_share) 0 dX12_share_0 ?_
  refine z_istore (M := M_X12_share) 1 dX12_share_1 (ls' := [some (mR 108), some (mR f), some (mI a2), some (mR f2), some (mI a4), some (mI a5), some (mI a6), some (mI 0), none, none, none, none, none]) (by decide) rfl ?_
  refine z_iload (M := M_X12_share) 3 dX12_share_3 rfl ?_
  refine z_istore (M := M_X12_share) 5 dX12_share_5 (ls' := [some (mR 108), some (mR f), some (mI a2), some (mR f2), some (mI a4), some (mI a5), some (mI a6), some (mI 0), some (mI a6), none, none, none, none]) (by decide) rfl ?_
  refine z_aload_n (M := M_X12_share) 7 dX12_share_7 rfl ?_
  refine z_getR (M := M_X12_share) 8 dX12_share_8 f_X12_94 o_108 rfl (g_108_40 G0) ?_
  refine z_aload_n (M := M_X12_share) 11 dX12_share_11 rfl ?_
  refine z_iload_n (M := M_X12_share) 12 dX12_share_12 rfl ?_
  refine z_iload (M := M_X12_share) 13 dX12_share_13 rfl ?_
  refine z_i2l (M := M_X12_share) 15 dX12_share_15 ?_
  refine z_sV (M := M_X12_share) 16 dX12_share_16 t_X12_wide l_X12_387 (m_rr_of rfl) (rest := []) (c_X12_wide80x h0 135 f a2 a5 (Or.inl rfl) w_f G0 ⟨by omega, by omega⟩ ⟨by omega, by omega⟩) rfl rfl (Nat.le_of_ble_eq_true rfl) ⟨rfl, rfl⟩ (fun h1 qx1 => ?_)
  obtain ⟨G1, S1, W1, W2⟩ := qx1
  have R1 := (FR.rf (cs := [135, 136]) (ss := []) (h := h0)).call S1 (by decide +kernel)
  exact z_mask [true, false, false, true, true, false, false, true, true, false, false, false, false] rfl (ih.1 0 a6 h1 G1 R1 (by omega) (by omega) (by omega) (by omega) (by omega) (by omega) (by omega) ⟨W1, W2⟩ ⟨by rw [Int.mul_zero]; exact Int.mul_nonneg (vS_bd (fun j hj => gC_124_125 w_f G0 (by omega))).1 hb5.1, fun z => absurd z (by omega), Int.le_refl _⟩ (by omega))
/-! between -/
def mlQ (x t l : Int) : Prop := (0 ≤ x ∧ x ≤ 2000000000) ∧ t * x ≤ 1000000 * l ∧ (x < 2000000000 → 1000000 * l < t * (x + 1))
def gtQ (x : Int) (B : Int × Int × Int) : Prop := (B.2.1 = 0 ∧ x = -1) ∨ (B.2.1 ≠ 0 ∧ mlQ x B.2.1 B.1)
def ynQ (x : Int) (B : Int × Int × Int) : Prop := (x = 1 ∧ B.2.1 ≠ 0 ∧ B.2.2 ≠ 1) ∨ (x = 0 ∧ ¬ (B.2.1 ≠ 0 ∧ B.2.2 ≠ 1))
def btQ (r : Nat → Int) (a b w x : Int) : Prop := (¬ ((0 ≤ w ∧ w ≤ 3) ∧ thr r a ∧ thr r b ∧ ¬ gain (bR r)) ∧ x = -2) ∨ (((0 ≤ w ∧ w ≤ 3) ∧ thr r a ∧ thr r b ∧ ¬ gain (bR r)) ∧ ((∃ B, BW (bR r) b.toNat a.toNat B ∧ ((w = 0 ∧ mlQ x B.1 B.2.1) ∨ (w = 2 ∧ ynQ x B))) ∨ (∃ B, BW (bR r) a.toNat b.toNat B ∧ ((w = 1 ∧ gtQ x B) ∨ (w = 3 ∧ ynQ x B)))))
theorem ml_le {x y t l t' l' : Int} (ht : 0 < t) (ht' : 0 < t') (e : t * l' = t' * l) (h : mlQ x t l) (h' : mlQ y t' l') : y ≤ x := by
  rcases Int.lt_or_le x y with g | g
  · exfalso
    have a := h.2.2 (by have := h'.1.2; omega)
    have b := h'.2.1
    have m1 := Int.mul_le_mul_of_nonneg_left b (Int.le_of_lt ht)
    have k1 : t * (t' * y) = t' * (t * y) := by ac_rfl
    have k2 : t * (1000000 * l') = 1000000 * (t * l') := by ac_rfl
    have k3 : t' * (1000000 * l) = 1000000 * (t' * l) := by ac_rfl
    have m2 : t * y ≤ 1000000 * l := Int.le_of_mul_le_mul_left (show t' * (t * y) ≤ t' * (1000000 * l) by omega) ht'
    have m3 := Int.mul_le_mul_of_nonneg_left (show x + 1 ≤ y by omega) (Int.le_of_lt ht)
    omega
  · exact g
theorem ml_eq {x y t l t' l' : Int} (ht : 0 < t) (ht' : 0 < t') (e : t * l' = t' * l) (h : mlQ x t l) (h' : mlQ y t' l') : x = y := by
  have a := ml_le ht ht' e h h'
  have b := ml_le ht' ht e.symm h' h
  omega
theorem yn_eq {Ls : List gE} (hE : ∀ e ∈ Ls, gEo e) {a b : Nat} {B B' : Int × Int × Int} (h : BW Ls a b B) (h' : BW Ls a b B') {x y : Int} (u : ynQ x B) (v : ynQ y B') : x = y := by
  obtain ⟨z1, z2, z3⟩ := BW_eq hE h h'
  have k : (B.2.1 ≠ 0 ∧ B.2.2 ≠ 1) ↔ (B'.2.1 ≠ 0 ∧ B'.2.2 ≠ 1) := by
    constructor
    · rintro ⟨p, q⟩; exact ⟨fun z => p (z1.mpr z), fun z => q ((z3 p).mpr z)⟩
    · rintro ⟨p, q⟩
      have p' : B.2.1 ≠ 0 := fun z => p (z1.mp z)
      exact ⟨p', fun z => q ((z3 p').mp z)⟩
  rcases u with ⟨u1, u2⟩ | ⟨u1, u2⟩ <;> rcases v with ⟨v1, v2⟩ | ⟨v1, v2⟩
  · omega
  · exact absurd (k.mp u2) v2
  · exact absurd (k.mpr v2) u2
  · omega
theorem gt_eq {Ls : List gE} (hE : ∀ e ∈ Ls, gEo e) {a b : Nat} {B B' : Int × Int × Int} (h : BW Ls a b B) (h' : BW Ls a b B') {x y : Int} (u : gtQ x B) (v : gtQ y B') : x = y := by
  obtain ⟨z1, z2, z3⟩ := BW_eq hE h h'
  rcases u with ⟨u1, u2⟩ | ⟨u1, u2⟩ <;> rcases v with ⟨v1, v2⟩ | ⟨v1, v2⟩
  · omega
  · exact absurd (z1.mp u1) v1
  · exact absurd (z1.mpr v1) u1
  · have p1 := h.1.2
    have p2 := h'.1.2
    exact ml_eq (by omega) (by omega) (by rw [Int.mul_comm B.2.1, Int.mul_comm B'.2.1]; exact z2.symm) u2 v2
theorem bt_eq {r : Nat → Int} (hE : ∀ e ∈ bR r, gEo e) {a b w x y : Int} (h : btQ r a b w x) (h' : btQ r a b w y) : x = y := by
  rcases h with ⟨n, e⟩ | ⟨k, h⟩
  · rcases h' with ⟨_, e'⟩ | ⟨k', _⟩
    · omega
    · exact absurd k' n
  · rcases h' with ⟨n', _⟩ | ⟨_, h'⟩
    · exact absurd k n'
    · rcases h with ⟨B, b1, b2⟩ | ⟨B, b1, b2⟩ <;> rcases h' with ⟨B', c1, c2⟩ | ⟨B', c1, c2⟩
      · rcases b2 with ⟨p, q⟩ | ⟨p, q⟩ <;> rcases c2 with ⟨p', q'⟩ | ⟨p', q'⟩
        · have z := (BW_eq hE b1 c1).2.1
          exact ml_eq b1.1.1 c1.1.1 z q q'
        · omega
        · omega
        · exact yn_eq hE b1 c1 q q'
      · omega
      · omega
      · rcases b2 with ⟨p, q⟩ | ⟨p, q⟩ <;> rcases c2 with ⟨p', q'⟩ | ⟨p', q'⟩
        · exact gt_eq hE b1 c1 q q'
        · omega
        · omega
        · exact yn_eq hE b1 c1 q q'
/-- a quotient, capped -/
theorem ml_of {t l q x : Int} (ht : 0 < t) (hl : 0 ≤ l) (eq : 1000000 * l / t = q) (ex : (if 2000000000 < q then 2000000000 else q) = x) : mlQ x t l := by
  have a := Int.mul_ediv_self_le (x := 1000000 * l) (k := t) (by omega)
  have b := Int.lt_mul_ediv_self_add (x := 1000000 * l) (k := t) ht
  have c := Int.ediv_nonneg (a := 1000000 * l) (b := t) (by omega) (by omega)
  rw [eq] at a b c
  by_cases g : 2000000000 < q
  · rw [if_pos g] at ex
    subst ex
    have m := Int.mul_le_mul_of_nonneg_left (Int.le_of_lt g) (Int.le_of_lt ht)
    exact ⟨⟨by decide, by decide⟩, by omega, fun z => absurd z (by decide)⟩
  · rw [if_neg g] at ex
    subst ex
    refine ⟨⟨c, by omega⟩, a, fun _ => ?_⟩
    rw [Int.mul_add, Int.mul_one]; exact b
theorem ml_sh {S L x U : Int} (e : S = U * 1000000) (a : 0 ≤ x) (b : x ≤ 2000000000) (h : shQ x S L 2000000000) : mlQ x L U := by
  subst e
  obtain ⟨h1, h2⟩ := h
  exact ⟨⟨a, b⟩, by omega, fun z => by have := h2 z; omega⟩
abbrev P_X11_quotientQ (h0 : m_H) (a0 a1 : Int) : Int → m_H → Prop := fun x h' => GI h' ∧ FR [] [] h0 h' ∧ a0 / a1 = x
set_option maxHeartbeats 4000000 in
set_option maxRecDepth 100000 in
theorem c_X11_quotientQ (h0 : m_H) (a0 a1 : Int) (G0 : GI h0) (q0 : 0 ≤ a0) (q1 : 0 < a1) : m_CJ M_X11_quotient [mJ a0, mJ a1] h0 (P_X11_quotientQ h0 a0 a1) := by
  refine m_CJ_of ⟨by decide, rfl, by simp [m_arg, m_isL, M_X11_quotient], ⟨rfl, rfl⟩, rfl, rfl⟩ (ls := [some (mJ a0), none, some (mJ a1), none]) rfl ?_
  refine z_lload_n (M := M_X11_quotient) 0 dX11_quotient_0 rfl ?_
  refine z_lconst (M := M_X11_quotient) 1 dX11_quotient_1 (v := 0) ?_
  refine z_lcmp (M := M_X11_quotient) 2 dX11_quotient_2 ?_
  refine z_if_ne (M := M_X11_quotient) 3 dX11_quotient_3 10 rfl (fun c1 => ?_) (fun c1 => ?_)
  · rw [m_cmp_eq] at c1
    refine z_lload_n (M := M_X11_quotient) 10 dX11_quotient_10 rfl ?_
    refine z_lload_n (M := M_X11_quotient) 11 dX11_quotient_11 rfl ?_
    refine z_ldivN (M := M_X11_quotient) 12 dX11_quotient_12 q0 q1 ?_
    refine z_topJ (fun x2 ex2 => ?_)
    exact z_retJ (M := M_X11_quotient) 13 dX11_quotient_13 rfl ⟨G0, (FR.rf (cs := []) (ss := []) (h := h0)), ex2⟩
  · rw [m_cmp_eq] at c1
    refine z_lconst (M := M_X11_quotient) 6 dX11_quotient_6 (v := 0) ?_
    refine z_goto (M := M_X11_quotient) 7 dX11_quotient_7 13 rfl ?_
    exact z_retJ (M := M_X11_quotient) 13 dX11_quotient_13 rfl ⟨G0, (FR.rf (cs := []) (ss := []) (h := h0)), absurd c1 (by omega)⟩
abbrev P_X11_atMost2 (h0 : m_H) (a0 a1 : Int) : Int → m_H → Prop := fun x h' => GI h' ∧ FR [] [] h0 h' ∧ (if a1 < a0 then a1 else a0) = x
set_option maxHeartbeats 4000000 in
set_option maxRecDepth 100000 in
theorem c_X11_atMost2 (h0 : m_H) (a0 a1 : Int) (G0 : GI h0) (q0 : -2147483648 ≤ a0) (q1 : 0 ≤ a1 ∧ a1 ≤ 2147483647) : m_CI M_X11_atMost [mJ a0, mJ a1] h0 (P_X11_atMost2 h0 a0 a1) := by
  refine m_CI_of ⟨by decide, rfl, by simp [m_arg, m_isL, M_X11_atMost], ⟨rfl, rfl⟩, rfl, rfl⟩ (ls := [some (mJ a0), none, some (mJ a1), none]) rfl ?_
  refine z_lload_n (M := M_X11_atMost) 0 dX11_atMost_0 rfl ?_
  refine z_lload_n (M := M_X11_atMost) 1 dX11_atMost_1 rfl ?_
  refine z_minJ (M := M_X11_atMost) 2 dX11_atMost_2 ml_X11_438 (rest := []) (Nat.le_of_ble_eq_true rfl) (Nat.le_of_ble_eq_true rfl) ?_
  refine z_topJ (fun x1 ex1 => ?_)
  refine z_l2iN (M := M_X11_atMost) 5 dX11_atMost_5 (by rw [← ex1]; split <;> omega) (by rw [← ex1]; split <;> omega) ?_
  exact z_retI (M := M_X11_atMost) 6 dX11_atMost_6 rfl ⟨G0, (FR.rf (cs := []) (ss := []) (h := h0)), ex1⟩
abbrev P_X7_leastMillionths2 (h0 : m_H) : Int → m_H → Prop := fun x h' => GI h' ∧ FR [] [] h0 h' ∧ 0 ≤ x ∧ 1000000 * h0 94 1 / h0 94 0 = x
set_option maxHeartbeats 4000000 in
set_option maxRecDepth 100000 in
theorem c_X7_leastMillionths2 (h0 : m_H) (G0 : GI h0) (q : ((0 < h0 94 0 ∧ h0 94 0 ≤ 1600000000) ∧ 0 ≤ h0 94 1 ∧ h0 94 1 ≤ 1600000000)) : m_CJ M_X7_leastMillionths [mR 93] h0 (P_X7_leastMillionths2 h0) := by
  refine m_CJ_of ⟨by decide, rfl, by simp [m_arg, m_isL, M_X7_leastMillionths], ⟨rfl, rfl⟩, rfl, rfl⟩ (ls := [some (mR 93)]) rfl ?_
  refine z_ldc2 (M := M_X7_leastMillionths) 0 dX7_leastMillionths_0 k_X7_27 ?_
  refine z_aload_n (M := M_X7_leastMillionths) 3 dX7_leastMillionths_3 rfl ?_
  refine z_getR (M := M_X7_leastMillionths) 4 dX7_leastMillionths_4 f_X7_12 o_93 rfl (g_93_0 G0) ?_
  refine z_getJV (M := M_X7_leastMillionths) 7 dX7_leastMillionths_7 f_X7_29 o_94 rfl (fun x1 ex1 => ?_)
  rw [ex1] at q
  have mx2 := mul_bd (x := 1000000) (y := x1) (X := 1000000) (Y := 1600000000) (by omega) (by omega) (by omega) (by omega)
  refine z_lmulN (M := M_X7_leastMillionths) 10 dX7_leastMillionths_10 (by omega) (by omega) ?_
  refine z_topBJ (lo := 0) (hi := 1600000000000000) ⟨by omega, by omega⟩ (fun x2 ex2 ax2 bx2 => ?_)
  refine z_aload_n (M := M_X7_leastMillionths) 11 dX7_leastMillionths_11 rfl ?_
  refine z_getR (M := M_X7_leastMillionths) 12 dX7_leastMillionths_12 f_X7_12 o_93 rfl (g_93_0 G0) ?_
  refine z_getJV (M := M_X7_leastMillionths) 15 dX7_leastMillionths_15 f_X7_33 o_94 rfl (fun x3 ex3 => ?_)
  rw [ex3] at q
  refine z_nJ (M := M_X7_leastMillionths) 18 dX7_leastMillionths_18 t_X11_quotient l_X7_36 (m_rr_of rfl) (rest := []) (c_X11_quotientQ h0 x2 x3 G0 (by omega) (by omega)) rfl rfl (Nat.le_of_ble_eq_true rfl) ⟨rfl, rfl⟩ (fun x4 h1 qx4 => ?_)
  obtain ⟨G1, S1, fx4⟩ := qx4
  have R1 := (FR.rf (cs := []) (ss := []) (h := h0)).call S1 (by decide +kernel)
  exact z_retJ (M := M_X7_leastMillionths) 21 dX7_leastMillionths_21 rfl ⟨G1, R1, by rw [← fx4]; exact Int.ediv_nonneg (by omega) (by omega), by rw [ex1, ex3, ex2]; exact fx4⟩
abbrev P_X7_greatestMillionths2 (h0 : m_H) : Int → m_H → Prop := fun x h' => GI h' ∧ FR [] [] h0 h' ∧ -1 ≤ x ∧ ((h0 95 1 = 0 ∧ x = -1) ∨ (h0 95 1 ≠ 0 ∧ 1000000 * h0 95 0 / h0 95 1 = x))
set_option maxHeartbeats 4000000 in
set_option maxRecDepth 100000 in
theorem c_X7_greatestMillionths2 (h0 : m_H) (G0 : GI h0) (q : ((0 < h0 95 0 ∧ h0 95 0 ≤ 1600000000) ∧ 0 ≤ h0 95 1 ∧ h0 95 1 ≤ 1600000000)) : m_CJ M_X7_greatestMillionths [mR 93] h0 (P_X7_greatestMillionths2 h0) := by
  refine m_CJ_of ⟨by decide, rfl, by simp [m_arg, m_isL, M_X7_greatestMillionths], ⟨rfl, rfl⟩, rfl, rfl⟩ (ls := [some (mR 93)]) rfl ?_
  refine z_aload_n (M := M_X7_greatestMillionths) 0 dX7_greatestMillionths_0 rfl ?_
  refine z_getR (M := M_X7_greatestMillionths) 1 dX7_greatestMillionths_1 f_X7_18 o_93 rfl (g_93_1 G0) ?_
  refine z_getJV (M := M_X7_greatestMillionths) 4 dX7_greatestMillionths_4 f_X7_29 o_95 rfl (fun x1 ex1 => ?_)
  rw [ex1] at q
  refine z_lconst (M := M_X7_greatestMillionths) 7 dX7_greatestMillionths_7 (v := 0) ?_
  refine z_lcmp (M := M_X7_greatestMillionths) 8 dX7_greatestMillionths_8 ?_
  refine z_if_ne (M := M_X7_greatestMillionths) 9 dX7_greatestMillionths_9 18 rfl (fun c2 => ?_) (fun c2 => ?_)
  · rw [m_cmp_eq] at c2
    refine z_ldc2 (M := M_X7_greatestMillionths) 18 dX7_greatestMillionths_18 k_X7_27 ?_
    refine z_aload_n (M := M_X7_greatestMillionths) 21 dX7_greatestMillionths_21 rfl ?_
    refine z_getR (M := M_X7_greatestMillionths) 22 dX7_greatestMillionths_22 f_X7_18 o_93 rfl (g_93_1 G0) ?_
    refine z_getJV (M := M_X7_greatestMillionths) 25 dX7_greatestMillionths_25 f_X7_33 o_95 rfl (fun x3 ex3 => ?_)
    rw [ex3] at q
    have mx4 := mul_bd (x := 1000000) (y := x3) (X := 1000000) (Y := 1600000000) (by omega) (by omega) (by omega) (by omega)
    refine z_lmulN (M := M_X7_greatestMillionths) 28 dX7_greatestMillionths_28 (by omega) (by omega) ?_
    refine z_topBJ (lo := 0) (hi := 1600000000000000) ⟨by omega, by omega⟩ (fun x4 ex4 ax4 bx4 => ?_)
    refine z_aload_n (M := M_X7_greatestMillionths) 29 dX7_greatestMillionths_29 rfl ?_
    refine z_getR (M := M_X7_greatestMillionths) 30 dX7_greatestMillionths_30 f_X7_18 o_93 rfl (g_93_1 G0) ?_
    refine z_getJE (M := M_X7_greatestMillionths) 33 dX7_greatestMillionths_33 f_X7_29 o_95 rfl ex1 ?_
    refine z_nJ (M := M_X7_greatestMillionths) 36 dX7_greatestMillionths_36 t_X11_quotient l_X7_36 (m_rr_of rfl) (rest := []) (c_X11_quotientQ h0 x4 x1 G0 (by omega) (by omega)) rfl rfl (Nat.le_of_ble_eq_true rfl) ⟨rfl, rfl⟩ (fun x5 h1 qx5 => ?_)
    obtain ⟨G1, S1, fx5⟩ := qx5
    have R1 := (FR.rf (cs := []) (ss := []) (h := h0)).call S1 (by decide +kernel)
    exact z_retJ (M := M_X7_greatestMillionths) 39 dX7_greatestMillionths_39 rfl ⟨G1, R1, by have z := Int.ediv_nonneg (a := x4) (b := x1) (by omega) (by omega); omega, Or.inr ⟨by rw [ex1]; exact c2, by rw [ex1, ex3, ex4]; exact fx5⟩⟩
  · rw [m_cmp_eq] at c2
    refine z_ldc2 (M := M_X7_greatestMillionths) 12 dX7_greatestMillionths_12 k_X7_40 ?_
    refine z_goto (M := M_X7_greatestMillionths) 15 dX7_greatestMillionths_15 39 rfl ?_
    exact z_retJ (M := M_X7_greatestMillionths) 39 dX7_greatestMillionths_39 rfl ⟨G0, (FR.rf (cs := []) (ss := []) (h := h0)), by omega, Or.inl ⟨by rw [ex1]; omega, rfl⟩⟩
abbrev P_X11_between3 (h0 : m_H) (a1 a2 a3 : Int) : Int → m_H → Prop := fun x h' => GI h' ∧ FR (csB ++ [39, 40, 41]) [] h0 h' ∧ btQ (h0 110) a1 a2 a3 x
set_option maxHeartbeats 4000000 in
set_option maxRecDepth 100000 in
theorem c_X11_between3 (h0 : m_H) (a1 a2 a3 : Int) (G0 : GI h0) (hR : LR 1 h0 (h0 110)) (hN : NP h0) : m_CI M_X11_between [mR 0, mI a1, mI a2, mI a3] h0 (P_X11_between3 h0 a1 a2 a3) := by
  refine m_CI_of ⟨by decide, rfl, by simp [m_arg, m_isL, M_X11_between], ⟨rfl, rfl⟩, rfl, rfl⟩ (ls := [some (mR 0), some (mI a1), some (mI a2), some (mI a3)]) rfl ?_
  refine z_ok (fun _ _ ok => ?_)
  have oa1 : m_32 a1 := ok 1 _ rfl
  unfold m_32 at oa1
  have oa2 : m_32 a2 := ok 2 _ rfl
  unfold m_32 at oa2
  have oa3 : m_32 a3 := ok 3 _ rfl
  unfold m_32 at oa3
  refine z_iload_n (M := M_X11_between) 0 dX11_between_0 rfl ?_
  refine z_iconst (M := M_X11_between) 1 dX11_between_1 ?_
  refine z_iconst (M := M_X11_between) 2 dX11_between_2 ?_
  refine z_sI (M := M_X11_between) 3 dX11_between_3 t_X11_within l_X11_112 (m_rr_of rfl) (rest := []) (c_X11_within h0 a3 0 3 G0) rfl rfl (Nat.le_of_ble_eq_true rfl) ⟨rfl, rfl⟩ (fun x1 h1 qx1 => ?_)
  obtain ⟨rfl, ⟨rfl, cx1⟩ | ⟨rfl, cx1⟩⟩ := qx1
  · refine z_if_eq_F (M := M_X11_between) 6 dX11_between_6 18 rfl (by omega) ?_
    refine z_aload_n (M := M_X11_between) 9 dX11_between_9 rfl ?_
    refine z_iload_n (M := M_X11_between) 10 dX11_between_10 rfl ?_
    refine z_iload_n (M := M_X11_between) 11 dX11_between_11 rfl ?_
    refine z_vI (M := M_X11_between) 12 dX11_between_12 t_X11_compare l_X11_211 (m_rr_of rfl) (rest := []) (c_X11_compare2 h0 a1 a2 G0 hR hN) o_0 rfl rfl rfl (Nat.le_of_ble_eq_true rfl) ⟨rfl, rfl⟩ (fun x2 h2 qx2 => ?_)
    obtain ⟨G2, S2, ax2, bx2, fx2⟩ := qx2
    have R2 := (FR.rf (cs := (csB ++ [39, 40, 41])) (ss := []) (h := h0)).call S2 (by decide +kernel)
    refine z_if_ne (M := M_X11_between) 15 dX11_between_15 21 rfl (fun c3 => ?_) (fun c3 => ?_)
    · have k_ := fx2.1.mp (by omega)
      have p_ := fx2.2 (by omega)
      have pb1_ : (0 < h2 95 0 ∧ h2 95 0 ≤ 1600000000) ∧ 0 ≤ h2 95 1 ∧ h2 95 1 ≤ 1600000000 := p_.1.2.1
      have pb2_ : (0 < h2 94 0 ∧ h2 94 0 ≤ 1600000000) ∧ 0 ≤ h2 94 1 ∧ h2 94 1 ≤ 1600000000 := p_.2.2.1
      refine z_iload_n (M := M_X11_between) 21 dX11_between_21 rfl ?_
      by_cases c4 : a3 = 0 ∨ a3 = 1 ∨ a3 = 2
      · rcases c4 with c4_0 | c4_1 | c4_2
        · refine z_tabIn (M := M_X11_between) 22 dX11_between_22 (off := 26) 48 (by omega) (by omega) (by rw [c4_0]; rfl) rfl ?_
          refine z_aload_n (M := M_X11_between) 48 dX11_between_48 rfl ?_
          refine z_getR (M := M_X11_between) 49 dX11_between_49 f_X11_53 o_0 rfl (g_0_7 G2) ?_
          refine z_vJ (M := M_X11_between) 52 dX11_between_52 t_X7_leastMillionths l_X11_214 (m_rr_of rfl) (rest := []) (c_X7_leastMillionths2 h2 G2 pb2_) o_93 rfl rfl rfl (Nat.le_of_ble_eq_true rfl) ⟨rfl, rfl⟩ (fun x5 h3 qx5 => ?_)
          obtain ⟨G3, S3, ax5, fx5⟩ := qx5
          have R3 := R2.call S3 (by decide +kernel)
          refine z_ldc2 (M := M_X11_between) 55 dX11_between_55 k_X11_218 ?_
          refine z_sI (M := M_X11_between) 58 dX11_between_58 t_X11_atMost l_X11_220 (m_rr_of rfl) (rest := []) (c_X11_atMost2 h3 x5 2000000000 G3 (by omega) ⟨by omega, by omega⟩) rfl rfl (Nat.le_of_ble_eq_true rfl) ⟨rfl, rfl⟩ (fun x6 h4 qx6 => ?_)
          obtain ⟨G4, S4, fx6⟩ := qx6
          have R4 := R3.call S4 (by decide +kernel)
          refine z_ok (fun ox6 _ _ => ?_)
          have ox6 := ox6.1; unfold m_ok m_32 at ox6
          exact z_retI (M := M_X11_between) 61 dX11_between_61 rfl ⟨G4, R4, Or.inr ⟨⟨⟨by omega, by omega⟩, k_⟩, Or.inl ⟨_, p_.2.1, Or.inl ⟨c4_0, ml_of pb2_.1.1 pb2_.2.1 fx5 fx6⟩⟩⟩⟩
        · refine z_tabIn (M := M_X11_between) 22 dX11_between_22 (off := 40) 62 (by omega) (by omega) (by rw [c4_1]; rfl) rfl ?_
          refine z_aload_n (M := M_X11_between) 62 dX11_between_62 rfl ?_
          refine z_getR (M := M_X11_between) 63 dX11_between_63 f_X11_53 o_0 rfl (g_0_7 G2) ?_
          refine z_vJ (M := M_X11_between) 66 dX11_between_66 t_X7_greatestMillionths l_X11_224 (m_rr_of rfl) (rest := []) (c_X7_greatestMillionths2 h2 G2 pb1_) o_93 rfl rfl rfl (Nat.le_of_ble_eq_true rfl) ⟨rfl, rfl⟩ (fun x7 h5 qx7 => ?_)
          obtain ⟨G5, S5, ax7, fx7⟩ := qx7
          have R5 := R2.call S5 (by decide +kernel)
          refine z_ldc2 (M := M_X11_between) 69 dX11_between_69 k_X11_218 ?_
          refine z_sI (M := M_X11_between) 72 dX11_between_72 t_X11_atMost l_X11_220 (m_rr_of rfl) (rest := []) (c_X11_atMost2 h5 x7 2000000000 G5 (by omega) ⟨by omega, by omega⟩) rfl rfl (Nat.le_of_ble_eq_true rfl) ⟨rfl, rfl⟩ (fun x8 h6 qx8 => ?_)
          obtain ⟨G6, S6, fx8⟩ := qx8
          have R6 := R5.call S6 (by decide +kernel)
          refine z_ok (fun ox8 _ _ => ?_)
          have ox8 := ox8.1; unfold m_ok m_32 at ox8
          exact z_retI (M := M_X11_between) 75 dX11_between_75 rfl ⟨G6, R6, Or.inr ⟨⟨⟨by omega, by omega⟩, k_⟩, Or.inr ⟨_, p_.1.1, Or.inl ⟨c4_1, by rcases fx7 with ⟨z1, z2⟩ | ⟨z1, z2⟩; exact Or.inl ⟨z1, by rw [← fx8, z2]; rfl⟩; exact Or.inr ⟨z1, ml_of (by have z3 : h2 95 1 ≠ 0 := z1; have z4 := pb1_.2.1; show 0 < h2 95 1; omega) (Int.le_of_lt pb1_.1.1) z2 fx8⟩⟩⟩⟩⟩
        · refine z_tabIn (M := M_X11_between) 22 dX11_between_22 (off := 54) 76 (by omega) (by omega) (by rw [c4_2]; rfl) rfl ?_
          refine z_aload_n (M := M_X11_between) 76 dX11_between_76 rfl ?_
          refine z_getR (M := M_X11_between) 77 dX11_between_77 f_X11_53 o_0 rfl (g_0_7 G2) ?_
          refine z_getR (M := M_X11_between) 80 dX11_between_80 f_X11_227 o_93 rfl (g_93_0 G2) ?_
          refine z_getIG (M := M_X11_between) 83 dX11_between_83 f_X11_231 o_94 (by decide) (g_94_2 G2) (fun x9 ex9 ax9 bx9 => ?_)
          refine z_if_eq (M := M_X11_between) 86 dX11_between_86 93 rfl (fun c10 => ?_) (fun c10 => ?_)
          · refine z_iconst (M := M_X11_between) 93 dX11_between_93 ?_
            exact z_retI (M := M_X11_between) 94 dX11_between_94 rfl ⟨G2, R2, Or.inr ⟨⟨⟨by omega, by omega⟩, k_⟩, Or.inl ⟨_, p_.2.1, Or.inr ⟨c4_2, Or.inl ⟨rfl, fun z => absurd (p_.2.2.2.1 z) (by show h2 94 2 ≠ 1; omega), by show h2 94 2 ≠ 1; omega⟩⟩⟩⟩⟩
          · refine z_iconst (M := M_X11_between) 89 dX11_between_89 ?_
            refine z_goto (M := M_X11_between) 90 dX11_between_90 94 rfl ?_
            exact z_retI (M := M_X11_between) 94 dX11_between_94 rfl ⟨G2, R2, Or.inr ⟨⟨⟨by omega, by omega⟩, k_⟩, Or.inl ⟨_, p_.2.1, Or.inr ⟨c4_2, Or.inr ⟨rfl, fun z => absurd (show h2 94 2 = 1 by omega) z.2⟩⟩⟩⟩⟩
      · refine z_tabOut (M := M_X11_between) 22 dX11_between_22 95 (by omega) rfl ?_
        refine z_aload_n (M := M_X11_between) 95 dX11_between_95 rfl ?_
        refine z_getR (M := M_X11_between) 96 dX11_between_96 f_X11_53 o_0 rfl (g_0_7 G2) ?_
        refine z_getR (M := M_X11_between) 99 dX11_between_99 f_X11_237 o_93 rfl (g_93_1 G2) ?_
        refine z_getIG (M := M_X11_between) 102 dX11_between_102 f_X11_231 o_95 (by decide) (g_95_2 G2) (fun x11 ex11 ax11 bx11 => ?_)
        refine z_if_eq (M := M_X11_between) 105 dX11_between_105 112 rfl (fun c12 => ?_) (fun c12 => ?_)
        · refine z_iconst (M := M_X11_between) 112 dX11_between_112 ?_
          exact z_retI (M := M_X11_between) 113 dX11_between_113 rfl ⟨G2, R2, Or.inr ⟨⟨⟨by omega, by omega⟩, k_⟩, Or.inr ⟨_, p_.1.1, Or.inr ⟨by omega, Or.inl ⟨rfl, fun z => absurd (p_.1.2.2.1 z) (by show h2 95 2 ≠ 1; omega), by show h2 95 2 ≠ 1; omega⟩⟩⟩⟩⟩
        · refine z_iconst (M := M_X11_between) 108 dX11_between_108 ?_
          refine z_goto (M := M_X11_between) 109 dX11_between_109 113 rfl ?_
          exact z_retI (M := M_X11_between) 113 dX11_between_113 rfl ⟨G2, R2, Or.inr ⟨⟨⟨by omega, by omega⟩, k_⟩, Or.inr ⟨_, p_.1.1, Or.inr ⟨by omega, Or.inr ⟨rfl, fun z => absurd (show h2 95 2 = 1 by omega) z.2⟩⟩⟩⟩⟩
    · refine z_bipush (M := M_X11_between) 18 dX11_between_18 ?_
      exact z_retI (M := M_X11_between) 20 dX11_between_20 rfl ⟨G2, R2, Or.inl ⟨fun z => absurd (fx2.1.mpr z.2) (by omega), rfl⟩⟩
  · refine z_if_eq_T (M := M_X11_between) 6 dX11_between_6 18 rfl (by omega) ?_
    refine z_bipush (M := M_X11_between) 18 dX11_between_18 ?_
    exact z_retI (M := M_X11_between) 20 dX11_between_20 rfl ⟨G0, (FR.rf (cs := (csB ++ [39, 40, 41])) (ss := []) (h := h0)), Or.inl ⟨fun z => cx1 z.1, rfl⟩⟩
theorem bOf_y {h : m_H} {l : Nat} {x : Int} (e : h 127 l = x) (c : x = 1) : bOf (aS h l) = (vS (h 125) (5 * l) 5, vS (h 124) (5 * l) 5, h 126 l) := by
  unfold bOf
  rw [if_pos (show (aS h l).2.2 = 1 from e.trans c)]
  rfl
theorem bOf_n {h : m_H} {l : Nat} {x : Int} (e : h 127 l = x) (c : x ≠ 1) : bOf (aS h l) = (1, 0, 1) := by
  unfold bOf
  rw [if_neg (show ¬ (aS h l).2.2 = 1 from fun z => c (e.symm.trans z))]
theorem at5 {a : Int} (h : 0 ≤ a) : (5 * a).toNat = 5 * a.toNat := by omega
abbrev P_X12_between3 (h0 : m_H) (a1 a2 a3 : Int) : Int → m_H → Prop := fun x h' => GI h' ∧ FR [115, 116, 117, 118, 119, 120, 121, 122, 123, 124, 125, 126, 127, 128, 129, 130, 131, 132, 133, 134, 135, 136] [(108, 0), (108, 21)] h0 h' ∧ (-2) ≤ x ∧ x ≤ 2000000000 ∧ btQ (h0 110) a1 a2 a3 x
set_option maxHeartbeats 4000000 in
set_option maxRecDepth 100000 in
theorem c_X12_between3 (h0 : m_H) (a1 a2 a3 : Int) (G0 : GI h0) (hN : NP h0) : m_CI M_X12_between [mR 108, mI a1, mI a2, mI a3] h0 (P_X12_between3 h0 a1 a2 a3) := by
  refine m_CI_of ⟨by decide, rfl, by simp [m_arg, m_isL, M_X12_between], ⟨rfl, rfl⟩, rfl, rfl⟩ (ls := [some (mR 108), some (mI a1), some (mI a2), some (mI a3), none, none]) rfl ?_
  refine z_ok (fun _ _ ok => ?_)
  have oa1 : m_32 a1 := ok 1 _ rfl
  unfold m_32 at oa1
  have oa2 : m_32 a2 := ok 2 _ rfl
  unfold m_32 at oa2
  have oa3 : m_32 a3 := ok 3 _ rfl
  unfold m_32 at oa3
  refine z_aload_n (M := M_X12_between) 0 dX12_between_0 rfl ?_
  refine z_iconst (M := M_X12_between) 1 dX12_between_1 ?_
  refine z_putIH (M := M_X12_between) 2 dX12_between_2 p_X12_133 o_108 rfl (u_108_0 G0) ((FR.rf (cs := [115, 116, 117, 118, 119, 120, 121, 122, 123, 124, 125, 126, 127, 128, 129, 130, 131, 132, 133, 134, 135, 136]) (ss := [(108, 0), (108, 21)]) (h := h0)).up rfl) (fun h1 E1 G1 R1 => ?_)
  refine z_iload_n (M := M_X12_between) 5 dX12_between_5 rfl ?_
  refine z_i2l (M := M_X12_between) 6 dX12_between_6 ?_
  refine z_lconst (M := M_X12_between) 7 dX12_between_7 (v := 0) ?_
  refine z_ldc2 (M := M_X12_between) 8 dX12_between_8 k_X12_152 ?_
  refine z_sI (M := M_X12_between) 11 dX12_between_11 t_X12_in l_X12_143 (m_rr_of rfl) (rest := []) (c_X12_in h1 a3 0 3 G1) rfl rfl (Nat.le_of_ble_eq_true rfl) ⟨rfl, rfl⟩ (fun x1 h2 qx1 => ?_)
  obtain ⟨rfl, ⟨rfl, cx1⟩ | ⟨rfl, cx1⟩⟩ := qx1
  · refine z_if_eq_F (M := M_X12_between) 14 dX12_between_14 26 rfl (by omega) ?_
    refine z_aload_n (M := M_X12_between) 17 dX12_between_17 rfl ?_
    refine z_iload_n (M := M_X12_between) 18 dX12_between_18 rfl ?_
    refine z_iload_n (M := M_X12_between) 19 dX12_between_19 rfl ?_
    refine z_vI (M := M_X12_between) 20 dX12_between_20 t_X12_isAnswered l_X12_394 (m_rr_of rfl) (rest := []) (c_X12_isAnswered2 h1 a1 a2 G1 (NP.call hN R1 (fun _ => rfl) (fun _ => rfl) (fun _ => rfl))) o_108 rfl rfl rfl (Nat.le_of_ble_eq_true rfl) ⟨rfl, rfl⟩ (fun x2 h3 qx2 => ?_)
    obtain ⟨G3, S3, ax2, bx2, fx2_0, fx2_1⟩ := qx2
    have R3 := R1.call S3 (by decide +kernel)
    have e1_ : h1 110 = h0 110 := FR.row R1 (fun _ => rfl)
    have e3_ : h3 110 = h0 110 := FR.row R3 (fun _ => rfl)
    rw [e1_] at fx2_1
    refine z_if_ne (M := M_X12_between) 23 dX12_between_23 29 rfl (fun c3 => ?_) (fun c3 => ?_)
    · have an := fx2_0 (by omega)
      have an1 := an.1
      have an2 := an.2.1
      refine z_iload_n (M := M_X12_between) 29 dX12_between_29 rfl ?_
      refine z_iconst (M := M_X12_between) 30 dX12_between_30 ?_
      refine z_iremN (M := M_X12_between) 31 dX12_between_31 (by omega) (by omega) ?_
      refine z_topBI (lo := 0) (hi := 1) ⟨by omega, by omega⟩ (fun x4 ex4 ax4 bx4 => ?_)
      refine z_if_ne (M := M_X12_between) 32 dX12_between_32 39 rfl (fun c5 => ?_) (fun c5 => ?_)
      · refine z_iconst (M := M_X12_between) 39 dX12_between_39 ?_
        refine z_istore (M := M_X12_between) 40 dX12_between_40 (ls' := [some (mR 108), some (mI a1), some (mI a2), some (mI a3), some (mI 0), none]) (by decide) rfl ?_
        refine z_aload_n (M := M_X12_between) 42 dX12_between_42 rfl ?_
        refine z_iload (M := M_X12_between) 43 dX12_between_43 rfl ?_
        refine z_if_eq_T (M := M_X12_between) 45 dX12_between_45 52 rfl (by omega) ?_
        refine z_iload_n (M := M_X12_between) 52 dX12_between_52 rfl ?_
        refine z_vV (M := M_X12_between) 53 dX12_between_53 t_X12_goFrom l_X12_397 (m_rr_of rfl) (rest := []) (c_X12_goFrom2 h3 a1 G3 ⟨by omega, by omega⟩ (NP.call hN R3 (fun _ => rfl) (fun _ => rfl) (fun _ => rfl)) (gG_f (gG_b an.2.2 R1 (fun _ => rfl)) R3 (fun _ => rfl))) o_108 rfl rfl rfl (Nat.le_of_ble_eq_true rfl) ⟨rfl, rfl⟩ (fun h4 qx6 => ?_)
        obtain ⟨G4, S4, fx6_0, fx6_1⟩ := qx6
        rw [e3_] at fx6_1
        have b_ := fx6_1 a2.toNat (by omega)
        have g_ := fx6_0 a2.toNat (by omega)
        have k_ := fx2_1.mp (by omega)
        have R4 := R3.call S4 (by decide +kernel)
        refine z_iload (M := M_X12_between) 56 dX12_between_56 rfl ?_
        refine z_if_eq_T (M := M_X12_between) 58 dX12_between_58 65 rfl (by omega) ?_
        refine z_iload_n (M := M_X12_between) 65 dX12_between_65 rfl ?_
        refine z_istore (M := M_X12_between) 66 dX12_between_66 (ls' := [some (mR 108), some (mI a1), some (mI a2), some (mI a3), some (mI 0), some (mI a2)]) (by decide) rfl ?_
        refine z_iload_n (M := M_X12_between) 68 dX12_between_68 rfl ?_
        refine z_iconst (M := M_X12_between) 69 dX12_between_69 ?_
        refine z_icmp_le (M := M_X12_between) 70 dX12_between_70 99 rfl (fun c7 => ?_) (fun c7 => ?_)
        · refine z_aload_n (M := M_X12_between) 99 dX12_between_99 rfl ?_
          refine z_getR (M := M_X12_between) 100 dX12_between_100 f_X12_70 o_108 rfl (g_108_32 G4) ?_
          refine z_iload (M := M_X12_between) 103 dX12_between_103 rfl ?_
          refine z_zaldG (M := M_X12_between) 105 dX12_between_105 o_127 (by omega) (by omega) (g_127 G4 (by omega)) (fun x8 ex8 ax8 bx8 => ?_)
          refine z_if_ne (M := M_X12_between) 106 dX12_between_106 120 rfl (fun c9 => ?_) (fun c9 => ?_)
          · refine z_iload (M := M_X12_between) 120 dX12_between_120 rfl ?_
            refine z_if_eq_T (M := M_X12_between) 122 dX12_between_122 154 rfl (by omega) ?_
            refine z_aload_n (M := M_X12_between) 154 dX12_between_154 rfl ?_
            refine z_aload_n (M := M_X12_between) 155 dX12_between_155 rfl ?_
            refine z_getR (M := M_X12_between) 156 dX12_between_156 f_X12_64 o_108 rfl (g_108_30 G4) ?_
            refine z_iconst (M := M_X12_between) 159 dX12_between_159 ?_
            refine z_iload (M := M_X12_between) 160 dX12_between_160 rfl ?_
            refine z_imulN (M := M_X12_between) 162 dX12_between_162 (by omega) (by omega) ?_
            refine z_aload_n (M := M_X12_between) 163 dX12_between_163 rfl ?_
            refine z_getR (M := M_X12_between) 164 dX12_between_164 f_X12_61 o_108 rfl (g_108_29 G4) ?_
            refine z_iconst (M := M_X12_between) 167 dX12_between_167 ?_
            refine z_iload (M := M_X12_between) 168 dX12_between_168 rfl ?_
            refine z_imulN (M := M_X12_between) 170 dX12_between_170 (by omega) (by omega) ?_
            refine z_ldcw (M := M_X12_between) 171 dX12_between_171 k_X12_400 ?_
            refine z_ldcw (M := M_X12_between) 174 dX12_between_174 k_X12_401 ?_
            refine z_vI (M := M_X12_between) 177 dX12_between_177 t_X12_share l_X12_402 (m_rr_of rfl) (rest := []) (c_X12_share2 h4 125 124 (5 * a2) (5 * a2) 1000000 2000000000 (Or.inr rfl) (Or.inl rfl) G4 ⟨by omega, by omega⟩ ⟨by omega, by omega⟩ ⟨by omega, by omega⟩ ⟨by omega, by omega⟩) o_108 rfl rfl rfl (Nat.le_of_ble_eq_true rfl) ⟨rfl, rfl⟩ (fun x10 h5 qx10 => ?_)
            obtain ⟨G5, S5, ax10, bx10, fx10⟩ := qx10
            have R5 := R4.call S5 (by decide +kernel)
            exact z_retI (M := M_X12_between) 180 dX12_between_180 rfl ⟨G5, R5, by omega, by omega, Or.inr ⟨⟨⟨by omega, by omega⟩, k_⟩, Or.inr ⟨_, (by have z := b_; rw [bOf_y ex8 (by omega)] at z; exact z), Or.inl ⟨by omega, Or.inr ⟨(show vS (h4 124) (5 * a2.toNat) 5 ≠ 0 by have z : 1 ≤ vS (h4 124) (5 * a2.toNat) 5 := (g_.2.2 (ex8.trans (by omega))).1.1; omega), ml_sh rfl (by omega) (by omega) (by have z := fx10; rw [at5 (by omega)] at z; exact z)⟩⟩⟩⟩⟩
          · refine z_iload (M := M_X12_between) 109 dX12_between_109 rfl ?_
            refine z_if_eq_T (M := M_X12_between) 111 dX12_between_111 118 rfl (by omega) ?_
            refine z_iconst (M := M_X12_between) 118 dX12_between_118 ?_
            exact z_retI (M := M_X12_between) 119 dX12_between_119 rfl ⟨G4, R4, by omega, by omega, Or.inr ⟨⟨⟨by omega, by omega⟩, k_⟩, Or.inr ⟨_, (by have z := b_; rw [bOf_n ex8 (by omega)] at z; exact z), Or.inl ⟨by omega, Or.inl ⟨rfl, rfl⟩⟩⟩⟩⟩
        · refine z_aload_n (M := M_X12_between) 73 dX12_between_73 rfl ?_
          refine z_getR (M := M_X12_between) 74 dX12_between_74 f_X12_70 o_108 rfl (g_108_32 G4) ?_
          refine z_iload (M := M_X12_between) 77 dX12_between_77 rfl ?_
          refine z_zaldG (M := M_X12_between) 79 dX12_between_79 o_127 (by omega) (by omega) (g_127 G4 (by omega)) (fun x11 ex11 ax11 bx11 => ?_)
          refine z_if_eq (M := M_X12_between) 80 dX12_between_80 97 rfl (fun c12 => ?_) (fun c12 => ?_)
          · refine z_iconst (M := M_X12_between) 97 dX12_between_97 ?_
            exact z_retI (M := M_X12_between) 98 dX12_between_98 rfl ⟨G4, R4, by omega, by omega, Or.inr ⟨⟨⟨by omega, by omega⟩, k_⟩, Or.inr ⟨_, (by have z := b_; rw [bOf_n ex11 (by omega)] at z; exact z), Or.inr ⟨by omega, Or.inr ⟨rfl, fun z => z.1 rfl⟩⟩⟩⟩⟩
          · refine z_aload_n (M := M_X12_between) 83 dX12_between_83 rfl ?_
            refine z_getR (M := M_X12_between) 84 dX12_between_84 f_X12_67 o_108 rfl (g_108_31 G4) ?_
            refine z_iload (M := M_X12_between) 87 dX12_between_87 rfl ?_
            refine z_zaldG (M := M_X12_between) 89 dX12_between_89 o_126 (by omega) (by omega) (g_126 G4 (by omega)) (fun x13 ex13 ax13 bx13 => ?_)
            refine z_if_ne (M := M_X12_between) 90 dX12_between_90 97 rfl (fun c14 => ?_) (fun c14 => ?_)
            · refine z_iconst (M := M_X12_between) 97 dX12_between_97 ?_
              exact z_retI (M := M_X12_between) 98 dX12_between_98 rfl ⟨G4, R4, by omega, by omega, Or.inr ⟨⟨⟨by omega, by omega⟩, k_⟩, Or.inr ⟨_, (by have z := b_; rw [bOf_y ex11 (by omega)] at z; exact z), Or.inr ⟨by omega, Or.inr ⟨rfl, fun z => z.2 (show h4 126 a2.toNat = 1 by omega)⟩⟩⟩⟩⟩
            · refine z_iconst (M := M_X12_between) 93 dX12_between_93 ?_
              refine z_goto (M := M_X12_between) 94 dX12_between_94 98 rfl ?_
              exact z_retI (M := M_X12_between) 98 dX12_between_98 rfl ⟨G4, R4, by omega, by omega, Or.inr ⟨⟨⟨by omega, by omega⟩, k_⟩, Or.inr ⟨_, (by have z := b_; rw [bOf_y ex11 (by omega)] at z; exact z), Or.inr ⟨by omega, Or.inl ⟨rfl, (show vS (h4 124) (5 * a2.toNat) 5 ≠ 0 by have z : 1 ≤ vS (h4 124) (5 * a2.toNat) 5 := (g_.2.2 (ex11.trans (by omega))).1.1; omega), fun z => absurd (ex13.symm.trans z) (by omega)⟩⟩⟩⟩⟩
      · refine z_iconst (M := M_X12_between) 35 dX12_between_35 ?_
        refine z_goto (M := M_X12_between) 36 dX12_between_36 40 rfl ?_
        refine z_istore (M := M_X12_between) 40 dX12_between_40 (ls' := [some (mR 108), some (mI a1), some (mI a2), some (mI a3), some (mI 1), none]) (by decide) rfl ?_
        refine z_aload_n (M := M_X12_between) 42 dX12_between_42 rfl ?_
        refine z_iload (M := M_X12_between) 43 dX12_between_43 rfl ?_
        refine z_if_eq_F (M := M_X12_between) 45 dX12_between_45 52 rfl (by omega) ?_
        refine z_iload_n (M := M_X12_between) 48 dX12_between_48 rfl ?_
        refine z_goto (M := M_X12_between) 49 dX12_between_49 53 rfl ?_
        refine z_vV (M := M_X12_between) 53 dX12_between_53 t_X12_goFrom l_X12_397 (m_rr_of rfl) (rest := []) (c_X12_goFrom2 h3 a2 G3 ⟨by omega, by omega⟩ (NP.call hN R3 (fun _ => rfl) (fun _ => rfl) (fun _ => rfl)) (gG_f (gG_b an.2.2 R1 (fun _ => rfl)) R3 (fun _ => rfl))) o_108 rfl rfl rfl (Nat.le_of_ble_eq_true rfl) ⟨rfl, rfl⟩ (fun h6 qx15 => ?_)
        obtain ⟨G6, S6, fx15_0, fx15_1⟩ := qx15
        rw [e3_] at fx15_1
        have b_ := fx15_1 a1.toNat (by omega)
        have g_ := fx15_0 a1.toNat (by omega)
        have k_ := fx2_1.mp (by omega)
        have R6 := R3.call S6 (by decide +kernel)
        refine z_iload (M := M_X12_between) 56 dX12_between_56 rfl ?_
        refine z_if_eq_F (M := M_X12_between) 58 dX12_between_58 65 rfl (by omega) ?_
        refine z_iload_n (M := M_X12_between) 61 dX12_between_61 rfl ?_
        refine z_goto (M := M_X12_between) 62 dX12_between_62 66 rfl ?_
        refine z_istore (M := M_X12_between) 66 dX12_between_66 (ls' := [some (mR 108), some (mI a1), some (mI a2), some (mI a3), some (mI 1), some (mI a1)]) (by decide) rfl ?_
        refine z_iload_n (M := M_X12_between) 68 dX12_between_68 rfl ?_
        refine z_iconst (M := M_X12_between) 69 dX12_between_69 ?_
        refine z_icmp_le (M := M_X12_between) 70 dX12_between_70 99 rfl (fun c16 => ?_) (fun c16 => ?_)
        · refine z_aload_n (M := M_X12_between) 99 dX12_between_99 rfl ?_
          refine z_getR (M := M_X12_between) 100 dX12_between_100 f_X12_70 o_108 rfl (g_108_32 G6) ?_
          refine z_iload (M := M_X12_between) 103 dX12_between_103 rfl ?_
          refine z_zaldG (M := M_X12_between) 105 dX12_between_105 o_127 (by omega) (by omega) (g_127 G6 (by omega)) (fun x17 ex17 ax17 bx17 => ?_)
          refine z_if_ne (M := M_X12_between) 106 dX12_between_106 120 rfl (fun c18 => ?_) (fun c18 => ?_)
          · refine z_iload (M := M_X12_between) 120 dX12_between_120 rfl ?_
            refine z_if_eq_F (M := M_X12_between) 122 dX12_between_122 154 rfl (by omega) ?_
            refine z_aload_n (M := M_X12_between) 125 dX12_between_125 rfl ?_
            refine z_aload_n (M := M_X12_between) 126 dX12_between_126 rfl ?_
            refine z_getR (M := M_X12_between) 127 dX12_between_127 f_X12_61 o_108 rfl (g_108_29 G6) ?_
            refine z_iconst (M := M_X12_between) 130 dX12_between_130 ?_
            refine z_iload (M := M_X12_between) 131 dX12_between_131 rfl ?_
            refine z_imulN (M := M_X12_between) 133 dX12_between_133 (by omega) (by omega) ?_
            refine z_aload_n (M := M_X12_between) 134 dX12_between_134 rfl ?_
            refine z_getR (M := M_X12_between) 135 dX12_between_135 f_X12_64 o_108 rfl (g_108_30 G6) ?_
            refine z_iconst (M := M_X12_between) 138 dX12_between_138 ?_
            refine z_iload (M := M_X12_between) 139 dX12_between_139 rfl ?_
            refine z_imulN (M := M_X12_between) 141 dX12_between_141 (by omega) (by omega) ?_
            refine z_ldcw (M := M_X12_between) 142 dX12_between_142 k_X12_400 ?_
            refine z_ldcw (M := M_X12_between) 145 dX12_between_145 k_X12_401 ?_
            refine z_vI (M := M_X12_between) 148 dX12_between_148 t_X12_share l_X12_402 (m_rr_of rfl) (rest := []) (c_X12_share2 h6 124 125 (5 * a1) (5 * a1) 1000000 2000000000 (Or.inl rfl) (Or.inr rfl) G6 ⟨by omega, by omega⟩ ⟨by omega, by omega⟩ ⟨by omega, by omega⟩ ⟨by omega, by omega⟩) o_108 rfl rfl rfl (Nat.le_of_ble_eq_true rfl) ⟨rfl, rfl⟩ (fun x19 h7 qx19 => ?_)
            obtain ⟨G7, S7, ax19, bx19, fx19⟩ := qx19
            have R7 := R6.call S7 (by decide +kernel)
            refine z_goto (M := M_X12_between) 151 dX12_between_151 180 rfl ?_
            exact z_retI (M := M_X12_between) 180 dX12_between_180 rfl ⟨G7, R7, by omega, by omega, Or.inr ⟨⟨⟨by omega, by omega⟩, k_⟩, Or.inl ⟨_, (by have z := b_; rw [bOf_y ex17 (by omega)] at z; exact z), Or.inl ⟨by omega, ml_sh rfl (by omega) (by omega) (by have z := fx19; rw [at5 (by omega)] at z; exact z)⟩⟩⟩⟩
          · refine z_iload (M := M_X12_between) 109 dX12_between_109 rfl ?_
            refine z_if_eq_F (M := M_X12_between) 111 dX12_between_111 118 rfl (by omega) ?_
            refine z_iconst (M := M_X12_between) 114 dX12_between_114 ?_
            refine z_goto (M := M_X12_between) 115 dX12_between_115 119 rfl ?_
            exact z_retI (M := M_X12_between) 119 dX12_between_119 rfl ⟨G6, R6, by omega, by omega, Or.inr ⟨⟨⟨by omega, by omega⟩, k_⟩, Or.inl ⟨_, (by have z := b_; rw [bOf_n ex17 (by omega)] at z; exact z), Or.inl ⟨by omega, ⟨by decide, by decide⟩, by decide, fun _ => by decide⟩⟩⟩⟩
        · refine z_aload_n (M := M_X12_between) 73 dX12_between_73 rfl ?_
          refine z_getR (M := M_X12_between) 74 dX12_between_74 f_X12_70 o_108 rfl (g_108_32 G6) ?_
          refine z_iload (M := M_X12_between) 77 dX12_between_77 rfl ?_
          refine z_zaldG (M := M_X12_between) 79 dX12_between_79 o_127 (by omega) (by omega) (g_127 G6 (by omega)) (fun x20 ex20 ax20 bx20 => ?_)
          refine z_if_eq (M := M_X12_between) 80 dX12_between_80 97 rfl (fun c21 => ?_) (fun c21 => ?_)
          · refine z_iconst (M := M_X12_between) 97 dX12_between_97 ?_
            exact z_retI (M := M_X12_between) 98 dX12_between_98 rfl ⟨G6, R6, by omega, by omega, Or.inr ⟨⟨⟨by omega, by omega⟩, k_⟩, Or.inl ⟨_, (by have z := b_; rw [bOf_n ex20 (by omega)] at z; exact z), Or.inr ⟨by omega, Or.inr ⟨rfl, fun z => z.1 rfl⟩⟩⟩⟩⟩
          · refine z_aload_n (M := M_X12_between) 83 dX12_between_83 rfl ?_
            refine z_getR (M := M_X12_between) 84 dX12_between_84 f_X12_67 o_108 rfl (g_108_31 G6) ?_
            refine z_iload (M := M_X12_between) 87 dX12_between_87 rfl ?_
            refine z_zaldG (M := M_X12_between) 89 dX12_between_89 o_126 (by omega) (by omega) (g_126 G6 (by omega)) (fun x22 ex22 ax22 bx22 => ?_)
            refine z_if_ne (M := M_X12_between) 90 dX12_between_90 97 rfl (fun c23 => ?_) (fun c23 => ?_)
            · refine z_iconst (M := M_X12_between) 97 dX12_between_97 ?_
              exact z_retI (M := M_X12_between) 98 dX12_between_98 rfl ⟨G6, R6, by omega, by omega, Or.inr ⟨⟨⟨by omega, by omega⟩, k_⟩, Or.inl ⟨_, (by have z := b_; rw [bOf_y ex20 (by omega)] at z; exact z), Or.inr ⟨by omega, Or.inr ⟨rfl, fun z => z.2 (show h6 126 a1.toNat = 1 by omega)⟩⟩⟩⟩⟩
            · refine z_iconst (M := M_X12_between) 93 dX12_between_93 ?_
              refine z_goto (M := M_X12_between) 94 dX12_between_94 98 rfl ?_
              exact z_retI (M := M_X12_between) 98 dX12_between_98 rfl ⟨G6, R6, by omega, by omega, Or.inr ⟨⟨⟨by omega, by omega⟩, k_⟩, Or.inl ⟨_, (by have z := b_; rw [bOf_y ex20 (by omega)] at z; exact z), Or.inr ⟨by omega, Or.inl ⟨rfl, (show vS (h6 124) (5 * a1.toNat) 5 ≠ 0 by have z : 1 ≤ vS (h6 124) (5 * a1.toNat) 5 := (g_.2.2 (ex20.trans (by omega))).1.1; omega), fun z => absurd (ex22.symm.trans z) (by omega)⟩⟩⟩⟩⟩
    · refine z_bipush (M := M_X12_between) 26 dX12_between_26 ?_
      exact z_retI (M := M_X12_between) 28 dX12_between_28 rfl ⟨G3, R3, by omega, by omega, Or.inl ⟨fun z => absurd (fx2_1.mpr z.2) (by omega), rfl⟩⟩
  · refine z_if_eq_T (M := M_X12_between) 14 dX12_between_14 26 rfl (by omega) ?_
    refine z_bipush (M := M_X12_between) 26 dX12_between_26 ?_
    exact z_retI (M := M_X12_between) 28 dX12_between_28 rfl ⟨G1, R1, by omega, by omega, Or.inl ⟨fun z => cx1 z.1, rfl⟩⟩
theorem LX.between {h h1 : m_H} {a b w x y : Int} {cs : List Nat} {ss : List (Nat × Nat)} (G : GI h) (N : NP h) (S1 : FR cs ss h h1) (A : btQ (h 110) a b w x) (B : btQ (h1 110) a b w y) (o : out 110 110 cs ss = true) : x = y := by
  rw [rowz S1 (fr_out o (by decide) (by decide))] at B
  exact bt_eq (bR_ok G N) A B
/-! numbers of a kind by a limit -/
def lnF (k t l o : Int) : Int := if k = 2 then (2 * l + t) / (2 * t) else if k = 0 ∧ (o = 1 ∨ l / t * t ≠ l) then l / t + 1 else l / t
def gnG (T L o : Int) : Int := if o = 1 ∧ T / L * L = T then T / L - 1 else T / L
def gnF (k t l o : Int) : Int := if l = 0 then -1 else if k = 2 then gnG (2 * t + l) (2 * l) o else gnG t l o
abbrev P_X7_leastNumber2 (h0 : m_H) (a1 : Int) : Int → m_H → Prop := fun x h' => GI h' ∧ FR [] [] h0 h' ∧ lnF a1 (h0 94 0) (h0 94 1) (h0 94 2) = x
set_option maxHeartbeats 4000000 in
set_option maxRecDepth 100000 in
theorem c_X7_leastNumber2 (h0 : m_H) (a1 : Int) (G0 : GI h0) (pa1 : 0 ≤ a1 ∧ a1 ≤ 2) (q94 : (1 ≤ h0 94 0 ∧ h0 94 0 ≤ 1600000000) ∧ (0 ≤ h0 94 1 ∧ h0 94 1 ≤ 1600000000)) : m_CJ M_X7_leastNumber [mR 93, mI a1] h0 (P_X7_leastNumber2 h0 a1) := by
  refine m_CJ_of ⟨by decide, rfl, by simp [m_arg, m_isL, M_X7_leastNumber], ⟨rfl, rfl⟩, rfl, rfl⟩ (ls := [some (mR 93), some (mI a1), none, none, none]) rfl ?_
  refine z_iload_n (M := M_X7_leastNumber) 0 dX7_leastNumber_0 rfl ?_
  refine z_iconst (M := M_X7_leastNumber) 1 dX7_leastNumber_1 ?_
  refine z_icmp_ne (M := M_X7_leastNumber) 2 dX7_leastNumber_2 39 rfl (fun c1 => ?_) (fun c1 => ?_)
  · refine z_aload_n (M := M_X7_leastNumber) 39 dX7_leastNumber_39 rfl ?_
    refine z_getR (M := M_X7_leastNumber) 40 dX7_leastNumber_40 f_X7_12 o_93 rfl (g_93_0 G0) ?_
    refine z_getJG (M := M_X7_leastNumber) 43 dX7_leastNumber_43 f_X7_29 o_94 rfl q94.2 (fun x2 ex2 ax2 bx2 => ?_)
    refine z_aload_n (M := M_X7_leastNumber) 46 dX7_leastNumber_46 rfl ?_
    refine z_getR (M := M_X7_leastNumber) 47 dX7_leastNumber_47 f_X7_12 o_93 rfl (g_93_0 G0) ?_
    refine z_getJG (M := M_X7_leastNumber) 50 dX7_leastNumber_50 f_X7_33 o_94 rfl q94.1 (fun x3 ex3 ax3 bx3 => ?_)
    refine z_nJ (M := M_X7_leastNumber) 53 dX7_leastNumber_53 t_X11_quotient l_X7_36 (m_rr_of rfl) (rest := []) (c_X11_quotient2 h0 x2 x3 G0 (by omega) (by omega)) rfl rfl (Nat.le_of_ble_eq_true rfl) ⟨rfl, rfl⟩ (fun x4 h1 qx4 => ?_)
    obtain ⟨G1, S1, fx4_0⟩ := qx4
    have R1 := (FR.rf (cs := []) (ss := []) (h := h0)).call S1 (by decide +kernel)
    have bx4 := ediv_bd (x := x2) (y := x3) (hi := 1600000000) (by omega) (by omega) (by omega)
    rw [fx4_0] at bx4
    refine z_lstore_n (M := M_X7_leastNumber) 56 dX7_leastNumber_56 (ls' := [some (mR 93), some (mI a1), some (mJ x4), none, none]) (by decide) rfl ?_
    refine z_aload_n (M := M_X7_leastNumber) 57 dX7_leastNumber_57 rfl ?_
    refine z_getR (M := M_X7_leastNumber) 58 dX7_leastNumber_58 f_X7_12 o_93 rfl (g_93_0 G1) ?_
    refine z_getIG (M := M_X7_leastNumber) 61 dX7_leastNumber_61 f_X7_44 o_94 (by decide) (g_94_2 G1) (fun x5 ex5 ax5 bx5 => ?_)
    refine z_if_ne (M := M_X7_leastNumber) 64 dX7_leastNumber_64 87 rfl (fun c6 => ?_) (fun c6 => ?_)
    · refine z_iconst (M := M_X7_leastNumber) 87 dX7_leastNumber_87 ?_
      refine z_goto (M := M_X7_leastNumber) 88 dX7_leastNumber_88 92 rfl ?_
      refine z_istore (M := M_X7_leastNumber) 92 dX7_leastNumber_92 (ls' := [some (mR 93), some (mI a1), some (mJ x4), none, some (mI 1)]) (by decide) rfl ?_
      refine z_iload_n (M := M_X7_leastNumber) 94 dX7_leastNumber_94 rfl ?_
      refine z_if_ne (M := M_X7_leastNumber) 95 dX7_leastNumber_95 109 rfl (fun c7 => ?_) (fun c7 => ?_)
      · refine z_lload_n (M := M_X7_leastNumber) 109 dX7_leastNumber_109 rfl ?_
        exact z_retJ (M := M_X7_leastNumber) 110 dX7_leastNumber_110 rfl ⟨G1, R1, by unfold lnF; simp only [show h0 94 1 = x2 from ((R1 94 1 rfl).symm.trans ((S1 94 1 rfl).trans ex2)), show h0 94 0 = x3 from ((R1 94 0 rfl).symm.trans ((S1 94 0 rfl).trans ex3)), show h0 94 2 = x5 from ((R1 94 2 rfl).symm.trans ex5)]; (repeat (first | rw [if_pos (by omega)] | rw [if_neg (by omega)])); (try unfold gnG); (try simp only [fx4_0]); (repeat (first | rw [if_pos (by omega)] | rw [if_neg (by omega)])); (try omega)⟩
      · refine z_iload (M := M_X7_leastNumber) 98 dX7_leastNumber_98 rfl ?_
        refine z_if_eq_F (M := M_X7_leastNumber) 100 dX7_leastNumber_100 109 rfl (by omega) ?_
        refine z_lload_n (M := M_X7_leastNumber) 103 dX7_leastNumber_103 rfl ?_
        refine z_lconst (M := M_X7_leastNumber) 104 dX7_leastNumber_104 (v := 1) ?_
        refine z_laddN (M := M_X7_leastNumber) 105 dX7_leastNumber_105 (by omega) (by omega) ?_
        refine z_goto (M := M_X7_leastNumber) 106 dX7_leastNumber_106 110 rfl ?_
        exact z_retJ (M := M_X7_leastNumber) 110 dX7_leastNumber_110 rfl ⟨G1, R1, by unfold lnF; simp only [show h0 94 1 = x2 from ((R1 94 1 rfl).symm.trans ((S1 94 1 rfl).trans ex2)), show h0 94 0 = x3 from ((R1 94 0 rfl).symm.trans ((S1 94 0 rfl).trans ex3)), show h0 94 2 = x5 from ((R1 94 2 rfl).symm.trans ex5)]; (repeat (first | rw [if_pos (by omega)] | rw [if_neg (by omega)])); (try unfold gnG); (try simp only [fx4_0]); (repeat (first | rw [if_pos (by omega)] | rw [if_neg (by omega)])); (try omega)⟩
    · refine z_lload_n (M := M_X7_leastNumber) 67 dX7_leastNumber_67 rfl ?_
      refine z_aload_n (M := M_X7_leastNumber) 68 dX7_leastNumber_68 rfl ?_
      refine z_getR (M := M_X7_leastNumber) 69 dX7_leastNumber_69 f_X7_12 o_93 rfl (g_93_0 G1) ?_
      refine z_getJE (M := M_X7_leastNumber) 72 dX7_leastNumber_72 f_X7_33 o_94 rfl ((S1 94 0 rfl).trans ex3) ?_
      have mx8 := Int.ediv_mul_le x2 (show x3 ≠ 0 by omega)
      rw [fx4_0] at mx8
      have nx8 := Int.mul_nonneg (show 0 ≤ x4 by omega) (show 0 ≤ x3 by omega)
      refine z_lmulN (M := M_X7_leastNumber) 75 dX7_leastNumber_75 (by omega) (by omega) ?_
      refine z_topBJ (lo := 0) (hi := 1600000000) ⟨by omega, by omega⟩ (fun x8 ex8 ax8 bx8 => ?_)
      refine z_aload_n (M := M_X7_leastNumber) 76 dX7_leastNumber_76 rfl ?_
      refine z_getR (M := M_X7_leastNumber) 77 dX7_leastNumber_77 f_X7_12 o_93 rfl (g_93_0 G1) ?_
      refine z_getJE (M := M_X7_leastNumber) 80 dX7_leastNumber_80 f_X7_29 o_94 rfl ((S1 94 1 rfl).trans ex2) ?_
      refine z_lcmp (M := M_X7_leastNumber) 83 dX7_leastNumber_83 ?_
      refine z_if_eq (M := M_X7_leastNumber) 84 dX7_leastNumber_84 91 rfl (fun c9 => ?_) (fun c9 => ?_)
      · rw [m_cmp_eq] at c9
        refine z_iconst (M := M_X7_leastNumber) 91 dX7_leastNumber_91 ?_
        refine z_istore (M := M_X7_leastNumber) 92 dX7_leastNumber_92 (ls' := [some (mR 93), some (mI a1), some (mJ x4), none, some (mI 0)]) (by decide) rfl ?_
        refine z_iload_n (M := M_X7_leastNumber) 94 dX7_leastNumber_94 rfl ?_
        refine z_if_ne (M := M_X7_leastNumber) 95 dX7_leastNumber_95 109 rfl (fun c10 => ?_) (fun c10 => ?_)
        · refine z_lload_n (M := M_X7_leastNumber) 109 dX7_leastNumber_109 rfl ?_
          exact z_retJ (M := M_X7_leastNumber) 110 dX7_leastNumber_110 rfl ⟨G1, R1, by unfold lnF; simp only [show h0 94 1 = x2 from ((R1 94 1 rfl).symm.trans ((S1 94 1 rfl).trans ex2)), show h0 94 0 = x3 from ((R1 94 0 rfl).symm.trans ((S1 94 0 rfl).trans ex3)), show h0 94 2 = x5 from ((R1 94 2 rfl).symm.trans ex5)]; (repeat (first | rw [if_pos (by omega)] | rw [if_neg (by omega)])); (try unfold gnG); (try simp only [fx4_0, ex8]); (repeat (first | rw [if_pos (by omega)] | rw [if_neg (by omega)])); (try omega)⟩
        · refine z_iload (M := M_X7_leastNumber) 98 dX7_leastNumber_98 rfl ?_
          refine z_if_eq_T (M := M_X7_leastNumber) 100 dX7_leastNumber_100 109 rfl (by omega) ?_
          refine z_lload_n (M := M_X7_leastNumber) 109 dX7_leastNumber_109 rfl ?_
          exact z_retJ (M := M_X7_leastNumber) 110 dX7_leastNumber_110 rfl ⟨G1, R1, by unfold lnF; simp only [show h0 94 1 = x2 from ((R1 94 1 rfl).symm.trans ((S1 94 1 rfl).trans ex2)), show h0 94 0 = x3 from ((R1 94 0 rfl).symm.trans ((S1 94 0 rfl).trans ex3)), show h0 94 2 = x5 from ((R1 94 2 rfl).symm.trans ex5)]; (repeat (first | rw [if_pos (by omega)] | rw [if_neg (by omega)])); (try unfold gnG); (try simp only [fx4_0, ex8]); (repeat (first | rw [if_pos (by omega)] | rw [if_neg (by omega)])); (try omega)⟩
      · rw [m_cmp_eq] at c9
        refine z_iconst (M := M_X7_leastNumber) 87 dX7_leastNumber_87 ?_
        refine z_goto (M := M_X7_leastNumber) 88 dX7_leastNumber_88 92 rfl ?_
        refine z_istore (M := M_X7_leastNumber) 92 dX7_leastNumber_92 (ls' := [some (mR 93), some (mI a1), some (mJ x4), none, some (mI 1)]) (by decide) rfl ?_
        refine z_iload_n (M := M_X7_leastNumber) 94 dX7_leastNumber_94 rfl ?_
        refine z_if_ne (M := M_X7_leastNumber) 95 dX7_leastNumber_95 109 rfl (fun c11 => ?_) (fun c11 => ?_)
        · refine z_lload_n (M := M_X7_leastNumber) 109 dX7_leastNumber_109 rfl ?_
          exact z_retJ (M := M_X7_leastNumber) 110 dX7_leastNumber_110 rfl ⟨G1, R1, by unfold lnF; simp only [show h0 94 1 = x2 from ((R1 94 1 rfl).symm.trans ((S1 94 1 rfl).trans ex2)), show h0 94 0 = x3 from ((R1 94 0 rfl).symm.trans ((S1 94 0 rfl).trans ex3)), show h0 94 2 = x5 from ((R1 94 2 rfl).symm.trans ex5)]; (repeat (first | rw [if_pos (by omega)] | rw [if_neg (by omega)])); (try unfold gnG); (try simp only [fx4_0, ex8]); (repeat (first | rw [if_pos (by omega)] | rw [if_neg (by omega)])); (try omega)⟩
        · refine z_iload (M := M_X7_leastNumber) 98 dX7_leastNumber_98 rfl ?_
          refine z_if_eq_F (M := M_X7_leastNumber) 100 dX7_leastNumber_100 109 rfl (by omega) ?_
          refine z_lload_n (M := M_X7_leastNumber) 103 dX7_leastNumber_103 rfl ?_
          refine z_lconst (M := M_X7_leastNumber) 104 dX7_leastNumber_104 (v := 1) ?_
          refine z_laddN (M := M_X7_leastNumber) 105 dX7_leastNumber_105 (by omega) (by omega) ?_
          refine z_goto (M := M_X7_leastNumber) 106 dX7_leastNumber_106 110 rfl ?_
          exact z_retJ (M := M_X7_leastNumber) 110 dX7_leastNumber_110 rfl ⟨G1, R1, by unfold lnF; simp only [show h0 94 1 = x2 from ((R1 94 1 rfl).symm.trans ((S1 94 1 rfl).trans ex2)), show h0 94 0 = x3 from ((R1 94 0 rfl).symm.trans ((S1 94 0 rfl).trans ex3)), show h0 94 2 = x5 from ((R1 94 2 rfl).symm.trans ex5)]; (repeat (first | rw [if_pos (by omega)] | rw [if_neg (by omega)])); (try unfold gnG); (try simp only [fx4_0, ex8]); (repeat (first | rw [if_pos (by omega)] | rw [if_neg (by omega)])); (try omega)⟩
  · refine z_ldc2 (M := M_X7_leastNumber) 5 dX7_leastNumber_5 k_X7_42 ?_
    refine z_aload_n (M := M_X7_leastNumber) 8 dX7_leastNumber_8 rfl ?_
    refine z_getR (M := M_X7_leastNumber) 9 dX7_leastNumber_9 f_X7_12 o_93 rfl (g_93_0 G0) ?_
    refine z_getJG (M := M_X7_leastNumber) 12 dX7_leastNumber_12 f_X7_29 o_94 rfl q94.2 (fun x12 ex12 ax12 bx12 => ?_)
    refine z_lmulN (M := M_X7_leastNumber) 15 dX7_leastNumber_15 (by omega) (by omega) ?_
    refine z_aload_n (M := M_X7_leastNumber) 16 dX7_leastNumber_16 rfl ?_
    refine z_getR (M := M_X7_leastNumber) 17 dX7_leastNumber_17 f_X7_12 o_93 rfl (g_93_0 G0) ?_
    refine z_getJG (M := M_X7_leastNumber) 20 dX7_leastNumber_20 f_X7_33 o_94 rfl q94.1 (fun x13 ex13 ax13 bx13 => ?_)
    refine z_laddN (M := M_X7_leastNumber) 23 dX7_leastNumber_23 (by omega) (by omega) ?_
    refine z_ldc2 (M := M_X7_leastNumber) 24 dX7_leastNumber_24 k_X7_42 ?_
    refine z_aload_n (M := M_X7_leastNumber) 27 dX7_leastNumber_27 rfl ?_
    refine z_getR (M := M_X7_leastNumber) 28 dX7_leastNumber_28 f_X7_12 o_93 rfl (g_93_0 G0) ?_
    refine z_getJE (M := M_X7_leastNumber) 31 dX7_leastNumber_31 f_X7_33 o_94 rfl ex13 ?_
    refine z_lmulN (M := M_X7_leastNumber) 34 dX7_leastNumber_34 (by omega) (by omega) ?_
    refine z_nJ (M := M_X7_leastNumber) 35 dX7_leastNumber_35 t_X11_quotient l_X7_36 (m_rr_of rfl) (rest := []) (c_X11_quotient2 h0 ((2 * x12) + x13) (2 * x13) G0 (by omega) (by omega)) rfl rfl (Nat.le_of_ble_eq_true rfl) ⟨rfl, rfl⟩ (fun x14 h2 qx14 => ?_)
    obtain ⟨G2, S2, fx14_0⟩ := qx14
    have R2 := (FR.rf (cs := []) (ss := []) (h := h0)).call S2 (by decide +kernel)
    have bx14 := ediv_bd (x := ((2 * x12) + x13)) (y := (2 * x13)) (hi := 4800000000) (by omega) (by omega) (by omega)
    rw [fx14_0] at bx14
    exact z_retJ (M := M_X7_leastNumber) 38 dX7_leastNumber_38 rfl ⟨G2, R2, by unfold lnF; simp only [show h0 94 1 = x12 from ((R2 94 1 rfl).symm.trans ((S2 94 1 rfl).trans ex12)), show h0 94 0 = x13 from ((R2 94 0 rfl).symm.trans ((S2 94 0 rfl).trans ex13))]; (repeat (first | rw [if_pos (by omega)] | rw [if_neg (by omega)])); (try unfold gnG); (try simp only [fx14_0]); (repeat (first | rw [if_pos (by omega)] | rw [if_neg (by omega)])); (try omega)⟩
abbrev P_X7_greatestNumber2 (h0 : m_H) (a1 : Int) : Int → m_H → Prop := fun x h' => GI h' ∧ FR [] [] h0 h' ∧ gnF a1 (h0 95 0) (h0 95 1) (h0 95 2) = x
set_option maxHeartbeats 4000000 in
set_option maxRecDepth 100000 in
theorem c_X7_greatestNumber2 (h0 : m_H) (a1 : Int) (G0 : GI h0) (pa1 : 0 ≤ a1 ∧ a1 ≤ 2) (q95 : (1 ≤ h0 95 0 ∧ h0 95 0 ≤ 1600000000) ∧ (0 ≤ h0 95 1 ∧ h0 95 1 ≤ 1600000000)) : m_CJ M_X7_greatestNumber [mR 93, mI a1] h0 (P_X7_greatestNumber2 h0 a1) := by
  refine m_CJ_of ⟨by decide, rfl, by simp [m_arg, m_isL, M_X7_greatestNumber], ⟨rfl, rfl⟩, rfl, rfl⟩ (ls := [some (mR 93), some (mI a1), none, none, none, none, none, none]) rfl ?_
  refine z_aload_n (M := M_X7_greatestNumber) 0 dX7_greatestNumber_0 rfl ?_
  refine z_getR (M := M_X7_greatestNumber) 1 dX7_greatestNumber_1 f_X7_18 o_93 rfl (g_93_1 G0) ?_
  refine z_getJG (M := M_X7_greatestNumber) 4 dX7_greatestNumber_4 f_X7_29 o_95 rfl q95.2 (fun x1 ex1 ax1 bx1 => ?_)
  refine z_lconst (M := M_X7_greatestNumber) 7 dX7_greatestNumber_7 (v := 0) ?_
  refine z_lcmp (M := M_X7_greatestNumber) 8 dX7_greatestNumber_8 ?_
  refine z_if_ne (M := M_X7_greatestNumber) 9 dX7_greatestNumber_9 16 rfl (fun c2 => ?_) (fun c2 => ?_)
  · rw [m_cmp_eq] at c2
    refine z_iload_n (M := M_X7_greatestNumber) 16 dX7_greatestNumber_16 rfl ?_
    refine z_iconst (M := M_X7_greatestNumber) 17 dX7_greatestNumber_17 ?_
    refine z_icmp_ne (M := M_X7_greatestNumber) 18 dX7_greatestNumber_18 43 rfl (fun c3 => ?_) (fun c3 => ?_)
    · refine z_aload_n (M := M_X7_greatestNumber) 43 dX7_greatestNumber_43 rfl ?_
      refine z_getR (M := M_X7_greatestNumber) 44 dX7_greatestNumber_44 f_X7_18 o_93 rfl (g_93_1 G0) ?_
      refine z_getJG (M := M_X7_greatestNumber) 47 dX7_greatestNumber_47 f_X7_33 o_95 rfl q95.1 (fun x4 ex4 ax4 bx4 => ?_)
      refine z_lstore_n (M := M_X7_greatestNumber) 50 dX7_greatestNumber_50 (ls' := [some (mR 93), some (mI a1), some (mJ x4), none, none, none, none, none]) (by decide) rfl ?_
      refine z_iload_n (M := M_X7_greatestNumber) 51 dX7_greatestNumber_51 rfl ?_
      refine z_iconst (M := M_X7_greatestNumber) 52 dX7_greatestNumber_52 ?_
      refine z_icmp_ne_T (M := M_X7_greatestNumber) 53 dX7_greatestNumber_53 70 rfl (by omega) ?_
      refine z_aload_n (M := M_X7_greatestNumber) 70 dX7_greatestNumber_70 rfl ?_
      refine z_getR (M := M_X7_greatestNumber) 71 dX7_greatestNumber_71 f_X7_18 o_93 rfl (g_93_1 G0) ?_
      refine z_getJE (M := M_X7_greatestNumber) 74 dX7_greatestNumber_74 f_X7_29 o_95 rfl ex1 ?_
      refine z_lstore (M := M_X7_greatestNumber) 77 dX7_greatestNumber_77 (ls' := [some (mR 93), some (mI a1), some (mJ x4), none, some (mJ x1), none, none, none]) (by decide) rfl ?_
      refine z_lload_n (M := M_X7_greatestNumber) 79 dX7_greatestNumber_79 rfl ?_
      refine z_lload (M := M_X7_greatestNumber) 80 dX7_greatestNumber_80 rfl ?_
      refine z_nJ (M := M_X7_greatestNumber) 82 dX7_greatestNumber_82 t_X11_quotient l_X7_36 (m_rr_of rfl) (rest := []) (c_X11_quotient2 h0 x4 x1 G0 (by omega) (by omega)) rfl rfl (Nat.le_of_ble_eq_true rfl) ⟨rfl, rfl⟩ (fun x5 h1 qx5 => ?_)
      obtain ⟨G1, S1, fx5_0⟩ := qx5
      have R1 := (FR.rf (cs := []) (ss := []) (h := h0)).call S1 (by decide +kernel)
      have bx5 := ediv_bd (x := x4) (y := x1) (hi := 1600000000) (by omega) (by omega) (by omega)
      rw [fx5_0] at bx5
      refine z_lstore (M := M_X7_greatestNumber) 85 dX7_greatestNumber_85 (ls' := [some (mR 93), some (mI a1), some (mJ x4), none, some (mJ x1), none, some (mJ x5), none]) (by decide) rfl ?_
      refine z_aload_n (M := M_X7_greatestNumber) 87 dX7_greatestNumber_87 rfl ?_
      refine z_getR (M := M_X7_greatestNumber) 88 dX7_greatestNumber_88 f_X7_18 o_93 rfl (g_93_1 G1) ?_
      refine z_getIG (M := M_X7_greatestNumber) 91 dX7_greatestNumber_91 f_X7_44 o_95 (by decide) (g_95_2 G1) (fun x6 ex6 ax6 bx6 => ?_)
      refine z_if_eq (M := M_X7_greatestNumber) 94 dX7_greatestNumber_94 114 rfl (fun c7 => ?_) (fun c7 => ?_)
      · refine z_lload (M := M_X7_greatestNumber) 114 dX7_greatestNumber_114 rfl ?_
        exact z_retJ (M := M_X7_greatestNumber) 116 dX7_greatestNumber_116 rfl ⟨G1, R1, by unfold gnF; simp only [show h0 95 1 = x1 from ((R1 95 1 rfl).symm.trans ((S1 95 1 rfl).trans ex1)), show h0 95 0 = x4 from ((R1 95 0 rfl).symm.trans ((S1 95 0 rfl).trans ex4)), show h0 95 2 = x6 from ((R1 95 2 rfl).symm.trans ex6)]; (repeat (first | rw [if_pos (by omega)] | rw [if_neg (by omega)])); (try unfold gnG); (try simp only [fx5_0]); (repeat (first | rw [if_pos (by omega)] | rw [if_neg (by omega)])); (try omega)⟩
      · refine z_lload (M := M_X7_greatestNumber) 97 dX7_greatestNumber_97 rfl ?_
        refine z_lload (M := M_X7_greatestNumber) 99 dX7_greatestNumber_99 rfl ?_
        have mx8 := Int.ediv_mul_le x4 (show x1 ≠ 0 by omega)
        rw [fx5_0] at mx8
        have nx8 := Int.mul_nonneg (show 0 ≤ x5 by omega) (show 0 ≤ x1 by omega)
        refine z_lmulN (M := M_X7_greatestNumber) 101 dX7_greatestNumber_101 (by omega) (by omega) ?_
        refine z_topBJ (lo := 0) (hi := 1600000000) ⟨by omega, by omega⟩ (fun x8 ex8 ax8 bx8 => ?_)
        refine z_lload_n (M := M_X7_greatestNumber) 102 dX7_greatestNumber_102 rfl ?_
        refine z_lcmp (M := M_X7_greatestNumber) 103 dX7_greatestNumber_103 ?_
        refine z_if_ne (M := M_X7_greatestNumber) 104 dX7_greatestNumber_104 114 rfl (fun c9 => ?_) (fun c9 => ?_)
        · rw [m_cmp_eq] at c9
          refine z_lload (M := M_X7_greatestNumber) 114 dX7_greatestNumber_114 rfl ?_
          exact z_retJ (M := M_X7_greatestNumber) 116 dX7_greatestNumber_116 rfl ⟨G1, R1, by unfold gnF; simp only [show h0 95 1 = x1 from ((R1 95 1 rfl).symm.trans ((S1 95 1 rfl).trans ex1)), show h0 95 0 = x4 from ((R1 95 0 rfl).symm.trans ((S1 95 0 rfl).trans ex4)), show h0 95 2 = x6 from ((R1 95 2 rfl).symm.trans ex6)]; (repeat (first | rw [if_pos (by omega)] | rw [if_neg (by omega)])); (try unfold gnG); (try simp only [fx5_0, ex8]); (repeat (first | rw [if_pos (by omega)] | rw [if_neg (by omega)])); (try omega)⟩
        · rw [m_cmp_eq] at c9
          refine z_lload (M := M_X7_greatestNumber) 107 dX7_greatestNumber_107 rfl ?_
          refine z_lconst (M := M_X7_greatestNumber) 109 dX7_greatestNumber_109 (v := 1) ?_
          refine z_lsubN (M := M_X7_greatestNumber) 110 dX7_greatestNumber_110 (by omega) (by omega) ?_
          refine z_goto (M := M_X7_greatestNumber) 111 dX7_greatestNumber_111 116 rfl ?_
          exact z_retJ (M := M_X7_greatestNumber) 116 dX7_greatestNumber_116 rfl ⟨G1, R1, by unfold gnF; simp only [show h0 95 1 = x1 from ((R1 95 1 rfl).symm.trans ((S1 95 1 rfl).trans ex1)), show h0 95 0 = x4 from ((R1 95 0 rfl).symm.trans ((S1 95 0 rfl).trans ex4)), show h0 95 2 = x6 from ((R1 95 2 rfl).symm.trans ex6)]; (repeat (first | rw [if_pos (by omega)] | rw [if_neg (by omega)])); (try unfold gnG); (try simp only [fx5_0, ex8]); (repeat (first | rw [if_pos (by omega)] | rw [if_neg (by omega)])); (try omega)⟩
    · refine z_ldc2 (M := M_X7_greatestNumber) 21 dX7_greatestNumber_21 k_X7_42 ?_
      refine z_aload_n (M := M_X7_greatestNumber) 24 dX7_greatestNumber_24 rfl ?_
      refine z_getR (M := M_X7_greatestNumber) 25 dX7_greatestNumber_25 f_X7_18 o_93 rfl (g_93_1 G0) ?_
      refine z_getJG (M := M_X7_greatestNumber) 28 dX7_greatestNumber_28 f_X7_33 o_95 rfl q95.1 (fun x10 ex10 ax10 bx10 => ?_)
      refine z_lmulN (M := M_X7_greatestNumber) 31 dX7_greatestNumber_31 (by omega) (by omega) ?_
      refine z_aload_n (M := M_X7_greatestNumber) 32 dX7_greatestNumber_32 rfl ?_
      refine z_getR (M := M_X7_greatestNumber) 33 dX7_greatestNumber_33 f_X7_18 o_93 rfl (g_93_1 G0) ?_
      refine z_getJE (M := M_X7_greatestNumber) 36 dX7_greatestNumber_36 f_X7_29 o_95 rfl ex1 ?_
      refine z_laddN (M := M_X7_greatestNumber) 39 dX7_greatestNumber_39 (by omega) (by omega) ?_
      refine z_goto (M := M_X7_greatestNumber) 40 dX7_greatestNumber_40 50 rfl ?_
      refine z_lstore_n (M := M_X7_greatestNumber) 50 dX7_greatestNumber_50 (ls' := [some (mR 93), some (mI a1), some (mJ ((2 * x10) + x1)), none, none, none, none, none]) (by decide) rfl ?_
      refine z_iload_n (M := M_X7_greatestNumber) 51 dX7_greatestNumber_51 rfl ?_
      refine z_iconst (M := M_X7_greatestNumber) 52 dX7_greatestNumber_52 ?_
      refine z_icmp_ne_F (M := M_X7_greatestNumber) 53 dX7_greatestNumber_53 70 rfl (by omega) ?_
      refine z_ldc2 (M := M_X7_greatestNumber) 56 dX7_greatestNumber_56 k_X7_42 ?_
      refine z_aload_n (M := M_X7_greatestNumber) 59 dX7_greatestNumber_59 rfl ?_
      refine z_getR (M := M_X7_greatestNumber) 60 dX7_greatestNumber_60 f_X7_18 o_93 rfl (g_93_1 G0) ?_
      refine z_getJE (M := M_X7_greatestNumber) 63 dX7_greatestNumber_63 f_X7_29 o_95 rfl ex1 ?_
      refine z_lmulN (M := M_X7_greatestNumber) 66 dX7_greatestNumber_66 (by omega) (by omega) ?_
      refine z_goto (M := M_X7_greatestNumber) 67 dX7_greatestNumber_67 77 rfl ?_
      refine z_lstore (M := M_X7_greatestNumber) 77 dX7_greatestNumber_77 (ls' := [some (mR 93), some (mI a1), some (mJ ((2 * x10) + x1)), none, some (mJ (2 * x1)), none, none, none]) (by decide) rfl ?_
      refine z_lload_n (M := M_X7_greatestNumber) 79 dX7_greatestNumber_79 rfl ?_
      refine z_lload (M := M_X7_greatestNumber) 80 dX7_greatestNumber_80 rfl ?_
      refine z_nJ (M := M_X7_greatestNumber) 82 dX7_greatestNumber_82 t_X11_quotient l_X7_36 (m_rr_of rfl) (rest := []) (c_X11_quotient2 h0 ((2 * x10) + x1) (2 * x1) G0 (by omega) (by omega)) rfl rfl (Nat.le_of_ble_eq_true rfl) ⟨rfl, rfl⟩ (fun x11 h2 qx11 => ?_)
      obtain ⟨G2, S2, fx11_0⟩ := qx11
      have R2 := (FR.rf (cs := []) (ss := []) (h := h0)).call S2 (by decide +kernel)
      have bx11 := ediv_bd (x := ((2 * x10) + x1)) (y := (2 * x1)) (hi := 4800000000) (by omega) (by omega) (by omega)
      rw [fx11_0] at bx11
      refine z_lstore (M := M_X7_greatestNumber) 85 dX7_greatestNumber_85 (ls' := [some (mR 93), some (mI a1), some (mJ ((2 * x10) + x1)), none, some (mJ (2 * x1)), none, some (mJ x11), none]) (by decide) rfl ?_
      refine z_aload_n (M := M_X7_greatestNumber) 87 dX7_greatestNumber_87 rfl ?_
      refine z_getR (M := M_X7_greatestNumber) 88 dX7_greatestNumber_88 f_X7_18 o_93 rfl (g_93_1 G2) ?_
      refine z_getIG (M := M_X7_greatestNumber) 91 dX7_greatestNumber_91 f_X7_44 o_95 (by decide) (g_95_2 G2) (fun x12 ex12 ax12 bx12 => ?_)
      refine z_if_eq (M := M_X7_greatestNumber) 94 dX7_greatestNumber_94 114 rfl (fun c13 => ?_) (fun c13 => ?_)
      · refine z_lload (M := M_X7_greatestNumber) 114 dX7_greatestNumber_114 rfl ?_
        exact z_retJ (M := M_X7_greatestNumber) 116 dX7_greatestNumber_116 rfl ⟨G2, R2, by unfold gnF; simp only [show h0 95 1 = x1 from ((R2 95 1 rfl).symm.trans ((S2 95 1 rfl).trans ex1)), show h0 95 0 = x10 from ((R2 95 0 rfl).symm.trans ((S2 95 0 rfl).trans ex10)), show h0 95 2 = x12 from ((R2 95 2 rfl).symm.trans ex12)]; (repeat (first | rw [if_pos (by omega)] | rw [if_neg (by omega)])); (try unfold gnG); (try simp only [fx11_0]); (repeat (first | rw [if_pos (by omega)] | rw [if_neg (by omega)])); (try omega)⟩
      · refine z_lload (M := M_X7_greatestNumber) 97 dX7_greatestNumber_97 rfl ?_
        refine z_lload (M := M_X7_greatestNumber) 99 dX7_greatestNumber_99 rfl ?_
        have mx14 := Int.ediv_mul_le ((2 * x10) + x1) (show (2 * x1) ≠ 0 by omega)
        rw [fx11_0] at mx14
        have nx14 := Int.mul_nonneg (show 0 ≤ x11 by omega) (show 0 ≤ (2 * x1) by omega)
        refine z_lmulN (M := M_X7_greatestNumber) 101 dX7_greatestNumber_101 (by omega) (by omega) ?_
        refine z_topBJ (lo := 0) (hi := 4800000000) ⟨by omega, by omega⟩ (fun x14 ex14 ax14 bx14 => ?_)
        refine z_lload_n (M := M_X7_greatestNumber) 102 dX7_greatestNumber_102 rfl ?_
        refine z_lcmp (M := M_X7_greatestNumber) 103 dX7_greatestNumber_103 ?_
        refine z_if_ne (M := M_X7_greatestNumber) 104 dX7_greatestNumber_104 114 rfl (fun c15 => ?_) (fun c15 => ?_)
        · rw [m_cmp_eq] at c15
          refine z_lload (M := M_X7_greatestNumber) 114 dX7_greatestNumber_114 rfl ?_
          exact z_retJ (M := M_X7_greatestNumber) 116 dX7_greatestNumber_116 rfl ⟨G2, R2, by unfold gnF; simp only [show h0 95 1 = x1 from ((R2 95 1 rfl).symm.trans ((S2 95 1 rfl).trans ex1)), show h0 95 0 = x10 from ((R2 95 0 rfl).symm.trans ((S2 95 0 rfl).trans ex10)), show h0 95 2 = x12 from ((R2 95 2 rfl).symm.trans ex12)]; (repeat (first | rw [if_pos (by omega)] | rw [if_neg (by omega)])); (try unfold gnG); (try simp only [fx11_0, ex14]); (repeat (first | rw [if_pos (by omega)] | rw [if_neg (by omega)])); (try omega)⟩
        · rw [m_cmp_eq] at c15
          refine z_lload (M := M_X7_greatestNumber) 107 dX7_greatestNumber_107 rfl ?_
          refine z_lconst (M := M_X7_greatestNumber) 109 dX7_greatestNumber_109 (v := 1) ?_
          refine z_lsubN (M := M_X7_greatestNumber) 110 dX7_greatestNumber_110 (by omega) (by omega) ?_
          refine z_goto (M := M_X7_greatestNumber) 111 dX7_greatestNumber_111 116 rfl ?_
          exact z_retJ (M := M_X7_greatestNumber) 116 dX7_greatestNumber_116 rfl ⟨G2, R2, by unfold gnF; simp only [show h0 95 1 = x1 from ((R2 95 1 rfl).symm.trans ((S2 95 1 rfl).trans ex1)), show h0 95 0 = x10 from ((R2 95 0 rfl).symm.trans ((S2 95 0 rfl).trans ex10)), show h0 95 2 = x12 from ((R2 95 2 rfl).symm.trans ex12)]; (repeat (first | rw [if_pos (by omega)] | rw [if_neg (by omega)])); (try unfold gnG); (try simp only [fx11_0, ex14]); (repeat (first | rw [if_pos (by omega)] | rw [if_neg (by omega)])); (try omega)⟩
  · rw [m_cmp_eq] at c2
    refine z_ldc2 (M := M_X7_greatestNumber) 12 dX7_greatestNumber_12 k_X7_40 ?_
    exact z_retJ (M := M_X7_greatestNumber) 15 dX7_greatestNumber_15 rfl ⟨G0, (FR.rf (cs := []) (ss := []) (h := h0)), by unfold gnF; simp only [ex1]; (repeat (first | rw [if_pos (by omega)] | rw [if_neg (by omega)])); (try unfold gnG); (try simp only []); (repeat (first | rw [if_pos (by omega)] | rw [if_neg (by omega)])); (try omega)⟩
/-! sure -/
theorem vS_ge {f : Nat → Int} {a : Nat} : ∀ n, (∀ j, j < n + 1 → 0 ≤ f (a + j)) → f a ≤ vS f a (n + 1)
  | 0, _ => by
    show f a ≤ 0 + f (a + 0) * (100000000 : Int) ^ 0
    rw [Int.pow_zero, Int.mul_one, Int.zero_add]; exact Int.le_refl _
  | n + 1, h => by
    have i := vS_ge (f := f) (a := a) n (fun j hj => h j (by omega))
    have p : (0 : Int) < (100000000 : Int) ^ (n + 1) := Int.pow_pos (by decide)
    have m := Int.mul_nonneg (h (n + 1) (by omega)) (Int.le_of_lt p)
    rw [vS_succ]
    omega
theorem cmp_v {x a b v : Int} (hv : 0 < v) (h : cmpQ x (a * v) (v * b)) : cmpQ x a b := by
  rw [Int.mul_comm a] at h
  unfold cmpQ at h ⊢
  rcases h with ⟨e, z⟩ | ⟨e, z⟩ | ⟨e, z⟩
  · exact Or.inl ⟨e, Int.lt_of_mul_lt_mul_left z (Int.le_of_lt hv)⟩
  · exact Or.inr (Or.inl ⟨e, Int.eq_of_mul_eq_mul_left (Int.ne_of_gt hv) z⟩)
  · exact Or.inr (Or.inr ⟨e, Int.lt_of_mul_lt_mul_left z (Int.le_of_lt hv)⟩)
def eqB (B : Int × Int × Int) : Prop := B.2.1 ≠ 0 ∧ B.1 = B.2.1
def bsQ (r : Nat → Int) (a b x : Int) : Prop := ∃ B, BW (bR r) b.toNat a.toNat B ∧ (0 < x ↔ bl1 B) ∧ (x = 0 ↔ (eqB B ∧ B.2.2 ≠ 1))
def suV (B1 B2 : Int × Int × Int) (x : Int) : Prop := (x = 1 ∧ bl1 B1) ∨ (x = 2 ∧ ¬ bl1 B1 ∧ bl1 B2) ∨ (x = 3 ∧ (¬ bl1 B1 ∧ ¬ bl1 B2) ∧ eqB B1 ∧ eqB B2) ∨ (x = 0 ∧ (¬ bl1 B1 ∧ ¬ bl1 B2) ∧ ¬ (eqB B1 ∧ eqB B2))
def suQ (r : Nat → Int) (a b x : Int) : Prop := (¬ (thr r a ∧ thr r b ∧ ¬ gain (bR r)) ∧ x = -2) ∨ ((thr r a ∧ thr r b ∧ ¬ gain (bR r)) ∧ ∃ B1 B2, BW (bR r) b.toNat a.toNat B1 ∧ BW (bR r) a.toNat b.toNat B2 ∧ suV B1 B2 x)
theorem bl_eq {Ls : List gE} (hE : ∀ e ∈ Ls, gEo e) {a b : Nat} {B B' : Int × Int × Int} (h : BW Ls a b B) (h' : BW Ls a b B') : (bl1 B ↔ bl1 B') ∧ (eqB B ↔ eqB B') := by
  have gen : ∀ {B B' : Int × Int × Int}, BW Ls a b B → BW Ls a b B' → (bl1 B → bl1 B') ∧ (eqB B → eqB B') := by
    intro B B' h h'
    obtain ⟨z1, z2, z3⟩ := BW_eq hE h h'
    have p1 := h.1
    have p2 := h'.1
    have eq' : B.2.1 ≠ 0 → B.1 = B.2.1 → B'.1 = B'.2.1 := fun n e => by
      rw [e] at z2
      have k : B.2.1 * B'.2.1 = B.2.1 * B'.1 := by rw [z2, Int.mul_comm]
      exact (Int.eq_of_mul_eq_mul_left n k).symm
    refine ⟨?_, ?_⟩
    · rintro ⟨n, q⟩
      have n' : B'.2.1 ≠ 0 := fun z => n (z1.mpr z)
      refine ⟨n', ?_⟩
      rcases q with q | ⟨q, o⟩
      · left
        have l' : 0 < B'.2.1 := by have := p2.2; omega
        have m := Int.mul_lt_mul_of_pos_right q l'
        rw [z2, Int.mul_comm B.2.1] at m
        exact Int.lt_of_mul_lt_mul_right m p1.2
      · exact Or.inr ⟨eq' n q, (z3 n).mp o⟩
    · rintro ⟨n, q⟩
      exact ⟨fun z => n (z1.mpr z), eq' n q⟩
  exact ⟨⟨(gen h h').1, (gen h' h).1⟩, ⟨(gen h h').2, (gen h' h).2⟩⟩
/-- alike both ways: neither is only come near to -/
theorem eq_ng {Ls : List gE} (ng : ¬ gain Ls) {a b : Nat} {B1 B2 : Int × Int × Int} (h1 : BW Ls b a B1) (h2 : BW Ls a b B2) (e1 : eqB B1) (e2 : eqB B2) : ¬ bl1 B1 ∧ ¬ bl1 B2 := by
  obtain ⟨w, w1, w2, w3⟩ := h1.2.1 e1.1
  obtain ⟨v, v1, v2, v3⟩ := h2.2.1 e2.1
  rw [e1.2] at w2
  rw [e2.2] at v2
  have k1 := Int.eq_of_mul_eq_mul_left e1.1 w2
  have k2 := Int.eq_of_mul_eq_mul_left e2.1 v2
  have g : ¬ (ws w ∨ ws v) := fun z => ng ⟨b, w ++ v, wk_app w v b a b w1 v1, Or.inr ⟨by rw [wp_app, wq_app, k1, k2], (ws_app w v).mpr z⟩⟩
  refine ⟨fun z => ?_, fun z => ?_⟩
  · rcases z.2 with q | q
    · have := e1.2; omega
    · exact g (Or.inl (w3 q.2))
  · rcases z.2 with q | q
    · have := e2.2; omega
    · exact g (Or.inr (v3 q.2))
theorem su_eq {r : Nat → Int} (hE : ∀ e ∈ bR r, gEo e) {a b x y : Int} (h : suQ r a b x) (h' : suQ r a b y) : x = y := by
  rcases h with ⟨n, e⟩ | ⟨k, B1, B2, b1, b2, b3⟩
  · rcases h' with ⟨_, e'⟩ | ⟨k', _⟩
    · omega
    · exact absurd k' n
  · rcases h' with ⟨n', _⟩ | ⟨_, C1, C2, c1, c2, c3⟩
    · exact absurd k n'
    · obtain ⟨p1, p2⟩ := bl_eq hE b1 c1
      obtain ⟨q1, q2⟩ := bl_eq hE b2 c2
      unfold suV at b3 c3
      rw [← p1, ← p2, ← q1, ← q2] at c3
      rcases b3 with ⟨x1, x2⟩ | ⟨x1, x2, x3⟩ | ⟨x1, ⟨x2, x3⟩, x4⟩ | ⟨x1, ⟨x2, x3⟩, x4⟩ <;> rcases c3 with ⟨y1, y2⟩ | ⟨y1, y2, y3⟩ | ⟨y1, ⟨y2, y3⟩, y4⟩ | ⟨y1, ⟨y2, y3⟩, y4⟩
      · omega
      · exact absurd x2 y2
      · exact absurd x2 y2
      · exact absurd x2 y2
      · exact absurd y2 x2
      · omega
      · exact absurd x3 y3
      · exact absurd x3 y3
      · exact absurd y2 x2
      · exact absurd y3 x3
      · omega
      · exact absurd x4 y4
      · exact absurd y2 x2
      · exact absurd y3 x3
      · exact absurd y4 x4
      · omega
abbrev P_X7_isAlways2 (h0 : m_H) (a1 : Int) : Int → m_H → Prop := fun x h' => GI h' ∧ FR [] [] h0 h' ∧ 0 ≤ x ∧ x ≤ 1 ∧ (x = 1 ↔ (h0 95 0 = a1 * h0 95 1 ∧ h0 94 1 = a1 * h0 94 0))
set_option maxHeartbeats 4000000 in
set_option maxRecDepth 100000 in
theorem c_X7_isAlways2 (h0 : m_H) (a1 : Int) (G0 : GI h0) (qa : 0 ≤ a1 ∧ a1 ≤ 99) (q95 : (0 < h0 95 0 ∧ h0 95 0 ≤ 1600000000) ∧ 0 ≤ h0 95 1 ∧ h0 95 1 ≤ 1600000000) (q94 : (0 < h0 94 0 ∧ h0 94 0 ≤ 1600000000) ∧ 0 ≤ h0 94 1 ∧ h0 94 1 ≤ 1600000000) : m_CI M_X7_isAlways [mR 93, mJ a1] h0 (P_X7_isAlways2 h0 a1) := by
  refine m_CI_of ⟨by decide, rfl, by simp [m_arg, m_isL, M_X7_isAlways], ⟨rfl, rfl⟩, rfl, rfl⟩ (ls := [some (mR 93), some (mJ a1), none]) rfl ?_
  refine z_aload_n (M := M_X7_isAlways) 0 dX7_isAlways_0 rfl ?_
  refine z_getR (M := M_X7_isAlways) 1 dX7_isAlways_1 f_X7_18 o_93 rfl (g_93_1 G0) ?_
  refine z_getJV (M := M_X7_isAlways) 4 dX7_isAlways_4 f_X7_33 o_95 rfl (fun x1 ex1 => ?_)
  rw [ex1] at q95
  refine z_lload_n (M := M_X7_isAlways) 7 dX7_isAlways_7 rfl ?_
  refine z_aload_n (M := M_X7_isAlways) 8 dX7_isAlways_8 rfl ?_
  refine z_getR (M := M_X7_isAlways) 9 dX7_isAlways_9 f_X7_18 o_93 rfl (g_93_1 G0) ?_
  refine z_getJV (M := M_X7_isAlways) 12 dX7_isAlways_12 f_X7_29 o_95 rfl (fun x2 ex2 => ?_)
  rw [ex2] at q95
  have mx3 := mul_bd (x := a1) (y := x2) (X := 99) (Y := 1600000000) (by omega) (by omega) (by omega) (by omega)
  refine z_lmulN (M := M_X7_isAlways) 15 dX7_isAlways_15 (by omega) (by omega) ?_
  refine z_topBJ (lo := 0) (hi := 158400000000) ⟨by omega, by omega⟩ (fun x3 ex3 ax3 bx3 => ?_)
  refine z_lcmp (M := M_X7_isAlways) 16 dX7_isAlways_16 ?_
  refine z_if_ne (M := M_X7_isAlways) 17 dX7_isAlways_17 44 rfl (fun c4 => ?_) (fun c4 => ?_)
  · rw [m_cmp_eq] at c4
    refine z_iconst (M := M_X7_isAlways) 44 dX7_isAlways_44 ?_
    exact z_retZ (M := M_X7_isAlways) 45 dX7_isAlways_45 rfl (by omega) ⟨G0, (FR.rf (cs := []) (ss := []) (h := h0)), by omega, by omega, ⟨fun z => absurd z (by decide), fun z => absurd (by have y := z.1; rw [ex1, ex2, ex3] at y; exact y) c4⟩⟩
  · rw [m_cmp_eq] at c4
    refine z_aload_n (M := M_X7_isAlways) 20 dX7_isAlways_20 rfl ?_
    refine z_getR (M := M_X7_isAlways) 21 dX7_isAlways_21 f_X7_12 o_93 rfl (g_93_0 G0) ?_
    refine z_getJV (M := M_X7_isAlways) 24 dX7_isAlways_24 f_X7_29 o_94 rfl (fun x5 ex5 => ?_)
    rw [ex5] at q94
    refine z_lload_n (M := M_X7_isAlways) 27 dX7_isAlways_27 rfl ?_
    refine z_aload_n (M := M_X7_isAlways) 28 dX7_isAlways_28 rfl ?_
    refine z_getR (M := M_X7_isAlways) 29 dX7_isAlways_29 f_X7_12 o_93 rfl (g_93_0 G0) ?_
    refine z_getJV (M := M_X7_isAlways) 32 dX7_isAlways_32 f_X7_33 o_94 rfl (fun x6 ex6 => ?_)
    rw [ex6] at q94
    have mx7 := mul_bd (x := a1) (y := x6) (X := 99) (Y := 1600000000) (by omega) (by omega) (by omega) (by omega)
    refine z_lmulN (M := M_X7_isAlways) 35 dX7_isAlways_35 (by omega) (by omega) ?_
    refine z_topBJ (lo := 0) (hi := 158400000000) ⟨by omega, by omega⟩ (fun x7 ex7 ax7 bx7 => ?_)
    refine z_lcmp (M := M_X7_isAlways) 36 dX7_isAlways_36 ?_
    refine z_if_ne (M := M_X7_isAlways) 37 dX7_isAlways_37 44 rfl (fun c8 => ?_) (fun c8 => ?_)
    · rw [m_cmp_eq] at c8
      refine z_iconst (M := M_X7_isAlways) 44 dX7_isAlways_44 ?_
      exact z_retZ (M := M_X7_isAlways) 45 dX7_isAlways_45 rfl (by omega) ⟨G0, (FR.rf (cs := []) (ss := []) (h := h0)), by omega, by omega, ⟨fun z => absurd z (by decide), fun z => absurd (by have y := z.2; rw [ex5, ex6, ex7] at y; exact y) c8⟩⟩
    · rw [m_cmp_eq] at c8
      refine z_iconst (M := M_X7_isAlways) 40 dX7_isAlways_40 ?_
      refine z_goto (M := M_X7_isAlways) 41 dX7_isAlways_41 45 rfl ?_
      exact z_retZ (M := M_X7_isAlways) 45 dX7_isAlways_45 rfl (by omega) ⟨G0, (FR.rf (cs := []) (ss := []) (h := h0)), by omega, by omega, ⟨fun _ => ⟨by rw [ex1, ex2, ex3]; omega, by rw [ex5, ex6, ex7]; omega⟩, fun _ => rfl⟩⟩
abbrev P_X11_sure3 (h0 : m_H) (a1 a2 : Int) : Int → m_H → Prop := fun x h' => GI h' ∧ FR (csB ++ [39, 40, 41]) [] h0 h' ∧ (-2) ≤ x ∧ x ≤ 3 ∧ suQ (h0 110) a1 a2 x
set_option maxHeartbeats 4000000 in
set_option maxRecDepth 100000 in
theorem c_X11_sure3 (h0 : m_H) (a1 a2 : Int) (G0 : GI h0) (hR : LR 1 h0 (h0 110)) (hN : NP h0) : m_CI M_X11_sure [mR 0, mI a1, mI a2] h0 (P_X11_sure3 h0 a1 a2) := by
  refine m_CI_of ⟨by decide, rfl, by simp [m_arg, m_isL, M_X11_sure], ⟨rfl, rfl⟩, rfl, rfl⟩ (ls := [some (mR 0), some (mI a1), some (mI a2)]) rfl ?_
  refine z_ok (fun _ _ ok => ?_)
  have oa1 : m_32 a1 := ok 1 _ rfl
  unfold m_32 at oa1
  have oa2 : m_32 a2 := ok 2 _ rfl
  unfold m_32 at oa2
  refine z_aload_n (M := M_X11_sure) 0 dX11_sure_0 rfl ?_
  refine z_iload_n (M := M_X11_sure) 1 dX11_sure_1 rfl ?_
  refine z_iload_n (M := M_X11_sure) 2 dX11_sure_2 rfl ?_
  refine z_vI (M := M_X11_sure) 3 dX11_sure_3 t_X11_compare l_X11_211 (m_rr_of rfl) (rest := []) (c_X11_compare2 h0 a1 a2 G0 hR hN) o_0 rfl rfl rfl (Nat.le_of_ble_eq_true rfl) ⟨rfl, rfl⟩ (fun x1 h1 qx1 => ?_)
  obtain ⟨G1, S1, ax1, bx1, fx1⟩ := qx1
  have R1 := (FR.rf (cs := (csB ++ [39, 40, 41])) (ss := []) (h := h0)).call S1 (by decide +kernel)
  refine z_if_ne (M := M_X11_sure) 6 dX11_sure_6 12 rfl (fun c2 => ?_) (fun c2 => ?_)
  · have k_ := fx1.1.mp (by omega)
    have p_ := fx1.2 (by omega)
    have pb1_ : (0 < h1 95 0 ∧ h1 95 0 ≤ 1600000000) ∧ 0 ≤ h1 95 1 ∧ h1 95 1 ≤ 1600000000 := p_.1.2.1
    have pb2_ : (0 < h1 94 0 ∧ h1 94 0 ≤ 1600000000) ∧ 0 ≤ h1 94 1 ∧ h1 94 1 ≤ 1600000000 := p_.2.2.1
    refine z_aload_n (M := M_X11_sure) 12 dX11_sure_12 rfl ?_
    refine z_getR (M := M_X11_sure) 13 dX11_sure_13 f_X11_53 o_0 rfl (g_0_7 G1) ?_
    refine z_lconst (M := M_X11_sure) 16 dX11_sure_16 (v := 1) ?_
    refine z_vI (M := M_X11_sure) 17 dX11_sure_17 t_X7_isAlways l_X11_240 (m_rr_of rfl) (rest := []) (c_X7_isAlways2 h1 1 G1 ⟨by omega, by omega⟩ pb1_ pb2_) o_93 rfl rfl rfl (Nat.le_of_ble_eq_true rfl) ⟨rfl, rfl⟩ (fun x3 h2 qx3 => ?_)
    obtain ⟨G2, S2, ax3, bx3, fx3⟩ := qx3
    have al_ : x3 = 1 ↔ (eqB (bd h1 94) ∧ eqB (bd h1 95)) := by
      rw [fx3]; unfold eqB bd; simp only; omega
    have R2 := R1.call S2 (by decide +kernel)
    refine z_if_eq (M := M_X11_sure) 20 dX11_sure_20 25 rfl (fun c4 => ?_) (fun c4 => ?_)
    · refine z_aload_n (M := M_X11_sure) 25 dX11_sure_25 rfl ?_
      refine z_getR (M := M_X11_sure) 26 dX11_sure_26 f_X11_53 o_0 rfl (g_0_7 G2) ?_
      refine z_getR (M := M_X11_sure) 29 dX11_sure_29 f_X11_227 o_93 rfl (g_93_0 G2) ?_
      refine z_vI (M := M_X11_sure) 32 dX11_sure_32 t_X2_isBelowOne l_X11_244 (m_rr_of rfl) (rest := []) (c_X2_isBelowOne2 h2 94 (rfl : isBb 94 = true) G2) o_94 rfl rfl rfl (Nat.le_of_ble_eq_true rfl) ⟨rfl, rfl⟩ (fun x5 h3 qx5 => ?_)
      obtain ⟨G3, S3, ax5, bx5, fx5⟩ := qx5
      rw [frE S2] at fx5
      have R3 := R2.call S3 (by decide +kernel)
      refine z_if_eq (M := M_X11_sure) 35 dX11_sure_35 40 rfl (fun c6 => ?_) (fun c6 => ?_)
      · refine z_aload_n (M := M_X11_sure) 40 dX11_sure_40 rfl ?_
        refine z_getR (M := M_X11_sure) 41 dX11_sure_41 f_X11_53 o_0 rfl (g_0_7 G3) ?_
        refine z_getR (M := M_X11_sure) 44 dX11_sure_44 f_X11_237 o_93 rfl (g_93_1 G3) ?_
        refine z_vI (M := M_X11_sure) 47 dX11_sure_47 t_X2_isBelowOne l_X11_244 (m_rr_of rfl) (rest := []) (c_X2_isBelowOne2 h3 95 (rfl : isBb 95 = true) G3) o_95 rfl rfl rfl (Nat.le_of_ble_eq_true rfl) ⟨rfl, rfl⟩ (fun x7 h4 qx7 => ?_)
        obtain ⟨G4, S4, ax7, bx7, fx7⟩ := qx7
        rw [(frE S3).trans (frE S2)] at fx7
        have R4 := R3.call S4 (by decide +kernel)
        refine z_if_eq (M := M_X11_sure) 50 dX11_sure_50 57 rfl (fun c8 => ?_) (fun c8 => ?_)
        · refine z_iconst (M := M_X11_sure) 57 dX11_sure_57 ?_
          exact z_retI (M := M_X11_sure) 58 dX11_sure_58 rfl ⟨G4, R4, by omega, by omega, Or.inr ⟨k_, _, _, p_.2.1, p_.1.1, Or.inr (Or.inr (Or.inr ⟨rfl, ⟨fun z => absurd (fx5.mpr z) (by omega), fun z => absurd (fx7.mpr z) (by omega)⟩, (fun z => absurd (al_.mpr z) (by omega))⟩))⟩⟩
        · refine z_iconst (M := M_X11_sure) 53 dX11_sure_53 ?_
          refine z_goto (M := M_X11_sure) 54 dX11_sure_54 58 rfl ?_
          exact z_retI (M := M_X11_sure) 58 dX11_sure_58 rfl ⟨G4, R4, by omega, by omega, Or.inr ⟨k_, _, _, p_.2.1, p_.1.1, Or.inr (Or.inl ⟨rfl, fun z => absurd (fx5.mpr z) (by omega), fx7.mp (by omega)⟩)⟩⟩
      · refine z_iconst (M := M_X11_sure) 38 dX11_sure_38 ?_
        exact z_retI (M := M_X11_sure) 39 dX11_sure_39 rfl ⟨G3, R3, by omega, by omega, Or.inr ⟨k_, _, _, p_.2.1, p_.1.1, Or.inl ⟨rfl, fx5.mp (by omega)⟩⟩⟩
    · refine z_iconst (M := M_X11_sure) 23 dX11_sure_23 ?_
      exact z_retI (M := M_X11_sure) 24 dX11_sure_24 rfl ⟨G2, R2, by omega, by omega, by have e_ := al_.mp (by omega); exact Or.inr ⟨k_, _, _, p_.2.1, p_.1.1, Or.inr (Or.inr (Or.inl ⟨rfl, eq_ng k_.2.2 p_.2.1 p_.1.1 e_.1 e_.2, e_⟩))⟩⟩
  · refine z_bipush (M := M_X11_sure) 9 dX11_sure_9 ?_
    exact z_retI (M := M_X11_sure) 11 dX11_sure_11 rfl ⟨G1, R1, by omega, by omega, Or.inl ⟨fun z => absurd (fx1.1.mpr z) (by omega), rfl⟩⟩
abbrev P_X12_besideOne2 (h0 : m_H) (a1 a2 : Int) : Int → m_H → Prop := fun x h' => GI h' ∧ FR [115, 116, 117, 118, 119, 120, 121, 122, 123, 124, 125, 126, 127, 128, 129, 130, 131, 132, 133] [(108, 21)] h0 h' ∧ (-1) ≤ x ∧ x ≤ 2 ∧ bsQ (h0 110) a1 a2 x
set_option maxHeartbeats 4000000 in
set_option maxRecDepth 100000 in
theorem c_X12_besideOne2 (h0 : m_H) (a1 a2 : Int) (G0 : GI h0) (pa1 : 0 ≤ a1 ∧ a1 ≤ 15) (pa2 : 0 ≤ a2 ∧ a2 ≤ 15) (hN : NP h0) (hG : gG (bR (h0 110))) (hO : h0 137 0 = 1) : m_CI M_X12_besideOne [mR 108, mI a1, mI a2] h0 (P_X12_besideOne2 h0 a1 a2) := by
  refine m_CI_of ⟨by decide, rfl, by simp [m_arg, m_isL, M_X12_besideOne], ⟨rfl, rfl⟩, rfl, rfl⟩ (ls := [some (mR 108), some (mI a1), some (mI a2), none]) rfl ?_
  refine z_aload_n (M := M_X12_besideOne) 0 dX12_besideOne_0 rfl ?_
  refine z_iload_n (M := M_X12_besideOne) 1 dX12_besideOne_1 rfl ?_
  refine z_vV (M := M_X12_besideOne) 2 dX12_besideOne_2 t_X12_goFrom l_X12_397 (m_rr_of rfl) (rest := []) (c_X12_goFrom2 h0 a2 G0 ⟨by omega, by omega⟩ (NP.call hN (FR.rf (cs := [115, 116, 117, 118, 119, 120, 121, 122, 123, 124, 125, 126, 127, 128, 129, 130, 131, 132, 133]) (ss := [(108, 21)]) (h := h0)) (fun _ => rfl) (fun _ => rfl) (fun _ => rfl)) (gG_f hG (FR.rf (cs := [115, 116, 117, 118, 119, 120, 121, 122, 123, 124, 125, 126, 127, 128, 129, 130, 131, 132, 133]) (ss := [(108, 21)]) (h := h0)) (fun _ => rfl))) o_108 rfl rfl rfl (Nat.le_of_ble_eq_true rfl) ⟨rfl, rfl⟩ (fun h1 qx1 => ?_)
  obtain ⟨G1, S1, fx1_0, fx1_1⟩ := qx1
  have b_ := fx1_1 a1.toNat (by omega)
  have g_ := fx1_0 a1.toNat (by omega)
  have v_ : 0 < vS (h1 137) 0 5 := by
    have z : h1 137 0 ≤ vS (h1 137) 0 5 := vS_ge (f := h1 137) (a := 0) 4 (fun j hj => by rw [Nat.zero_add]; exact (g_137 G1 (by omega)).1)
    have y : h1 137 0 = 1 := (S1 137 0 rfl).trans hO
    omega
  have R1 := (FR.rf (cs := [115, 116, 117, 118, 119, 120, 121, 122, 123, 124, 125, 126, 127, 128, 129, 130, 131, 132, 133]) (ss := [(108, 21)]) (h := h0)).call S1 (by decide +kernel)
  refine z_aload_n (M := M_X12_besideOne) 5 dX12_besideOne_5 rfl ?_
  refine z_getR (M := M_X12_besideOne) 6 dX12_besideOne_6 f_X12_70 o_108 rfl (g_108_32 G1) ?_
  refine z_iload_n (M := M_X12_besideOne) 9 dX12_besideOne_9 rfl ?_
  refine z_zaldG (M := M_X12_besideOne) 10 dX12_besideOne_10 o_127 (by omega) (by omega) (g_127 G1 (by omega)) (fun x2 ex2 ax2 bx2 => ?_)
  refine z_if_ne (M := M_X12_besideOne) 11 dX12_besideOne_11 16 rfl (fun c3 => ?_) (fun c3 => ?_)
  · refine z_aload_n (M := M_X12_besideOne) 16 dX12_besideOne_16 rfl ?_
    refine z_aload_n (M := M_X12_besideOne) 17 dX12_besideOne_17 rfl ?_
    refine z_getR (M := M_X12_besideOne) 18 dX12_besideOne_18 f_X12_61 o_108 rfl (g_108_29 G1) ?_
    refine z_aload_n (M := M_X12_besideOne) 21 dX12_besideOne_21 rfl ?_
    refine z_getR (M := M_X12_besideOne) 22 dX12_besideOne_22 f_X12_64 o_108 rfl (g_108_30 G1) ?_
    refine z_iconst (M := M_X12_besideOne) 25 dX12_besideOne_25 ?_
    refine z_iload_n (M := M_X12_besideOne) 26 dX12_besideOne_26 rfl ?_
    refine z_imulN (M := M_X12_besideOne) 27 dX12_besideOne_27 (by omega) (by omega) ?_
    refine z_aload_n (M := M_X12_besideOne) 28 dX12_besideOne_28 rfl ?_
    refine z_getR (M := M_X12_besideOne) 29 dX12_besideOne_29 f_X12_100 o_108 rfl (g_108_42 G1) ?_
    refine z_aload_n (M := M_X12_besideOne) 32 dX12_besideOne_32 rfl ?_
    refine z_getR (M := M_X12_besideOne) 33 dX12_besideOne_33 f_X12_100 o_108 rfl (g_108_42 G1) ?_
    refine z_iconst (M := M_X12_besideOne) 36 dX12_besideOne_36 ?_
    refine z_vI (M := M_X12_besideOne) 37 dX12_besideOne_37 t_X12_compare l_X12_350 (m_rr_of rfl) (rest := []) (c_X12_compareC h1 (5 * a1) 0 G1 ⟨by omega, by omega⟩ ⟨by omega, by omega⟩) o_108 rfl rfl rfl (Nat.le_of_ble_eq_true rfl) ⟨rfl, rfl⟩ (fun x4 h2 qx4 => ?_)
    obtain ⟨G2, S2, ax4, bx4, fx4_0⟩ := qx4
    have c_ := cmp_v v_ fx4_0
    rw [at5 (by omega)] at c_
    have u_ := g_.2.2 (ex2.trans (by omega))
    have u1_ : 1 ≤ vS (h1 124) (5 * a1.toNat) 5 := u_.1.1
    have e_ := bOf_y ex2 (by omega)
    rw [e_] at b_
    unfold cmpQ at c_
    have R2 := R1.call S2 (by decide +kernel)
    refine z_istore_n (M := M_X12_besideOne) 40 dX12_besideOne_40 (ls' := [some (mR 108), some (mI a1), some (mI a2), some (mI x4)]) (by decide) rfl ?_
    refine z_iload_n (M := M_X12_besideOne) 41 dX12_besideOne_41 rfl ?_
    refine z_if_ne (M := M_X12_besideOne) 42 dX12_besideOne_42 58 rfl (fun c5 => ?_) (fun c5 => ?_)
    · refine z_iload_n (M := M_X12_besideOne) 58 dX12_besideOne_58 rfl ?_
      exact z_retI (M := M_X12_besideOne) 59 dX12_besideOne_59 rfl ⟨G2, R2, by omega, by omega, ⟨_, b_, by unfold bl1; simp only; omega, by unfold eqB; simp only; omega⟩⟩
    · refine z_aload_n (M := M_X12_besideOne) 45 dX12_besideOne_45 rfl ?_
      refine z_getR (M := M_X12_besideOne) 46 dX12_besideOne_46 f_X12_67 o_108 rfl (g_108_31 G2) ?_
      refine z_iload_n (M := M_X12_besideOne) 49 dX12_besideOne_49 rfl ?_
      refine z_zaldG (M := M_X12_besideOne) 50 dX12_besideOne_50 o_126 (by omega) (by omega) (g_126 G2 (by omega)) (fun x6 ex6 ax6 bx6 => ?_)
      refine z_if_eq (M := M_X12_besideOne) 51 dX12_besideOne_51 58 rfl (fun c7 => ?_) (fun c7 => ?_)
      · refine z_iload_n (M := M_X12_besideOne) 58 dX12_besideOne_58 rfl ?_
        exact z_retI (M := M_X12_besideOne) 59 dX12_besideOne_59 rfl ⟨G2, R2, by omega, by omega, ⟨_, b_, by have o_ : h1 126 a1.toNat = x6 := (S2 126 _ rfl).symm.trans ex6; unfold bl1; simp only [o_]; omega, by have o_ : h1 126 a1.toNat = x6 := (S2 126 _ rfl).symm.trans ex6; unfold eqB; simp only [o_]; omega⟩⟩
      · refine z_iconst (M := M_X12_besideOne) 54 dX12_besideOne_54 ?_
        refine z_goto (M := M_X12_besideOne) 55 dX12_besideOne_55 59 rfl ?_
        exact z_retI (M := M_X12_besideOne) 59 dX12_besideOne_59 rfl ⟨G2, R2, by omega, by omega, ⟨_, b_, by have o_ : h1 126 a1.toNat = x6 := (S2 126 _ rfl).symm.trans ex6; unfold bl1; simp only [o_]; omega, by have o_ : h1 126 a1.toNat = x6 := (S2 126 _ rfl).symm.trans ex6; unfold eqB; simp only [o_]; omega⟩⟩
  · refine z_iconst (M := M_X12_besideOne) 14 dX12_besideOne_14 ?_
    exact z_retI (M := M_X12_besideOne) 15 dX12_besideOne_15 rfl ⟨G1, R1, by omega, by omega, by rw [bOf_n ex2 (by omega)] at b_; exact ⟨_, b_, by unfold bl1; simp only; omega, by unfold eqB; simp only; omega⟩⟩
abbrev P_X12_sure3 (h0 : m_H) (a1 a2 : Int) : Int → m_H → Prop := fun x h' => GI h' ∧ FR [115, 116, 117, 118, 119, 120, 121, 122, 123, 124, 125, 126, 127, 128, 129, 130, 131, 132, 133, 134] [(108, 0), (108, 21)] h0 h' ∧ (-2) ≤ x ∧ x ≤ 3 ∧ suQ (h0 110) a1 a2 x
set_option maxHeartbeats 4000000 in
set_option maxRecDepth 100000 in
theorem c_X12_sure3 (h0 : m_H) (a1 a2 : Int) (G0 : GI h0) (hN : NP h0) (hO : h0 137 0 = 1) : m_CI M_X12_sure [mR 108, mI a1, mI a2] h0 (P_X12_sure3 h0 a1 a2) := by
  refine m_CI_of ⟨by decide, rfl, by simp [m_arg, m_isL, M_X12_sure], ⟨rfl, rfl⟩, rfl, rfl⟩ (ls := [some (mR 108), some (mI a1), some (mI a2), none, none]) rfl ?_
  refine z_ok (fun _ _ ok => ?_)
  have oa1 : m_32 a1 := ok 1 _ rfl
  unfold m_32 at oa1
  have oa2 : m_32 a2 := ok 2 _ rfl
  unfold m_32 at oa2
  refine z_aload_n (M := M_X12_sure) 0 dX12_sure_0 rfl ?_
  refine z_iconst (M := M_X12_sure) 1 dX12_sure_1 ?_
  refine z_putIH (M := M_X12_sure) 2 dX12_sure_2 p_X12_133 o_108 rfl (u_108_0 G0) ((FR.rf (cs := [115, 116, 117, 118, 119, 120, 121, 122, 123, 124, 125, 126, 127, 128, 129, 130, 131, 132, 133, 134]) (ss := [(108, 0), (108, 21)]) (h := h0)).up rfl) (fun h1 E1 G1 R1 => ?_)
  refine z_aload_n (M := M_X12_sure) 5 dX12_sure_5 rfl ?_
  refine z_iload_n (M := M_X12_sure) 6 dX12_sure_6 rfl ?_
  refine z_iload_n (M := M_X12_sure) 7 dX12_sure_7 rfl ?_
  refine z_vI (M := M_X12_sure) 8 dX12_sure_8 t_X12_isAnswered l_X12_394 (m_rr_of rfl) (rest := []) (c_X12_isAnswered2 h1 a1 a2 G1 (NP.call hN R1 (fun _ => rfl) (fun _ => rfl) (fun _ => rfl))) o_108 rfl rfl rfl (Nat.le_of_ble_eq_true rfl) ⟨rfl, rfl⟩ (fun x1 h2 qx1 => ?_)
  obtain ⟨G2, S2, ax1, bx1, fx1_0, fx1_1⟩ := qx1
  have e1_ : h1 110 = h0 110 := FR.row R1 (fun _ => rfl)
  rw [e1_] at fx1_1
  have R2 := R1.call S2 (by decide +kernel)
  have e2_ : h2 110 = h0 110 := FR.row R2 (fun _ => rfl)
  refine z_if_ne (M := M_X12_sure) 11 dX12_sure_11 17 rfl (fun c2 => ?_) (fun c2 => ?_)
  · have an := fx1_0 (by omega)
    have an1 := an.1
    have an2 := an.2.1
    refine z_aload_n (M := M_X12_sure) 17 dX12_sure_17 rfl ?_
    refine z_iload_n (M := M_X12_sure) 18 dX12_sure_18 rfl ?_
    refine z_iload_n (M := M_X12_sure) 19 dX12_sure_19 rfl ?_
    refine z_vI (M := M_X12_sure) 20 dX12_sure_20 t_X12_besideOne l_X12_406 (m_rr_of rfl) (rest := []) (c_X12_besideOne2 h2 a1 a2 G2 ⟨by omega, by omega⟩ ⟨by omega, by omega⟩ (NP.call hN R2 (fun _ => rfl) (fun _ => rfl) (fun _ => rfl)) (gG_f (gG_b an.2.2 R1 (fun _ => rfl)) R2 (fun _ => rfl)) ((R2 137 0 rfl).trans hO)) o_108 rfl rfl rfl (Nat.le_of_ble_eq_true rfl) ⟨rfl, rfl⟩ (fun x3 h3 qx3 => ?_)
    obtain ⟨G3, S3, ax3, bx3, fx3⟩ := qx3
    have R3 := R2.call S3 (by decide +kernel)
    refine z_istore_n (M := M_X12_sure) 23 dX12_sure_23 (ls' := [some (mR 108), some (mI a1), some (mI a2), some (mI x3), none]) (by decide) rfl ?_
    refine z_aload_n (M := M_X12_sure) 24 dX12_sure_24 rfl ?_
    refine z_iload_n (M := M_X12_sure) 25 dX12_sure_25 rfl ?_
    refine z_iload_n (M := M_X12_sure) 26 dX12_sure_26 rfl ?_
    refine z_vI (M := M_X12_sure) 27 dX12_sure_27 t_X12_besideOne l_X12_406 (m_rr_of rfl) (rest := []) (c_X12_besideOne2 h3 a2 a1 G3 ⟨by omega, by omega⟩ ⟨by omega, by omega⟩ (NP.call hN R3 (fun _ => rfl) (fun _ => rfl) (fun _ => rfl)) (gG_f (gG_b an.2.2 R1 (fun _ => rfl)) R3 (fun _ => rfl)) ((R3 137 0 rfl).trans hO)) o_108 rfl rfl rfl (Nat.le_of_ble_eq_true rfl) ⟨rfl, rfl⟩ (fun x4 h4 qx4 => ?_)
    obtain ⟨G4, S4, ax4, bx4, fx4⟩ := qx4
    have e3_ : h3 110 = h0 110 := FR.row R3 (fun _ => rfl)
    rw [e2_] at fx3
    rw [e3_] at fx4
    obtain ⟨B1, b1, p1, q1⟩ := fx3
    obtain ⟨B2, b2, p2, q2⟩ := fx4
    have k_ := fx1_1.mp (by omega)
    have R4 := R3.call S4 (by decide +kernel)
    refine z_istore (M := M_X12_sure) 30 dX12_sure_30 (ls' := [some (mR 108), some (mI a1), some (mI a2), some (mI x3), some (mI x4)]) (by decide) rfl ?_
    refine z_iload_n (M := M_X12_sure) 32 dX12_sure_32 rfl ?_
    refine z_if_le (M := M_X12_sure) 33 dX12_sure_33 40 rfl (fun c5 => ?_) (fun c5 => ?_)
    · refine z_iload (M := M_X12_sure) 40 dX12_sure_40 rfl ?_
      refine z_if_le (M := M_X12_sure) 42 dX12_sure_42 49 rfl (fun c6 => ?_) (fun c6 => ?_)
      · refine z_iload_n (M := M_X12_sure) 49 dX12_sure_49 rfl ?_
        refine z_if_ne (M := M_X12_sure) 50 dX12_sure_50 62 rfl (fun c7 => ?_) (fun c7 => ?_)
        · refine z_iconst (M := M_X12_sure) 62 dX12_sure_62 ?_
          exact z_retI (M := M_X12_sure) 63 dX12_sure_63 rfl ⟨G4, R4, by omega, by omega, Or.inr ⟨k_, _, _, b1, b2, Or.inr (Or.inr (Or.inr ⟨rfl, ⟨(fun z => absurd (p1.mpr z) (by omega)), (fun z => absurd (p2.mpr z) (by omega))⟩, fun z => absurd (q1.mpr ⟨z.1, fun o => absurd (p1.mpr ⟨z.1.1, Or.inr ⟨z.1.2, o⟩⟩) (by omega)⟩) (by omega)⟩))⟩⟩
        · refine z_iload (M := M_X12_sure) 53 dX12_sure_53 rfl ?_
          refine z_if_ne (M := M_X12_sure) 55 dX12_sure_55 62 rfl (fun c8 => ?_) (fun c8 => ?_)
          · refine z_iconst (M := M_X12_sure) 62 dX12_sure_62 ?_
            exact z_retI (M := M_X12_sure) 63 dX12_sure_63 rfl ⟨G4, R4, by omega, by omega, Or.inr ⟨k_, _, _, b1, b2, Or.inr (Or.inr (Or.inr ⟨rfl, ⟨(fun z => absurd (p1.mpr z) (by omega)), (fun z => absurd (p2.mpr z) (by omega))⟩, fun z => absurd (q2.mpr ⟨z.2, fun o => absurd (p2.mpr ⟨z.2.1, Or.inr ⟨z.2.2, o⟩⟩) (by omega)⟩) (by omega)⟩))⟩⟩
          · refine z_iconst (M := M_X12_sure) 58 dX12_sure_58 ?_
            refine z_goto (M := M_X12_sure) 59 dX12_sure_59 63 rfl ?_
            exact z_retI (M := M_X12_sure) 63 dX12_sure_63 rfl ⟨G4, R4, by omega, by omega, Or.inr ⟨k_, _, _, b1, b2, Or.inr (Or.inr (Or.inl ⟨rfl, ⟨(fun z => absurd (p1.mpr z) (by omega)), (fun z => absurd (p2.mpr z) (by omega))⟩, (q1.mp (by omega)).1, (q2.mp (by omega)).1⟩))⟩⟩
      · refine z_iconst (M := M_X12_sure) 45 dX12_sure_45 ?_
        refine z_goto (M := M_X12_sure) 46 dX12_sure_46 63 rfl ?_
        exact z_retI (M := M_X12_sure) 63 dX12_sure_63 rfl ⟨G4, R4, by omega, by omega, Or.inr ⟨k_, _, _, b1, b2, Or.inr (Or.inl ⟨rfl, (fun z => absurd (p1.mpr z) (by omega)), p2.mp (by omega)⟩)⟩⟩
    · refine z_iconst (M := M_X12_sure) 36 dX12_sure_36 ?_
      refine z_goto (M := M_X12_sure) 37 dX12_sure_37 63 rfl ?_
      exact z_retI (M := M_X12_sure) 63 dX12_sure_63 rfl ⟨G4, R4, by omega, by omega, Or.inr ⟨k_, _, _, b1, b2, Or.inl ⟨rfl, p1.mp (by omega)⟩⟩⟩
  · refine z_bipush (M := M_X12_sure) 14 dX12_sure_14 ?_
    exact z_retI (M := M_X12_sure) 16 dX12_sure_16 rfl ⟨G2, R2, by omega, by omega, Or.inl ⟨fun z => absurd (fx1_1.mpr z) (by omega), rfl⟩⟩
theorem LX.sure {h h1 : m_H} {a b x y : Int} {cs : List Nat} {ss : List (Nat × Nat)} (G : GI h) (N : NP h) (S1 : FR cs ss h h1) (A : suQ (h 110) a b x) (B : suQ (h1 110) a b y) (o : out 110 110 cs ss = true) : x = y := by
  rw [rowz S1 (fr_out o (by decide) (by decide))] at B
  exact su_eq (bR_ok G N) A B
/-! feet -/
def BX (Ls : List gE) (a b : Nat) (B : Int × Int × Int) : Prop := BW Ls a b B ∧ (B.2.1 = 0 → B.2.2 = 1)
theorem sc_div {t l t' l' : Int} (ht : 0 < t) (ht' : 0 < t') (e : t * l' = t' * l) : l / t = l' / t' := by
  have gen : ∀ {t l t' l' : Int}, 0 < t → 0 < t' → t * l' = t' * l → l / t ≤ l' / t' := by
    intro t l t' l' ht ht' e
    refine Int.le_ediv_of_mul_le ht' ?_
    have a := Int.mul_ediv_self_le (x := l) (k := t) (by omega)
    have m := Int.mul_le_mul_of_nonneg_left a (Int.le_of_lt ht')
    rw [← e] at m
    have k : t' * (t * (l / t)) = t * (l / t * t') := by ac_rfl
    rw [k] at m
    exact Int.le_of_mul_le_mul_left m ht
  have x := gen ht ht' e
  have y := gen ht' ht e.symm
  omega
theorem sc_ex {t l t' l' : Int} (ht : 0 < t) (ht' : 0 < t') (e : t * l' = t' * l) : l / t * t = l ↔ l' / t' * t' = l' := by
  have gen : ∀ {t l t' l' : Int}, 0 < t → 0 < t' → t * l' = t' * l → l / t * t = l → l' / t' * t' = l' := by
    intro t l t' l' ht ht' e h
    rw [← sc_div ht ht' e]
    have k : t * (l / t * t') = t' * (l / t * t) := by ac_rfl
    rw [h, ← e] at k
    exact Int.eq_of_mul_eq_mul_left (Int.ne_of_gt ht) k
  exact ⟨gen ht ht' e, gen ht' ht e.symm⟩
theorem BX_o {Ls : List gE} (hE : ∀ e ∈ Ls, gEo e) {a b : Nat} {B B' : Int × Int × Int} (h : BX Ls a b B) (h' : BX Ls a b B') : B.2.2 = 1 ↔ B'.2.2 = 1 := by
  obtain ⟨z1, z2, z3⟩ := BW_eq hE h.1 h'.1
  by_cases g : B.2.1 = 0
  · exact ⟨fun _ => h'.2 (z1.mp g), fun _ => h.2 g⟩
  · exact z3 g
theorem lnF_eq {Ls : List gE} (hE : ∀ e ∈ Ls, gEo e) {a b : Nat} {B B' : Int × Int × Int} (h : BX Ls a b B) (h' : BX Ls a b B') (k : Int) : lnF k B.1 B.2.1 B.2.2 = lnF k B'.1 B'.2.1 B'.2.2 := by
  have e := (BW_eq hE h.1 h'.1).2.1
  have t := h.1.1.1
  have t' := h'.1.1.1
  have o := BX_o hE h h'
  unfold lnF
  by_cases k2 : k = 2
  · rw [if_pos k2, if_pos k2]
    refine sc_div (by omega) (by omega) ?_
    have k1 : 2 * B.1 * (2 * B'.2.1 + B'.1) = 4 * (B.1 * B'.2.1) + 2 * (B.1 * B'.1) := by
      rw [Int.mul_add, show 2 * B.1 * (2 * B'.2.1) = (2 * 2) * (B.1 * B'.2.1) by ac_rfl, show 2 * B.1 * B'.1 = 2 * (B.1 * B'.1) by ac_rfl]; rfl
    have k3 : 2 * B'.1 * (2 * B.2.1 + B.1) = 4 * (B'.1 * B.2.1) + 2 * (B.1 * B'.1) := by
      rw [Int.mul_add, show 2 * B'.1 * (2 * B.2.1) = (2 * 2) * (B'.1 * B.2.1) by ac_rfl, show 2 * B'.1 * B.1 = 2 * (B.1 * B'.1) by ac_rfl]; rfl
    rw [k1, k3, e]
  · rw [if_neg k2, if_neg k2, ← sc_div t t' e]
    have ex := sc_ex t t' e
    rw [← sc_div t t' e] at ex
    by_cases c : k = 0 ∧ (B.2.2 = 1 ∨ B.2.1 / B.1 * B.1 ≠ B.2.1)
    · rw [if_pos c, if_pos]
      exact ⟨c.1, c.2.elim (fun z => Or.inl (o.mp z)) (fun z => Or.inr (fun y => z (ex.mpr y)))⟩
    · rw [if_neg c, if_neg]
      rintro ⟨z1, z2⟩
      exact c ⟨z1, z2.elim (fun z => Or.inl (o.mpr z)) (fun z => Or.inr (fun y => z (ex.mp y)))⟩
theorem gnG_eq {T L o T' L' o' : Int} (p : 0 < L) (p' : 0 < L') (ee : L * T' = L' * T) (o_ : o = 1 ↔ o' = 1) : gnG T L o = gnG T' L' o' := by
  have d := sc_div p p' ee
  have x := sc_ex p p' ee
  unfold gnG
  rw [← d] at x ⊢
  by_cases c : o = 1 ∧ T / L * L = T
  · rw [if_pos c, if_pos ⟨o_.mp c.1, x.mp c.2⟩]
  · rw [if_neg c, if_neg (fun z => c ⟨o_.mpr z.1, x.mpr z.2⟩)]
theorem gnF_eq {Ls : List gE} (hE : ∀ e ∈ Ls, gEo e) {a b : Nat} {B B' : Int × Int × Int} (h : BX Ls a b B) (h' : BX Ls a b B') (k : Int) : gnF k B.1 B.2.1 B.2.2 = gnF k B'.1 B'.2.1 B'.2.2 := by
  obtain ⟨z1, e, z3⟩ := BW_eq hE h.1 h'.1
  have o := BX_o hE h h'
  unfold gnF
  by_cases g : B.2.1 = 0
  · rw [if_pos g, if_pos (z1.mp g)]
  · have g' : B'.2.1 ≠ 0 := fun z => g (z1.mpr z)
    rw [if_neg g, if_neg g']
    have l : 0 < B.2.1 := by have := h.1.1.2; omega
    have l' : 0 < B'.2.1 := by have := h'.1.1.2; omega
    by_cases k2 : k = 2
    · rw [if_pos k2, if_pos k2]
      refine gnG_eq (by omega) (by omega) ?_ o
      have k1 : 2 * B.2.1 * (2 * B'.1 + B'.2.1) = 4 * (B'.1 * B.2.1) + 2 * (B.2.1 * B'.2.1) := by
        rw [Int.mul_add, show 2 * B.2.1 * (2 * B'.1) = (2 * 2) * (B'.1 * B.2.1) by ac_rfl, show 2 * B.2.1 * B'.2.1 = 2 * (B.2.1 * B'.2.1) by ac_rfl]; rfl
      have k3 : 2 * B'.2.1 * (2 * B.1 + B.2.1) = 4 * (B.1 * B'.2.1) + 2 * (B.2.1 * B'.2.1) := by
        rw [Int.mul_add, show 2 * B'.2.1 * (2 * B.1) = (2 * 2) * (B.1 * B'.2.1) by ac_rfl, show 2 * B'.2.1 * B.2.1 = 2 * (B.2.1 * B'.2.1) by ac_rfl]; rfl
      rw [k1, k3, e]
    · rw [if_neg k2, if_neg k2]
      exact gnG_eq l l' (by rw [Int.mul_comm B.2.1, Int.mul_comm B'.2.1]; exact e.symm) o
def cap (M v : Int) : Int := if M < v then M else v
def ftK (r : Nat → Int) (a k : Int) : Prop := (0 ≤ a ∧ a ≤ 11) ∧ (0 ≤ k ∧ k ≤ 3) ∧ thr r a ∧ ¬ gain (bR r)
def ftQ (r : Nat → Int) (a k w x : Int) : Prop := (¬ ((0 ≤ w ∧ w ≤ 1) ∧ ftK r a k) ∧ x = -2) ∨ (((0 ≤ w ∧ w ≤ 1) ∧ ftK r a k) ∧ ((w = 0 ∧ ∃ B, BX (bR r) (12 + k).toNat a.toNat B ∧ cap 2000 (lnF 1 B.1 B.2.1 B.2.2) = x) ∨ (w = 1 ∧ ∃ B, BX (bR r) a.toNat (12 + k).toNat B ∧ cap 2000 (gnF 1 B.1 B.2.1 B.2.2) = x)))
theorem ft_eq {r : Nat → Int} (hE : ∀ e ∈ bR r, gEo e) {a k w x y : Int} (h : ftQ r a k w x) (h' : ftQ r a k w y) : x = y := by
  rcases h with ⟨n, e⟩ | ⟨q, h⟩
  · rcases h' with ⟨_, e'⟩ | ⟨q', _⟩
    · omega
    · exact absurd q' n
  · rcases h' with ⟨n', _⟩ | ⟨_, h'⟩
    · exact absurd q n'
    · rcases h with ⟨w1, B, b1, b2⟩ | ⟨w1, B, b1, b2⟩ <;> rcases h' with ⟨v1, C, c1, c2⟩ | ⟨v1, C, c1, c2⟩
      · rw [← b2, ← c2, lnF_eq hE b1 c1]
      · omega
      · omega
      · rw [← b2, ← c2, gnF_eq hE b1 c1]
abbrev P_X11_compareToFoot2 (h0 : m_H) (a1 a2 : Int) : Int → m_H → Prop := fun x h' => GI h' ∧ FR (csB ++ [39, 40, 41]) [] h0 h' ∧ 0 ≤ x ∧ x ≤ 1 ∧ (x = 1 ↔ ftK (h0 110) a1 a2) ∧ (x = 1 → cpB (h0 110) a1 (12 + a2) (bd h' 95) ∧ cpB (h0 110) (12 + a2) a1 (bd h' 94))
set_option maxHeartbeats 4000000 in
set_option maxRecDepth 100000 in
theorem c_X11_compareToFoot2 (h0 : m_H) (a1 a2 : Int) (G0 : GI h0) (hR : LR 1 h0 (h0 110)) (hN : NP h0) : m_CI M_X11_compareToFoot [mR 0, mI a1, mI a2] h0 (P_X11_compareToFoot2 h0 a1 a2) := by
  refine m_CI_of ⟨by decide, rfl, by simp [m_arg, m_isL, M_X11_compareToFoot], ⟨rfl, rfl⟩, rfl, rfl⟩ (ls := [some (mR 0), some (mI a1), some (mI a2)]) rfl ?_
  refine z_ok (fun _ _ ok => ?_)
  have oa1 : m_32 a1 := ok 1 _ rfl
  unfold m_32 at oa1
  have oa2 : m_32 a2 := ok 2 _ rfl
  unfold m_32 at oa2
  refine z_aload_n (M := M_X11_compareToFoot) 0 dX11_compareToFoot_0 rfl ?_
  refine z_iload_n (M := M_X11_compareToFoot) 1 dX11_compareToFoot_1 rfl ?_
  refine z_vI (M := M_X11_compareToFoot) 2 dX11_compareToFoot_2 t_X11_isMeasured l_X11_278 (m_rr_of rfl) (rest := []) (c_X11_isMeasured h0 a1 G0) o_0 rfl rfl rfl (Nat.le_of_ble_eq_true rfl) ⟨rfl, rfl⟩ (fun x1 h1 qx1 => ?_)
  obtain ⟨rfl, ⟨rfl, cx1⟩ | ⟨rfl, cx1⟩⟩ := qx1
  · refine z_if_eq_F (M := M_X11_compareToFoot) 5 dX11_compareToFoot_5 22 rfl (by omega) ?_
    refine z_iload_n (M := M_X11_compareToFoot) 8 dX11_compareToFoot_8 rfl ?_
    refine z_sI (M := M_X11_compareToFoot) 9 dX11_compareToFoot_9 t_X11_isKeeper l_X11_132 (m_rr_of rfl) (rest := []) (c_X11_isKeeper h0 a2 G0) rfl rfl (Nat.le_of_ble_eq_true rfl) ⟨rfl, rfl⟩ (fun x2 h2 qx2 => ?_)
    obtain ⟨rfl, ⟨rfl, cx2⟩ | ⟨rfl, cx2⟩⟩ := qx2
    · refine z_if_eq_F (M := M_X11_compareToFoot) 12 dX11_compareToFoot_12 22 rfl (by omega) ?_
      refine z_aload_n (M := M_X11_compareToFoot) 15 dX11_compareToFoot_15 rfl ?_
      refine z_vI (M := M_X11_compareToFoot) 16 dX11_compareToFoot_16 t_X11_canBe l_X11_208 (m_rr_of rfl) (rest := []) (c_X11_canBe2 h0 G0 hR hN) o_0 rfl rfl rfl (Nat.le_of_ble_eq_true rfl) ⟨rfl, rfl⟩ (fun x3 h3 qx3 => ?_)
      obtain ⟨G3, S3, ax3, bx3, fx3⟩ := qx3
      have R3 := (FR.rf (cs := (csB ++ [39, 40, 41])) (ss := []) (h := h0)).call S3 (by decide +kernel)
      refine z_if_ne (M := M_X11_compareToFoot) 19 dX11_compareToFoot_19 24 rfl (fun c4 => ?_) (fun c4 => ?_)
      · refine z_aload_n (M := M_X11_compareToFoot) 24 dX11_compareToFoot_24 rfl ?_
        refine z_getR (M := M_X11_compareToFoot) 25 dX11_compareToFoot_25 f_X11_53 o_0 rfl (g_0_7 G3) ?_
        refine z_aload_n (M := M_X11_compareToFoot) 28 dX11_compareToFoot_28 rfl ?_
        refine z_getR (M := M_X11_compareToFoot) 29 dX11_compareToFoot_29 f_X11_46 o_0 rfl (g_0_6 G3) ?_
        refine z_iload_n (M := M_X11_compareToFoot) 32 dX11_compareToFoot_32 rfl ?_
        refine z_bipush (M := M_X11_compareToFoot) 33 dX11_compareToFoot_33 ?_
        refine z_iload_n (M := M_X11_compareToFoot) 35 dX11_compareToFoot_35 rfl ?_
        refine z_iaddN (M := M_X11_compareToFoot) 36 dX11_compareToFoot_36 (by omega) (by omega) ?_
        refine z_vV (M := M_X11_compareToFoot) 37 dX11_compareToFoot_37 t_X7_measure l_X11_427 (m_rr_of rfl) (rest := []) (c_X7_measure2 h3 a1 (12 + a2) G3 ⟨by omega, by omega⟩ ⟨by omega, by omega⟩ (by obtain ⟨D, _, X⟩ := fx3.2 (by omega); exact X.1.1) (by obtain ⟨D, _, X⟩ := fx3.2 (by omega); exact bkR_X X)) o_93 rfl rfl rfl (Nat.le_of_ble_eq_true rfl) ⟨rfl, rfl⟩ (fun h4 qx5 => ?_)
        obtain ⟨G4, S4, M4⟩ := qx5
        have t1_ : thr (h0 110) a1 := (thr_c hR).mp ⟨cx1.1, by omega, cx1.2.2.elim Or.inl (fun z => Or.inr (Or.inr z))⟩
        have t2_ : thr (h0 110) (12 + a2) := ⟨by omega, by omega, Or.inr (Or.inl (by omega))⟩
        have y_ := fx3.2 (by omega)
        have n_ := fx3.1.mp (by omega)
        have R4 := R3.call S4 (by decide +kernel)
        refine z_iconst (M := M_X11_compareToFoot) 40 dX11_compareToFoot_40 ?_
        exact z_retZ (M := M_X11_compareToFoot) 41 dX11_compareToFoot_41 rfl (by omega) ⟨G4, R4, by omega, by omega, ⟨fun _ => ⟨⟨cx1.1, cx1.2.1⟩, cx2, t1_, n_⟩, fun _ => rfl⟩, fun _ => ⟨cp_of G0 hN y_ n_ t1_ t2_ M4.2.1 (by have z := g_95_2 G4; show h4 95 2 = 0 ∨ h4 95 2 = 1; omega), cp_of G0 hN y_ n_ t2_ t1_ M4.2.2 (by have z := g_94_2 G4; show h4 94 2 = 0 ∨ h4 94 2 = 1; omega)⟩⟩
      · refine z_iconst (M := M_X11_compareToFoot) 22 dX11_compareToFoot_22 ?_
        exact z_retZ (M := M_X11_compareToFoot) 23 dX11_compareToFoot_23 rfl (by omega) ⟨G3, R3, by omega, by omega, ⟨fun z => absurd z (by decide), fun z => absurd (fx3.1.mpr z.2.2.2) (by omega)⟩, fun z => absurd z (by decide)⟩
    · refine z_if_eq_T (M := M_X11_compareToFoot) 12 dX11_compareToFoot_12 22 rfl (by omega) ?_
      refine z_iconst (M := M_X11_compareToFoot) 22 dX11_compareToFoot_22 ?_
      exact z_retZ (M := M_X11_compareToFoot) 23 dX11_compareToFoot_23 rfl (by omega) ⟨G0, (FR.rf (cs := (csB ++ [39, 40, 41])) (ss := []) (h := h0)), by omega, by omega, ⟨fun z => absurd z (by decide), fun z => absurd z.2.1 cx2⟩, fun z => absurd z (by decide)⟩
  · refine z_if_eq_T (M := M_X11_compareToFoot) 5 dX11_compareToFoot_5 22 rfl (by omega) ?_
    refine z_iconst (M := M_X11_compareToFoot) 22 dX11_compareToFoot_22 ?_
    exact z_retZ (M := M_X11_compareToFoot) 23 dX11_compareToFoot_23 rfl (by omega) ⟨G0, (FR.rf (cs := (csB ++ [39, 40, 41])) (ss := []) (h := h0)), by omega, by omega, ⟨fun z => absurd z (by decide), fun z => absurd (by have q := (thr_c hR).mpr z.2.2.1; exact ⟨z.1.1, z.1.2, q.2.2.elim Or.inl (fun y => y.elim (fun w => absurd w (by have := z.1.2; omega)) Or.inr)⟩) cx1⟩, fun z => absurd z (by decide)⟩
theorem lnF_b {k t l o : Int} (ht : 1 ≤ t) (hl : 0 ≤ l) : 0 ≤ lnF k t l o := by
  have a := Int.ediv_nonneg (a := 2 * l + t) (b := 2 * t) (by omega) (by omega)
  have b := Int.ediv_nonneg (a := l) (b := t) hl (by omega)
  unfold lnF
  split
  · exact a
  · split <;> omega
theorem gnF_b {k t l o : Int} (ht : 1 ≤ t) (hl : 0 ≤ l) : -1 ≤ gnF k t l o := by
  have gen : ∀ {T L : Int}, 0 ≤ T → 0 ≤ L → -1 ≤ gnG T L o := fun {T L} h1 h2 => by
    have b := Int.ediv_nonneg h1 h2
    unfold gnG
    split <;> omega
  unfold gnF
  split
  · omega
  · split
    · exact gen (by omega) (by omega)
    · exact gen (by omega) hl
abbrev P_X11_feet3 (h0 : m_H) (a1 a2 a3 : Int) : Int → m_H → Prop := fun x h' => GI h' ∧ FR (csB ++ [39, 40, 41]) [] h0 h' ∧ ftQ (h0 110) a1 a2 a3 x
set_option maxHeartbeats 4000000 in
set_option maxRecDepth 100000 in
theorem c_X11_feet3 (h0 : m_H) (a1 a2 a3 : Int) (G0 : GI h0) (hR : LR 1 h0 (h0 110)) (hN : NP h0) : m_CI M_X11_feet [mR 0, mI a1, mI a2, mI a3] h0 (P_X11_feet3 h0 a1 a2 a3) := by
  refine m_CI_of ⟨by decide, rfl, by simp [m_arg, m_isL, M_X11_feet], ⟨rfl, rfl⟩, rfl, rfl⟩ (ls := [some (mR 0), some (mI a1), some (mI a2), some (mI a3)]) rfl ?_
  refine z_ok (fun _ _ ok => ?_)
  have oa1 : m_32 a1 := ok 1 _ rfl
  unfold m_32 at oa1
  have oa2 : m_32 a2 := ok 2 _ rfl
  unfold m_32 at oa2
  have oa3 : m_32 a3 := ok 3 _ rfl
  unfold m_32 at oa3
  refine z_iload_n (M := M_X11_feet) 0 dX11_feet_0 rfl ?_
  refine z_iconst (M := M_X11_feet) 1 dX11_feet_1 ?_
  refine z_iconst (M := M_X11_feet) 2 dX11_feet_2 ?_
  refine z_sI (M := M_X11_feet) 3 dX11_feet_3 t_X11_within l_X11_112 (m_rr_of rfl) (rest := []) (c_X11_within h0 a3 0 1 G0) rfl rfl (Nat.le_of_ble_eq_true rfl) ⟨rfl, rfl⟩ (fun x1 h1 qx1 => ?_)
  obtain ⟨rfl, ⟨rfl, cx1⟩ | ⟨rfl, cx1⟩⟩ := qx1
  · refine z_if_eq_F (M := M_X11_feet) 6 dX11_feet_6 18 rfl (by omega) ?_
    refine z_aload_n (M := M_X11_feet) 9 dX11_feet_9 rfl ?_
    refine z_iload_n (M := M_X11_feet) 10 dX11_feet_10 rfl ?_
    refine z_iload_n (M := M_X11_feet) 11 dX11_feet_11 rfl ?_
    refine z_vI (M := M_X11_feet) 12 dX11_feet_12 t_X11_compareToFoot l_X11_247 (m_rr_of rfl) (rest := []) (c_X11_compareToFoot2 h0 a1 a2 G0 hR hN) o_0 rfl rfl rfl (Nat.le_of_ble_eq_true rfl) ⟨rfl, rfl⟩ (fun x2 h2 qx2 => ?_)
    obtain ⟨G2, S2, ax2, bx2, fx2⟩ := qx2
    have R2 := (FR.rf (cs := (csB ++ [39, 40, 41])) (ss := []) (h := h0)).call S2 (by decide +kernel)
    refine z_if_ne (M := M_X11_feet) 15 dX11_feet_15 21 rfl (fun c3 => ?_) (fun c3 => ?_)
    · have k_ := fx2.1.mp (by omega)
      have p_ := fx2.2 (by omega)
      have pb1_ : (1 ≤ h2 95 0 ∧ h2 95 0 ≤ 1600000000) ∧ (0 ≤ h2 95 1 ∧ h2 95 1 ≤ 1600000000) := by have z := p_.1.2.1; unfold pBb bd at z; simp only at z; omega
      have pb2_ : (1 ≤ h2 94 0 ∧ h2 94 0 ≤ 1600000000) ∧ (0 ≤ h2 94 1 ∧ h2 94 1 ≤ 1600000000) := by have z := p_.2.2.1; unfold pBb bd at z; simp only at z; omega
      refine z_iload_n (M := M_X11_feet) 21 dX11_feet_21 rfl ?_
      refine z_if_ne (M := M_X11_feet) 22 dX11_feet_22 36 rfl (fun c4 => ?_) (fun c4 => ?_)
      · refine z_aload_n (M := M_X11_feet) 36 dX11_feet_36 rfl ?_
        refine z_getR (M := M_X11_feet) 37 dX11_feet_37 f_X11_53 o_0 rfl (g_0_7 G2) ?_
        refine z_iconst (M := M_X11_feet) 40 dX11_feet_40 ?_
        refine z_vJ (M := M_X11_feet) 41 dX11_feet_41 t_X7_greatestNumber l_X11_254 (m_rr_of rfl) (rest := []) (c_X7_greatestNumber2 h2 1 G2 ⟨by omega, by omega⟩ pb1_) o_93 rfl rfl rfl (Nat.le_of_ble_eq_true rfl) ⟨rfl, rfl⟩ (fun x5 h3 qx5 => ?_)
        obtain ⟨G3, S3, fx5⟩ := qx5
        have rg_ := gnF_b (k := 1) (t := h2 95 0) (l := h2 95 1) (o := h2 95 2) (by omega) (by omega)
        rw [fx5] at rg_
        have R3 := R2.call S3 (by decide +kernel)
        refine z_ldc2 (M := M_X11_feet) 44 dX11_feet_44 k_X11_257 ?_
        refine z_sI (M := M_X11_feet) 47 dX11_feet_47 t_X11_atMost l_X11_220 (m_rr_of rfl) (rest := []) (c_X11_atMost2 h3 x5 2000 G3 (by omega) ⟨by omega, by omega⟩) rfl rfl (Nat.le_of_ble_eq_true rfl) ⟨rfl, rfl⟩ (fun x6 h4 qx6 => ?_)
        obtain ⟨G4, S4, fx6⟩ := qx6
        have R4 := R3.call S4 (by decide +kernel)
        refine z_ok (fun ox6 _ _ => ?_)
        have ox6 := ox6.1; unfold m_ok m_32 at ox6
        exact z_retI (M := M_X11_feet) 50 dX11_feet_50 rfl ⟨G4, R4, Or.inr ⟨⟨⟨by omega, by omega⟩, k_⟩, Or.inr ⟨by omega, _, ⟨p_.1.1, p_.1.2.2.1⟩, by show cap 2000 (gnF 1 (h2 95 0) (h2 95 1) (h2 95 2)) = _; rw [fx5]; exact fx6⟩⟩⟩
      · refine z_aload_n (M := M_X11_feet) 25 dX11_feet_25 rfl ?_
        refine z_getR (M := M_X11_feet) 26 dX11_feet_26 f_X11_53 o_0 rfl (g_0_7 G2) ?_
        refine z_iconst (M := M_X11_feet) 29 dX11_feet_29 ?_
        refine z_vJ (M := M_X11_feet) 30 dX11_feet_30 t_X7_leastNumber l_X11_250 (m_rr_of rfl) (rest := []) (c_X7_leastNumber2 h2 1 G2 ⟨by omega, by omega⟩ pb2_) o_93 rfl rfl rfl (Nat.le_of_ble_eq_true rfl) ⟨rfl, rfl⟩ (fun x7 h5 qx7 => ?_)
        obtain ⟨G5, S5, fx7⟩ := qx7
        have rl_ := lnF_b (k := 1) (t := h2 94 0) (l := h2 94 1) (o := h2 94 2) (by omega) (by omega)
        rw [fx7] at rl_
        have R5 := R2.call S5 (by decide +kernel)
        refine z_goto (M := M_X11_feet) 33 dX11_feet_33 44 rfl ?_
        refine z_ldc2 (M := M_X11_feet) 44 dX11_feet_44 k_X11_257 ?_
        refine z_sI (M := M_X11_feet) 47 dX11_feet_47 t_X11_atMost l_X11_220 (m_rr_of rfl) (rest := []) (c_X11_atMost2 h5 x7 2000 G5 (by omega) ⟨by omega, by omega⟩) rfl rfl (Nat.le_of_ble_eq_true rfl) ⟨rfl, rfl⟩ (fun x8 h6 qx8 => ?_)
        obtain ⟨G6, S6, fx8⟩ := qx8
        have R6 := R5.call S6 (by decide +kernel)
        refine z_ok (fun ox8 _ _ => ?_)
        have ox8 := ox8.1; unfold m_ok m_32 at ox8
        exact z_retI (M := M_X11_feet) 50 dX11_feet_50 rfl ⟨G6, R6, Or.inr ⟨⟨⟨by omega, by omega⟩, k_⟩, Or.inl ⟨by omega, _, ⟨p_.2.1, p_.2.2.2.1⟩, by show cap 2000 (lnF 1 (h2 94 0) (h2 94 1) (h2 94 2)) = _; rw [fx7]; exact fx8⟩⟩⟩
    · refine z_bipush (M := M_X11_feet) 18 dX11_feet_18 ?_
      exact z_retI (M := M_X11_feet) 20 dX11_feet_20 rfl ⟨G2, R2, Or.inl ⟨fun z => absurd (fx2.1.mpr z.2) (by omega), rfl⟩⟩
  · refine z_if_eq_T (M := M_X11_feet) 6 dX11_feet_6 18 rfl (by omega) ?_
    refine z_bipush (M := M_X11_feet) 18 dX11_feet_18 ?_
    exact z_retI (M := M_X11_feet) 20 dX11_feet_20 rfl ⟨G0, (FR.rf (cs := (csB ++ [39, 40, 41])) (ss := []) (h := h0)), Or.inl ⟨fun z => cx1 z.1, rfl⟩⟩
/-! the reference's feet -/
theorem dg_eq {f g : Nat → Int} (hf : dg10 f) (hg : dg10 g) (e : vS f 0 10 = vS g 0 10) : ∀ j, j < 10 → f j = g j := by
  have k : ∀ m, m ≤ 10 → ∀ j, 10 - m ≤ j → j < 10 → f j = g j := by
    intro m
    induction m with
    | zero => intro _ j h1 h2; omega
    | succ m ih =>
      intro hm j h1 h2
      have i := ih (by omega)
      by_cases q : 10 - m ≤ j
      · exact i j q h2
      · rcases Int.lt_trichotomy (f j) (g j) with z | z | z
        · have y := vS_lt h2 hf hg (fun t t1 t2 => i t (by omega) t2) z
          omega
        · exact z
        · have y := vS_lt h2 hg hf (fun t t1 t2 => (i t (by omega) t2).symm) z
          omega
  intro j hj
  exact k 10 (Nat.le_refl _) j (by omega) hj
theorem dv_eq {T L v : Int} (hL : 0 < L) (h1 : L * v ≤ T) (h2 : T < L * (v + 1)) : T / L = v := by
  have a : v ≤ T / L := Int.le_ediv_of_mul_le hL (by rw [Int.mul_comm]; exact h1)
  have b : T / L < v + 1 := Int.ediv_lt_of_lt_mul hL (by rw [Int.mul_comm]; exact h2)
  omega
theorem ft_l {T L o x : Int} (hT : 0 < T) (s : shQ x (L * 1) T 2000) (s3 : x ≤ 2000) : cap 2000 (lnF 1 T L o) = x := by
  obtain ⟨s1, s2⟩ := s
  rw [Int.mul_one] at s1 s2
  unfold lnF
  rw [if_neg (by decide), if_neg (fun z => absurd z.1 (by decide))]
  unfold cap
  by_cases g : x < 2000
  · rw [dv_eq hT s1 (s2 g), if_neg (by omega)]
  · have q : x ≤ L / T := Int.le_ediv_of_mul_le hT (by rw [Int.mul_comm]; exact s1)
    split <;> omega
def ftI (h0 h : m_H) (a1 a2 a3 v : Int) : Prop := (a3 = 1 ∧ ftK (h0 110) a1 a2) ∧ ∃ T L, BX (bR (h0 110)) a1.toNat (12 + a2).toNat (T, L, h 126 (12 + a2).toNat) ∧ (0 < L ∧ shQ v T L 2001) ∧ (dg10 (h 135) ∧ vS (h 135) 0 10 = T) ∧ dg10 (h 136) ∧ vS (h 136) 0 10 = L * v
def ftW (h : m_H) (w k : Int) : Prop := w = 1 ↔ ∀ j, j < k.toNat → h 135 j = h 136 j
theorem ftW_0 {h : m_H} {w k : Int} (W : ftW h w k) (hw : w ≠ 1) (hk : 0 ≤ k) : ftW h 0 (k + 1) := ⟨fun z => absurd z (by decide), fun z => absurd (W.mpr (fun j hj => z j (by omega))) hw⟩
theorem ftW_n {h : m_H} {k x y : Int} (hk : 0 ≤ k) (e1 : h 135 k.toNat = x) (e2 : h 136 k.toNat = y) (c : ¬ x = y) : ftW h 0 (k + 1) := ⟨fun z => absurd z (by decide), fun z => absurd ((e1.symm.trans (z k.toNat (by omega))).trans e2) c⟩
theorem ftW_y {h : m_H} {w k x y : Int} (W : ftW h w k) (hw : w = 1) (hk : 0 ≤ k) (e1 : h 135 k.toNat = x) (e2 : h 136 k.toNat = y) (c : x = y) : ftW h 1 (k + 1) := by
  refine ⟨fun _ j hj => ?_, fun _ => rfl⟩
  by_cases q : j = k.toNat
  · rw [q, e1, e2, c]
  · exact W.mp hw j (by omega)
theorem ft_end {h0 h : m_H} {a1 a2 a3 v w k s x : Int} (I : ftI h0 h a1 a2 a3 v) (W : ftW h w k) (hk : k = 10) (c : (s = 1 ∧ w = 1 ∧ h 126 (12 + a2).toNat = 1) ∨ (s = 0 ∧ ¬ (w = 1 ∧ h 126 (12 + a2).toNat = 1))) (ex : cap 2000 (v - s) = x) : ftQ (h0 110) a1 a2 a3 x := by
  obtain ⟨⟨a3e, K⟩, T, L, bx, ⟨hL, s1, s2⟩, ⟨d1, e1⟩, d2, e2⟩ := I
  subst hk
  have wq : w = 1 ↔ T = L * v := by
    refine W.trans ⟨fun z => ?_, fun z j hj => ?_⟩
    · rw [← e1, ← e2]
      exact vS_same (fun j hj => by rw [Nat.zero_add]; exact z j hj)
    · exact dg_eq d1 d2 (by rw [e1, e2]; exact z) j hj
  refine Or.inr ⟨⟨⟨by omega, by omega⟩, K⟩, Or.inr ⟨a3e, _, bx, ?_⟩⟩
  show cap 2000 (gnF 1 T L (h 126 (12 + a2).toNat)) = x
  rw [← ex]
  unfold gnF
  rw [if_neg (by omega), if_neg (by decide)]
  by_cases g : v < 2001
  · unfold gnG
    rw [dv_eq hL s1 (s2 g)]
    have m : v * L = T ↔ T = L * v := by rw [Int.mul_comm]; exact eq_comm
    rcases c with ⟨c1, c2, c3⟩ | ⟨c1, c2⟩
    · rw [if_pos ⟨c3, m.mpr (wq.mp c2)⟩, c1]
    · rw [if_neg (fun z => c2 ⟨wq.mpr (m.mp z.2), z.1⟩), c1, Int.sub_zero]
  · have q : v ≤ T / L := Int.le_ediv_of_mul_le hL (by rw [Int.mul_comm]; exact s1)
    have g1 : 2000 ≤ gnG T L (h 126 (12 + a2).toNat) := by unfold gnG; split <;> omega
    have g2 : s = 0 ∨ s = 1 := c.elim (fun z => Or.inr z.1) (fun z => Or.inl z.1)
    unfold cap
    split <;> split <;> omega
theorem ft_in {h0 h6 h7 h8 h9 : m_H} {a1 a2 a3 v : Int} (a3e : a3 = 1) (K : ftK (h0 110) a1 a2) (g : ga (aS h6 (12 + a2).toNat)) (b : BW (bR (h0 110)) a1.toNat (12 + a2).toNat (bOf (aS h6 (12 + a2).toNat))) (t : h6 127 (12 + a2).toNat = 1) (s : shQ v (vS (h6 125) (5 * (12 + a2)).toNat 5 * 1) (vS (h6 124) (5 * (12 + a2)).toNat 5) 2001) (S7 : FR [135, 136] [] h6 h7) (S8 : FR [135] [] h7 h8) (S9 : FR [136] [] h8 h9) (d1 : dg10 (h8 135)) (e1 : vS (h8 135) 0 10 = vS (h7 125) (5 * (12 + a2)).toNat 5 * 1) (d2 : dg10 (h9 136)) (e2 : vS (h9 136) 0 10 = vS (h8 124) (5 * (12 + a2)).toNat 5 * v) : ftI h0 h9 a1 a2 a3 v := by
  have r1 : h7 125 = h6 125 := FR.row S7 (fun _ => rfl)
  have r2 : h8 124 = h6 124 := (FR.row S8 (fun _ => rfl)).trans (FR.row S7 (fun _ => rfl))
  have r3 : h9 135 = h8 135 := FR.row S9 (fun _ => rfl)
  have r4 : h9 126 = h6 126 := (FR.row S9 (fun _ => rfl)).trans ((FR.row S8 (fun _ => rfl)).trans (FR.row S7 (fun _ => rfl)))
  have a5 : (5 * (12 + a2)).toNat = 5 * (12 + a2).toNat := at5 (by have := K.2.1.1; omega)
  rw [a5, Int.mul_one] at s e1
  rw [a5] at e2
  rw [r1] at e1
  rw [r2] at e2
  rw [bOf_y t rfl] at b
  have u1 : 1 ≤ vS (h6 124) (5 * (12 + a2).toNat) 5 := (g.2.2 t).1.1
  exact ⟨⟨a3e, K⟩, vS (h6 125) (5 * (12 + a2).toNat) 5, vS (h6 124) (5 * (12 + a2).toNat) 5, ⟨by rw [r4]; exact b, fun z => absurd (show vS (h6 124) (5 * (12 + a2).toNat) 5 = 0 from z) (by omega)⟩, ⟨by omega, s⟩, ⟨by rw [r3]; exact d1, by rw [r3]; exact e1⟩, d2, e2⟩
abbrev P_X12_share3 (h0 : m_H) (f : Nat) (f2 : Nat) (a2 a4 a5 a6 : Int) : Int → m_H → Prop := fun x h' => GI h' ∧ FR [135, 136] [] h0 h' ∧ 0 ≤ x ∧ x ≤ 2000000000 ∧ shQ x (vS (h0 f) a2.toNat 5 * a5) (vS (h0 f2) a4.toNat 5) a6 ∧ x ≤ a6
def q_X12_share3 (h0 : m_H) (f : Nat) (f2 : Nat) (a2 a4 a5 a6 : Int) (n : Nat) : Prop := (∀ (l7 l8 : Int) (h : m_H), GI h → FR [135, 136] [] h0 h → 0 ≤ l7 → l7 ≤ 2000000000 → 0 ≤ l8 → l8 ≤ 2000000000 → (-2147483648) ≤ a5 → a5 ≤ 2147483647 → (l7 ≤ l8) → (dg10 (h 135) ∧ vS (h 135) 0 10 = (vS (h0 f) a2.toNat 5 * a5)) → ((vS (h0 f2) a4.toNat 5) * l7 ≤ (vS (h0 f) a2.toNat 5 * a5) ∧ (l8 < a6 → (vS (h0 f) a2.toNat 5 * a5) < (vS (h0 f2) a4.toNat 5) * (l8 + 1)) ∧ l8 ≤ a6) → 25 * (l8 - l7) + (24) ≤ (n : Int) → m_Z oF M_X12_share 19 [some (mR 108), none, none, some (mR f2), some (mI a4), none, none, some (mI l7), some (mI l8), none, none, none, none] [] h (m_QI (P_X12_share3 h0 f f2 a2 a4 a5 a6))) ∧ (∀ (l7 l8 l9 l10 l11 l12 : Int) (h : m_H), GI h → FR [135, 136] [] h0 h → 0 ≤ l7 → l7 ≤ 1999999999 → 1 ≤ l8 → l8 ≤ 2000000000 → 0 ≤ l9 → l9 ≤ 2000000000 → 0 ≤ l10 → l10 ≤ 1 → 0 ≤ l11 → l11 ≤ 1 → (-1) ≤ l12 → l12 ≤ 9 → (-2147483648) ≤ a5 → a5 ≤ 2147483647 → (l7 ≤ l9 - 1 ∧ l9 ≤ l8) → (dg10 (h 135) ∧ vS (h 135) 0 10 = (vS (h0 f) a2.toNat 5 * a5)) → ((vS (h0 f2) a4.toNat 5) * l7 ≤ (vS (h0 f) a2.toNat 5 * a5) ∧ (l8 < a6 → (vS (h0 f) a2.toNat 5 * a5) < (vS (h0 f2) a4.toNat 5) * (l8 + 1)) ∧ l8 ≤ a6) → (shK (h 136) (h 135) ((vS (h0 f2) a4.toNat 5) * l9) (vS (h0 f) a2.toNat 5 * a5) l10 l11 l12) → 25 * (l8 - l7) + 2 * (l12 - (-1)) + (1) ≤ (n : Int) → m_Z oF M_X12_share 63 [some (mR 108), none, none, some (mR f2), some (mI a4), none, none, some (mI l7), some (mI l8), some (mI l9), some (mI l10), some (mI l11), some (mI l12)] [] h (m_QI (P_X12_share3 h0 f f2 a2 a4 a5 a6)))
set_option maxHeartbeats 4000000 in
set_option maxRecDepth 100000 in
theorem s_X12_share3_19 (h0 : m_H) (f : Nat) (f2 : Nat) (a2 a4 a5 a6 : Int) (w_f : f = 124 ∨ f = 125) (w_f2 : f2 = 124 ∨ f2 = 125) (G0 : GI h0) (pa2 : 0 ≤ a2 ∧ a2 ≤ 75) (pa4 : 0 ≤ a4 ∧ a4 ≤ 75) (pa6 : 0 ≤ a6 ∧ a6 ≤ 2000000000) (hb5 : 0 ≤ a5 ∧ a5 ≤ 2000000000) (n : Nat) (ih : q_X12_share3 h0 f f2 a2 a4 a5 a6 n) : ∀ (l7 l8 : Int) (h : m_H), GI h → FR [135, 136] [] h0 h → 0 ≤ l7 → l7 ≤ 2000000000 → 0 ≤ l8 → l8 ≤ 2000000000 → (-2147483648) ≤ a5 → a5 ≤ 2147483647 → (l7 ≤ l8) → (dg10 (h 135) ∧ vS (h 135) 0 10 = (vS (h0 f) a2.toNat 5 * a5)) → ((vS (h0 f2) a4.toNat 5) * l7 ≤ (vS (h0 f) a2.toNat 5 * a5) ∧ (l8 < a6 → (vS (h0 f) a2.toNat 5 * a5) < (vS (h0 f2) a4.toNat 5) * (l8 + 1)) ∧ l8 ≤ a6) → 25 * (l8 - l7) + (24) ≤ ((n + 1 : Nat) : Int) → m_Z oF M_X12_share 19 [some (mR 108), none, none, some (mR f2), some (mI a4), none, none, some (mI l7), some (mI l8), none, none, none, none] [] h (m_QI (P_X12_share3 h0 f f2 a2 a4 a5 a6)) := by
  intro l7 l8 h G R v0 v1 v2 v3 v4 v5 i0 i1 i2 hr
  have ef_ : h f2 = h0 f2 := by rcases w_f2 with rfl | rfl <;> exact FR.row R (fun _ => rfl)
  refine z_iload (M := M_X12_share) 19 dX12_share_19 rfl ?_
  refine z_iload (M := M_X12_share) 21 dX12_share_21 rfl ?_
  refine z_icmp_ge (M := M_X12_share) 23 dX12_share_23 150 rfl (fun c1 => ?_) (fun c1 => ?_)
  · refine z_iload (M := M_X12_share) 150 dX12_share_150 rfl ?_
    exact z_retI (M := M_X12_share) 152 dX12_share_152 rfl ⟨G, R, by omega, by omega, by have e_ : l8 = l7 := (by omega); rw [e_] at i2; exact ⟨⟨i2.1, i2.2.1⟩, i2.2.2⟩⟩
  · refine z_iload (M := M_X12_share) 26 dX12_share_26 rfl ?_
    refine z_iload (M := M_X12_share) 28 dX12_share_28 rfl ?_
    refine z_iload (M := M_X12_share) 30 dX12_share_30 rfl ?_
    refine z_isubN (M := M_X12_share) 32 dX12_share_32 (by omega) (by omega) ?_
    refine z_iconst (M := M_X12_share) 33 dX12_share_33 ?_
    refine z_iaddN (M := M_X12_share) 34 dX12_share_34 (by omega) (by omega) ?_
    refine z_iconst (M := M_X12_share) 35 dX12_share_35 ?_
    refine z_idivN (M := M_X12_share) 36 dX12_share_36 (by omega) (by omega) ?_
    refine z_topBI (lo := 0) (hi := 1000000000) ⟨by omega, by omega⟩ (fun x2 ex2 ax2 bx2 => ?_)
    refine z_iaddN (M := M_X12_share) 37 dX12_share_37 (by omega) (by omega) ?_
    refine z_topBI (lo := 0) (hi := 2000000000) ⟨by omega, by omega⟩ (fun x3 ex3 ax3 bx3 => ?_)
    refine z_istore (M := M_X12_share) 38 dX12_share_38 (ls' := [some (mR 108), none, none, some (mR f2), some (mI a4), none, none, some (mI l7), some (mI l8), some (mI x3), none, none, none]) (by decide) rfl ?_
    refine z_aload_n (M := M_X12_share) 40 dX12_share_40 rfl ?_
    refine z_getR (M := M_X12_share) 41 dX12_share_41 f_X12_97 o_108 rfl (g_108_41 G) ?_
    refine z_aload_n (M := M_X12_share) 44 dX12_share_44 rfl ?_
    refine z_iload (M := M_X12_share) 45 dX12_share_45 rfl ?_
    refine z_iload (M := M_X12_share) 47 dX12_share_47 rfl ?_
    refine z_i2l (M := M_X12_share) 49 dX12_share_49 ?_
    refine z_sV (M := M_X12_share) 50 dX12_share_50 t_X12_wide l_X12_387 (m_rr_of rfl) (rest := []) (c_X12_wide80x h 136 f2 a4 x3 (Or.inr rfl) w_f2 G ⟨by omega, by omega⟩ ⟨by omega, by omega⟩) rfl rfl (Nat.le_of_ble_eq_true rfl) ⟨rfl, rfl⟩ (fun h1 qx4 => ?_)
    obtain ⟨G1, S1, W1, W2⟩ := qx4
    have i1c : dg10 (h1 135) ∧ vS (h1 135) 0 10 = (vS (h0 f) a2.toNat 5 * a5) := by rw [FR.row (c := 135) S1 (fun _ => rfl)]; exact i1
    rw [ef_] at W2
    have R1 := R.call S1 (by decide +kernel)
    refine z_iconst (M := M_X12_share) 53 dX12_share_53 ?_
    refine z_istore (M := M_X12_share) 54 dX12_share_54 (ls' := [some (mR 108), none, none, some (mR f2), some (mI a4), none, none, some (mI l7), some (mI l8), some (mI x3), some (mI 1), none, none]) (by decide) rfl ?_
    refine z_iconst (M := M_X12_share) 56 dX12_share_56 ?_
    refine z_istore (M := M_X12_share) 57 dX12_share_57 (ls' := [some (mR 108), none, none, some (mR f2), some (mI a4), none, none, some (mI l7), some (mI l8), some (mI x3), some (mI 1), some (mI 1), none]) (by decide) rfl ?_
    refine z_bipush (M := M_X12_share) 59 dX12_share_59 ?_
    refine z_istore (M := M_X12_share) 61 dX12_share_61 (ls' := [some (mR 108), none, none, some (mR f2), some (mI a4), none, none, some (mI l7), some (mI l8), some (mI x3), some (mI 1), some (mI 1), some (mI 9)]) (by decide) rfl ?_
    exact z_mask [true, false, false, true, true, false, false, true, true, true, true, true, true] rfl (ih.2 l7 l8 x3 1 1 9 h1 G1 R1 (by omega) (by omega) (by omega) (by omega) (by omega) (by omega) (by omega) (by omega) (by omega) (by omega) (by omega) (by omega) (by omega) (by omega) (by omega) i1c i2 (shK_0 W1 W2 i1c.1 i1c.2) (by omega))
set_option maxHeartbeats 4000000 in
set_option maxRecDepth 100000 in
theorem s_X12_share3_63 (h0 : m_H) (f : Nat) (f2 : Nat) (a2 a4 a5 a6 : Int) (w_f : f = 124 ∨ f = 125) (w_f2 : f2 = 124 ∨ f2 = 125) (G0 : GI h0) (pa2 : 0 ≤ a2 ∧ a2 ≤ 75) (pa4 : 0 ≤ a4 ∧ a4 ≤ 75) (pa6 : 0 ≤ a6 ∧ a6 ≤ 2000000000) (hb5 : 0 ≤ a5 ∧ a5 ≤ 2000000000) (n : Nat) (ih : q_X12_share3 h0 f f2 a2 a4 a5 a6 n) : ∀ (l7 l8 l9 l10 l11 l12 : Int) (h : m_H), GI h → FR [135, 136] [] h0 h → 0 ≤ l7 → l7 ≤ 1999999999 → 1 ≤ l8 → l8 ≤ 2000000000 → 0 ≤ l9 → l9 ≤ 2000000000 → 0 ≤ l10 → l10 ≤ 1 → 0 ≤ l11 → l11 ≤ 1 → (-1) ≤ l12 → l12 ≤ 9 → (-2147483648) ≤ a5 → a5 ≤ 2147483647 → (l7 ≤ l9 - 1 ∧ l9 ≤ l8) → (dg10 (h 135) ∧ vS (h 135) 0 10 = (vS (h0 f) a2.toNat 5 * a5)) → ((vS (h0 f2) a4.toNat 5) * l7 ≤ (vS (h0 f) a2.toNat 5 * a5) ∧ (l8 < a6 → (vS (h0 f) a2.toNat 5 * a5) < (vS (h0 f2) a4.toNat 5) * (l8 + 1)) ∧ l8 ≤ a6) → (shK (h 136) (h 135) ((vS (h0 f2) a4.toNat 5) * l9) (vS (h0 f) a2.toNat 5 * a5) l10 l11 l12) → 25 * (l8 - l7) + 2 * (l12 - (-1)) + (1) ≤ ((n + 1 : Nat) : Int) → m_Z oF M_X12_share 63 [some (mR 108), none, none, some (mR f2), some (mI a4), none, none, some (mI l7), some (mI l8), some (mI l9), some (mI l10), some (mI l11), some (mI l12)] [] h (m_QI (P_X12_share3 h0 f f2 a2 a4 a5 a6)) := by
  intro l7 l8 l9 l10 l11 l12 h G R v0 v1 v2 v3 v4 v5 v6 v7 v8 v9 v10 v11 v12 v13 i0 i1 i2 i3 hr
  refine z_iload (M := M_X12_share) 63 dX12_share_63 rfl ?_
  refine z_if_lt (M := M_X12_share) 65 dX12_share_65 129 rfl (fun c1 => ?_) (fun c1 => ?_)
  · refine z_iload (M := M_X12_share) 129 dX12_share_129 rfl ?_
    refine z_if_eq (M := M_X12_share) 131 dX12_share_131 141 rfl (fun c2 => ?_) (fun c2 => ?_)
    · refine z_iload (M := M_X12_share) 141 dX12_share_141 rfl ?_
      refine z_iconst (M := M_X12_share) 143 dX12_share_143 ?_
      refine z_isubN (M := M_X12_share) 144 dX12_share_144 (by omega) (by omega) ?_
      refine z_istore (M := M_X12_share) 145 dX12_share_145 (ls' := [some (mR 108), none, none, some (mR f2), some (mI a4), none, none, some (mI l7), some (mI (l9 - 1)), some (mI l9), some (mI l10), some (mI l11), some (mI l12)]) (by decide) rfl ?_
      refine z_goto (M := M_X12_share) 147 dX12_share_147 19 rfl ?_
      exact z_mask [true, false, false, true, true, false, false, true, true, false, false, false, false] rfl (ih.1 l7 (l9 - 1) h G R (by omega) (by omega) (by omega) (by omega) (by omega) (by omega) (by omega) i1 ⟨i2.1, fun _ => by rw [show l9 - 1 + 1 = l9 by omega]; have e_ := shK_end i3 (by omega); omega, by omega⟩ (by omega))
    · refine z_iload (M := M_X12_share) 134 dX12_share_134 rfl ?_
      refine z_istore (M := M_X12_share) 136 dX12_share_136 (ls' := [some (mR 108), none, none, some (mR f2), some (mI a4), none, none, some (mI l9), some (mI l8), some (mI l9), some (mI l10), some (mI l11), some (mI l12)]) (by decide) rfl ?_
      refine z_goto (M := M_X12_share) 138 dX12_share_138 147 rfl ?_
      refine z_goto (M := M_X12_share) 147 dX12_share_147 19 rfl ?_
      exact z_mask [true, false, false, true, true, false, false, true, true, false, false, false, false] rfl (ih.1 l9 l8 h G R (by omega) (by omega) (by omega) (by omega) (by omega) (by omega) (by omega) i1 ⟨(shK_end i3 (by omega)).mp (by omega), i2.2.1, i2.2.2⟩ (by omega))
  · refine z_iload (M := M_X12_share) 68 dX12_share_68 rfl ?_
    refine z_if_eq (M := M_X12_share) 70 dX12_share_70 129 rfl (fun c3 => ?_) (fun c3 => ?_)
    · refine z_iload (M := M_X12_share) 129 dX12_share_129 rfl ?_
      refine z_if_eq (M := M_X12_share) 131 dX12_share_131 141 rfl (fun c4 => ?_) (fun c4 => ?_)
      · refine z_iload (M := M_X12_share) 141 dX12_share_141 rfl ?_
        refine z_iconst (M := M_X12_share) 143 dX12_share_143 ?_
        refine z_isubN (M := M_X12_share) 144 dX12_share_144 (by omega) (by omega) ?_
        refine z_istore (M := M_X12_share) 145 dX12_share_145 (ls' := [some (mR 108), none, none, some (mR f2), some (mI a4), none, none, some (mI l7), some (mI (l9 - 1)), some (mI l9), some (mI l10), some (mI l11), some (mI l12)]) (by decide) rfl ?_
        refine z_goto (M := M_X12_share) 147 dX12_share_147 19 rfl ?_
        exact z_mask [true, false, false, true, true, false, false, true, true, false, false, false, false] rfl (ih.1 l7 (l9 - 1) h G R (by omega) (by omega) (by omega) (by omega) (by omega) (by omega) (by omega) i1 ⟨i2.1, fun _ => by rw [show l9 - 1 + 1 = l9 by omega]; have e_ := shK_end i3 (by omega); omega, by omega⟩ (by omega))
      · refine z_iload (M := M_X12_share) 134 dX12_share_134 rfl ?_
        refine z_istore (M := M_X12_share) 136 dX12_share_136 (ls' := [some (mR 108), none, none, some (mR f2), some (mI a4), none, none, some (mI l9), some (mI l8), some (mI l9), some (mI l10), some (mI l11), some (mI l12)]) (by decide) rfl ?_
        refine z_goto (M := M_X12_share) 138 dX12_share_138 147 rfl ?_
        refine z_goto (M := M_X12_share) 147 dX12_share_147 19 rfl ?_
        exact z_mask [true, false, false, true, true, false, false, true, true, false, false, false, false] rfl (ih.1 l9 l8 h G R (by omega) (by omega) (by omega) (by omega) (by omega) (by omega) (by omega) i1 ⟨(shK_end i3 (by omega)).mp (by omega), i2.2.1, i2.2.2⟩ (by omega))
    · refine z_aload_n (M := M_X12_share) 73 dX12_share_73 rfl ?_
      refine z_getR (M := M_X12_share) 74 dX12_share_74 f_X12_97 o_108 rfl (g_108_41 G) ?_
      refine z_iload (M := M_X12_share) 77 dX12_share_77 rfl ?_
      refine z_laldV (M := M_X12_share) 79 dX12_share_79 o_136 (by omega) (by omega) (fun x5 ex5 => ?_)
      refine z_aload_n (M := M_X12_share) 80 dX12_share_80 rfl ?_
      refine z_getR (M := M_X12_share) 81 dX12_share_81 f_X12_94 o_108 rfl (g_108_40 G) ?_
      refine z_iload (M := M_X12_share) 84 dX12_share_84 rfl ?_
      refine z_laldV (M := M_X12_share) 86 dX12_share_86 o_135 (by omega) (by omega) (fun x6 ex6 => ?_)
      refine z_lcmp (M := M_X12_share) 87 dX12_share_87 ?_
      refine z_if_ne (M := M_X12_share) 88 dX12_share_88 95 rfl (fun c7 => ?_) (fun c7 => ?_)
      · rw [m_cmp_eq] at c7
        refine z_iconst (M := M_X12_share) 95 dX12_share_95 ?_
        refine z_istore (M := M_X12_share) 96 dX12_share_96 (ls' := [some (mR 108), none, none, some (mR f2), some (mI a4), none, none, some (mI l7), some (mI l8), some (mI l9), some (mI l10), some (mI 0), some (mI l12)]) (by decide) rfl ?_
        refine z_aload_n (M := M_X12_share) 98 dX12_share_98 rfl ?_
        refine z_getR (M := M_X12_share) 99 dX12_share_99 f_X12_97 o_108 rfl (g_108_41 G) ?_
        refine z_iload (M := M_X12_share) 102 dX12_share_102 rfl ?_
        refine z_laldE (M := M_X12_share) 104 dX12_share_104 o_136 (by omega) (by omega) ex5 ?_
        refine z_aload_n (M := M_X12_share) 105 dX12_share_105 rfl ?_
        refine z_getR (M := M_X12_share) 106 dX12_share_106 f_X12_94 o_108 rfl (g_108_40 G) ?_
        refine z_iload (M := M_X12_share) 109 dX12_share_109 rfl ?_
        refine z_laldE (M := M_X12_share) 111 dX12_share_111 o_135 (by omega) (by omega) ex6 ?_
        refine z_lcmp (M := M_X12_share) 112 dX12_share_112 ?_
        refine z_if_gt (M := M_X12_share) 113 dX12_share_113 120 rfl (fun c8 => ?_) (fun c8 => ?_)
        · rw [m_cmp_gt] at c8
          refine z_iconst (M := M_X12_share) 120 dX12_share_120 ?_
          refine z_istore (M := M_X12_share) 121 dX12_share_121 (ls' := [some (mR 108), none, none, some (mR f2), some (mI a4), none, none, some (mI l7), some (mI l8), some (mI l9), some (mI 0), some (mI 0), some (mI l12)]) (by decide) rfl ?_
          refine z_iincN (M := M_X12_share) 123 dX12_share_123 (ls' := [some (mR 108), none, none, some (mR f2), some (mI a4), none, none, some (mI l7), some (mI l8), some (mI l9), some (mI 0), some (mI 0), some (mI (l12 + (-1)))]) (by decide) rfl (by (unfold m_32; decide)) (by omega) (by omega) rfl ?_
          refine z_goto (M := M_X12_share) 126 dX12_share_126 63 rfl ?_
          exact z_mask [true, false, false, true, true, false, false, true, true, true, true, true, true] rfl (ih.2 l7 l8 l9 0 0 (l12 + (-1)) h G R (by omega) (by omega) (by omega) (by omega) (by omega) (by omega) (by omega) (by omega) (by omega) (by omega) (by omega) (by omega) (by omega) (by omega) (by omega) i1 i2 (shK_gt (by have q := i3; rw [show l11 = 1 by omega] at q; exact q) (by omega) (by omega) ex5 ex6 (by omega)) (by omega))
        · rw [m_cmp_gt] at c8
          refine z_iconst (M := M_X12_share) 116 dX12_share_116 ?_
          refine z_goto (M := M_X12_share) 117 dX12_share_117 121 rfl ?_
          refine z_istore (M := M_X12_share) 121 dX12_share_121 (ls' := [some (mR 108), none, none, some (mR f2), some (mI a4), none, none, some (mI l7), some (mI l8), some (mI l9), some (mI 1), some (mI 0), some (mI l12)]) (by decide) rfl ?_
          refine z_iincN (M := M_X12_share) 123 dX12_share_123 (ls' := [some (mR 108), none, none, some (mR f2), some (mI a4), none, none, some (mI l7), some (mI l8), some (mI l9), some (mI 1), some (mI 0), some (mI (l12 + (-1)))]) (by decide) rfl (by (unfold m_32; decide)) (by omega) (by omega) rfl ?_
          refine z_goto (M := M_X12_share) 126 dX12_share_126 63 rfl ?_
          exact z_mask [true, false, false, true, true, false, false, true, true, true, true, true, true] rfl (ih.2 l7 l8 l9 1 0 (l12 + (-1)) h G R (by omega) (by omega) (by omega) (by omega) (by omega) (by omega) (by omega) (by omega) (by omega) (by omega) (by omega) (by omega) (by omega) (by omega) (by omega) i1 i2 (shK_lt (by have q := i3; rw [show l11 = 1 by omega] at q; exact q) (by omega) (by omega) ex5 ex6 (by omega)) (by omega))
      · rw [m_cmp_eq] at c7
        refine z_iconst (M := M_X12_share) 91 dX12_share_91 ?_
        refine z_goto (M := M_X12_share) 92 dX12_share_92 96 rfl ?_
        refine z_istore (M := M_X12_share) 96 dX12_share_96 (ls' := [some (mR 108), none, none, some (mR f2), some (mI a4), none, none, some (mI l7), some (mI l8), some (mI l9), some (mI l10), some (mI 1), some (mI l12)]) (by decide) rfl ?_
        refine z_aload_n (M := M_X12_share) 98 dX12_share_98 rfl ?_
        refine z_getR (M := M_X12_share) 99 dX12_share_99 f_X12_97 o_108 rfl (g_108_41 G) ?_
        refine z_iload (M := M_X12_share) 102 dX12_share_102 rfl ?_
        refine z_laldE (M := M_X12_share) 104 dX12_share_104 o_136 (by omega) (by omega) ex5 ?_
        refine z_aload_n (M := M_X12_share) 105 dX12_share_105 rfl ?_
        refine z_getR (M := M_X12_share) 106 dX12_share_106 f_X12_94 o_108 rfl (g_108_40 G) ?_
        refine z_iload (M := M_X12_share) 109 dX12_share_109 rfl ?_
        refine z_laldE (M := M_X12_share) 111 dX12_share_111 o_135 (by omega) (by omega) ex6 ?_
        refine z_lcmp (M := M_X12_share) 112 dX12_share_112 ?_
        refine z_if_gt (M := M_X12_share) 113 dX12_share_113 120 rfl (fun c9 => ?_) (fun c9 => ?_)
        · rw [m_cmp_gt] at c9
          refine z_iconst (M := M_X12_share) 120 dX12_share_120 ?_
          refine z_istore (M := M_X12_share) 121 dX12_share_121 (ls' := [some (mR 108), none, none, some (mR f2), some (mI a4), none, none, some (mI l7), some (mI l8), some (mI l9), some (mI 0), some (mI 1), some (mI l12)]) (by decide) rfl ?_
          refine z_iincN (M := M_X12_share) 123 dX12_share_123 (ls' := [some (mR 108), none, none, some (mR f2), some (mI a4), none, none, some (mI l7), some (mI l8), some (mI l9), some (mI 0), some (mI 1), some (mI (l12 + (-1)))]) (by decide) rfl (by (unfold m_32; decide)) (by omega) (by omega) rfl ?_
          refine z_goto (M := M_X12_share) 126 dX12_share_126 63 rfl ?_
          exact z_mask [true, false, false, true, true, false, false, true, true, true, true, true, true] rfl (ih.2 l7 l8 l9 0 1 (l12 + (-1)) h G R (by omega) (by omega) (by omega) (by omega) (by omega) (by omega) (by omega) (by omega) (by omega) (by omega) (by omega) (by omega) (by omega) (by omega) (by omega) i1 i2 (False.elim (by omega)) (by omega))
        · rw [m_cmp_gt] at c9
          refine z_iconst (M := M_X12_share) 116 dX12_share_116 ?_
          refine z_goto (M := M_X12_share) 117 dX12_share_117 121 rfl ?_
          refine z_istore (M := M_X12_share) 121 dX12_share_121 (ls' := [some (mR 108), none, none, some (mR f2), some (mI a4), none, none, some (mI l7), some (mI l8), some (mI l9), some (mI 1), some (mI 1), some (mI l12)]) (by decide) rfl ?_
          refine z_iincN (M := M_X12_share) 123 dX12_share_123 (ls' := [some (mR 108), none, none, some (mR f2), some (mI a4), none, none, some (mI l7), some (mI l8), some (mI l9), some (mI 1), some (mI 1), some (mI (l12 + (-1)))]) (by decide) rfl (by (unfold m_32; decide)) (by omega) (by omega) rfl ?_
          refine z_goto (M := M_X12_share) 126 dX12_share_126 63 rfl ?_
          exact z_mask [true, false, false, true, true, false, false, true, true, true, true, true, true] rfl (ih.2 l7 l8 l9 1 1 (l12 + (-1)) h G R (by omega) (by omega) (by omega) (by omega) (by omega) (by omega) (by omega) (by omega) (by omega) (by omega) (by omega) (by omega) (by omega) (by omega) (by omega) i1 i2 (shK_eq (by have q := i3; rw [show l11 = 1 by omega] at q; exact q) (by omega) ex5 ex6 c7) (by omega))
theorem a_X12_share3 (h0 : m_H) (f : Nat) (f2 : Nat) (a2 a4 a5 a6 : Int) (w_f : f = 124 ∨ f = 125) (w_f2 : f2 = 124 ∨ f2 = 125) (G0 : GI h0) (pa2 : 0 ≤ a2 ∧ a2 ≤ 75) (pa4 : 0 ≤ a4 ∧ a4 ≤ 75) (pa6 : 0 ≤ a6 ∧ a6 ≤ 2000000000) (hb5 : 0 ≤ a5 ∧ a5 ≤ 2000000000) : ∀ n, q_X12_share3 h0 f f2 a2 a4 a5 a6 n := by
  intro n
  induction n with
  | zero => unfold q_X12_share3; refine ⟨?_, ?_⟩ <;> (intros; omega)
  | succ n ih => exact ⟨s_X12_share3_19 h0 f f2 a2 a4 a5 a6 w_f w_f2 G0 pa2 pa4 pa6 hb5 n ih, s_X12_share3_63 h0 f f2 a2 a4 a5 a6 w_f w_f2 G0 pa2 pa4 pa6 hb5 n ih⟩
set_option maxHeartbeats 4000000 in
set_option maxRecDepth 100000 in
theorem c_X12_share3 (h0 : m_H) (f : Nat) (f2 : Nat) (a2 a4 a5 a6 : Int) (w_f : f = 124 ∨ f = 125) (w_f2 : f2 = 124 ∨ f2 = 125) (G0 : GI h0) (pa2 : 0 ≤ a2 ∧ a2 ≤ 75) (pa4 : 0 ≤ a4 ∧ a4 ≤ 75) (pa6 : 0 ≤ a6 ∧ a6 ≤ 2000000000) (hb5 : 0 ≤ a5 ∧ a5 ≤ 2000000000) : m_CI M_X12_share [mR 108, mR f, mI a2, mR f2, mI a4, mI a5, mI a6] h0 (P_X12_share3 h0 f f2 a2 a4 a5 a6) := by
  refine m_CI_of ⟨by decide, rfl, by simp [m_arg, m_isL, M_X12_share], ⟨rfl, rfl⟩, rfl, rfl⟩ (ls := [some (mR 108), some (mR f), some (mI a2), some (mR f2), some (mI a4), some (mI a5), some (mI a6), none, none, none, none, none, none]) rfl ?_
  have ih := a_X12_share3 h0 f f2 a2 a4 a5 a6 w_f w_f2 G0 pa2 pa4 pa6 hb5 50000000031
  refine z_ok (fun _ _ ok => ?_)
  have oa5 : m_32 a5 := ok 5 _ rfl
  unfold m_32 at oa5
  refine z_iconst (M := M_X12_share) 0 dX12_share_0 ?_
  refine z_istore (M := M_X12_share) 1 dX12_share_1 (ls' := [some (mR 108), some (mR f), some (mI a2), some (mR f2), some (mI a4), some (mI a5), some (mI a6), some (mI 0), none, none, none, none, none]) (by decide) rfl ?_
  refine z_iload (M := M_X12_share) 3 dX12_share_3 rfl ?_
  refine z_istore (M := M_X12_share) 5 dX12_share_5 (ls' := [some (mR 108), some (mR f), some (mI a2), some (mR f2), some (mI a4), some (mI a5), some (mI a6), some (mI 0), some (mI a6), none, none, none, none]) (by decide) rfl ?_
  refine z_aload_n (M := M_X12_share) 7 dX12_share_7 rfl ?_
  refine z_getR (M := M_X12_share) 8 dX12_share_8 f_X12_94 o_108 rfl (g_108_40 G0) ?_
  refine z_aload_n (M := M_X12_share) 11 dX12_share_11 rfl ?_
  refine z_iload_n (M := M_X12_share) 12 dX12_share_12 rfl ?_
  refine z_iload (M := M_X12_share) 13 dX12_share_13 rfl ?_
  refine z_i2l (M := M_X12_share) 15 dX12_share_15 ?_
  refine z_sV (M := M_X12_share) 16 dX12_share_16 t_X12_wide l_X12_387 (m_rr_of rfl) (rest := []) (c_X12_wide80x h0 135 f a2 a5 (Or.inl rfl) w_f G0 ⟨by omega, by omega⟩ ⟨by omega, by omega⟩) rfl rfl (Nat.le_of_ble_eq_true rfl) ⟨rfl, rfl⟩ (fun h1 qx1 => ?_)
  obtain ⟨G1, S1, W1, W2⟩ := qx1
  have R1 := (FR.rf (cs := [135, 136]) (ss := []) (h := h0)).call S1 (by decide +kernel)
  exact z_mask [true, false, false, true, true, false, false, true, true, false, false, false, false] rfl (ih.1 0 a6 h1 G1 R1 (by omega) (by omega) (by omega) (by omega) (by omega) (by omega) (by omega) ⟨W1, W2⟩ ⟨by rw [Int.mul_zero]; exact Int.mul_nonneg (vS_bd (fun j hj => gC_124_125 w_f G0 (by omega))).1 hb5.1, fun z => absurd z (by omega), Int.le_refl _⟩ (by omega))
abbrev P_X12_feet3 (h0 : m_H) (a1 a2 a3 : Int) : Int → m_H → Prop := fun x h' => GI h' ∧ FR [115, 116, 117, 118, 119, 120, 121, 122, 123, 124, 125, 126, 127, 128, 129, 130, 131, 132, 133, 134, 135, 136] [(108, 0), (108, 21)] h0 h' ∧ (-2) ≤ x ∧ x ≤ 2000000000 ∧ ftQ (h0 110) a1 a2 a3 x
def q_X12_feet3 (h0 : m_H) (a1 a2 a3 : Int) (n : Nat) : Prop := (∀ (l5 l6 l7 : Int) (h : m_H), GI h → FR [115, 116, 117, 118, 119, 120, 121, 122, 123, 124, 125, 126, 127, 128, 129, 130, 131, 132, 133, 134, 135, 136] [(108, 0), (108, 21)] h0 h → 0 ≤ l5 → l5 ≤ 2000000000 → 0 ≤ l6 → l6 ≤ 1 → 0 ≤ l7 → l7 ≤ 10 → 0 ≤ a1 → a1 ≤ 11 → 0 ≤ a2 → a2 ≤ 3 → 1 ≤ a3 → a3 ≤ 1 → (ftI h0 h a1 a2 a3 l5) → (ftW h l6 l7) → 2 * (10 - l7) + (1) ≤ (n : Int) → m_Z oF M_X12_feet 194 [some (mR 108), none, none, none, some (mI (12 + a2)), some (mI l5), some (mI l6), some (mI l7)] [] h (m_QI (P_X12_feet3 h0 a1 a2 a3)))
set_option maxHeartbeats 4000000 in
set_option maxRecDepth 100000 in
theorem s_X12_feet3_194 (h0 : m_H) (a1 a2 a3 : Int) (G0 : GI h0) (hN : NP h0) (n : Nat) (ih : q_X12_feet3 h0 a1 a2 a3 n) : ∀ (l5 l6 l7 : Int) (h : m_H), GI h → FR [115, 116, 117, 118, 119, 120, 121, 122, 123, 124, 125, 126, 127, 128, 129, 130, 131, 132, 133, 134, 135, 136] [(108, 0), (108, 21)] h0 h → 0 ≤ l5 → l5 ≤ 2000000000 → 0 ≤ l6 → l6 ≤ 1 → 0 ≤ l7 → l7 ≤ 10 → 0 ≤ a1 → a1 ≤ 11 → 0 ≤ a2 → a2 ≤ 3 → 1 ≤ a3 → a3 ≤ 1 → (ftI h0 h a1 a2 a3 l5) → (ftW h l6 l7) → 2 * (10 - l7) + (1) ≤ ((n + 1 : Nat) : Int) → m_Z oF M_X12_feet 194 [some (mR 108), none, none, none, some (mI (12 + a2)), some (mI l5), some (mI l6), some (mI l7)] [] h (m_QI (P_X12_feet3 h0 a1 a2 a3)) := by
  intro l5 l6 l7 h G R v0 v1 v2 v3 v4 v5 v6 v7 v8 v9 v10 v11 i1 i2 hr
  refine z_iload (M := M_X12_feet) 194 dX12_feet_194 rfl ?_
  refine z_bipush (M := M_X12_feet) 196 dX12_feet_196 ?_
  refine z_icmp_ge (M := M_X12_feet) 198 dX12_feet_198 237 rfl (fun c1 => ?_) (fun c1 => ?_)
  · refine z_iload (M := M_X12_feet) 237 dX12_feet_237 rfl ?_
    refine z_iload (M := M_X12_feet) 239 dX12_feet_239 rfl ?_
    refine z_if_eq (M := M_X12_feet) 241 dX12_feet_241 258 rfl (fun c2 => ?_) (fun c2 => ?_)
    · refine z_iconst (M := M_X12_feet) 258 dX12_feet_258 ?_
      refine z_isubN (M := M_X12_feet) 259 dX12_feet_259 (by omega) (by omega) ?_
      refine z_istore (M := M_X12_feet) 260 dX12_feet_260 (ls' := [some (mR 108), none, none, none, some (mI (12 + a2)), some (mI (l5 - 0)), some (mI l6), some (mI l7)]) (by decide) rfl ?_
      refine z_iload (M := M_X12_feet) 262 dX12_feet_262 rfl ?_
      refine z_sipush (M := M_X12_feet) 264 dX12_feet_264 ?_
      refine z_icmp_le (M := M_X12_feet) 267 dX12_feet_267 276 rfl (fun c3 => ?_) (fun c3 => ?_)
      · refine z_iload (M := M_X12_feet) 276 dX12_feet_276 rfl ?_
        exact z_retI (M := M_X12_feet) 278 dX12_feet_278 rfl ⟨G, R, by omega, by omega, ft_end i1 i2 (by omega) (Or.inr ⟨rfl, fun z => by have := z.1; omega⟩) (by unfold cap; exact if_neg (by omega))⟩
      · refine z_sipush (M := M_X12_feet) 270 dX12_feet_270 ?_
        refine z_goto (M := M_X12_feet) 273 dX12_feet_273 278 rfl ?_
        exact z_retI (M := M_X12_feet) 278 dX12_feet_278 rfl ⟨G, R, by omega, by omega, ft_end i1 i2 (by omega) (Or.inr ⟨rfl, fun z => by have := z.1; omega⟩) (by unfold cap; exact if_pos (by omega))⟩
    · refine z_aload_n (M := M_X12_feet) 244 dX12_feet_244 rfl ?_
      refine z_getR (M := M_X12_feet) 245 dX12_feet_245 f_X12_67 o_108 rfl (g_108_31 G) ?_
      refine z_iload (M := M_X12_feet) 248 dX12_feet_248 rfl ?_
      refine z_zaldG (M := M_X12_feet) 250 dX12_feet_250 o_126 (by omega) (by omega) (g_126 G (by omega)) (fun x4 ex4 ax4 bx4 => ?_)
      refine z_if_eq (M := M_X12_feet) 251 dX12_feet_251 258 rfl (fun c5 => ?_) (fun c5 => ?_)
      · refine z_iconst (M := M_X12_feet) 258 dX12_feet_258 ?_
        refine z_isubN (M := M_X12_feet) 259 dX12_feet_259 (by omega) (by omega) ?_
        refine z_istore (M := M_X12_feet) 260 dX12_feet_260 (ls' := [some (mR 108), none, none, none, some (mI (12 + a2)), some (mI (l5 - 0)), some (mI l6), some (mI l7)]) (by decide) rfl ?_
        refine z_iload (M := M_X12_feet) 262 dX12_feet_262 rfl ?_
        refine z_sipush (M := M_X12_feet) 264 dX12_feet_264 ?_
        refine z_icmp_le (M := M_X12_feet) 267 dX12_feet_267 276 rfl (fun c6 => ?_) (fun c6 => ?_)
        · refine z_iload (M := M_X12_feet) 276 dX12_feet_276 rfl ?_
          exact z_retI (M := M_X12_feet) 278 dX12_feet_278 rfl ⟨G, R, by omega, by omega, ft_end i1 i2 (by omega) (Or.inr ⟨rfl, fun z => by have y := ex4.symm.trans z.2; omega⟩) (by unfold cap; exact if_neg (by omega))⟩
        · refine z_sipush (M := M_X12_feet) 270 dX12_feet_270 ?_
          refine z_goto (M := M_X12_feet) 273 dX12_feet_273 278 rfl ?_
          exact z_retI (M := M_X12_feet) 278 dX12_feet_278 rfl ⟨G, R, by omega, by omega, ft_end i1 i2 (by omega) (Or.inr ⟨rfl, fun z => by have y := ex4.symm.trans z.2; omega⟩) (by unfold cap; exact if_pos (by omega))⟩
      · refine z_iconst (M := M_X12_feet) 254 dX12_feet_254 ?_
        refine z_goto (M := M_X12_feet) 255 dX12_feet_255 259 rfl ?_
        refine z_isubN (M := M_X12_feet) 259 dX12_feet_259 (by omega) (by omega) ?_
        refine z_istore (M := M_X12_feet) 260 dX12_feet_260 (ls' := [some (mR 108), none, none, none, some (mI (12 + a2)), some (mI (l5 - 1)), some (mI l6), some (mI l7)]) (by decide) rfl ?_
        refine z_iload (M := M_X12_feet) 262 dX12_feet_262 rfl ?_
        refine z_sipush (M := M_X12_feet) 264 dX12_feet_264 ?_
        refine z_icmp_le (M := M_X12_feet) 267 dX12_feet_267 276 rfl (fun c7 => ?_) (fun c7 => ?_)
        · refine z_iload (M := M_X12_feet) 276 dX12_feet_276 rfl ?_
          exact z_retI (M := M_X12_feet) 278 dX12_feet_278 rfl ⟨G, R, by omega, by omega, ft_end i1 i2 (by omega) (Or.inl ⟨rfl, by omega, ex4.trans (by omega)⟩) (by unfold cap; exact if_neg (by omega))⟩
        · refine z_sipush (M := M_X12_feet) 270 dX12_feet_270 ?_
          refine z_goto (M := M_X12_feet) 273 dX12_feet_273 278 rfl ?_
          exact z_retI (M := M_X12_feet) 278 dX12_feet_278 rfl ⟨G, R, by omega, by omega, ft_end i1 i2 (by omega) (Or.inl ⟨rfl, by omega, ex4.trans (by omega)⟩) (by unfold cap; exact if_pos (by omega))⟩
  · refine z_iload (M := M_X12_feet) 201 dX12_feet_201 rfl ?_
    refine z_if_eq (M := M_X12_feet) 203 dX12_feet_203 228 rfl (fun c8 => ?_) (fun c8 => ?_)
    · refine z_iconst (M := M_X12_feet) 228 dX12_feet_228 ?_
      refine z_istore (M := M_X12_feet) 229 dX12_feet_229 (ls' := [some (mR 108), none, none, none, some (mI (12 + a2)), some (mI l5), some (mI 0), some (mI l7)]) (by decide) rfl ?_
      refine z_iincN (M := M_X12_feet) 231 dX12_feet_231 (ls' := [some (mR 108), none, none, none, some (mI (12 + a2)), some (mI l5), some (mI 0), some (mI (l7 + 1))]) (by decide) rfl (by (unfold m_32; decide)) (by omega) (by omega) rfl ?_
      refine z_goto (M := M_X12_feet) 234 dX12_feet_234 194 rfl ?_
      exact z_mask [true, false, false, false, true, true, true, true] rfl (ih l5 0 (l7 + 1) h G R (by omega) (by omega) (by omega) (by omega) (by omega) (by omega) (by omega) (by omega) (by omega) (by omega) (by omega) (by omega) i1 (ftW_0 i2 (by omega) (by omega)) (by omega))
    · refine z_aload_n (M := M_X12_feet) 206 dX12_feet_206 rfl ?_
      refine z_getR (M := M_X12_feet) 207 dX12_feet_207 f_X12_94 o_108 rfl (g_108_40 G) ?_
      refine z_iload (M := M_X12_feet) 210 dX12_feet_210 rfl ?_
      refine z_laldV (M := M_X12_feet) 212 dX12_feet_212 o_135 (by omega) (by omega) (fun x9 ex9 => ?_)
      refine z_aload_n (M := M_X12_feet) 213 dX12_feet_213 rfl ?_
      refine z_getR (M := M_X12_feet) 214 dX12_feet_214 f_X12_97 o_108 rfl (g_108_41 G) ?_
      refine z_iload (M := M_X12_feet) 217 dX12_feet_217 rfl ?_
      refine z_laldV (M := M_X12_feet) 219 dX12_feet_219 o_136 (by omega) (by omega) (fun x10 ex10 => ?_)
      refine z_lcmp (M := M_X12_feet) 220 dX12_feet_220 ?_
      refine z_if_ne (M := M_X12_feet) 221 dX12_feet_221 228 rfl (fun c11 => ?_) (fun c11 => ?_)
      · rw [m_cmp_eq] at c11
        refine z_iconst (M := M_X12_feet) 228 dX12_feet_228 ?_
        refine z_istore (M := M_X12_feet) 229 dX12_feet_229 (ls' := [some (mR 108), none, none, none, some (mI (12 + a2)), some (mI l5), some (mI 0), some (mI l7)]) (by decide) rfl ?_
        refine z_iincN (M := M_X12_feet) 231 dX12_feet_231 (ls' := [some (mR 108), none, none, none, some (mI (12 + a2)), some (mI l5), some (mI 0), some (mI (l7 + 1))]) (by decide) rfl (by (unfold m_32; decide)) (by omega) (by omega) rfl ?_
        refine z_goto (M := M_X12_feet) 234 dX12_feet_234 194 rfl ?_
        exact z_mask [true, false, false, false, true, true, true, true] rfl (ih l5 0 (l7 + 1) h G R (by omega) (by omega) (by omega) (by omega) (by omega) (by omega) (by omega) (by omega) (by omega) (by omega) (by omega) (by omega) i1 (ftW_n (by omega) ex9 ex10 c11) (by omega))
      · rw [m_cmp_eq] at c11
        refine z_iconst (M := M_X12_feet) 224 dX12_feet_224 ?_
        refine z_goto (M := M_X12_feet) 225 dX12_feet_225 229 rfl ?_
        refine z_istore (M := M_X12_feet) 229 dX12_feet_229 (ls' := [some (mR 108), none, none, none, some (mI (12 + a2)), some (mI l5), some (mI 1), some (mI l7)]) (by decide) rfl ?_
        refine z_iincN (M := M_X12_feet) 231 dX12_feet_231 (ls' := [some (mR 108), none, none, none, some (mI (12 + a2)), some (mI l5), some (mI 1), some (mI (l7 + 1))]) (by decide) rfl (by (unfold m_32; decide)) (by omega) (by omega) rfl ?_
        refine z_goto (M := M_X12_feet) 234 dX12_feet_234 194 rfl ?_
        exact z_mask [true, false, false, false, true, true, true, true] rfl (ih l5 1 (l7 + 1) h G R (by omega) (by omega) (by omega) (by omega) (by omega) (by omega) (by omega) (by omega) (by omega) (by omega) (by omega) (by omega) i1 (ftW_y i2 (by omega) (by omega) ex9 ex10 (by omega)) (by omega))
theorem a_X12_feet3 (h0 : m_H) (a1 a2 a3 : Int) (G0 : GI h0) (hN : NP h0) : ∀ n, q_X12_feet3 h0 a1 a2 a3 n := by
  intro n
  induction n with
  | zero => unfold q_X12_feet3; intros; omega
  | succ n ih => exact s_X12_feet3_194 h0 a1 a2 a3 G0 hN n ih
set_option maxHeartbeats 4000000 in
set_option maxRecDepth 100000 in
theorem c_X12_feet3 (h0 : m_H) (a1 a2 a3 : Int) (G0 : GI h0) (hN : NP h0) : m_CI M_X12_feet [mR 108, mI a1, mI a2, mI a3] h0 (P_X12_feet3 h0 a1 a2 a3) := by
  refine m_CI_of ⟨by decide, rfl, by simp [m_arg, m_isL, M_X12_feet], ⟨rfl, rfl⟩, rfl, rfl⟩ (ls := [some (mR 108), some (mI a1), some (mI a2), some (mI a3), none, none, none, none]) rfl ?_
  have ih := a_X12_feet3 h0 a1 a2 a3 G0 hN 28
  refine z_ok (fun _ _ ok => ?_)
  have oa1 : m_32 a1 := ok 1 _ rfl
  unfold m_32 at oa1
  have oa2 : m_32 a2 := ok 2 _ rfl
  unfold m_32 at oa2
  have oa3 : m_32 a3 := ok 3 _ rfl
  unfold m_32 at oa3
  refine z_aload_n (M := M_X12_feet) 0 dX12_feet_0 rfl ?_
  refine z_iconst (M := M_X12_feet) 1 dX12_feet_1 ?_
  refine z_putIH (M := M_X12_feet) 2 dX12_feet_2 p_X12_133 o_108 rfl (u_108_0 G0) ((FR.rf (cs := [115, 116, 117, 118, 119, 120, 121, 122, 123, 124, 125, 126, 127, 128, 129, 130, 131, 132, 133, 134, 135, 136]) (ss := [(108, 0), (108, 21)]) (h := h0)).up rfl) (fun h1 E1 G1 R1 => ?_)
  refine z_iload_n (M := M_X12_feet) 5 dX12_feet_5 rfl ?_
  refine z_i2l (M := M_X12_feet) 6 dX12_feet_6 ?_
  refine z_lconst (M := M_X12_feet) 7 dX12_feet_7 (v := 0) ?_
  refine z_ldc2 (M := M_X12_feet) 8 dX12_feet_8 k_X12_385 ?_
  refine z_sI (M := M_X12_feet) 11 dX12_feet_11 t_X12_in l_X12_143 (m_rr_of rfl) (rest := []) (c_X12_in h1 a1 0 11 G1) rfl rfl (Nat.le_of_ble_eq_true rfl) ⟨rfl, rfl⟩ (fun x1 h2 qx1 => ?_)
  obtain ⟨rfl, ⟨rfl, cx1⟩ | ⟨rfl, cx1⟩⟩ := qx1
  · refine z_if_eq_F (M := M_X12_feet) 14 dX12_feet_14 46 rfl (by omega) ?_
    refine z_iload_n (M := M_X12_feet) 17 dX12_feet_17 rfl ?_
    refine z_sI (M := M_X12_feet) 18 dX12_feet_18 t_X12_isKeeper l_X12_169 (m_rr_of rfl) (rest := []) (c_X12_isKeeper h1 a2 G1) rfl rfl (Nat.le_of_ble_eq_true rfl) ⟨rfl, rfl⟩ (fun x2 h3 qx2 => ?_)
    obtain ⟨rfl, ⟨rfl, cx2⟩ | ⟨rfl, cx2⟩⟩ := qx2
    · refine z_if_eq_F (M := M_X12_feet) 21 dX12_feet_21 46 rfl (by omega) ?_
      refine z_iload_n (M := M_X12_feet) 24 dX12_feet_24 rfl ?_
      refine z_i2l (M := M_X12_feet) 25 dX12_feet_25 ?_
      refine z_lconst (M := M_X12_feet) 26 dX12_feet_26 (v := 0) ?_
      refine z_lconst (M := M_X12_feet) 27 dX12_feet_27 (v := 1) ?_
      refine z_sI (M := M_X12_feet) 28 dX12_feet_28 t_X12_in l_X12_143 (m_rr_of rfl) (rest := []) (c_X12_in h1 a3 0 1 G1) rfl rfl (Nat.le_of_ble_eq_true rfl) ⟨rfl, rfl⟩ (fun x3 h4 qx3 => ?_)
      obtain ⟨rfl, ⟨rfl, cx3⟩ | ⟨rfl, cx3⟩⟩ := qx3
      · refine z_if_eq_F (M := M_X12_feet) 31 dX12_feet_31 46 rfl (by omega) ?_
        refine z_aload_n (M := M_X12_feet) 34 dX12_feet_34 rfl ?_
        refine z_iload_n (M := M_X12_feet) 35 dX12_feet_35 rfl ?_
        refine z_bipush (M := M_X12_feet) 36 dX12_feet_36 ?_
        refine z_iload_n (M := M_X12_feet) 38 dX12_feet_38 rfl ?_
        refine z_iaddN (M := M_X12_feet) 39 dX12_feet_39 (by omega) (by omega) ?_
        refine z_vI (M := M_X12_feet) 40 dX12_feet_40 t_X12_isAnswered l_X12_394 (m_rr_of rfl) (rest := []) (c_X12_isAnswered2 h1 a1 (12 + a2) G1 (NP.call hN R1 (fun _ => rfl) (fun _ => rfl) (fun _ => rfl))) o_108 rfl rfl rfl (Nat.le_of_ble_eq_true rfl) ⟨rfl, rfl⟩ (fun x4 h5 qx4 => ?_)
        obtain ⟨G5, S5, ax4, bx4, fx4_0, fx4_1⟩ := qx4
        have R5 := R1.call S5 (by decide +kernel)
        have e1_ : h1 110 = h0 110 := FR.row R1 (fun _ => rfl)
        have e5_ : h5 110 = h0 110 := FR.row R5 (fun _ => rfl)
        rw [e1_] at fx4_1
        refine z_if_ne (M := M_X12_feet) 43 dX12_feet_43 49 rfl (fun c5 => ?_) (fun c5 => ?_)
        · have an := fx4_0 (by omega)
          have an1 := an.1
          have an2 := an.2.1
          refine z_aload_n (M := M_X12_feet) 49 dX12_feet_49 rfl ?_
          refine z_iload_n (M := M_X12_feet) 50 dX12_feet_50 rfl ?_
          refine z_if_ne (M := M_X12_feet) 51 dX12_feet_51 61 rfl (fun c6 => ?_) (fun c6 => ?_)
          · refine z_iload_n (M := M_X12_feet) 61 dX12_feet_61 rfl ?_
            refine z_vV (M := M_X12_feet) 62 dX12_feet_62 t_X12_goFrom l_X12_397 (m_rr_of rfl) (rest := []) (c_X12_goFrom2 h5 a1 G5 ⟨by omega, by omega⟩ (NP.call hN R5 (fun _ => rfl) (fun _ => rfl) (fun _ => rfl)) (gG_f (gG_b an.2.2 R1 (fun _ => rfl)) R5 (fun _ => rfl))) o_108 rfl rfl rfl (Nat.le_of_ble_eq_true rfl) ⟨rfl, rfl⟩ (fun h6 qx7 => ?_)
            obtain ⟨G6, S6, fx7_0, fx7_1⟩ := qx7
            rw [e5_] at fx7_1
            have b_ := fx7_1 (12 + a2).toNat (by omega)
            have g_ := fx7_0 (12 + a2).toNat (by omega)
            have k_ := fx4_1.mp (by omega)
            have R6 := R5.call S6 (by decide +kernel)
            refine z_iload_n (M := M_X12_feet) 65 dX12_feet_65 rfl ?_
            refine z_if_ne_T (M := M_X12_feet) 66 dX12_feet_66 73 rfl (by omega) ?_
            refine z_bipush (M := M_X12_feet) 73 dX12_feet_73 ?_
            refine z_iload_n (M := M_X12_feet) 75 dX12_feet_75 rfl ?_
            refine z_iaddN (M := M_X12_feet) 76 dX12_feet_76 (by omega) (by omega) ?_
            refine z_istore (M := M_X12_feet) 77 dX12_feet_77 (ls' := [some (mR 108), some (mI a1), some (mI a2), some (mI a3), some (mI (12 + a2)), none, none, none]) (by decide) rfl ?_
            refine z_aload_n (M := M_X12_feet) 79 dX12_feet_79 rfl ?_
            refine z_getR (M := M_X12_feet) 80 dX12_feet_80 f_X12_70 o_108 rfl (g_108_32 G6) ?_
            refine z_iload (M := M_X12_feet) 83 dX12_feet_83 rfl ?_
            refine z_zaldG (M := M_X12_feet) 85 dX12_feet_85 o_127 (by omega) (by omega) (g_127 G6 (by omega)) (fun x8 ex8 ax8 bx8 => ?_)
            refine z_if_ne (M := M_X12_feet) 86 dX12_feet_86 99 rfl (fun c9 => ?_) (fun c9 => ?_)
            · refine z_iload_n (M := M_X12_feet) 99 dX12_feet_99 rfl ?_
              refine z_if_ne_T (M := M_X12_feet) 100 dX12_feet_100 128 rfl (by omega) ?_
              refine z_aload_n (M := M_X12_feet) 128 dX12_feet_128 rfl ?_
              refine z_aload_n (M := M_X12_feet) 129 dX12_feet_129 rfl ?_
              refine z_getR (M := M_X12_feet) 130 dX12_feet_130 f_X12_64 o_108 rfl (g_108_30 G6) ?_
              refine z_iconst (M := M_X12_feet) 133 dX12_feet_133 ?_
              refine z_iload (M := M_X12_feet) 134 dX12_feet_134 rfl ?_
              refine z_imulN (M := M_X12_feet) 136 dX12_feet_136 (by omega) (by omega) ?_
              refine z_aload_n (M := M_X12_feet) 137 dX12_feet_137 rfl ?_
              refine z_getR (M := M_X12_feet) 138 dX12_feet_138 f_X12_61 o_108 rfl (g_108_29 G6) ?_
              refine z_iconst (M := M_X12_feet) 141 dX12_feet_141 ?_
              refine z_iload (M := M_X12_feet) 142 dX12_feet_142 rfl ?_
              refine z_imulN (M := M_X12_feet) 144 dX12_feet_144 (by omega) (by omega) ?_
              refine z_iconst (M := M_X12_feet) 145 dX12_feet_145 ?_
              refine z_sipush (M := M_X12_feet) 146 dX12_feet_146 ?_
              refine z_vI (M := M_X12_feet) 149 dX12_feet_149 t_X12_share l_X12_402 (m_rr_of rfl) (rest := []) (c_X12_share2 h6 125 124 (5 * (12 + a2)) (5 * (12 + a2)) 1 2001 (Or.inr rfl) (Or.inl rfl) G6 ⟨by omega, by omega⟩ ⟨by omega, by omega⟩ ⟨by omega, by omega⟩ ⟨by omega, by omega⟩) o_108 rfl rfl rfl (Nat.le_of_ble_eq_true rfl) ⟨rfl, rfl⟩ (fun x10 h7 qx10 => ?_)
              obtain ⟨G7, S7, ax10, bx10, fx10⟩ := qx10
              have R7 := R6.call S7 (by decide +kernel)
              refine z_istore (M := M_X12_feet) 152 dX12_feet_152 (ls' := [some (mR 108), some (mI a1), some (mI a2), some (mI a3), some (mI (12 + a2)), some (mI x10), none, none]) (by decide) rfl ?_
              refine z_aload_n (M := M_X12_feet) 154 dX12_feet_154 rfl ?_
              refine z_getR (M := M_X12_feet) 155 dX12_feet_155 f_X12_94 o_108 rfl (g_108_40 G7) ?_
              refine z_aload_n (M := M_X12_feet) 158 dX12_feet_158 rfl ?_
              refine z_getR (M := M_X12_feet) 159 dX12_feet_159 f_X12_64 o_108 rfl (g_108_30 G7) ?_
              refine z_iconst (M := M_X12_feet) 162 dX12_feet_162 ?_
              refine z_iload (M := M_X12_feet) 163 dX12_feet_163 rfl ?_
              refine z_imulN (M := M_X12_feet) 165 dX12_feet_165 (by omega) (by omega) ?_
              refine z_lconst (M := M_X12_feet) 166 dX12_feet_166 (v := 1) ?_
              refine z_sV (M := M_X12_feet) 167 dX12_feet_167 t_X12_wide l_X12_387 (m_rr_of rfl) (rest := []) (c_X12_wide80x h7 135 125 (5 * (12 + a2)) 1 (Or.inl rfl) (Or.inr rfl) G7 ⟨by omega, by omega⟩ ⟨by omega, by omega⟩) rfl rfl (Nat.le_of_ble_eq_true rfl) ⟨rfl, rfl⟩ (fun h8 qx11 => ?_)
              obtain ⟨G8, S8, fx11_0, fx11_1⟩ := qx11
              have R8 := R7.call S8 (by decide +kernel)
              refine z_aload_n (M := M_X12_feet) 170 dX12_feet_170 rfl ?_
              refine z_getR (M := M_X12_feet) 171 dX12_feet_171 f_X12_97 o_108 rfl (g_108_41 G8) ?_
              refine z_aload_n (M := M_X12_feet) 174 dX12_feet_174 rfl ?_
              refine z_getR (M := M_X12_feet) 175 dX12_feet_175 f_X12_61 o_108 rfl (g_108_29 G8) ?_
              refine z_iconst (M := M_X12_feet) 178 dX12_feet_178 ?_
              refine z_iload (M := M_X12_feet) 179 dX12_feet_179 rfl ?_
              refine z_imulN (M := M_X12_feet) 181 dX12_feet_181 (by omega) (by omega) ?_
              refine z_iload (M := M_X12_feet) 182 dX12_feet_182 rfl ?_
              refine z_i2l (M := M_X12_feet) 184 dX12_feet_184 ?_
              refine z_sV (M := M_X12_feet) 185 dX12_feet_185 t_X12_wide l_X12_387 (m_rr_of rfl) (rest := []) (c_X12_wide80x h8 136 124 (5 * (12 + a2)) x10 (Or.inr rfl) (Or.inl rfl) G8 ⟨by omega, by omega⟩ ⟨by omega, by omega⟩) rfl rfl (Nat.le_of_ble_eq_true rfl) ⟨rfl, rfl⟩ (fun h9 qx12 => ?_)
              obtain ⟨G9, S9, fx12_0, fx12_1⟩ := qx12
              have R9 := R8.call S9 (by decide +kernel)
              refine z_iconst (M := M_X12_feet) 188 dX12_feet_188 ?_
              refine z_istore (M := M_X12_feet) 189 dX12_feet_189 (ls' := [some (mR 108), some (mI a1), some (mI a2), some (mI a3), some (mI (12 + a2)), some (mI x10), some (mI 1), none]) (by decide) rfl ?_
              refine z_iconst (M := M_X12_feet) 191 dX12_feet_191 ?_
              refine z_istore (M := M_X12_feet) 192 dX12_feet_192 (ls' := [some (mR 108), some (mI a1), some (mI a2), some (mI a3), some (mI (12 + a2)), some (mI x10), some (mI 1), some (mI 0)]) (by decide) rfl ?_
              exact z_mask [true, false, false, false, true, true, true, true] rfl (ih x10 1 0 h9 G9 R9 (by omega) (by omega) (by omega) (by omega) (by omega) (by omega) (by omega) (by omega) (by omega) (by omega) (by omega) (by omega) (ft_in (by omega) ⟨cx1, ⟨by omega, by omega⟩, k_.1, k_.2.2⟩ g_ b_ (by omega) fx10 S7 S8 S9 fx11_0 fx11_1 fx12_0 fx12_1) ⟨fun _ j hj => absurd hj (Nat.not_lt_zero _), fun _ => rfl⟩ (by omega))
            · refine z_iload_n (M := M_X12_feet) 89 dX12_feet_89 rfl ?_
              refine z_if_ne_T (M := M_X12_feet) 90 dX12_feet_90 97 rfl (by omega) ?_
              refine z_iconst (M := M_X12_feet) 97 dX12_feet_97 ?_
              exact z_retI (M := M_X12_feet) 98 dX12_feet_98 rfl ⟨G6, R6, by omega, by omega, Or.inr ⟨⟨⟨by omega, by omega⟩, ⟨cx1, ⟨by omega, by omega⟩, k_.1, k_.2.2⟩⟩, Or.inr ⟨by omega, (1, 0, 1), ⟨by have z := b_; rw [bOf_n ex8 (by omega)] at z; exact z, fun _ => rfl⟩, by decide⟩⟩⟩
          · refine z_bipush (M := M_X12_feet) 54 dX12_feet_54 ?_
            refine z_iload_n (M := M_X12_feet) 56 dX12_feet_56 rfl ?_
            refine z_iaddN (M := M_X12_feet) 57 dX12_feet_57 (by omega) (by omega) ?_
            refine z_goto (M := M_X12_feet) 58 dX12_feet_58 62 rfl ?_
            refine z_vV (M := M_X12_feet) 62 dX12_feet_62 t_X12_goFrom l_X12_397 (m_rr_of rfl) (rest := []) (c_X12_goFrom2 h5 (12 + a2) G5 ⟨by omega, by omega⟩ (NP.call hN R5 (fun _ => rfl) (fun _ => rfl) (fun _ => rfl)) (gG_f (gG_b an.2.2 R1 (fun _ => rfl)) R5 (fun _ => rfl))) o_108 rfl rfl rfl (Nat.le_of_ble_eq_true rfl) ⟨rfl, rfl⟩ (fun h10 qx13 => ?_)
            obtain ⟨G10, S10, fx13_0, fx13_1⟩ := qx13
            rw [e5_] at fx13_1
            have b_ := fx13_1 a1.toNat (by omega)
            have g_ := fx13_0 a1.toNat (by omega)
            have k_ := fx4_1.mp (by omega)
            have R10 := R5.call S10 (by decide +kernel)
            refine z_iload_n (M := M_X12_feet) 65 dX12_feet_65 rfl ?_
            refine z_if_ne_F (M := M_X12_feet) 66 dX12_feet_66 73 rfl (by omega) ?_
            refine z_iload_n (M := M_X12_feet) 69 dX12_feet_69 rfl ?_
            refine z_goto (M := M_X12_feet) 70 dX12_feet_70 77 rfl ?_
            refine z_istore (M := M_X12_feet) 77 dX12_feet_77 (ls' := [some (mR 108), some (mI a1), some (mI a2), some (mI a3), some (mI a1), none, none, none]) (by decide) rfl ?_
            refine z_aload_n (M := M_X12_feet) 79 dX12_feet_79 rfl ?_
            refine z_getR (M := M_X12_feet) 80 dX12_feet_80 f_X12_70 o_108 rfl (g_108_32 G10) ?_
            refine z_iload (M := M_X12_feet) 83 dX12_feet_83 rfl ?_
            refine z_zaldG (M := M_X12_feet) 85 dX12_feet_85 o_127 (by omega) (by omega) (g_127 G10 (by omega)) (fun x14 ex14 ax14 bx14 => ?_)
            refine z_if_ne (M := M_X12_feet) 86 dX12_feet_86 99 rfl (fun c15 => ?_) (fun c15 => ?_)
            · refine z_iload_n (M := M_X12_feet) 99 dX12_feet_99 rfl ?_
              refine z_if_ne_F (M := M_X12_feet) 100 dX12_feet_100 128 rfl (by omega) ?_
              refine z_aload_n (M := M_X12_feet) 103 dX12_feet_103 rfl ?_
              refine z_aload_n (M := M_X12_feet) 104 dX12_feet_104 rfl ?_
              refine z_getR (M := M_X12_feet) 105 dX12_feet_105 f_X12_61 o_108 rfl (g_108_29 G10) ?_
              refine z_iconst (M := M_X12_feet) 108 dX12_feet_108 ?_
              refine z_iload (M := M_X12_feet) 109 dX12_feet_109 rfl ?_
              refine z_imulN (M := M_X12_feet) 111 dX12_feet_111 (by omega) (by omega) ?_
              refine z_aload_n (M := M_X12_feet) 112 dX12_feet_112 rfl ?_
              refine z_getR (M := M_X12_feet) 113 dX12_feet_113 f_X12_64 o_108 rfl (g_108_30 G10) ?_
              refine z_iconst (M := M_X12_feet) 116 dX12_feet_116 ?_
              refine z_iload (M := M_X12_feet) 117 dX12_feet_117 rfl ?_
              refine z_imulN (M := M_X12_feet) 119 dX12_feet_119 (by omega) (by omega) ?_
              refine z_iconst (M := M_X12_feet) 120 dX12_feet_120 ?_
              refine z_sipush (M := M_X12_feet) 121 dX12_feet_121 ?_
              refine z_vI (M := M_X12_feet) 124 dX12_feet_124 t_X12_share l_X12_402 (m_rr_of rfl) (rest := []) (c_X12_share3 h10 124 125 (5 * a1) (5 * a1) 1 2000 (Or.inl rfl) (Or.inr rfl) G10 ⟨by omega, by omega⟩ ⟨by omega, by omega⟩ ⟨by omega, by omega⟩ ⟨by omega, by omega⟩) o_108 rfl rfl rfl (Nat.le_of_ble_eq_true rfl) ⟨rfl, rfl⟩ (fun x16 h11 qx16 => ?_)
              obtain ⟨G11, S11, ax16, bx16, fx16, cx16⟩ := qx16
              have R11 := R10.call S11 (by decide +kernel)
              exact z_retI (M := M_X12_feet) 127 dX12_feet_127 rfl ⟨G11, R11, by omega, by omega, Or.inr ⟨⟨⟨by omega, by omega⟩, ⟨cx1, ⟨by omega, by omega⟩, k_.1, k_.2.2⟩⟩, Or.inl ⟨by omega, (vS (h10 125) (5 * a1.toNat) 5, vS (h10 124) (5 * a1.toNat) 5, h10 126 a1.toNat), ⟨by have z := b_; rw [bOf_y ex14 (by omega)] at z; exact z, fun z => absurd (show vS (h10 124) (5 * a1.toNat) 5 = 0 from z) (by have y : 1 ≤ vS (h10 124) (5 * a1.toNat) 5 := (g_.2.2 (ex14.trans (by omega))).1.1; omega)⟩, ft_l (by have y : 1 ≤ vS (h10 125) (5 * a1.toNat) 5 := (g_.2.2 (ex14.trans (by omega))).2.1; show 0 < vS (h10 125) (5 * a1.toNat) 5; omega) (by have z := fx16; rw [at5 (by omega)] at z; exact z) cx16⟩⟩⟩
            · refine z_iload_n (M := M_X12_feet) 89 dX12_feet_89 rfl ?_
              refine z_if_ne_F (M := M_X12_feet) 90 dX12_feet_90 97 rfl (by omega) ?_
              refine z_iconst (M := M_X12_feet) 93 dX12_feet_93 ?_
              refine z_goto (M := M_X12_feet) 94 dX12_feet_94 98 rfl ?_
              exact z_retI (M := M_X12_feet) 98 dX12_feet_98 rfl ⟨G10, R10, by omega, by omega, Or.inr ⟨⟨⟨by omega, by omega⟩, ⟨cx1, ⟨by omega, by omega⟩, k_.1, k_.2.2⟩⟩, Or.inl ⟨by omega, (1, 0, 1), ⟨by have z := b_; rw [bOf_n ex14 (by omega)] at z; exact z, fun _ => rfl⟩, by decide⟩⟩⟩
        · refine z_bipush (M := M_X12_feet) 46 dX12_feet_46 ?_
          exact z_retI (M := M_X12_feet) 48 dX12_feet_48 rfl ⟨G5, R5, by omega, by omega, Or.inl ⟨fun z => absurd (fx4_1.mpr ⟨z.2.2.2.1, ⟨by omega, by omega, Or.inr (Or.inl (by omega))⟩, z.2.2.2.2⟩) (by omega), rfl⟩⟩
      · refine z_if_eq_T (M := M_X12_feet) 31 dX12_feet_31 46 rfl (by omega) ?_
        refine z_bipush (M := M_X12_feet) 46 dX12_feet_46 ?_
        exact z_retI (M := M_X12_feet) 48 dX12_feet_48 rfl ⟨G1, R1, by omega, by omega, Or.inl ⟨fun z => cx3 z.1, rfl⟩⟩
    · refine z_if_eq_T (M := M_X12_feet) 21 dX12_feet_21 46 rfl (by omega) ?_
      refine z_bipush (M := M_X12_feet) 46 dX12_feet_46 ?_
      exact z_retI (M := M_X12_feet) 48 dX12_feet_48 rfl ⟨G1, R1, by omega, by omega, Or.inl ⟨fun z => cx2 z.2.2.1, rfl⟩⟩
  · refine z_if_eq_T (M := M_X12_feet) 14 dX12_feet_14 46 rfl (by omega) ?_
    refine z_bipush (M := M_X12_feet) 46 dX12_feet_46 ?_
    exact z_retI (M := M_X12_feet) 48 dX12_feet_48 rfl ⟨G1, R1, by omega, by omega, Or.inl ⟨fun z => cx1 z.2.1, rfl⟩⟩
theorem LX.feet {h h1 : m_H} {a b w x y : Int} {cs : List Nat} {ss : List (Nat × Nat)} (G : GI h) (N : NP h) (S1 : FR cs ss h h1) (A : ftQ (h 110) a b w x) (B : ftQ (h1 110) a b w y) (o : out 110 110 cs ss = true) : x = y := by
  rw [rowz S1 (fr_out o (by decide) (by decide))] at B
  exact ft_eq (bR_ok G N) A B
/-! ends and what they tell -/
def eLo (h : m_H) : Int × Int × Int := if h 108 44 = 1 then (vS (h 138) 5 5, vS (h 138) 0 5, if h 108 46 = 1 then 0 else 1) else (1, 0, 1)
def eHi (h : m_H) : Int × Int × Int := if h 108 45 = 1 then (vS (h 138) 10 5, vS (h 138) 15 5, if h 108 47 = 1 then 0 else 1) else (1, 0, 1)
def eOk (h : m_H) : Prop := (h 108 46 = 1 → h 108 44 = 1) ∧ (h 108 47 = 1 → h 108 45 = 1)
def ofK (k : Int) : Int := if k = 2 then 2 else 1
def loK (n k : Int) : Int := if k = 2 then 2 * n - 1 else n
def hiK (n k : Int) : Int := if k = 0 then n else if k = 1 then n + 1 else 2 * n + 1
def tlU (B : Int × Int × Int) (n k : Int) : Prop := B.2.1 * ofK k < B.1 * hiK n k ∨ (B.2.1 * ofK k = B.1 * hiK n k ∧ k = 0 ∧ B.2.2 ≠ 1)
def tlO (C : Int × Int × Int) (n k : Int) : Prop := C.2.1 * loK n k < C.1 * ofK k ∨ (C.1 * ofK k = C.2.1 * loK n k ∧ C.2.2 ≠ 1)
def tlI (B C : Int × Int × Int) (n k : Int) : Prop := B.1 * loK n k ≤ B.2.1 * ofK k ∧ (C.1 * ofK k < C.2.1 * hiK n k ∨ (C.1 * ofK k = C.2.1 * hiK n k ∧ (k = 0 ∨ C.2.2 = 1)))
def tlF (B C : Int × Int × Int) (n k x : Int) : Prop := (¬ (tlU B n k ∧ tlO C n k) ∧ x = 0) ∨ ((tlU B n k ∧ tlO C n k) ∧ ((tlI B C n k ∧ x = 1) ∨ (¬ tlI B C n k ∧ x = 2)))
theorem eLo_y {h : m_H} (e : h 108 44 = 1) : eLo h = (vS (h 138) 5 5, vS (h 138) 0 5, if h 108 46 = 1 then 0 else 1) := if_pos e
theorem eLo_n {h : m_H} (e : h 108 44 ≠ 1) : eLo h = (1, 0, 1) := if_neg e
theorem eHi_y {h : m_H} (e : h 108 45 = 1) : eHi h = (vS (h 138) 10 5, vS (h 138) 15 5, if h 108 47 = 1 then 0 else 1) := if_pos e
theorem eHi_n {h : m_H} (e : h 108 45 ≠ 1) : eHi h = (1, 0, 1) := if_neg e
theorem eLo_c {h0 h : m_H} {x : Int} (R : FR [135, 136] [] h0 h) (ex : h 108 46 = x) (c : x ≠ 1) : (eLo h0).2.2 = 1 := by
  have e : h0 108 46 ≠ 1 := by rw [← (R 108 46 rfl : h 108 46 = h0 108 46), ex]; exact c
  by_cases g : h0 108 44 = 1
  · rw [eLo_y g]; exact if_neg e
  · rw [eLo_n g]
theorem eHi_c {h0 h : m_H} {x : Int} (R : FR [135, 136] [] h0 h) (ex : h 108 47 = x) (c : x ≠ 1) : (eHi h0).2.2 = 1 := by
  have e : h0 108 47 ≠ 1 := by rw [← (R 108 47 rfl : h 108 47 = h0 108 47), ex]; exact c
  by_cases g : h0 108 45 = 1
  · rw [eHi_y g]; exact if_neg e
  · rw [eHi_n g]
theorem eLo_o {h0 h : m_H} {x : Int} (R : FR [135, 136] [] h0 h) (hE : eOk h0) (ex : h 108 46 = x) (c : x = 1) : (eLo h0).2.2 ≠ 1 := by
  have e : h0 108 46 = 1 := ((R 108 46 rfl).symm.trans ex).trans c
  rw [eLo_y (hE.1 e)]
  show (if h0 108 46 = 1 then (0 : Int) else 1) ≠ 1
  rw [if_pos e]; decide
theorem eHi_o {h0 h : m_H} {x : Int} (R : FR [135, 136] [] h0 h) (hE : eOk h0) (ex : h 108 47 = x) (c : x = 1) : (eHi h0).2.2 ≠ 1 := by
  have e : h0 108 47 = 1 := ((R 108 47 rfl).symm.trans ex).trans c
  rw [eHi_y (hE.2 e)]
  show (if h0 108 47 = 1 then (0 : Int) else 1) ≠ 1
  rw [if_pos e]; decide
theorem tl_ln {h0 h : m_H} {x c m : Int} (R : FR [135, 136] [] h0 h) (ex : h 108 44 = x) (cx : x ≠ 1) (hm : 1 ≤ m) : cmpQ (-1) ((eLo h0).2.1 * c) ((eLo h0).1 * m) := by
  rw [eLo_n (by rw [← (R 108 44 rfl : h 108 44 = h0 108 44), ex]; exact cx)]
  exact Or.inl ⟨rfl, by show (0 : Int) * c < 1 * m; rw [Int.zero_mul, Int.one_mul]; omega⟩
theorem tl_hn {h0 h : m_H} {x c m : Int} (R : FR [135, 136] [] h0 h) (ex : h 108 45 = x) (cx : x ≠ 1) (hc : 1 ≤ c) : cmpQ 1 ((eHi h0).1 * c) ((eHi h0).2.1 * m) := by
  rw [eHi_n (by rw [← (R 108 45 rfl : h 108 45 = h0 108 45), ex]; exact cx)]
  exact Or.inr (Or.inr ⟨rfl, by show (0 : Int) * m < 1 * c; rw [Int.zero_mul, Int.one_mul]; omega⟩)
theorem tl_ly {h0 h g : m_H} {x y c m c' m' : Int} (R : FR [135, 136] [] h0 h) (ex : h 108 44 = x) (cx : x = 1) (Rg : FR [135, 136] [] h0 g) (e1 : c = c') (e2 : m = m') (q : cmpQ y (vS (g 138) (0 : Int).toNat 5 * c) (vS (g 138) (0 + 5 : Int).toNat 5 * m)) : cmpQ y ((eLo h0).2.1 * c') ((eLo h0).1 * m') := by
  rw [eLo_y (((R 108 44 rfl).symm.trans ex).trans cx), ← e1, ← e2]
  rw [(FR.row Rg (fun _ => rfl) : g 138 = h0 138)] at q
  exact q
theorem tl_hy {h0 h g : m_H} {x y c m c' m' : Int} (R : FR [135, 136] [] h0 h) (ex : h 108 45 = x) (cx : x = 1) (Rg : FR [135, 136] [] h0 g) (e1 : c = c') (e2 : m = m') (q : cmpQ y (vS (g 138) (10 : Int).toNat 5 * c) (vS (g 138) (10 + 5 : Int).toNat 5 * m)) : cmpQ y ((eHi h0).1 * c') ((eHi h0).2.1 * m') := by
  rw [eHi_y (((R 108 45 rfl).symm.trans ex).trans cx), ← e1, ← e2]
  rw [(FR.row Rg (fun _ => rfl) : g 138 = h0 138)] at q
  exact q
theorem tu_1 {B : Int × Int × Int} {n k l : Int} (q : cmpQ l (B.2.1 * ofK k) (B.1 * hiK n k)) (c : l < 0) : tlU B n k := by
  unfold cmpQ at q
  exact Or.inl (by omega)
theorem tu_2 {B : Int × Int × Int} {n k l : Int} (q : cmpQ l (B.2.1 * ofK k) (B.1 * hiK n k)) (c : l = 0) (hk : k = 0) (o : B.2.2 ≠ 1) : tlU B n k := by
  unfold cmpQ at q
  exact Or.inr ⟨by omega, hk, o⟩
theorem tu_n {B : Int × Int × Int} {n k l : Int} (q : cmpQ l (B.2.1 * ofK k) (B.1 * hiK n k)) (c : 0 < l ∨ (l = 0 ∧ (k ≠ 0 ∨ B.2.2 = 1))) : ¬ tlU B n k := by
  unfold cmpQ at q
  rintro (z | ⟨z1, z2, z3⟩)
  · omega
  · rcases c with c | ⟨c1, c2 | c2⟩
    · omega
    · exact c2 z2
    · exact z3 c2
theorem to_1 {C : Int × Int × Int} {n k l : Int} (q : cmpQ l (C.1 * ofK k) (C.2.1 * loK n k)) (c : 0 < l) : tlO C n k := by
  unfold cmpQ at q
  exact Or.inl (by omega)
theorem to_2 {C : Int × Int × Int} {n k l : Int} (q : cmpQ l (C.1 * ofK k) (C.2.1 * loK n k)) (c : l = 0) (o : C.2.2 ≠ 1) : tlO C n k := by
  unfold cmpQ at q
  exact Or.inr ⟨by omega, o⟩
theorem to_n {C : Int × Int × Int} {n k l : Int} (q : cmpQ l (C.1 * ofK k) (C.2.1 * loK n k)) (c : l < 0 ∨ (l = 0 ∧ C.2.2 = 1)) : ¬ tlO C n k := by
  unfold cmpQ at q
  rintro (z | ⟨z1, z2⟩)
  · omega
  · rcases c with c | ⟨c1, c2⟩
    · omega
    · exact z2 c2
theorem ti_y {B C : Int × Int × Int} {n k l m : Int} (q : cmpQ l (B.2.1 * ofK k) (B.1 * loK n k)) (c : 0 ≤ l) (p : cmpQ m (C.1 * ofK k) (C.2.1 * hiK n k)) (d : m < 0 ∨ (m = 0 ∧ (k = 0 ∨ C.2.2 = 1))) : tlI B C n k := by
  unfold cmpQ at q p
  refine ⟨by omega, ?_⟩
  rcases d with d | ⟨d1, d2⟩
  · exact Or.inl (by omega)
  · exact Or.inr ⟨by omega, d2⟩
theorem ti_n1 {B C : Int × Int × Int} {n k l : Int} (q : cmpQ l (B.2.1 * ofK k) (B.1 * loK n k)) (c : l < 0) : ¬ tlI B C n k := by
  unfold cmpQ at q
  rintro ⟨z, _⟩
  omega
theorem ti_n2 {B C : Int × Int × Int} {n k m : Int} (p : cmpQ m (C.1 * ofK k) (C.2.1 * hiK n k)) (d : 0 < m ∨ (m = 0 ∧ k ≠ 0 ∧ C.2.2 ≠ 1)) : ¬ tlI B C n k := by
  unfold cmpQ at p
  rintro ⟨_, z | ⟨z1, z2⟩⟩
  · omega
  · rcases d with d | ⟨d1, d2, d3⟩
    · omega
    · exact z2.elim d2 d3
abbrev P_X12_beside4 (h0 : m_H) (a1 a2 a3 : Int) : Int → m_H → Prop := fun x h' => GI h' ∧ FR [135, 136] [] h0 h' ∧ (-1) ≤ x ∧ x ≤ 1 ∧ cmpQ x (vS (h0 138) a1.toNat 5 * a3) (vS (h0 138) (a1 + 5).toNat 5 * a2)
def q_X12_beside4 (h0 : m_H) (a1 a2 a3 : Int) (n : Nat) : Prop := (∀ (l4 : Int) (h : m_H), GI h → FR [135, 136] [] h0 h → (-1) ≤ l4 → l4 ≤ 9 → (-2147483648) ≤ a2 → a2 ≤ 2147483647 → (-2147483648) ≤ a3 → a3 ≤ 2147483647 → (cpI (h 135) (h 136) (vS (h0 138) a1.toNat 5 * a3) (vS (h0 138) (a1 + 5).toNat 5 * a2) l4) → 2 * (l4 - (-1)) + (1) ≤ (n : Int) → m_Z oF M_X12_beside 34 [some (mR 108), none, none, none, some (mI l4)] [] h (m_QI (P_X12_beside4 h0 a1 a2 a3)))
set_option maxHeartbeats 4000000 in
set_option maxRecDepth 100000 in
theorem s_X12_beside4_34 (h0 : m_H) (a1 a2 a3 : Int) (G0 : GI h0) (pa1 : 0 ≤ a1 ∧ a1 ≤ 10) (hb2 : 0 ≤ a2 ∧ a2 ≤ 2000000000) (hb3 : 0 ≤ a3 ∧ a3 ≤ 2000000000) (n : Nat) (ih : q_X12_beside4 h0 a1 a2 a3 n) : ∀ (l4 : Int) (h : m_H), GI h → FR [135, 136] [] h0 h → (-1) ≤ l4 → l4 ≤ 9 → (-2147483648) ≤ a2 → a2 ≤ 2147483647 → (-2147483648) ≤ a3 → a3 ≤ 2147483647 → (cpI (h 135) (h 136) (vS (h0 138) a1.toNat 5 * a3) (vS (h0 138) (a1 + 5).toNat 5 * a2) l4) → 2 * (l4 - (-1)) + (1) ≤ ((n + 1 : Nat) : Int) → m_Z oF M_X12_beside 34 [some (mR 108), none, none, none, some (mI l4)] [] h (m_QI (P_X12_beside4 h0 a1 a2 a3)) := by
  intro l4 h G R v0 v1 v2 v3 v4 v5 i0 hr
  refine z_iload (M := M_X12_beside) 34 dX12_beside_34 rfl ?_
  refine z_if_lt (M := M_X12_beside) 36 dX12_beside_36 87 rfl (fun c1 => ?_) (fun c1 => ?_)
  · refine z_iconst (M := M_X12_beside) 87 dX12_beside_87 ?_
    exact z_retI (M := M_X12_beside) 88 dX12_beside_88 rfl ⟨G, R, by omega, by omega, cpI_eq i0 (by omega)⟩
  · refine z_aload_n (M := M_X12_beside) 39 dX12_beside_39 rfl ?_
    refine z_getR (M := M_X12_beside) 40 dX12_beside_40 f_X12_94 o_108 rfl (g_108_40 G) ?_
    refine z_iload (M := M_X12_beside) 43 dX12_beside_43 rfl ?_
    refine z_laldV (M := M_X12_beside) 45 dX12_beside_45 o_135 (by omega) (by omega) (fun x2 ex2 => ?_)
    refine z_aload_n (M := M_X12_beside) 46 dX12_beside_46 rfl ?_
    refine z_getR (M := M_X12_beside) 47 dX12_beside_47 f_X12_97 o_108 rfl (g_108_41 G) ?_
    refine z_iload (M := M_X12_beside) 50 dX12_beside_50 rfl ?_
    refine z_laldV (M := M_X12_beside) 52 dX12_beside_52 o_136 (by omega) (by omega) (fun x3 ex3 => ?_)
    refine z_lcmp (M := M_X12_beside) 53 dX12_beside_53 ?_
    refine z_if_eq (M := M_X12_beside) 54 dX12_beside_54 81 rfl (fun c4 => ?_) (fun c4 => ?_)
    · rw [m_cmp_eq] at c4
      refine z_iincN (M := M_X12_beside) 81 dX12_beside_81 (ls' := [some (mR 108), none, none, none, some (mI (l4 + (-1)))]) (by decide) rfl (by (unfold m_32; decide)) (by omega) (by omega) rfl ?_
      refine z_goto (M := M_X12_beside) 84 dX12_beside_84 34 rfl ?_
      exact z_mask [true, false, false, false, true] rfl (ih (l4 + (-1)) h G R (by omega) (by omega) (by omega) (by omega) (by omega) (by omega) (cpI_step i0 (by omega) ex2 ex3 (by omega)) (by omega))
    · rw [m_cmp_eq] at c4
      refine z_aload_n (M := M_X12_beside) 57 dX12_beside_57 rfl ?_
      refine z_getR (M := M_X12_beside) 58 dX12_beside_58 f_X12_94 o_108 rfl (g_108_40 G) ?_
      refine z_iload (M := M_X12_beside) 61 dX12_beside_61 rfl ?_
      refine z_laldE (M := M_X12_beside) 63 dX12_beside_63 o_135 (by omega) (by omega) ex2 ?_
      refine z_aload_n (M := M_X12_beside) 64 dX12_beside_64 rfl ?_
      refine z_getR (M := M_X12_beside) 65 dX12_beside_65 f_X12_97 o_108 rfl (g_108_41 G) ?_
      refine z_iload (M := M_X12_beside) 68 dX12_beside_68 rfl ?_
      refine z_laldE (M := M_X12_beside) 70 dX12_beside_70 o_136 (by omega) (by omega) ex3 ?_
      refine z_lcmp (M := M_X12_beside) 71 dX12_beside_71 ?_
      refine z_if_ge (M := M_X12_beside) 72 dX12_beside_72 79 rfl (fun c5 => ?_) (fun c5 => ?_)
      · rw [m_cmp_ge] at c5
        refine z_iconst (M := M_X12_beside) 79 dX12_beside_79 ?_
        exact z_retI (M := M_X12_beside) 80 dX12_beside_80 rfl ⟨G, R, by omega, by omega, cpI_gt i0 (by omega) (by omega) ex2 ex3 (by omega)⟩
      · rw [m_cmp_ge] at c5
        refine z_iconst (M := M_X12_beside) 75 dX12_beside_75 ?_
        refine z_goto (M := M_X12_beside) 76 dX12_beside_76 80 rfl ?_
        exact z_retI (M := M_X12_beside) 80 dX12_beside_80 rfl ⟨G, R, by omega, by omega, cpI_lt i0 (by omega) (by omega) ex2 ex3 (by omega)⟩
theorem a_X12_beside4 (h0 : m_H) (a1 a2 a3 : Int) (G0 : GI h0) (pa1 : 0 ≤ a1 ∧ a1 ≤ 10) (hb2 : 0 ≤ a2 ∧ a2 ≤ 2000000000) (hb3 : 0 ≤ a3 ∧ a3 ≤ 2000000000) : ∀ n, q_X12_beside4 h0 a1 a2 a3 n := by
  intro n
  induction n with
  | zero => unfold q_X12_beside4; intros; omega
  | succ n ih => exact s_X12_beside4_34 h0 a1 a2 a3 G0 pa1 hb2 hb3 n ih
set_option maxHeartbeats 4000000 in
set_option maxRecDepth 100000 in
theorem c_X12_beside4 (h0 : m_H) (a1 a2 a3 : Int) (G0 : GI h0) (pa1 : 0 ≤ a1 ∧ a1 ≤ 10) (hb2 : 0 ≤ a2 ∧ a2 ≤ 2000000000) (hb3 : 0 ≤ a3 ∧ a3 ≤ 2000000000) : m_CI M_X12_beside [mR 108, mI a1, mI a2, mI a3] h0 (P_X12_beside4 h0 a1 a2 a3) := by
  refine m_CI_of ⟨by decide, rfl, by simp [m_arg, m_isL, M_X12_beside], ⟨rfl, rfl⟩, rfl, rfl⟩ (ls := [some (mR 108), some (mI a1), some (mI a2), some (mI a3), none]) rfl ?_
  have ih := a_X12_beside4 h0 a1 a2 a3 G0 pa1 hb2 hb3 28
  refine z_ok (fun _ _ ok => ?_)
  have oa2 : m_32 a2 := ok 2 _ rfl
  unfold m_32 at oa2
  have oa3 : m_32 a3 := ok 3 _ rfl
  unfold m_32 at oa3
  refine z_aload_n (M := M_X12_beside) 0 dX12_beside_0 rfl ?_
  refine z_getR (M := M_X12_beside) 1 dX12_beside_1 f_X12_94 o_108 rfl (g_108_40 G0) ?_
  refine z_aload_n (M := M_X12_beside) 4 dX12_beside_4 rfl ?_
  refine z_getR (M := M_X12_beside) 5 dX12_beside_5 f_X12_103 o_108 rfl (g_108_43 G0) ?_
  refine z_iload_n (M := M_X12_beside) 8 dX12_beside_8 rfl ?_
  refine z_iload_n (M := M_X12_beside) 9 dX12_beside_9 rfl ?_
  refine z_i2l (M := M_X12_beside) 10 dX12_beside_10 ?_
  refine z_sV (M := M_X12_beside) 11 dX12_beside_11 t_X12_wide l_X12_387 (m_rr_of rfl) (rest := []) (c_X12_wide20x h0 135 138 a1 a3 (Or.inl rfl) rfl G0 ⟨by omega, by omega⟩ ⟨by omega, by omega⟩) rfl rfl (Nat.le_of_ble_eq_true rfl) ⟨rfl, rfl⟩ (fun h1 qx1 => ?_)
  obtain ⟨G1, S1, d1_, w1_⟩ := qx1
  have R1 := (FR.rf (cs := [135, 136]) (ss := []) (h := h0)).call S1 (by decide +kernel)
  refine z_aload_n (M := M_X12_beside) 14 dX12_beside_14 rfl ?_
  refine z_getR (M := M_X12_beside) 15 dX12_beside_15 f_X12_97 o_108 rfl (g_108_41 G1) ?_
  refine z_aload_n (M := M_X12_beside) 18 dX12_beside_18 rfl ?_
  refine z_getR (M := M_X12_beside) 19 dX12_beside_19 f_X12_103 o_108 rfl (g_108_43 G1) ?_
  refine z_iload_n (M := M_X12_beside) 22 dX12_beside_22 rfl ?_
  refine z_iconst (M := M_X12_beside) 23 dX12_beside_23 ?_
  refine z_iaddN (M := M_X12_beside) 24 dX12_beside_24 (by omega) (by omega) ?_
  refine z_iload_n (M := M_X12_beside) 25 dX12_beside_25 rfl ?_
  refine z_i2l (M := M_X12_beside) 26 dX12_beside_26 ?_
  refine z_sV (M := M_X12_beside) 27 dX12_beside_27 t_X12_wide l_X12_387 (m_rr_of rfl) (rest := []) (c_X12_wide20x h1 136 138 (a1 + 5) a2 (Or.inr rfl) rfl G1 ⟨by omega, by omega⟩ ⟨by omega, by omega⟩) rfl rfl (Nat.le_of_ble_eq_true rfl) ⟨rfl, rfl⟩ (fun h2 qx2 => ?_)
  obtain ⟨G2, S2, d2_, w2_⟩ := qx2
  rw [(FR.row S1 (fun _ => rfl) : h1 138 = h0 138)] at w2_
  have r_ : h2 135 = h1 135 := FR.row S2 (fun _ => rfl)
  have R2 := R1.call S2 (by decide +kernel)
  refine z_bipush (M := M_X12_beside) 30 dX12_beside_30 ?_
  refine z_istore (M := M_X12_beside) 32 dX12_beside_32 (ls' := [some (mR 108), some (mI a1), some (mI a2), some (mI a3), some (mI 9)]) (by decide) rfl ?_
  exact z_mask [true, false, false, false, true] rfl (ih 9 h2 G2 R2 (by omega) (by omega) (by omega) (by omega) (by omega) (by omega) ⟨by rw [r_]; exact d1_, d2_, by rw [r_]; exact w1_, w2_, fun j z1 z2 => by omega⟩ (by omega))
abbrev P_X12_tells4 (h0 : m_H) (a1 a2 : Int) : Int → m_H → Prop := fun x h' => GI h' ∧ FR [135, 136] [] h0 h' ∧ 0 ≤ x ∧ x ≤ 2 ∧ tlF (eLo h0) (eHi h0) a1 a2 x
def q_X12_tells4 (h0 : m_H) (a1 a2 : Int) (n : Nat) : Prop := (∀ (l3 l4 k0 : Int) (h : m_H), GI h → FR [135, 136] [] h0 h → 1 ≤ l3 → l3 ≤ 2 → 1 ≤ l4 → l4 ≤ 197 → 1 ≤ k0 → k0 ≤ 199 → (l3 = ofK a2) → (l4 = loK a1 a2) → (k0 = hiK a1 a2) → (5) ≤ (n : Int) → m_Z oF M_X12_tells 51 [some (mR 108), none, some (mI a2), some (mI l3), some (mI l4), none, none, none, none, none, none, none, none] [mI k0] h (m_QI (P_X12_tells4 h0 a1 a2))) ∧ (∀ (l6 l7 l8 k0 : Int) (h : m_H), GI h → FR [135, 136] [] h0 h → (-1) ≤ l6 → l6 ≤ 1 → (-1) ≤ l7 → l7 ≤ 1 → (-1) ≤ l8 → l8 ≤ 1 → (-1) ≤ k0 → k0 ≤ 1 → (cmpQ l6 ((eLo h0).2.1 * ofK a2) ((eLo h0).1 * loK a1 a2)) → (cmpQ l7 ((eLo h0).2.1 * ofK a2) ((eLo h0).1 * hiK a1 a2)) → (cmpQ l8 ((eHi h0).1 * ofK a2) ((eHi h0).2.1 * loK a1 a2)) → (cmpQ k0 ((eHi h0).1 * ofK a2) ((eHi h0).2.1 * hiK a1 a2)) → (4) ≤ (n : Int) → m_Z oF M_X12_tells 137 [some (mR 108), none, some (mI a2), none, none, none, some (mI l6), some (mI l7), some (mI l8), none, none, none, none] [mI k0] h (m_QI (P_X12_tells4 h0 a1 a2))) ∧ (∀ (l6 l9 l10 : Int) (h : m_H), GI h → FR [135, 136] [] h0 h → (-1) ≤ l6 → l6 ≤ 1 → (-1) ≤ l9 → l9 ≤ 1 → 0 ≤ l10 → l10 ≤ 1 → (cmpQ l6 ((eLo h0).2.1 * ofK a2) ((eLo h0).1 * loK a1 a2)) → (cmpQ l9 ((eHi h0).1 * ofK a2) ((eHi h0).2.1 * hiK a1 a2)) → (l10 = 1 ↔ tlU (eLo h0) a1 a2) → (tlO (eHi h0) a1 a2) → (3) ≤ (n : Int) → m_Z oF M_X12_tells 184 [some (mR 108), none, some (mI a2), none, none, none, some (mI l6), none, none, some (mI l9), some (mI l10), none, none] [] h (m_QI (P_X12_tells4 h0 a1 a2))) ∧ (∀ (l6 l9 l10 : Int) (h : m_H), GI h → FR [135, 136] [] h0 h → (-1) ≤ l6 → l6 ≤ 1 → (-1) ≤ l9 → l9 ≤ 1 → 0 ≤ l10 → l10 ≤ 1 → (l10 = 1 ↔ tlU (eLo h0) a1 a2) → (¬ tlO (eHi h0) a1 a2) → (2) ≤ (n : Int) → m_Z oF M_X12_tells 188 [some (mR 108), none, some (mI a2), none, none, none, some (mI l6), none, none, some (mI l9), some (mI l10), none, none] [] h (m_QI (P_X12_tells4 h0 a1 a2))) ∧ (∀ (k0 : Int) (h : m_H), GI h → FR [135, 136] [] h0 h → 1 ≤ k0 → k0 ≤ 2 → (tlF (eLo h0) (eHi h0) a1 a2 k0) → (1) ≤ (n : Int) → m_Z oF M_X12_tells 246 [none, none, none, none, none, none, none, none, none, none, none, none, none] [mI k0] h (m_QI (P_X12_tells4 h0 a1 a2)))
set_option maxHeartbeats 4000000 in
set_option maxRecDepth 100000 in
theorem s_X12_tells4_51 (h0 : m_H) (a1 a2 : Int) (G0 : GI h0) (pa1 : 1 ≤ a1 ∧ a1 ≤ 99) (pa2 : 0 ≤ a2 ∧ a2 ≤ 2) (hE : eOk h0) (n : Nat) (ih : q_X12_tells4 h0 a1 a2 n) : ∀ (l3 l4 k0 : Int) (h : m_H), GI h → FR [135, 136] [] h0 h → 1 ≤ l3 → l3 ≤ 2 → 1 ≤ l4 → l4 ≤ 197 → 1 ≤ k0 → k0 ≤ 199 → (l3 = ofK a2) → (l4 = loK a1 a2) → (k0 = hiK a1 a2) → (5) ≤ ((n + 1 : Nat) : Int) → m_Z oF M_X12_tells 51 [some (mR 108), none, some (mI a2), some (mI l3), some (mI l4), none, none, none, none, none, none, none, none] [mI k0] h (m_QI (P_X12_tells4 h0 a1 a2)) := by
  intro l3 l4 k0 h G R v0 v1 v2 v3 v4 v5 i1 i2 i3 hr
  refine z_istore (M := M_X12_tells) 51 dX12_tells_51 (ls' := [some (mR 108), none, some (mI a2), some (mI l3), some (mI l4), some (mI k0), none, none, none, none, none, none, none]) (by decide) rfl ?_
  refine z_aload_n (M := M_X12_tells) 53 dX12_tells_53 rfl ?_
  refine z_getIG (M := M_X12_tells) 54 dX12_tells_54 f_X12_409 o_108 (by decide) (g_108_44 G) (fun x1 ex1 ax1 bx1 => ?_)
  refine z_if_eq (M := M_X12_tells) 57 dX12_tells_57 71 rfl (fun c2 => ?_) (fun c2 => ?_)
  · refine z_iconst (M := M_X12_tells) 71 dX12_tells_71 ?_
    refine z_istore (M := M_X12_tells) 72 dX12_tells_72 (ls' := [some (mR 108), none, some (mI a2), some (mI l3), some (mI l4), some (mI k0), some (mI (-1)), none, none, none, none, none, none]) (by decide) rfl ?_
    refine z_aload_n (M := M_X12_tells) 74 dX12_tells_74 rfl ?_
    refine z_getIE (M := M_X12_tells) 75 dX12_tells_75 f_X12_409 o_108 (by decide) ex1 ?_
    refine z_if_eq_T (M := M_X12_tells) 78 dX12_tells_78 92 rfl (by omega) ?_
    refine z_iconst (M := M_X12_tells) 92 dX12_tells_92 ?_
    refine z_istore (M := M_X12_tells) 93 dX12_tells_93 (ls' := [some (mR 108), none, some (mI a2), some (mI l3), some (mI l4), some (mI k0), some (mI (-1)), some (mI (-1)), none, none, none, none, none]) (by decide) rfl ?_
    refine z_aload_n (M := M_X12_tells) 95 dX12_tells_95 rfl ?_
    refine z_getIG (M := M_X12_tells) 96 dX12_tells_96 f_X12_415 o_108 (by decide) (g_108_45 G) (fun x3 ex3 ax3 bx3 => ?_)
    refine z_if_eq (M := M_X12_tells) 99 dX12_tells_99 114 rfl (fun c4 => ?_) (fun c4 => ?_)
    · refine z_iconst (M := M_X12_tells) 114 dX12_tells_114 ?_
      refine z_istore (M := M_X12_tells) 115 dX12_tells_115 (ls' := [some (mR 108), none, some (mI a2), some (mI l3), some (mI l4), some (mI k0), some (mI (-1)), some (mI (-1)), some (mI 1), none, none, none, none]) (by decide) rfl ?_
      refine z_aload_n (M := M_X12_tells) 117 dX12_tells_117 rfl ?_
      refine z_getIE (M := M_X12_tells) 118 dX12_tells_118 f_X12_415 o_108 (by decide) ex3 ?_
      refine z_if_eq_T (M := M_X12_tells) 121 dX12_tells_121 136 rfl (by omega) ?_
      refine z_iconst (M := M_X12_tells) 136 dX12_tells_136 ?_
      exact z_mask [true, false, true, false, false, false, true, true, true, false, false, false, false] rfl (ih.2.1 (-1) (-1) 1 1 h G R (by omega) (by omega) (by omega) (by omega) (by omega) (by omega) (by omega) (by omega) (tl_ln R ex1 (by omega) (by omega)) (tl_ln R ex1 (by omega) (by omega)) (tl_hn R ex3 (by omega) (by omega)) (tl_hn R ex3 (by omega) (by omega)) (by omega))
    · refine z_aload_n (M := M_X12_tells) 102 dX12_tells_102 rfl ?_
      refine z_bipush (M := M_X12_tells) 103 dX12_tells_103 ?_
      refine z_iload (M := M_X12_tells) 105 dX12_tells_105 rfl ?_
      refine z_iload_n (M := M_X12_tells) 107 dX12_tells_107 rfl ?_
      refine z_vI (M := M_X12_tells) 108 dX12_tells_108 t_X12_beside l_X12_421 (m_rr_of rfl) (rest := []) (c_X12_beside4 h 10 l4 l3 G ⟨by omega, by omega⟩ ⟨by omega, by omega⟩ ⟨by omega, by omega⟩) o_108 rfl rfl rfl (Nat.le_of_ble_eq_true rfl) ⟨rfl, rfl⟩ (fun x5 h1 qx5 => ?_)
      obtain ⟨G1, S1, ax5, bx5, fx5⟩ := qx5
      have R1 := R.call S1 (by decide +kernel)
      refine z_goto (M := M_X12_tells) 111 dX12_tells_111 115 rfl ?_
      refine z_istore (M := M_X12_tells) 115 dX12_tells_115 (ls' := [some (mR 108), none, some (mI a2), some (mI l3), some (mI l4), some (mI k0), some (mI (-1)), some (mI (-1)), some (mI x5), none, none, none, none]) (by decide) rfl ?_
      refine z_aload_n (M := M_X12_tells) 117 dX12_tells_117 rfl ?_
      refine z_getIE (M := M_X12_tells) 118 dX12_tells_118 f_X12_415 o_108 (by decide) ((S1 108 45 rfl).trans ex3) ?_
      refine z_if_eq_F (M := M_X12_tells) 121 dX12_tells_121 136 rfl (by omega) ?_
      refine z_aload_n (M := M_X12_tells) 124 dX12_tells_124 rfl ?_
      refine z_bipush (M := M_X12_tells) 125 dX12_tells_125 ?_
      refine z_iload (M := M_X12_tells) 127 dX12_tells_127 rfl ?_
      refine z_iload_n (M := M_X12_tells) 129 dX12_tells_129 rfl ?_
      refine z_vI (M := M_X12_tells) 130 dX12_tells_130 t_X12_beside l_X12_421 (m_rr_of rfl) (rest := []) (c_X12_beside4 h1 10 k0 l3 G1 ⟨by omega, by omega⟩ ⟨by omega, by omega⟩ ⟨by omega, by omega⟩) o_108 rfl rfl rfl (Nat.le_of_ble_eq_true rfl) ⟨rfl, rfl⟩ (fun x6 h2 qx6 => ?_)
      obtain ⟨G2, S2, ax6, bx6, fx6⟩ := qx6
      have R2 := R1.call S2 (by decide +kernel)
      refine z_goto (M := M_X12_tells) 133 dX12_tells_133 137 rfl ?_
      exact z_mask [true, false, true, false, false, false, true, true, true, false, false, false, false] rfl (ih.2.1 (-1) (-1) x5 x6 h2 G2 R2 (by omega) (by omega) (by omega) (by omega) (by omega) (by omega) (by omega) (by omega) (tl_ln R ex1 (by omega) (by omega)) (tl_ln R ex1 (by omega) (by omega)) (tl_hy R ex3 (by omega) R i1 i2 fx5) (tl_hy R ex3 (by omega) R1 i1 i3 fx6) (by omega))
  · refine z_aload_n (M := M_X12_tells) 60 dX12_tells_60 rfl ?_
    refine z_iconst (M := M_X12_tells) 61 dX12_tells_61 ?_
    refine z_iload (M := M_X12_tells) 62 dX12_tells_62 rfl ?_
    refine z_iload_n (M := M_X12_tells) 64 dX12_tells_64 rfl ?_
    refine z_vI (M := M_X12_tells) 65 dX12_tells_65 t_X12_beside l_X12_421 (m_rr_of rfl) (rest := []) (c_X12_beside4 h 0 l4 l3 G ⟨by omega, by omega⟩ ⟨by omega, by omega⟩ ⟨by omega, by omega⟩) o_108 rfl rfl rfl (Nat.le_of_ble_eq_true rfl) ⟨rfl, rfl⟩ (fun x7 h3 qx7 => ?_)
    obtain ⟨G3, S3, ax7, bx7, fx7⟩ := qx7
    have R3 := R.call S3 (by decide +kernel)
    refine z_goto (M := M_X12_tells) 68 dX12_tells_68 72 rfl ?_
    refine z_istore (M := M_X12_tells) 72 dX12_tells_72 (ls' := [some (mR 108), none, some (mI a2), some (mI l3), some (mI l4), some (mI k0), some (mI x7), none, none, none, none, none, none]) (by decide) rfl ?_
    refine z_aload_n (M := M_X12_tells) 74 dX12_tells_74 rfl ?_
    refine z_getIE (M := M_X12_tells) 75 dX12_tells_75 f_X12_409 o_108 (by decide) ((S3 108 44 rfl).trans ex1) ?_
    refine z_if_eq_F (M := M_X12_tells) 78 dX12_tells_78 92 rfl (by omega) ?_
    refine z_aload_n (M := M_X12_tells) 81 dX12_tells_81 rfl ?_
    refine z_iconst (M := M_X12_tells) 82 dX12_tells_82 ?_
    refine z_iload (M := M_X12_tells) 83 dX12_tells_83 rfl ?_
    refine z_iload_n (M := M_X12_tells) 85 dX12_tells_85 rfl ?_
    refine z_vI (M := M_X12_tells) 86 dX12_tells_86 t_X12_beside l_X12_421 (m_rr_of rfl) (rest := []) (c_X12_beside4 h3 0 k0 l3 G3 ⟨by omega, by omega⟩ ⟨by omega, by omega⟩ ⟨by omega, by omega⟩) o_108 rfl rfl rfl (Nat.le_of_ble_eq_true rfl) ⟨rfl, rfl⟩ (fun x8 h4 qx8 => ?_)
    obtain ⟨G4, S4, ax8, bx8, fx8⟩ := qx8
    have R4 := R3.call S4 (by decide +kernel)
    refine z_goto (M := M_X12_tells) 89 dX12_tells_89 93 rfl ?_
    refine z_istore (M := M_X12_tells) 93 dX12_tells_93 (ls' := [some (mR 108), none, some (mI a2), some (mI l3), some (mI l4), some (mI k0), some (mI x7), some (mI x8), none, none, none, none, none]) (by decide) rfl ?_
    refine z_aload_n (M := M_X12_tells) 95 dX12_tells_95 rfl ?_
    refine z_getIG (M := M_X12_tells) 96 dX12_tells_96 f_X12_415 o_108 (by decide) (g_108_45 G4) (fun x9 ex9 ax9 bx9 => ?_)
    refine z_if_eq (M := M_X12_tells) 99 dX12_tells_99 114 rfl (fun c10 => ?_) (fun c10 => ?_)
    · refine z_iconst (M := M_X12_tells) 114 dX12_tells_114 ?_
      refine z_istore (M := M_X12_tells) 115 dX12_tells_115 (ls' := [some (mR 108), none, some (mI a2), some (mI l3), some (mI l4), some (mI k0), some (mI x7), some (mI x8), some (mI 1), none, none, none, none]) (by decide) rfl ?_
      refine z_aload_n (M := M_X12_tells) 117 dX12_tells_117 rfl ?_
      refine z_getIE (M := M_X12_tells) 118 dX12_tells_118 f_X12_415 o_108 (by decide) ex9 ?_
      refine z_if_eq_T (M := M_X12_tells) 121 dX12_tells_121 136 rfl (by omega) ?_
      refine z_iconst (M := M_X12_tells) 136 dX12_tells_136 ?_
      exact z_mask [true, false, true, false, false, false, true, true, true, false, false, false, false] rfl (ih.2.1 x7 x8 1 1 h4 G4 R4 (by omega) (by omega) (by omega) (by omega) (by omega) (by omega) (by omega) (by omega) (tl_ly R ex1 (by omega) R i1 i2 fx7) (tl_ly R ex1 (by omega) R3 i1 i3 fx8) (tl_hn R4 ex9 (by omega) (by omega)) (tl_hn R4 ex9 (by omega) (by omega)) (by omega))
    · refine z_aload_n (M := M_X12_tells) 102 dX12_tells_102 rfl ?_
      refine z_bipush (M := M_X12_tells) 103 dX12_tells_103 ?_
      refine z_iload (M := M_X12_tells) 105 dX12_tells_105 rfl ?_
      refine z_iload_n (M := M_X12_tells) 107 dX12_tells_107 rfl ?_
      refine z_vI (M := M_X12_tells) 108 dX12_tells_108 t_X12_beside l_X12_421 (m_rr_of rfl) (rest := []) (c_X12_beside4 h4 10 l4 l3 G4 ⟨by omega, by omega⟩ ⟨by omega, by omega⟩ ⟨by omega, by omega⟩) o_108 rfl rfl rfl (Nat.le_of_ble_eq_true rfl) ⟨rfl, rfl⟩ (fun x11 h5 qx11 => ?_)
      obtain ⟨G5, S5, ax11, bx11, fx11⟩ := qx11
      have R5 := R4.call S5 (by decide +kernel)
      refine z_goto (M := M_X12_tells) 111 dX12_tells_111 115 rfl ?_
      refine z_istore (M := M_X12_tells) 115 dX12_tells_115 (ls' := [some (mR 108), none, some (mI a2), some (mI l3), some (mI l4), some (mI k0), some (mI x7), some (mI x8), some (mI x11), none, none, none, none]) (by decide) rfl ?_
      refine z_aload_n (M := M_X12_tells) 117 dX12_tells_117 rfl ?_
      refine z_getIE (M := M_X12_tells) 118 dX12_tells_118 f_X12_415 o_108 (by decide) ((S5 108 45 rfl).trans ex9) ?_
      refine z_if_eq_F (M := M_X12_tells) 121 dX12_tells_121 136 rfl (by omega) ?_
      refine z_aload_n (M := M_X12_tells) 124 dX12_tells_124 rfl ?_
      refine z_bipush (M := M_X12_tells) 125 dX12_tells_125 ?_
      refine z_iload (M := M_X12_tells) 127 dX12_tells_127 rfl ?_
      refine z_iload_n (M := M_X12_tells) 129 dX12_tells_129 rfl ?_
      refine z_vI (M := M_X12_tells) 130 dX12_tells_130 t_X12_beside l_X12_421 (m_rr_of rfl) (rest := []) (c_X12_beside4 h5 10 k0 l3 G5 ⟨by omega, by omega⟩ ⟨by omega, by omega⟩ ⟨by omega, by omega⟩) o_108 rfl rfl rfl (Nat.le_of_ble_eq_true rfl) ⟨rfl, rfl⟩ (fun x12 h6 qx12 => ?_)
      obtain ⟨G6, S6, ax12, bx12, fx12⟩ := qx12
      have R6 := R5.call S6 (by decide +kernel)
      refine z_goto (M := M_X12_tells) 133 dX12_tells_133 137 rfl ?_
      exact z_mask [true, false, true, false, false, false, true, true, true, false, false, false, false] rfl (ih.2.1 x7 x8 x11 x12 h6 G6 R6 (by omega) (by omega) (by omega) (by omega) (by omega) (by omega) (by omega) (by omega) (tl_ly R ex1 (by omega) R i1 i2 fx7) (tl_ly R ex1 (by omega) R3 i1 i3 fx8) (tl_hy R4 ex9 (by omega) R4 i1 i2 fx11) (tl_hy R4 ex9 (by omega) R5 i1 i3 fx12) (by omega))
set_option maxHeartbeats 4000000 in
set_option maxRecDepth 100000 in
theorem s_X12_tells4_137 (h0 : m_H) (a1 a2 : Int) (G0 : GI h0) (pa1 : 1 ≤ a1 ∧ a1 ≤ 99) (pa2 : 0 ≤ a2 ∧ a2 ≤ 2) (hE : eOk h0) (n : Nat) (ih : q_X12_tells4 h0 a1 a2 n) : ∀ (l6 l7 l8 k0 : Int) (h : m_H), GI h → FR [135, 136] [] h0 h → (-1) ≤ l6 → l6 ≤ 1 → (-1) ≤ l7 → l7 ≤ 1 → (-1) ≤ l8 → l8 ≤ 1 → (-1) ≤ k0 → k0 ≤ 1 → (cmpQ l6 ((eLo h0).2.1 * ofK a2) ((eLo h0).1 * loK a1 a2)) → (cmpQ l7 ((eLo h0).2.1 * ofK a2) ((eLo h0).1 * hiK a1 a2)) → (cmpQ l8 ((eHi h0).1 * ofK a2) ((eHi h0).2.1 * loK a1 a2)) → (cmpQ k0 ((eHi h0).1 * ofK a2) ((eHi h0).2.1 * hiK a1 a2)) → (4) ≤ ((n + 1 : Nat) : Int) → m_Z oF M_X12_tells 137 [some (mR 108), none, some (mI a2), none, none, none, some (mI l6), some (mI l7), some (mI l8), none, none, none, none] [mI k0] h (m_QI (P_X12_tells4 h0 a1 a2)) := by
  intro l6 l7 l8 k0 h G R v0 v1 v2 v3 v4 v5 v6 v7 i1 i2 i3 i4 hr
  refine z_istore (M := M_X12_tells) 137 dX12_tells_137 (ls' := [some (mR 108), none, some (mI a2), none, none, none, some (mI l6), some (mI l7), some (mI l8), some (mI k0), none, none, none]) (by decide) rfl ?_
  refine z_iload (M := M_X12_tells) 139 dX12_tells_139 rfl ?_
  refine z_if_lt (M := M_X12_tells) 141 dX12_tells_141 160 rfl (fun c1 => ?_) (fun c1 => ?_)
  · refine z_iconst (M := M_X12_tells) 160 dX12_tells_160 ?_
    refine z_goto (M := M_X12_tells) 161 dX12_tells_161 165 rfl ?_
    refine z_istore (M := M_X12_tells) 165 dX12_tells_165 (ls' := [some (mR 108), none, some (mI a2), none, none, none, some (mI l6), some (mI l7), some (mI l8), some (mI k0), some (mI 1), none, none]) (by decide) rfl ?_
    refine z_iload (M := M_X12_tells) 167 dX12_tells_167 rfl ?_
    refine z_if_gt (M := M_X12_tells) 169 dX12_tells_169 184 rfl (fun c2 => ?_) (fun c2 => ?_)
    · exact z_mask [true, false, true, false, false, false, true, false, false, true, true, false, false] rfl (ih.2.2.1 l6 k0 1 h G R (by omega) (by omega) (by omega) (by omega) (by omega) (by omega) i1 i4 ⟨fun _ => tu_1 i2 (by omega), fun _ => rfl⟩ (to_1 i3 (by omega)) (by omega))
    · refine z_iload (M := M_X12_tells) 172 dX12_tells_172 rfl ?_
      refine z_if_ne (M := M_X12_tells) 174 dX12_tells_174 188 rfl (fun c3 => ?_) (fun c3 => ?_)
      · exact z_mask [true, false, true, false, false, false, true, false, false, true, true, false, false] rfl (ih.2.2.2.1 l6 k0 1 h G R (by omega) (by omega) (by omega) (by omega) (by omega) (by omega) ⟨fun _ => tu_1 i2 (by omega), fun _ => rfl⟩ (to_n i3 (Or.inl (by omega))) (by omega))
      · refine z_aload_n (M := M_X12_tells) 177 dX12_tells_177 rfl ?_
        refine z_getIG (M := M_X12_tells) 178 dX12_tells_178 f_X12_418 o_108 (by decide) (g_108_47 G) (fun x4 ex4 ax4 bx4 => ?_)
        refine z_if_eq (M := M_X12_tells) 181 dX12_tells_181 188 rfl (fun c5 => ?_) (fun c5 => ?_)
        · exact z_mask [true, false, true, false, false, false, true, false, false, true, true, false, false] rfl (ih.2.2.2.1 l6 k0 1 h G R (by omega) (by omega) (by omega) (by omega) (by omega) (by omega) ⟨fun _ => tu_1 i2 (by omega), fun _ => rfl⟩ (to_n i3 (Or.inr ⟨by omega, eHi_c R ex4 (by omega)⟩)) (by omega))
        · exact z_mask [true, false, true, false, false, false, true, false, false, true, true, false, false] rfl (ih.2.2.1 l6 k0 1 h G R (by omega) (by omega) (by omega) (by omega) (by omega) (by omega) i1 i4 ⟨fun _ => tu_1 i2 (by omega), fun _ => rfl⟩ (to_2 i3 (by omega) (eHi_o R hE ex4 (by omega))) (by omega))
  · refine z_iload (M := M_X12_tells) 144 dX12_tells_144 rfl ?_
    refine z_if_ne (M := M_X12_tells) 146 dX12_tells_146 164 rfl (fun c6 => ?_) (fun c6 => ?_)
    · refine z_iconst (M := M_X12_tells) 164 dX12_tells_164 ?_
      refine z_istore (M := M_X12_tells) 165 dX12_tells_165 (ls' := [some (mR 108), none, some (mI a2), none, none, none, some (mI l6), some (mI l7), some (mI l8), some (mI k0), some (mI 0), none, none]) (by decide) rfl ?_
      refine z_iload (M := M_X12_tells) 167 dX12_tells_167 rfl ?_
      refine z_if_gt (M := M_X12_tells) 169 dX12_tells_169 184 rfl (fun c7 => ?_) (fun c7 => ?_)
      · exact z_mask [true, false, true, false, false, false, true, false, false, true, true, false, false] rfl (ih.2.2.1 l6 k0 0 h G R (by omega) (by omega) (by omega) (by omega) (by omega) (by omega) i1 i4 ⟨fun z => absurd z (by decide), fun z => absurd z (tu_n i2 (Or.inl (by omega)))⟩ (to_1 i3 (by omega)) (by omega))
      · refine z_iload (M := M_X12_tells) 172 dX12_tells_172 rfl ?_
        refine z_if_ne (M := M_X12_tells) 174 dX12_tells_174 188 rfl (fun c8 => ?_) (fun c8 => ?_)
        · exact z_mask [true, false, true, false, false, false, true, false, false, true, true, false, false] rfl (ih.2.2.2.1 l6 k0 0 h G R (by omega) (by omega) (by omega) (by omega) (by omega) (by omega) ⟨fun z => absurd z (by decide), fun z => absurd z (tu_n i2 (Or.inl (by omega)))⟩ (to_n i3 (Or.inl (by omega))) (by omega))
        · refine z_aload_n (M := M_X12_tells) 177 dX12_tells_177 rfl ?_
          refine z_getIG (M := M_X12_tells) 178 dX12_tells_178 f_X12_418 o_108 (by decide) (g_108_47 G) (fun x9 ex9 ax9 bx9 => ?_)
          refine z_if_eq (M := M_X12_tells) 181 dX12_tells_181 188 rfl (fun c10 => ?_) (fun c10 => ?_)
          · exact z_mask [true, false, true, false, false, false, true, false, false, true, true, false, false] rfl (ih.2.2.2.1 l6 k0 0 h G R (by omega) (by omega) (by omega) (by omega) (by omega) (by omega) ⟨fun z => absurd z (by decide), fun z => absurd z (tu_n i2 (Or.inl (by omega)))⟩ (to_n i3 (Or.inr ⟨by omega, eHi_c R ex9 (by omega)⟩)) (by omega))
          · exact z_mask [true, false, true, false, false, false, true, false, false, true, true, false, false] rfl (ih.2.2.1 l6 k0 0 h G R (by omega) (by omega) (by omega) (by omega) (by omega) (by omega) i1 i4 ⟨fun z => absurd z (by decide), fun z => absurd z (tu_n i2 (Or.inl (by omega)))⟩ (to_2 i3 (by omega) (eHi_o R hE ex9 (by omega))) (by omega))
    · refine z_iload_n (M := M_X12_tells) 149 dX12_tells_149 rfl ?_
      refine z_if_ne (M := M_X12_tells) 150 dX12_tells_150 164 rfl (fun c11 => ?_) (fun c11 => ?_)
      · refine z_iconst (M := M_X12_tells) 164 dX12_tells_164 ?_
        refine z_istore (M := M_X12_tells) 165 dX12_tells_165 (ls' := [some (mR 108), none, some (mI a2), none, none, none, some (mI l6), some (mI l7), some (mI l8), some (mI k0), some (mI 0), none, none]) (by decide) rfl ?_
        refine z_iload (M := M_X12_tells) 167 dX12_tells_167 rfl ?_
        refine z_if_gt (M := M_X12_tells) 169 dX12_tells_169 184 rfl (fun c12 => ?_) (fun c12 => ?_)
        · exact z_mask [true, false, true, false, false, false, true, false, false, true, true, false, false] rfl (ih.2.2.1 l6 k0 0 h G R (by omega) (by omega) (by omega) (by omega) (by omega) (by omega) i1 i4 ⟨fun z => absurd z (by decide), fun z => absurd z (tu_n i2 (Or.inr ⟨by omega, Or.inl (by omega)⟩))⟩ (to_1 i3 (by omega)) (by omega))
        · refine z_iload (M := M_X12_tells) 172 dX12_tells_172 rfl ?_
          refine z_if_ne (M := M_X12_tells) 174 dX12_tells_174 188 rfl (fun c13 => ?_) (fun c13 => ?_)
          · exact z_mask [true, false, true, false, false, false, true, false, false, true, true, false, false] rfl (ih.2.2.2.1 l6 k0 0 h G R (by omega) (by omega) (by omega) (by omega) (by omega) (by omega) ⟨fun z => absurd z (by decide), fun z => absurd z (tu_n i2 (Or.inr ⟨by omega, Or.inl (by omega)⟩))⟩ (to_n i3 (Or.inl (by omega))) (by omega))
          · refine z_aload_n (M := M_X12_tells) 177 dX12_tells_177 rfl ?_
            refine z_getIG (M := M_X12_tells) 178 dX12_tells_178 f_X12_418 o_108 (by decide) (g_108_47 G) (fun x14 ex14 ax14 bx14 => ?_)
            refine z_if_eq (M := M_X12_tells) 181 dX12_tells_181 188 rfl (fun c15 => ?_) (fun c15 => ?_)
            · exact z_mask [true, false, true, false, false, false, true, false, false, true, true, false, false] rfl (ih.2.2.2.1 l6 k0 0 h G R (by omega) (by omega) (by omega) (by omega) (by omega) (by omega) ⟨fun z => absurd z (by decide), fun z => absurd z (tu_n i2 (Or.inr ⟨by omega, Or.inl (by omega)⟩))⟩ (to_n i3 (Or.inr ⟨by omega, eHi_c R ex14 (by omega)⟩)) (by omega))
            · exact z_mask [true, false, true, false, false, false, true, false, false, true, true, false, false] rfl (ih.2.2.1 l6 k0 0 h G R (by omega) (by omega) (by omega) (by omega) (by omega) (by omega) i1 i4 ⟨fun z => absurd z (by decide), fun z => absurd z (tu_n i2 (Or.inr ⟨by omega, Or.inl (by omega)⟩))⟩ (to_2 i3 (by omega) (eHi_o R hE ex14 (by omega))) (by omega))
      · refine z_aload_n (M := M_X12_tells) 153 dX12_tells_153 rfl ?_
        refine z_getIG (M := M_X12_tells) 154 dX12_tells_154 f_X12_412 o_108 (by decide) (g_108_46 G) (fun x16 ex16 ax16 bx16 => ?_)
        refine z_if_eq (M := M_X12_tells) 157 dX12_tells_157 164 rfl (fun c17 => ?_) (fun c17 => ?_)
        · refine z_iconst (M := M_X12_tells) 164 dX12_tells_164 ?_
          refine z_istore (M := M_X12_tells) 165 dX12_tells_165 (ls' := [some (mR 108), none, some (mI a2), none, none, none, some (mI l6), some (mI l7), some (mI l8), some (mI k0), some (mI 0), none, none]) (by decide) rfl ?_
          refine z_iload (M := M_X12_tells) 167 dX12_tells_167 rfl ?_
          refine z_if_gt (M := M_X12_tells) 169 dX12_tells_169 184 rfl (fun c18 => ?_) (fun c18 => ?_)
          · exact z_mask [true, false, true, false, false, false, true, false, false, true, true, false, false] rfl (ih.2.2.1 l6 k0 0 h G R (by omega) (by omega) (by omega) (by omega) (by omega) (by omega) i1 i4 ⟨fun z => absurd z (by decide), fun z => absurd z (tu_n i2 (Or.inr ⟨by omega, Or.inr (eLo_c R ex16 (by omega))⟩))⟩ (to_1 i3 (by omega)) (by omega))
          · refine z_iload (M := M_X12_tells) 172 dX12_tells_172 rfl ?_
            refine z_if_ne (M := M_X12_tells) 174 dX12_tells_174 188 rfl (fun c19 => ?_) (fun c19 => ?_)
            · exact z_mask [true, false, true, false, false, false, true, false, false, true, true, false, false] rfl (ih.2.2.2.1 l6 k0 0 h G R (by omega) (by omega) (by omega) (by omega) (by omega) (by omega) ⟨fun z => absurd z (by decide), fun z => absurd z (tu_n i2 (Or.inr ⟨by omega, Or.inr (eLo_c R ex16 (by omega))⟩))⟩ (to_n i3 (Or.inl (by omega))) (by omega))
            · refine z_aload_n (M := M_X12_tells) 177 dX12_tells_177 rfl ?_
              refine z_getIG (M := M_X12_tells) 178 dX12_tells_178 f_X12_418 o_108 (by decide) (g_108_47 G) (fun x20 ex20 ax20 bx20 => ?_)
              refine z_if_eq (M := M_X12_tells) 181 dX12_tells_181 188 rfl (fun c21 => ?_) (fun c21 => ?_)
              · exact z_mask [true, false, true, false, false, false, true, false, false, true, true, false, false] rfl (ih.2.2.2.1 l6 k0 0 h G R (by omega) (by omega) (by omega) (by omega) (by omega) (by omega) ⟨fun z => absurd z (by decide), fun z => absurd z (tu_n i2 (Or.inr ⟨by omega, Or.inr (eLo_c R ex16 (by omega))⟩))⟩ (to_n i3 (Or.inr ⟨by omega, eHi_c R ex20 (by omega)⟩)) (by omega))
              · exact z_mask [true, false, true, false, false, false, true, false, false, true, true, false, false] rfl (ih.2.2.1 l6 k0 0 h G R (by omega) (by omega) (by omega) (by omega) (by omega) (by omega) i1 i4 ⟨fun z => absurd z (by decide), fun z => absurd z (tu_n i2 (Or.inr ⟨by omega, Or.inr (eLo_c R ex16 (by omega))⟩))⟩ (to_2 i3 (by omega) (eHi_o R hE ex20 (by omega))) (by omega))
        · refine z_iconst (M := M_X12_tells) 160 dX12_tells_160 ?_
          refine z_goto (M := M_X12_tells) 161 dX12_tells_161 165 rfl ?_
          refine z_istore (M := M_X12_tells) 165 dX12_tells_165 (ls' := [some (mR 108), none, some (mI a2), none, none, none, some (mI l6), some (mI l7), some (mI l8), some (mI k0), some (mI 1), none, none]) (by decide) rfl ?_
          refine z_iload (M := M_X12_tells) 167 dX12_tells_167 rfl ?_
          refine z_if_gt (M := M_X12_tells) 169 dX12_tells_169 184 rfl (fun c22 => ?_) (fun c22 => ?_)
          · exact z_mask [true, false, true, false, false, false, true, false, false, true, true, false, false] rfl (ih.2.2.1 l6 k0 1 h G R (by omega) (by omega) (by omega) (by omega) (by omega) (by omega) i1 i4 ⟨fun _ => tu_2 i2 (by omega) (by omega) (eLo_o R hE ex16 (by omega)), fun _ => rfl⟩ (to_1 i3 (by omega)) (by omega))
          · refine z_iload (M := M_X12_tells) 172 dX12_tells_172 rfl ?_
            refine z_if_ne (M := M_X12_tells) 174 dX12_tells_174 188 rfl (fun c23 => ?_) (fun c23 => ?_)
            · exact z_mask [true, false, true, false, false, false, true, false, false, true, true, false, false] rfl (ih.2.2.2.1 l6 k0 1 h G R (by omega) (by omega) (by omega) (by omega) (by omega) (by omega) ⟨fun _ => tu_2 i2 (by omega) (by omega) (eLo_o R hE ex16 (by omega)), fun _ => rfl⟩ (to_n i3 (Or.inl (by omega))) (by omega))
            · refine z_aload_n (M := M_X12_tells) 177 dX12_tells_177 rfl ?_
              refine z_getIG (M := M_X12_tells) 178 dX12_tells_178 f_X12_418 o_108 (by decide) (g_108_47 G) (fun x24 ex24 ax24 bx24 => ?_)
              refine z_if_eq (M := M_X12_tells) 181 dX12_tells_181 188 rfl (fun c25 => ?_) (fun c25 => ?_)
              · exact z_mask [true, false, true, false, false, false, true, false, false, true, true, false, false] rfl (ih.2.2.2.1 l6 k0 1 h G R (by omega) (by omega) (by omega) (by omega) (by omega) (by omega) ⟨fun _ => tu_2 i2 (by omega) (by omega) (eLo_o R hE ex16 (by omega)), fun _ => rfl⟩ (to_n i3 (Or.inr ⟨by omega, eHi_c R ex24 (by omega)⟩)) (by omega))
              · exact z_mask [true, false, true, false, false, false, true, false, false, true, true, false, false] rfl (ih.2.2.1 l6 k0 1 h G R (by omega) (by omega) (by omega) (by omega) (by omega) (by omega) i1 i4 ⟨fun _ => tu_2 i2 (by omega) (by omega) (eLo_o R hE ex16 (by omega)), fun _ => rfl⟩ (to_2 i3 (by omega) (eHi_o R hE ex24 (by omega))) (by omega))
set_option maxHeartbeats 4000000 in
set_option maxRecDepth 100000 in
theorem s_X12_tells4_184 (h0 : m_H) (a1 a2 : Int) (G0 : GI h0) (pa1 : 1 ≤ a1 ∧ a1 ≤ 99) (pa2 : 0 ≤ a2 ∧ a2 ≤ 2) (hE : eOk h0) (n : Nat) (ih : q_X12_tells4 h0 a1 a2 n) : ∀ (l6 l9 l10 : Int) (h : m_H), GI h → FR [135, 136] [] h0 h → (-1) ≤ l6 → l6 ≤ 1 → (-1) ≤ l9 → l9 ≤ 1 → 0 ≤ l10 → l10 ≤ 1 → (cmpQ l6 ((eLo h0).2.1 * ofK a2) ((eLo h0).1 * loK a1 a2)) → (cmpQ l9 ((eHi h0).1 * ofK a2) ((eHi h0).2.1 * hiK a1 a2)) → (l10 = 1 ↔ tlU (eLo h0) a1 a2) → (tlO (eHi h0) a1 a2) → (3) ≤ ((n + 1 : Nat) : Int) → m_Z oF M_X12_tells 184 [some (mR 108), none, some (mI a2), none, none, none, some (mI l6), none, none, some (mI l9), some (mI l10), none, none] [] h (m_QI (P_X12_tells4 h0 a1 a2)) := by
  intro l6 l9 l10 h G R v0 v1 v2 v3 v4 v5 i1 i2 i3 i4 hr
  refine z_iconst (M := M_X12_tells) 184 dX12_tells_184 ?_
  refine z_goto (M := M_X12_tells) 185 dX12_tells_185 189 rfl ?_
  refine z_istore (M := M_X12_tells) 189 dX12_tells_189 (ls' := [some (mR 108), none, some (mI a2), none, none, none, some (mI l6), none, none, some (mI l9), some (mI l10), some (mI 1), none]) (by decide) rfl ?_
  refine z_iload (M := M_X12_tells) 191 dX12_tells_191 rfl ?_
  refine z_if_eq (M := M_X12_tells) 193 dX12_tells_193 201 rfl (fun c1 => ?_) (fun c1 => ?_)
  · refine z_iconst (M := M_X12_tells) 201 dX12_tells_201 ?_
    exact z_retI (M := M_X12_tells) 202 dX12_tells_202 rfl ⟨G, R, by omega, by omega, Or.inl ⟨fun z => absurd (i3.mpr z.1) (by omega), rfl⟩⟩
  · refine z_iload (M := M_X12_tells) 196 dX12_tells_196 rfl ?_
    refine z_if_ne_T (M := M_X12_tells) 198 dX12_tells_198 203 rfl (by omega) ?_
    refine z_iload (M := M_X12_tells) 203 dX12_tells_203 rfl ?_
    refine z_if_lt (M := M_X12_tells) 205 dX12_tells_205 233 rfl (fun c2 => ?_) (fun c2 => ?_)
    · refine z_iconst (M := M_X12_tells) 233 dX12_tells_233 ?_
      refine z_istore (M := M_X12_tells) 234 dX12_tells_234 (ls' := [some (mR 108), none, some (mI a2), none, none, none, some (mI l6), none, none, some (mI l9), some (mI l10), some (mI 1), some (mI 0)]) (by decide) rfl ?_
      refine z_iload (M := M_X12_tells) 236 dX12_tells_236 rfl ?_
      refine z_if_eq_T (M := M_X12_tells) 238 dX12_tells_238 245 rfl (by omega) ?_
      refine z_iconst (M := M_X12_tells) 245 dX12_tells_245 ?_
      exact z_mask [false, false, false, false, false, false, false, false, false, false, false, false, false] rfl (ih.2.2.2.2 2 h G R (by omega) (by omega) (Or.inr ⟨⟨i3.mp (by omega), i4⟩, Or.inr ⟨ti_n1 i1 (by omega), rfl⟩⟩) (by omega))
    · refine z_iload (M := M_X12_tells) 208 dX12_tells_208 rfl ?_
      refine z_if_lt (M := M_X12_tells) 210 dX12_tells_210 229 rfl (fun c3 => ?_) (fun c3 => ?_)
      · refine z_iconst (M := M_X12_tells) 229 dX12_tells_229 ?_
        refine z_goto (M := M_X12_tells) 230 dX12_tells_230 234 rfl ?_
        refine z_istore (M := M_X12_tells) 234 dX12_tells_234 (ls' := [some (mR 108), none, some (mI a2), none, none, none, some (mI l6), none, none, some (mI l9), some (mI l10), some (mI 1), some (mI 1)]) (by decide) rfl ?_
        refine z_iload (M := M_X12_tells) 236 dX12_tells_236 rfl ?_
        refine z_if_eq_F (M := M_X12_tells) 238 dX12_tells_238 245 rfl (by omega) ?_
        refine z_iconst (M := M_X12_tells) 241 dX12_tells_241 ?_
        refine z_goto (M := M_X12_tells) 242 dX12_tells_242 246 rfl ?_
        exact z_mask [false, false, false, false, false, false, false, false, false, false, false, false, false] rfl (ih.2.2.2.2 1 h G R (by omega) (by omega) (Or.inr ⟨⟨i3.mp (by omega), i4⟩, Or.inl ⟨ti_y i1 (by omega) i2 (Or.inl (by omega)), rfl⟩⟩) (by omega))
      · refine z_iload (M := M_X12_tells) 213 dX12_tells_213 rfl ?_
        refine z_if_ne (M := M_X12_tells) 215 dX12_tells_215 233 rfl (fun c4 => ?_) (fun c4 => ?_)
        · refine z_iconst (M := M_X12_tells) 233 dX12_tells_233 ?_
          refine z_istore (M := M_X12_tells) 234 dX12_tells_234 (ls' := [some (mR 108), none, some (mI a2), none, none, none, some (mI l6), none, none, some (mI l9), some (mI l10), some (mI 1), some (mI 0)]) (by decide) rfl ?_
          refine z_iload (M := M_X12_tells) 236 dX12_tells_236 rfl ?_
          refine z_if_eq_T (M := M_X12_tells) 238 dX12_tells_238 245 rfl (by omega) ?_
          refine z_iconst (M := M_X12_tells) 245 dX12_tells_245 ?_
          exact z_mask [false, false, false, false, false, false, false, false, false, false, false, false, false] rfl (ih.2.2.2.2 2 h G R (by omega) (by omega) (Or.inr ⟨⟨i3.mp (by omega), i4⟩, Or.inr ⟨ti_n2 i2 (Or.inl (by omega)), rfl⟩⟩) (by omega))
        · refine z_iload_n (M := M_X12_tells) 218 dX12_tells_218 rfl ?_
          refine z_if_eq (M := M_X12_tells) 219 dX12_tells_219 229 rfl (fun c5 => ?_) (fun c5 => ?_)
          · refine z_iconst (M := M_X12_tells) 229 dX12_tells_229 ?_
            refine z_goto (M := M_X12_tells) 230 dX12_tells_230 234 rfl ?_
            refine z_istore (M := M_X12_tells) 234 dX12_tells_234 (ls' := [some (mR 108), none, some (mI a2), none, none, none, some (mI l6), none, none, some (mI l9), some (mI l10), some (mI 1), some (mI 1)]) (by decide) rfl ?_
            refine z_iload (M := M_X12_tells) 236 dX12_tells_236 rfl ?_
            refine z_if_eq_F (M := M_X12_tells) 238 dX12_tells_238 245 rfl (by omega) ?_
            refine z_iconst (M := M_X12_tells) 241 dX12_tells_241 ?_
            refine z_goto (M := M_X12_tells) 242 dX12_tells_242 246 rfl ?_
            exact z_mask [false, false, false, false, false, false, false, false, false, false, false, false, false] rfl (ih.2.2.2.2 1 h G R (by omega) (by omega) (Or.inr ⟨⟨i3.mp (by omega), i4⟩, Or.inl ⟨ti_y i1 (by omega) i2 (Or.inr ⟨by omega, Or.inl (by omega)⟩), rfl⟩⟩) (by omega))
          · refine z_aload_n (M := M_X12_tells) 222 dX12_tells_222 rfl ?_
            refine z_getIG (M := M_X12_tells) 223 dX12_tells_223 f_X12_418 o_108 (by decide) (g_108_47 G) (fun x6 ex6 ax6 bx6 => ?_)
            refine z_if_ne (M := M_X12_tells) 226 dX12_tells_226 233 rfl (fun c7 => ?_) (fun c7 => ?_)
            · refine z_iconst (M := M_X12_tells) 233 dX12_tells_233 ?_
              refine z_istore (M := M_X12_tells) 234 dX12_tells_234 (ls' := [some (mR 108), none, some (mI a2), none, none, none, some (mI l6), none, none, some (mI l9), some (mI l10), some (mI 1), some (mI 0)]) (by decide) rfl ?_
              refine z_iload (M := M_X12_tells) 236 dX12_tells_236 rfl ?_
              refine z_if_eq_T (M := M_X12_tells) 238 dX12_tells_238 245 rfl (by omega) ?_
              refine z_iconst (M := M_X12_tells) 245 dX12_tells_245 ?_
              exact z_mask [false, false, false, false, false, false, false, false, false, false, false, false, false] rfl (ih.2.2.2.2 2 h G R (by omega) (by omega) (Or.inr ⟨⟨i3.mp (by omega), i4⟩, Or.inr ⟨ti_n2 i2 (Or.inr ⟨by omega, by omega, eHi_o R hE ex6 (by omega)⟩), rfl⟩⟩) (by omega))
            · refine z_iconst (M := M_X12_tells) 229 dX12_tells_229 ?_
              refine z_goto (M := M_X12_tells) 230 dX12_tells_230 234 rfl ?_
              refine z_istore (M := M_X12_tells) 234 dX12_tells_234 (ls' := [some (mR 108), none, some (mI a2), none, none, none, some (mI l6), none, none, some (mI l9), some (mI l10), some (mI 1), some (mI 1)]) (by decide) rfl ?_
              refine z_iload (M := M_X12_tells) 236 dX12_tells_236 rfl ?_
              refine z_if_eq_F (M := M_X12_tells) 238 dX12_tells_238 245 rfl (by omega) ?_
              refine z_iconst (M := M_X12_tells) 241 dX12_tells_241 ?_
              refine z_goto (M := M_X12_tells) 242 dX12_tells_242 246 rfl ?_
              exact z_mask [false, false, false, false, false, false, false, false, false, false, false, false, false] rfl (ih.2.2.2.2 1 h G R (by omega) (by omega) (Or.inr ⟨⟨i3.mp (by omega), i4⟩, Or.inl ⟨ti_y i1 (by omega) i2 (Or.inr ⟨by omega, Or.inr (eHi_c R ex6 (by omega))⟩), rfl⟩⟩) (by omega))
set_option maxHeartbeats 4000000 in
set_option maxRecDepth 100000 in
theorem s_X12_tells4_188 (h0 : m_H) (a1 a2 : Int) (G0 : GI h0) (pa1 : 1 ≤ a1 ∧ a1 ≤ 99) (pa2 : 0 ≤ a2 ∧ a2 ≤ 2) (hE : eOk h0) (n : Nat) (ih : q_X12_tells4 h0 a1 a2 n) : ∀ (l6 l9 l10 : Int) (h : m_H), GI h → FR [135, 136] [] h0 h → (-1) ≤ l6 → l6 ≤ 1 → (-1) ≤ l9 → l9 ≤ 1 → 0 ≤ l10 → l10 ≤ 1 → (l10 = 1 ↔ tlU (eLo h0) a1 a2) → (¬ tlO (eHi h0) a1 a2) → (2) ≤ ((n + 1 : Nat) : Int) → m_Z oF M_X12_tells 188 [some (mR 108), none, some (mI a2), none, none, none, some (mI l6), none, none, some (mI l9), some (mI l10), none, none] [] h (m_QI (P_X12_tells4 h0 a1 a2)) := by
  intro l6 l9 l10 h G R v0 v1 v2 v3 v4 v5 i1 i2 hr
  refine z_iconst (M := M_X12_tells) 188 dX12_tells_188 ?_
  refine z_istore (M := M_X12_tells) 189 dX12_tells_189 (ls' := [some (mR 108), none, some (mI a2), none, none, none, some (mI l6), none, none, some (mI l9), some (mI l10), some (mI 0), none]) (by decide) rfl ?_
  refine z_iload (M := M_X12_tells) 191 dX12_tells_191 rfl ?_
  refine z_if_eq (M := M_X12_tells) 193 dX12_tells_193 201 rfl (fun c1 => ?_) (fun c1 => ?_)
  · refine z_iconst (M := M_X12_tells) 201 dX12_tells_201 ?_
    exact z_retI (M := M_X12_tells) 202 dX12_tells_202 rfl ⟨G, R, by omega, by omega, Or.inl ⟨fun z => absurd (i1.mpr z.1) (by omega), rfl⟩⟩
  · refine z_iload (M := M_X12_tells) 196 dX12_tells_196 rfl ?_
    refine z_if_ne_F (M := M_X12_tells) 198 dX12_tells_198 203 rfl (by omega) ?_
    refine z_iconst (M := M_X12_tells) 201 dX12_tells_201 ?_
    exact z_retI (M := M_X12_tells) 202 dX12_tells_202 rfl ⟨G, R, by omega, by omega, Or.inl ⟨fun z => i2 z.2, rfl⟩⟩
set_option maxHeartbeats 4000000 in
set_option maxRecDepth 100000 in
theorem s_X12_tells4_246 (h0 : m_H) (a1 a2 : Int) (G0 : GI h0) (pa1 : 1 ≤ a1 ∧ a1 ≤ 99) (pa2 : 0 ≤ a2 ∧ a2 ≤ 2) (hE : eOk h0) (n : Nat) (ih : q_X12_tells4 h0 a1 a2 n) : ∀ (k0 : Int) (h : m_H), GI h → FR [135, 136] [] h0 h → 1 ≤ k0 → k0 ≤ 2 → (tlF (eLo h0) (eHi h0) a1 a2 k0) → (1) ≤ ((n + 1 : Nat) : Int) → m_Z oF M_X12_tells 246 [none, none, none, none, none, none, none, none, none, none, none, none, none] [mI k0] h (m_QI (P_X12_tells4 h0 a1 a2)) := by
  intro k0 h G R v0 v1 i1 hr
  exact z_retI (M := M_X12_tells) 246 dX12_tells_246 rfl ⟨G, R, by omega, by omega, i1⟩
theorem a_X12_tells4 (h0 : m_H) (a1 a2 : Int) (G0 : GI h0) (pa1 : 1 ≤ a1 ∧ a1 ≤ 99) (pa2 : 0 ≤ a2 ∧ a2 ≤ 2) (hE : eOk h0) : ∀ n, q_X12_tells4 h0 a1 a2 n := by
  intro n
  induction n with
  | zero => unfold q_X12_tells4; refine ⟨?_, ?_, ?_, ?_, ?_⟩ <;> (intros; omega)
  | succ n ih => exact ⟨s_X12_tells4_51 h0 a1 a2 G0 pa1 pa2 hE n ih, s_X12_tells4_137 h0 a1 a2 G0 pa1 pa2 hE n ih, s_X12_tells4_184 h0 a1 a2 G0 pa1 pa2 hE n ih, s_X12_tells4_188 h0 a1 a2 G0 pa1 pa2 hE n ih, s_X12_tells4_246 h0 a1 a2 G0 pa1 pa2 hE n ih⟩
set_option maxHeartbeats 4000000 in
set_option maxRecDepth 100000 in
theorem c_X12_tells4 (h0 : m_H) (a1 a2 : Int) (G0 : GI h0) (pa1 : 1 ≤ a1 ∧ a1 ≤ 99) (pa2 : 0 ≤ a2 ∧ a2 ≤ 2) (hE : eOk h0) : m_CI M_X12_tells [mR 108, mI a1, mI a2] h0 (P_X12_tells4 h0 a1 a2) := by
  refine m_CI_of ⟨by decide, rfl, by simp [m_arg, m_isL, M_X12_tells], ⟨rfl, rfl⟩, rfl, rfl⟩ (ls := [some (mR 108), some (mI a1), some (mI a2), none, none, none, none, none, none, none, none, none, none]) rfl ?_
  have ih := a_X12_tells4 h0 a1 a2 G0 pa1 pa2 hE 10
  refine z_iload_n (M := M_X12_tells) 0 dX12_tells_0 rfl ?_
  refine z_iconst (M := M_X12_tells) 1 dX12_tells_1 ?_
  refine z_icmp_ne (M := M_X12_tells) 2 dX12_tells_2 9 rfl (fun c1 => ?_) (fun c1 => ?_)
  · refine z_iconst (M := M_X12_tells) 9 dX12_tells_9 ?_
    refine z_istore_n (M := M_X12_tells) 10 dX12_tells_10 (ls' := [some (mR 108), some (mI a1), some (mI a2), some (mI 1), none, none, none, none, none, none, none, none, none]) (by decide) rfl ?_
    refine z_iload_n (M := M_X12_tells) 11 dX12_tells_11 rfl ?_
    refine z_iconst (M := M_X12_tells) 12 dX12_tells_12 ?_
    refine z_icmp_ne_T (M := M_X12_tells) 13 dX12_tells_13 24 rfl (by omega) ?_
    refine z_iload_n (M := M_X12_tells) 24 dX12_tells_24 rfl ?_
    refine z_istore (M := M_X12_tells) 25 dX12_tells_25 (ls' := [some (mR 108), some (mI a1), some (mI a2), some (mI 1), some (mI a1), none, none, none, none, none, none, none, none]) (by decide) rfl ?_
    refine z_iload_n (M := M_X12_tells) 27 dX12_tells_27 rfl ?_
    refine z_if_ne (M := M_X12_tells) 28 dX12_tells_28 35 rfl (fun c2 => ?_) (fun c2 => ?_)
    · refine z_iload_n (M := M_X12_tells) 35 dX12_tells_35 rfl ?_
      refine z_iconst (M := M_X12_tells) 36 dX12_tells_36 ?_
      refine z_icmp_ne_F (M := M_X12_tells) 37 dX12_tells_37 46 rfl (by omega) ?_
      refine z_iload_n (M := M_X12_tells) 40 dX12_tells_40 rfl ?_
      refine z_iconst (M := M_X12_tells) 41 dX12_tells_41 ?_
      refine z_iaddN (M := M_X12_tells) 42 dX12_tells_42 (by omega) (by omega) ?_
      refine z_goto (M := M_X12_tells) 43 dX12_tells_43 51 rfl ?_
      exact z_mask [true, false, true, true, true, false, false, false, false, false, false, false, false] rfl (ih.1 1 a1 (a1 + 1) h0 G0 (FR.rf (cs := [135, 136]) (ss := []) (h := h0)) (by omega) (by omega) (by omega) (by omega) (by omega) (by omega) (by unfold ofK; split <;> omega) (by unfold loK; split <;> omega) (by unfold hiK; split <;> (try split) <;> omega) (by omega))
    · refine z_iload_n (M := M_X12_tells) 31 dX12_tells_31 rfl ?_
      refine z_goto (M := M_X12_tells) 32 dX12_tells_32 51 rfl ?_
      exact z_mask [true, false, true, true, true, false, false, false, false, false, false, false, false] rfl (ih.1 1 a1 a1 h0 G0 (FR.rf (cs := [135, 136]) (ss := []) (h := h0)) (by omega) (by omega) (by omega) (by omega) (by omega) (by omega) (by unfold ofK; split <;> omega) (by unfold loK; split <;> omega) (by unfold hiK; split <;> (try split) <;> omega) (by omega))
  · refine z_iconst (M := M_X12_tells) 5 dX12_tells_5 ?_
    refine z_goto (M := M_X12_tells) 6 dX12_tells_6 10 rfl ?_
    refine z_istore_n (M := M_X12_tells) 10 dX12_tells_10 (ls' := [some (mR 108), some (mI a1), some (mI a2), some (mI 2), none, none, none, none, none, none, none, none, none]) (by decide) rfl ?_
    refine z_iload_n (M := M_X12_tells) 11 dX12_tells_11 rfl ?_
    refine z_iconst (M := M_X12_tells) 12 dX12_tells_12 ?_
    refine z_icmp_ne_F (M := M_X12_tells) 13 dX12_tells_13 24 rfl (by omega) ?_
    refine z_iconst (M := M_X12_tells) 16 dX12_tells_16 ?_
    refine z_iload_n (M := M_X12_tells) 17 dX12_tells_17 rfl ?_
    refine z_imulN (M := M_X12_tells) 18 dX12_tells_18 (by omega) (by omega) ?_
    refine z_iconst (M := M_X12_tells) 19 dX12_tells_19 ?_
    refine z_isubN (M := M_X12_tells) 20 dX12_tells_20 (by omega) (by omega) ?_
    refine z_goto (M := M_X12_tells) 21 dX12_tells_21 25 rfl ?_
    refine z_istore (M := M_X12_tells) 25 dX12_tells_25 (ls' := [some (mR 108), some (mI a1), some (mI a2), some (mI 2), some (mI ((2 * a1) - 1)), none, none, none, none, none, none, none, none]) (by decide) rfl ?_
    refine z_iload_n (M := M_X12_tells) 27 dX12_tells_27 rfl ?_
    refine z_if_ne_T (M := M_X12_tells) 28 dX12_tells_28 35 rfl (by omega) ?_
    refine z_iload_n (M := M_X12_tells) 35 dX12_tells_35 rfl ?_
    refine z_iconst (M := M_X12_tells) 36 dX12_tells_36 ?_
    refine z_icmp_ne_T (M := M_X12_tells) 37 dX12_tells_37 46 rfl (by omega) ?_
    refine z_iconst (M := M_X12_tells) 46 dX12_tells_46 ?_
    refine z_iload_n (M := M_X12_tells) 47 dX12_tells_47 rfl ?_
    refine z_imulN (M := M_X12_tells) 48 dX12_tells_48 (by omega) (by omega) ?_
    refine z_iconst (M := M_X12_tells) 49 dX12_tells_49 ?_
    refine z_iaddN (M := M_X12_tells) 50 dX12_tells_50 (by omega) (by omega) ?_
    exact z_mask [true, false, true, true, true, false, false, false, false, false, false, false, false] rfl (ih.1 2 ((2 * a1) - 1) ((2 * a1) + 1) h0 G0 (FR.rf (cs := [135, 136]) (ss := []) (h := h0)) (by omega) (by omega) (by omega) (by omega) (by omega) (by omega) (by unfold ofK; split <;> omega) (by unfold loK; split <;> omega) (by unfold hiK; split <;> (try split) <;> omega) (by omega))
/-- the lower end, as goFrom left it -/
def fL (h0 h : m_H) (a f : Int) : Prop := BW (bR (h0 110)) (12 + f).toNat a.toNat (bOf (aS h a.toNat)) ∧ (h 108 46 = 1 ↔ (h 127 a.toNat = 1 ∧ h 126 a.toNat ≠ 1))
def fH (h0 h : m_H) (a f : Int) : Prop := BW (bR (h0 110)) a.toNat (12 + f).toNat (bOf (aS h (12 + f).toNat)) ∧ (h 108 47 = 1 ↔ (h 127 (12 + f).toNat = 1 ∧ h 126 (12 + f).toNat ≠ 1))
def lP (h0 h : m_H) (a f : Int) : Prop := BX (bR (h0 110)) (12 + f).toNat a.toNat (eLo h) ∧ (h 108 46 = 1 → h 108 44 = 1)
def hP (h0 h : m_H) (a f : Int) : Prop := BX (bR (h0 110)) a.toNat (12 + f).toNat (eHi h) ∧ (h 108 47 = 1 → h 108 45 = 1)
theorem aS_sam4 {h h' : m_H} {l : Nat} (e1 : h' 124 = h 124) (e2 : h' 125 = h 125) (e3 : h' 126 = h 126) (e4 : h' 127 = h 127) : aS h' l = aS h l := by
  unfold aS
  rw [e1, e2, e3, e4]
theorem fL.put {h0 h h' : m_H} {a f v : Int} {j : Nat} (I : fL h0 h a f) (E : h' = m_up h 138 j v) : fL h0 h' a f := by
  have e1 : h' 124 = h 124 := upo E (by decide)
  have e2 : h' 125 = h 125 := upo E (by decide)
  have e3 : h' 126 = h 126 := upo E (by decide)
  have e4 : h' 127 = h 127 := upo E (by decide)
  have e5 : h' 108 = h 108 := upo E (by decide)
  unfold fL
  rw [aS_sam4 e1 e2 e3 e4, e3, e4, e5]; exact I
theorem fH.put {h0 h h' : m_H} {a f v : Int} {j : Nat} (I : fH h0 h a f) (E : h' = m_up h 138 j v) : fH h0 h' a f := by
  have e1 : h' 124 = h 124 := upo E (by decide)
  have e2 : h' 125 = h 125 := upo E (by decide)
  have e3 : h' 126 = h 126 := upo E (by decide)
  have e4 : h' 127 = h 127 := upo E (by decide)
  have e5 : h' 108 = h 108 := upo E (by decide)
  unfold fH
  rw [aS_sam4 e1 e2 e3 e4, e3, e4, e5]; exact I
theorem fL_0 {h0 h1 h2 h3 : m_H} {a f x v : Int} (b : BW (bR (h0 110)) (12 + f).toNat a.toNat (bOf (aS h1 a.toNat))) (ex : h1 127 a.toNat = x) (E2 : h2 = m_up h1 108 44 x) (E3 : h3 = m_up h2 108 46 v) (c : v = 1 ↔ (x = 1 ∧ h1 126 a.toNat ≠ 1)) : fL h0 h3 a f := by
  have e1 : h3 124 = h1 124 := (upo E3 (by decide)).trans (upo E2 (by decide))
  have e2 : h3 125 = h1 125 := (upo E3 (by decide)).trans (upo E2 (by decide))
  have e3 : h3 126 = h1 126 := (upo E3 (by decide)).trans (upo E2 (by decide))
  have e4 : h3 127 = h1 127 := (upo E3 (by decide)).trans (upo E2 (by decide))
  unfold fL
  rw [aS_sam4 e1 e2 e3 e4, e3, e4, ex, upE E3]; exact ⟨b, c⟩
theorem fH_0 {h0 h1 h2 h3 : m_H} {a f x v : Int} (b : BW (bR (h0 110)) a.toNat (12 + f).toNat (bOf (aS h1 (12 + f).toNat))) (ex : h1 127 (12 + f).toNat = x) (E2 : h2 = m_up h1 108 45 x) (E3 : h3 = m_up h2 108 47 v) (c : v = 1 ↔ (x = 1 ∧ h1 126 (12 + f).toNat ≠ 1)) : fH h0 h3 a f := by
  have e1 : h3 124 = h1 124 := (upo E3 (by decide)).trans (upo E2 (by decide))
  have e2 : h3 125 = h1 125 := (upo E3 (by decide)).trans (upo E2 (by decide))
  have e3 : h3 126 = h1 126 := (upo E3 (by decide)).trans (upo E2 (by decide))
  have e4 : h3 127 = h1 127 := (upo E3 (by decide)).trans (upo E2 (by decide))
  unfold fH
  rw [aS_sam4 e1 e2 e3 e4, e3, e4, ex, upE E3]; exact ⟨b, c⟩
/-- one end: the state's limit is the end's -/
theorem end_bx {Ls : List gE} {h : m_H} {a b : Nat} {t l : Nat} {c y : Int} (B : BW Ls a b (bOf (aS h b))) (g : ga (aS h b)) (e1 : vS (h 138) t 5 = vS (h 125) (5 * b) 5) (e2 : vS (h 138) l 5 = vS (h 124) (5 * b) 5) (hy : h 127 b = y) (hc : c = 1 ↔ (y = 1 ∧ h 126 b ≠ 1)) : BX Ls a b (if y = 1 then (vS (h 138) t 5, vS (h 138) l 5, if c = 1 then 0 else 1) else (1, 0, 1)) := by
  by_cases q : y = 1
  · rw [if_pos q, e1, e2]
    rw [bOf_y hy q] at B
    have u1 : 1 ≤ vS (h 124) (5 * b) 5 := (g.2.2 (hy.trans q)).1.1
    have o : (if c = 1 then (0 : Int) else 1) = h 126 b := by
      have g2 : h 126 b = 0 ∨ h 126 b = 1 := g.2.1
      by_cases r : c = 1
      · rw [if_pos r]; have := (hc.mp r).2; omega
      · rw [if_neg r]
        rcases g2 with z | z
        · exact absurd (hc.mpr ⟨q, by omega⟩) r
        · exact z.symm
    rw [o]
    exact ⟨B, fun z => absurd (show vS (h 124) (5 * b) 5 = 0 from z) (by omega)⟩
  · rw [if_neg q]
    rw [bOf_n hy q] at B
    exact ⟨B, fun _ => rfl⟩
theorem lP_of {h0 h : m_H} {a f l : Int} (hl : 5 ≤ l) (ha : 0 ≤ a ∧ a ≤ 15) (I : feA h a l) (J : fL h0 h a f) : lP h0 h a f := by
  obtain ⟨g, e, d⟩ := I
  refine ⟨?_, fun z => e.trans (J.2.mp z).1⟩
  unfold eLo
  refine end_bx J.1 (g _ (by omega)) (vS_same (fun j hj => ?_)) (vS_same (fun j hj => ?_)) e.symm ?_
  · exact (d j (by omega)).2
  · rw [Nat.zero_add]; exact (d j (by omega)).1
  · rw [e]; exact J.2
theorem hP_of {h0 h : m_H} {a f l : Int} (hl : 5 ≤ l) (hf : 0 ≤ f ∧ f ≤ 3) (I : feB h (12 + f) l) (J : fH h0 h a f) : hP h0 h a f := by
  obtain ⟨g, e, d⟩ := I
  refine ⟨?_, fun z => e.trans (J.2.mp z).1⟩
  unfold eHi
  refine end_bx J.1 (g _ (by omega)) (vS_same (fun j hj => ?_)) (vS_same (fun j hj => ?_)) e.symm ?_
  · exact (d j (by omega)).1
  · exact (d j (by omega)).2
  · rw [e]; exact J.2
theorem lP.same {h0 h h' : m_H} {a f : Int} (I : lP h0 h a f) (e1 : h' 108 44 = h 108 44) (e2 : h' 108 46 = h 108 46) (e3 : ∀ j, j < 10 → h' 138 j = h 138 j) : lP h0 h' a f := by
  have k : eLo h' = eLo h := by
    unfold eLo
    rw [e1, e2, vS_same (f := h' 138) (g := h 138) (a := 5) (b := 5) (n := 5) (fun j hj => e3 _ (by omega)), vS_same (f := h' 138) (g := h 138) (a := 0) (b := 0) (n := 5) (fun j hj => e3 _ (by omega))]
  unfold lP
  rw [k, e1, e2]; exact I
theorem lP.put {h0 h h' : m_H} {a f v : Int} {j : Nat} (I : lP h0 h a f) (E : h' = m_up h 138 j v) (hj : 10 ≤ j) : lP h0 h' a f :=
  I.same (upN E (fun z => absurd z.1 (by decide))) (upN E (fun z => absurd z.1 (by decide))) (fun i hi => upN E (fun z => by have := z.2; omega))
abbrev P_X12_findEnds4 (h0 : m_H) (a1 a2 : Int) : m_H → Prop := fun h' => GI h' ∧ FR [115, 116, 117, 118, 119, 120, 121, 122, 123, 124, 125, 126, 127, 128, 129, 130, 131, 132, 133, 138] [(108, 21), (108, 44), (108, 45), (108, 46), (108, 47)] h0 h' ∧ enQ h' ∧ (lP h0 h' a1 a2 ∧ hP h0 h' a1 a2)
def q_X12_findEnds4 (h0 : m_H) (a1 a2 : Int) (n : Nat) : Prop := (∀ (l3 : Int) (h : m_H), GI h → FR [115, 116, 117, 118, 119, 120, 121, 122, 123, 124, 125, 126, 127, 128, 129, 130, 131, 132, 133, 138] [(108, 21), (108, 44), (108, 45), (108, 46), (108, 47)] h0 h → 0 ≤ l3 → l3 ≤ 5 → (feA h a1 l3) → (fL h0 h a1 a2) → 2 * (5 - l3) + (14) ≤ (n : Int) → m_Z oF M_X12_findEnds 45 [some (mR 108), some (mI a1), some (mI a2), some (mI l3), none] [] h (m_QV (P_X12_findEnds4 h0 a1 a2))) ∧ (∀ (l4 : Int) (h : m_H), GI h → FR [115, 116, 117, 118, 119, 120, 121, 122, 123, 124, 125, 126, 127, 128, 129, 130, 131, 132, 133, 138] [(108, 21), (108, 44), (108, 45), (108, 46), (108, 47)] h0 h → 0 ≤ l4 → l4 ≤ 5 → (e1Q h) → (feB h (12 + a2) l4) → (lP h0 h a1 a2) → (fH h0 h a1 a2) → 2 * (5 - l4) + (1) ≤ (n : Int) → m_Z oF M_X12_findEnds 138 [some (mR 108), none, none, some (mI (12 + a2)), some (mI l4)] [] h (m_QV (P_X12_findEnds4 h0 a1 a2)))
set_option maxHeartbeats 4000000 in
set_option maxRecDepth 100000 in
theorem s_X12_findEnds4_45 (h0 : m_H) (a1 a2 : Int) (G0 : GI h0) (pa1 : 0 ≤ a1 ∧ a1 ≤ 11) (pa2 : 0 ≤ a2 ∧ a2 ≤ 3) (hN : NP h0) (hG : gG (bR (h0 110))) (n : Nat) (ih : q_X12_findEnds4 h0 a1 a2 n) : ∀ (l3 : Int) (h : m_H), GI h → FR [115, 116, 117, 118, 119, 120, 121, 122, 123, 124, 125, 126, 127, 128, 129, 130, 131, 132, 133, 138] [(108, 21), (108, 44), (108, 45), (108, 46), (108, 47)] h0 h → 0 ≤ l3 → l3 ≤ 5 → (feA h a1 l3) → (fL h0 h a1 a2) → 2 * (5 - l3) + (14) ≤ ((n + 1 : Nat) : Int) → m_Z oF M_X12_findEnds 45 [some (mR 108), some (mI a1), some (mI a2), some (mI l3), none] [] h (m_QV (P_X12_findEnds4 h0 a1 a2)) := by
  intro l3 h G R v0 v1 i0 j0 hr
  refine z_iload_n (M := M_X12_findEnds) 45 dX12_findEnds_45 rfl ?_
  refine z_iconst (M := M_X12_findEnds) 46 dX12_findEnds_46 ?_
  refine z_icmp_ge (M := M_X12_findEnds) 47 dX12_findEnds_47 90 rfl (fun c1 => ?_) (fun c1 => ?_)
  · refine z_bipush (M := M_X12_findEnds) 90 dX12_findEnds_90 ?_
    refine z_iload_n (M := M_X12_findEnds) 92 dX12_findEnds_92 rfl ?_
    refine z_iaddN (M := M_X12_findEnds) 93 dX12_findEnds_93 (by omega) (by omega) ?_
    refine z_istore_n (M := M_X12_findEnds) 94 dX12_findEnds_94 (ls' := [some (mR 108), some (mI a1), some (mI a2), some (mI (12 + a2)), none]) (by decide) rfl ?_
    refine z_aload_n (M := M_X12_findEnds) 95 dX12_findEnds_95 rfl ?_
    refine z_iload_n (M := M_X12_findEnds) 96 dX12_findEnds_96 rfl ?_
    refine z_vV (M := M_X12_findEnds) 97 dX12_findEnds_97 t_X12_goFrom l_X12_397 (m_rr_of rfl) (rest := []) (c_X12_goFrom2 h a1 G ⟨by omega, by omega⟩ (NP.call hN R (fun _ => rfl) (fun _ => rfl) (fun _ => rfl)) (gG_f hG R (fun _ => rfl))) o_108 rfl rfl rfl (Nat.le_of_ble_eq_true rfl) ⟨rfl, rfl⟩ (fun h1 qx2 => ?_)
    obtain ⟨G1, S1, fx2_0, fx2_1⟩ := qx2
    rw [(FR.row R (fun _ => rfl) : h 110 = h0 110)] at fx2_1
    have b_ := fx2_1 (12 + a2).toNat (by omega)
    have R1 := R.call S1 (by decide +kernel)
    refine z_aload_n (M := M_X12_findEnds) 100 dX12_findEnds_100 rfl ?_
    refine z_aload_n (M := M_X12_findEnds) 101 dX12_findEnds_101 rfl ?_
    refine z_getR (M := M_X12_findEnds) 102 dX12_findEnds_102 f_X12_70 o_108 rfl (g_108_32 G1) ?_
    refine z_iload_n (M := M_X12_findEnds) 105 dX12_findEnds_105 rfl ?_
    refine z_zaldG (M := M_X12_findEnds) 106 dX12_findEnds_106 o_127 (by omega) (by omega) (g_127 G1 (by omega)) (fun x3 ex3 ax3 bx3 => ?_)
    refine z_putZH (M := M_X12_findEnds) 107 dX12_findEnds_107 p_X12_415 o_108 rfl (by omega) (u_108_45 G1 (by omega) (by omega)) (R1.up rfl) (fun h2 E2 G2 R2 => ?_)
    refine z_aload_n (M := M_X12_findEnds) 110 dX12_findEnds_110 rfl ?_
    refine z_aload_n (M := M_X12_findEnds) 111 dX12_findEnds_111 rfl ?_
    refine z_getIE (M := M_X12_findEnds) 112 dX12_findEnds_112 f_X12_415 o_108 (by decide) (upE E2) ?_
    refine z_if_eq (M := M_X12_findEnds) 115 dX12_findEnds_115 131 rfl (fun c4 => ?_) (fun c4 => ?_)
    · refine z_iconst (M := M_X12_findEnds) 131 dX12_findEnds_131 ?_
      refine z_putZH (M := M_X12_findEnds) 132 dX12_findEnds_132 p_X12_418 o_108 rfl (by omega) (u_108_47 G2 (by omega) (by omega)) (R2.up rfl) (fun h3 E3 G3 R3 => ?_)
      refine z_iconst (M := M_X12_findEnds) 135 dX12_findEnds_135 ?_
      refine z_istore (M := M_X12_findEnds) 136 dX12_findEnds_136 (ls' := [some (mR 108), some (mI a1), some (mI a2), some (mI (12 + a2)), some (mI 0)]) (by decide) rfl ?_
      exact z_mask [true, false, false, true, true] rfl (ih.2 0 h3 G3 R3 (by omega) (by omega) (e1Q.same (feA_end G (by omega) (by omega) (by omega) i0) ((upN E3 (by decide)).trans ((upN E2 (by decide)).trans (S1 108 44 rfl))) ((upo E3 (by decide)).trans ((upo E2 (by decide)).trans (FR.row S1 (fun _ => rfl))))) (feB_0 fx2_0 ex3 E2 E3) ((lP_of (by omega) ⟨by omega, by omega⟩ i0 j0).same ((upN E3 (by decide)).trans ((upN E2 (by decide)).trans (S1 108 44 rfl))) ((upN E3 (by decide)).trans ((upN E2 (by decide)).trans (S1 108 46 rfl))) (fun j _ => (congrFun ((upo E3 (by decide)).trans ((upo E2 (by decide)).trans (FR.row S1 (fun _ => rfl)))) j))) (fH_0 b_ ex3 E2 E3 ⟨fun z => absurd z (by decide), fun z => absurd z.1 (by omega)⟩) (by omega))
    · refine z_aload_n (M := M_X12_findEnds) 118 dX12_findEnds_118 rfl ?_
      refine z_getR (M := M_X12_findEnds) 119 dX12_findEnds_119 f_X12_67 o_108 rfl (g_108_31 G2) ?_
      refine z_iload_n (M := M_X12_findEnds) 122 dX12_findEnds_122 rfl ?_
      refine z_zaldG (M := M_X12_findEnds) 123 dX12_findEnds_123 o_126 (by omega) (by omega) (g_126 G2 (by omega)) (fun x5 ex5 ax5 bx5 => ?_)
      refine z_if_ne (M := M_X12_findEnds) 124 dX12_findEnds_124 131 rfl (fun c6 => ?_) (fun c6 => ?_)
      · refine z_iconst (M := M_X12_findEnds) 131 dX12_findEnds_131 ?_
        refine z_putZH (M := M_X12_findEnds) 132 dX12_findEnds_132 p_X12_418 o_108 rfl (by omega) (u_108_47 G2 (by omega) (by omega)) (R2.up rfl) (fun h4 E4 G4 R4 => ?_)
        refine z_iconst (M := M_X12_findEnds) 135 dX12_findEnds_135 ?_
        refine z_istore (M := M_X12_findEnds) 136 dX12_findEnds_136 (ls' := [some (mR 108), some (mI a1), some (mI a2), some (mI (12 + a2)), some (mI 0)]) (by decide) rfl ?_
        exact z_mask [true, false, false, true, true] rfl (ih.2 0 h4 G4 R4 (by omega) (by omega) (e1Q.same (feA_end G (by omega) (by omega) (by omega) i0) ((upN E4 (by decide)).trans ((upN E2 (by decide)).trans (S1 108 44 rfl))) ((upo E4 (by decide)).trans ((upo E2 (by decide)).trans (FR.row S1 (fun _ => rfl))))) (feB_0 fx2_0 ex3 E2 E4) ((lP_of (by omega) ⟨by omega, by omega⟩ i0 j0).same ((upN E4 (by decide)).trans ((upN E2 (by decide)).trans (S1 108 44 rfl))) ((upN E4 (by decide)).trans ((upN E2 (by decide)).trans (S1 108 46 rfl))) (fun j _ => (congrFun ((upo E4 (by decide)).trans ((upo E2 (by decide)).trans (FR.row S1 (fun _ => rfl)))) j))) (fH_0 b_ ex3 E2 E4 ⟨fun z => absurd z (by decide), fun z => absurd ((show h1 126 (12 + a2).toNat = x5 by rw [← (upo E2 (by decide) : h2 126 = h1 126)]; exact ex5).trans (by omega)) z.2⟩) (by omega))
      · refine z_iconst (M := M_X12_findEnds) 127 dX12_findEnds_127 ?_
        refine z_goto (M := M_X12_findEnds) 128 dX12_findEnds_128 132 rfl ?_
        refine z_putZH (M := M_X12_findEnds) 132 dX12_findEnds_132 p_X12_418 o_108 rfl (by omega) (u_108_47 G2 (by omega) (by omega)) (R2.up rfl) (fun h5 E5 G5 R5 => ?_)
        refine z_iconst (M := M_X12_findEnds) 135 dX12_findEnds_135 ?_
        refine z_istore (M := M_X12_findEnds) 136 dX12_findEnds_136 (ls' := [some (mR 108), some (mI a1), some (mI a2), some (mI (12 + a2)), some (mI 0)]) (by decide) rfl ?_
        exact z_mask [true, false, false, true, true] rfl (ih.2 0 h5 G5 R5 (by omega) (by omega) (e1Q.same (feA_end G (by omega) (by omega) (by omega) i0) ((upN E5 (by decide)).trans ((upN E2 (by decide)).trans (S1 108 44 rfl))) ((upo E5 (by decide)).trans ((upo E2 (by decide)).trans (FR.row S1 (fun _ => rfl))))) (feB_0 fx2_0 ex3 E2 E5) ((lP_of (by omega) ⟨by omega, by omega⟩ i0 j0).same ((upN E5 (by decide)).trans ((upN E2 (by decide)).trans (S1 108 44 rfl))) ((upN E5 (by decide)).trans ((upN E2 (by decide)).trans (S1 108 46 rfl))) (fun j _ => (congrFun ((upo E5 (by decide)).trans ((upo E2 (by decide)).trans (FR.row S1 (fun _ => rfl)))) j))) (fH_0 b_ ex3 E2 E5 ⟨fun _ => ⟨by omega, fun z => absurd ((show h1 126 (12 + a2).toNat = x5 by rw [← (upo E2 (by decide) : h2 126 = h1 126)]; exact ex5).symm.trans z) (by omega)⟩, fun _ => rfl⟩) (by omega))
  · refine z_aload_n (M := M_X12_findEnds) 50 dX12_findEnds_50 rfl ?_
    refine z_getR (M := M_X12_findEnds) 51 dX12_findEnds_51 f_X12_103 o_108 rfl (g_108_43 G) ?_
    refine z_iload_n (M := M_X12_findEnds) 54 dX12_findEnds_54 rfl ?_
    refine z_aload_n (M := M_X12_findEnds) 55 dX12_findEnds_55 rfl ?_
    refine z_getR (M := M_X12_findEnds) 56 dX12_findEnds_56 f_X12_61 o_108 rfl (g_108_29 G) ?_
    refine z_iconst (M := M_X12_findEnds) 59 dX12_findEnds_59 ?_
    refine z_iload_n (M := M_X12_findEnds) 60 dX12_findEnds_60 rfl ?_
    refine z_imulN (M := M_X12_findEnds) 61 dX12_findEnds_61 (by omega) (by omega) ?_
    refine z_iload_n (M := M_X12_findEnds) 62 dX12_findEnds_62 rfl ?_
    refine z_iaddN (M := M_X12_findEnds) 63 dX12_findEnds_63 (by omega) (by omega) ?_
    refine z_laldG (M := M_X12_findEnds) 64 dX12_findEnds_64 o_124 (by omega) (by omega) (g_124 G (by omega)) (fun x7 ex7 ax7 bx7 => ?_)
    refine z_lastH (M := M_X12_findEnds) 65 dX12_findEnds_65 o_138 (by omega) (by omega) (u_138 G (by omega) (by omega)) (R.up rfl) (fun h6 E6 G6 R6 => ?_)
    refine z_aload_n (M := M_X12_findEnds) 66 dX12_findEnds_66 rfl ?_
    refine z_getR (M := M_X12_findEnds) 67 dX12_findEnds_67 f_X12_103 o_108 rfl (g_108_43 G6) ?_
    refine z_iconst (M := M_X12_findEnds) 70 dX12_findEnds_70 ?_
    refine z_iload_n (M := M_X12_findEnds) 71 dX12_findEnds_71 rfl ?_
    refine z_iaddN (M := M_X12_findEnds) 72 dX12_findEnds_72 (by omega) (by omega) ?_
    refine z_aload_n (M := M_X12_findEnds) 73 dX12_findEnds_73 rfl ?_
    refine z_getR (M := M_X12_findEnds) 74 dX12_findEnds_74 f_X12_64 o_108 rfl (g_108_30 G6) ?_
    refine z_iconst (M := M_X12_findEnds) 77 dX12_findEnds_77 ?_
    refine z_iload_n (M := M_X12_findEnds) 78 dX12_findEnds_78 rfl ?_
    refine z_imulN (M := M_X12_findEnds) 79 dX12_findEnds_79 (by omega) (by omega) ?_
    refine z_iload_n (M := M_X12_findEnds) 80 dX12_findEnds_80 rfl ?_
    refine z_iaddN (M := M_X12_findEnds) 81 dX12_findEnds_81 (by omega) (by omega) ?_
    refine z_laldG (M := M_X12_findEnds) 82 dX12_findEnds_82 o_125 (by omega) (by omega) (g_125 G6 (by omega)) (fun x8 ex8 ax8 bx8 => ?_)
    refine z_lastH (M := M_X12_findEnds) 83 dX12_findEnds_83 o_138 (by omega) (by omega) (u_138 G6 (by omega) (by omega)) (R6.up rfl) (fun h7 E7 G7 R7 => ?_)
    refine z_iincN (M := M_X12_findEnds) 84 dX12_findEnds_84 (ls' := [some (mR 108), some (mI a1), some (mI a2), some (mI (l3 + 1)), none]) (by decide) rfl (by (unfold m_32; decide)) (by omega) (by omega) rfl ?_
    refine z_goto (M := M_X12_findEnds) 87 dX12_findEnds_87 45 rfl ?_
    exact z_mask [true, true, true, true, false] rfl (ih.1 (l3 + 1) h7 G7 R7 (by omega) (by omega) (feA_step (by omega) (by omega) (by omega) i0 ex7 E6 ex8 E7) ((j0.put E6).put E7) (by omega))
set_option maxHeartbeats 4000000 in
set_option maxRecDepth 100000 in
theorem s_X12_findEnds4_138 (h0 : m_H) (a1 a2 : Int) (G0 : GI h0) (pa1 : 0 ≤ a1 ∧ a1 ≤ 11) (pa2 : 0 ≤ a2 ∧ a2 ≤ 3) (hN : NP h0) (hG : gG (bR (h0 110))) (n : Nat) (ih : q_X12_findEnds4 h0 a1 a2 n) : ∀ (l4 : Int) (h : m_H), GI h → FR [115, 116, 117, 118, 119, 120, 121, 122, 123, 124, 125, 126, 127, 128, 129, 130, 131, 132, 133, 138] [(108, 21), (108, 44), (108, 45), (108, 46), (108, 47)] h0 h → 0 ≤ l4 → l4 ≤ 5 → (e1Q h) → (feB h (12 + a2) l4) → (lP h0 h a1 a2) → (fH h0 h a1 a2) → 2 * (5 - l4) + (1) ≤ ((n + 1 : Nat) : Int) → m_Z oF M_X12_findEnds 138 [some (mR 108), none, none, some (mI (12 + a2)), some (mI l4)] [] h (m_QV (P_X12_findEnds4 h0 a1 a2)) := by
  intro l4 h G R v0 v1 i0 i1 j0 j1 hr
  refine z_iload (M := M_X12_findEnds) 138 dX12_findEnds_138 rfl ?_
  refine z_iconst (M := M_X12_findEnds) 140 dX12_findEnds_140 ?_
  refine z_icmp_ge (M := M_X12_findEnds) 141 dX12_findEnds_141 192 rfl (fun c1 => ?_) (fun c1 => ?_)
  · exact z_retV (M := M_X12_findEnds) 192 dX12_findEnds_192 rfl ⟨G, R, ⟨i0, feB_end G (by omega) (by omega) (by omega) i1⟩, ⟨j0, hP_of (by omega) ⟨by omega, by omega⟩ i1 j1⟩⟩
  · refine z_aload_n (M := M_X12_findEnds) 144 dX12_findEnds_144 rfl ?_
    refine z_getR (M := M_X12_findEnds) 145 dX12_findEnds_145 f_X12_103 o_108 rfl (g_108_43 G) ?_
    refine z_bipush (M := M_X12_findEnds) 148 dX12_findEnds_148 ?_
    refine z_iload (M := M_X12_findEnds) 150 dX12_findEnds_150 rfl ?_
    refine z_iaddN (M := M_X12_findEnds) 152 dX12_findEnds_152 (by omega) (by omega) ?_
    refine z_aload_n (M := M_X12_findEnds) 153 dX12_findEnds_153 rfl ?_
    refine z_getR (M := M_X12_findEnds) 154 dX12_findEnds_154 f_X12_64 o_108 rfl (g_108_30 G) ?_
    refine z_iconst (M := M_X12_findEnds) 157 dX12_findEnds_157 ?_
    refine z_iload_n (M := M_X12_findEnds) 158 dX12_findEnds_158 rfl ?_
    refine z_imulN (M := M_X12_findEnds) 159 dX12_findEnds_159 (by omega) (by omega) ?_
    refine z_iload (M := M_X12_findEnds) 160 dX12_findEnds_160 rfl ?_
    refine z_iaddN (M := M_X12_findEnds) 162 dX12_findEnds_162 (by omega) (by omega) ?_
    refine z_laldG (M := M_X12_findEnds) 163 dX12_findEnds_163 o_125 (by omega) (by omega) (g_125 G (by omega)) (fun x2 ex2 ax2 bx2 => ?_)
    refine z_lastH (M := M_X12_findEnds) 164 dX12_findEnds_164 o_138 (by omega) (by omega) (u_138 G (by omega) (by omega)) (R.up rfl) (fun h1 E1 G1 R1 => ?_)
    refine z_aload_n (M := M_X12_findEnds) 165 dX12_findEnds_165 rfl ?_
    refine z_getR (M := M_X12_findEnds) 166 dX12_findEnds_166 f_X12_103 o_108 rfl (g_108_43 G1) ?_
    refine z_bipush (M := M_X12_findEnds) 169 dX12_findEnds_169 ?_
    refine z_iload (M := M_X12_findEnds) 171 dX12_findEnds_171 rfl ?_
    refine z_iaddN (M := M_X12_findEnds) 173 dX12_findEnds_173 (by omega) (by omega) ?_
    refine z_aload_n (M := M_X12_findEnds) 174 dX12_findEnds_174 rfl ?_
    refine z_getR (M := M_X12_findEnds) 175 dX12_findEnds_175 f_X12_61 o_108 rfl (g_108_29 G1) ?_
    refine z_iconst (M := M_X12_findEnds) 178 dX12_findEnds_178 ?_
    refine z_iload_n (M := M_X12_findEnds) 179 dX12_findEnds_179 rfl ?_
    refine z_imulN (M := M_X12_findEnds) 180 dX12_findEnds_180 (by omega) (by omega) ?_
    refine z_iload (M := M_X12_findEnds) 181 dX12_findEnds_181 rfl ?_
    refine z_iaddN (M := M_X12_findEnds) 183 dX12_findEnds_183 (by omega) (by omega) ?_
    refine z_laldG (M := M_X12_findEnds) 184 dX12_findEnds_184 o_124 (by omega) (by omega) (g_124 G1 (by omega)) (fun x3 ex3 ax3 bx3 => ?_)
    refine z_lastH (M := M_X12_findEnds) 185 dX12_findEnds_185 o_138 (by omega) (by omega) (u_138 G1 (by omega) (by omega)) (R1.up rfl) (fun h2 E2 G2 R2 => ?_)
    refine z_iincN (M := M_X12_findEnds) 186 dX12_findEnds_186 (ls' := [some (mR 108), none, none, some (mI (12 + a2)), some (mI (l4 + 1))]) (by decide) rfl (by (unfold m_32; decide)) (by omega) (by omega) rfl ?_
    refine z_goto (M := M_X12_findEnds) 189 dX12_findEnds_189 138 rfl ?_
    exact z_mask [true, false, false, true, true] rfl (ih.2 (l4 + 1) h2 G2 R2 (by omega) (by omega) ((i0.put E1 (by omega)).put E2 (by omega)) (feB_step (by omega) (by omega) (by omega) i1 ex2 E1 ex3 E2) ((j0.put E1 (by omega)).put E2 (by omega)) ((j1.put E1).put E2) (by omega))
theorem a_X12_findEnds4 (h0 : m_H) (a1 a2 : Int) (G0 : GI h0) (pa1 : 0 ≤ a1 ∧ a1 ≤ 11) (pa2 : 0 ≤ a2 ∧ a2 ≤ 3) (hN : NP h0) (hG : gG (bR (h0 110))) : ∀ n, q_X12_findEnds4 h0 a1 a2 n := by
  intro n
  induction n with
  | zero => unfold q_X12_findEnds4; refine ⟨?_, ?_⟩ <;> (intros; omega)
  | succ n ih => exact ⟨s_X12_findEnds4_45 h0 a1 a2 G0 pa1 pa2 hN hG n ih, s_X12_findEnds4_138 h0 a1 a2 G0 pa1 pa2 hN hG n ih⟩
set_option maxHeartbeats 4000000 in
set_option maxRecDepth 100000 in
theorem c_X12_findEnds4 (h0 : m_H) (a1 a2 : Int) (G0 : GI h0) (pa1 : 0 ≤ a1 ∧ a1 ≤ 11) (pa2 : 0 ≤ a2 ∧ a2 ≤ 3) (hN : NP h0) (hG : gG (bR (h0 110))) : m_CV M_X12_findEnds [mR 108, mI a1, mI a2] h0 (P_X12_findEnds4 h0 a1 a2) := by
  refine m_CV_of ⟨by decide, rfl, by simp [m_arg, m_isL, M_X12_findEnds], ⟨rfl, rfl⟩, rfl, rfl⟩ (ls := [some (mR 108), some (mI a1), some (mI a2), none, none]) rfl ?_
  have ih := a_X12_findEnds4 h0 a1 a2 G0 pa1 pa2 hN hG 31
  refine z_aload_n (M := M_X12_findEnds) 0 dX12_findEnds_0 rfl ?_
  refine z_bipush (M := M_X12_findEnds) 1 dX12_findEnds_1 ?_
  refine z_iload_n (M := M_X12_findEnds) 3 dX12_findEnds_3 rfl ?_
  refine z_iaddN (M := M_X12_findEnds) 4 dX12_findEnds_4 (by omega) (by omega) ?_
  refine z_vV (M := M_X12_findEnds) 5 dX12_findEnds_5 t_X12_goFrom l_X12_397 (m_rr_of rfl) (rest := []) (c_X12_goFrom2 h0 (12 + a2) G0 ⟨by omega, by omega⟩ (NP.call hN (FR.rf (cs := [115, 116, 117, 118, 119, 120, 121, 122, 123, 124, 125, 126, 127, 128, 129, 130, 131, 132, 133, 138]) (ss := [(108, 21), (108, 44), (108, 45), (108, 46), (108, 47)]) (h := h0)) (fun _ => rfl) (fun _ => rfl) (fun _ => rfl)) (gG_f hG (FR.rf (cs := [115, 116, 117, 118, 119, 120, 121, 122, 123, 124, 125, 126, 127, 128, 129, 130, 131, 132, 133, 138]) (ss := [(108, 21), (108, 44), (108, 45), (108, 46), (108, 47)]) (h := h0)) (fun _ => rfl))) o_108 rfl rfl rfl (Nat.le_of_ble_eq_true rfl) ⟨rfl, rfl⟩ (fun h1 qx1 => ?_)
  obtain ⟨G1, S1, fx1_0, fx1_1⟩ := qx1
  have b_ := fx1_1 a1.toNat (by omega)
  have R1 := (FR.rf (cs := [115, 116, 117, 118, 119, 120, 121, 122, 123, 124, 125, 126, 127, 128, 129, 130, 131, 132, 133, 138]) (ss := [(108, 21), (108, 44), (108, 45), (108, 46), (108, 47)]) (h := h0)).call S1 (by decide +kernel)
  refine z_aload_n (M := M_X12_findEnds) 8 dX12_findEnds_8 rfl ?_
  refine z_aload_n (M := M_X12_findEnds) 9 dX12_findEnds_9 rfl ?_
  refine z_getR (M := M_X12_findEnds) 10 dX12_findEnds_10 f_X12_70 o_108 rfl (g_108_32 G1) ?_
  refine z_iload_n (M := M_X12_findEnds) 13 dX12_findEnds_13 rfl ?_
  refine z_zaldG (M := M_X12_findEnds) 14 dX12_findEnds_14 o_127 (by omega) (by omega) (g_127 G1 (by omega)) (fun x2 ex2 ax2 bx2 => ?_)
  refine z_putZH (M := M_X12_findEnds) 15 dX12_findEnds_15 p_X12_409 o_108 rfl (by omega) (u_108_44 G1 (by omega) (by omega)) (R1.up rfl) (fun h2 E2 G2 R2 => ?_)
  refine z_aload_n (M := M_X12_findEnds) 18 dX12_findEnds_18 rfl ?_
  refine z_aload_n (M := M_X12_findEnds) 19 dX12_findEnds_19 rfl ?_
  refine z_getIE (M := M_X12_findEnds) 20 dX12_findEnds_20 f_X12_409 o_108 (by decide) (upE E2) ?_
  refine z_if_eq (M := M_X12_findEnds) 23 dX12_findEnds_23 39 rfl (fun c3 => ?_) (fun c3 => ?_)
  · refine z_iconst (M := M_X12_findEnds) 39 dX12_findEnds_39 ?_
    refine z_putZH (M := M_X12_findEnds) 40 dX12_findEnds_40 p_X12_412 o_108 rfl (by omega) (u_108_46 G2 (by omega) (by omega)) (R2.up rfl) (fun h3 E3 G3 R3 => ?_)
    refine z_iconst (M := M_X12_findEnds) 43 dX12_findEnds_43 ?_
    refine z_istore_n (M := M_X12_findEnds) 44 dX12_findEnds_44 (ls' := [some (mR 108), some (mI a1), some (mI a2), some (mI 0), none]) (by decide) rfl ?_
    exact z_mask [true, true, true, true, false] rfl (ih.1 0 h3 G3 R3 (by omega) (by omega) (feA_0 fx1_0 ex2 E2 E3) (fL_0 b_ ex2 E2 E3 ⟨fun z => absurd z (by decide), fun z => absurd z.1 (by omega)⟩) (by omega))
  · refine z_aload_n (M := M_X12_findEnds) 26 dX12_findEnds_26 rfl ?_
    refine z_getR (M := M_X12_findEnds) 27 dX12_findEnds_27 f_X12_67 o_108 rfl (g_108_31 G2) ?_
    refine z_iload_n (M := M_X12_findEnds) 30 dX12_findEnds_30 rfl ?_
    refine z_zaldG (M := M_X12_findEnds) 31 dX12_findEnds_31 o_126 (by omega) (by omega) (g_126 G2 (by omega)) (fun x4 ex4 ax4 bx4 => ?_)
    refine z_if_ne (M := M_X12_findEnds) 32 dX12_findEnds_32 39 rfl (fun c5 => ?_) (fun c5 => ?_)
    · refine z_iconst (M := M_X12_findEnds) 39 dX12_findEnds_39 ?_
      refine z_putZH (M := M_X12_findEnds) 40 dX12_findEnds_40 p_X12_412 o_108 rfl (by omega) (u_108_46 G2 (by omega) (by omega)) (R2.up rfl) (fun h4 E4 G4 R4 => ?_)
      refine z_iconst (M := M_X12_findEnds) 43 dX12_findEnds_43 ?_
      refine z_istore_n (M := M_X12_findEnds) 44 dX12_findEnds_44 (ls' := [some (mR 108), some (mI a1), some (mI a2), some (mI 0), none]) (by decide) rfl ?_
      exact z_mask [true, true, true, true, false] rfl (ih.1 0 h4 G4 R4 (by omega) (by omega) (feA_0 fx1_0 ex2 E2 E4) (fL_0 b_ ex2 E2 E4 ⟨fun z => absurd z (by decide), fun z => absurd ((show h1 126 a1.toNat = x4 by rw [← (upo E2 (by decide) : h2 126 = h1 126)]; exact ex4).trans (by omega)) z.2⟩) (by omega))
    · refine z_iconst (M := M_X12_findEnds) 35 dX12_findEnds_35 ?_
      refine z_goto (M := M_X12_findEnds) 36 dX12_findEnds_36 40 rfl ?_
      refine z_putZH (M := M_X12_findEnds) 40 dX12_findEnds_40 p_X12_412 o_108 rfl (by omega) (u_108_46 G2 (by omega) (by omega)) (R2.up rfl) (fun h5 E5 G5 R5 => ?_)
      refine z_iconst (M := M_X12_findEnds) 43 dX12_findEnds_43 ?_
      refine z_istore_n (M := M_X12_findEnds) 44 dX12_findEnds_44 (ls' := [some (mR 108), some (mI a1), some (mI a2), some (mI 0), none]) (by decide) rfl ?_
      exact z_mask [true, true, true, true, false] rfl (ih.1 0 h5 G5 R5 (by omega) (by omega) (feA_0 fx1_0 ex2 E2 E5) (fL_0 b_ ex2 E2 E5 ⟨fun _ => ⟨by omega, fun z => absurd ((show h1 126 a1.toNat = x4 by rw [← (upo E2 (by decide) : h2 126 = h1 126)]; exact ex4).symm.trans z) (by omega)⟩, fun _ => rfl⟩) (by omega))
abbrev P_X12_isAsked4 (h0 : m_H) (a1 a2 : Int) : Int → m_H → Prop := fun x h' => GI h' ∧ FR [115, 116, 117, 118, 119, 120, 121, 122, 123, 124, 125, 126, 127, 128, 129, 130, 131, 132, 133, 134] [(108, 21)] h0 h' ∧ 0 ≤ x ∧ x ≤ 1 ∧ akQ x a1 a2 (bR (h0 110)) ∧ (x = 1 ↔ ftK (h0 110) a1 a2)
set_option maxHeartbeats 4000000 in
set_option maxRecDepth 100000 in
theorem c_X12_isAsked4 (h0 : m_H) (a1 a2 : Int) (G0 : GI h0) (hN : NP h0) : m_CI M_X12_isAsked [mR 108, mI a1, mI a2] h0 (P_X12_isAsked4 h0 a1 a2) := by
  refine m_CI_of ⟨by decide, rfl, by simp [m_arg, m_isL, M_X12_isAsked], ⟨rfl, rfl⟩, rfl, rfl⟩ (ls := [some (mR 108), some (mI a1), some (mI a2)]) rfl ?_
  refine z_ok (fun _ _ ok => ?_)
  have oa1 : m_32 a1 := ok 1 _ rfl
  unfold m_32 at oa1
  have oa2 : m_32 a2 := ok 2 _ rfl
  unfold m_32 at oa2
  refine z_iload_n (M := M_X12_isAsked) 0 dX12_isAsked_0 rfl ?_
  refine z_i2l (M := M_X12_isAsked) 1 dX12_isAsked_1 ?_
  refine z_lconst (M := M_X12_isAsked) 2 dX12_isAsked_2 (v := 0) ?_
  refine z_ldc2 (M := M_X12_isAsked) 3 dX12_isAsked_3 k_X12_385 ?_
  refine z_sI (M := M_X12_isAsked) 6 dX12_isAsked_6 t_X12_in l_X12_143 (m_rr_of rfl) (rest := []) (c_X12_in h0 a1 0 11 G0) rfl rfl (Nat.le_of_ble_eq_true rfl) ⟨rfl, rfl⟩ (fun x1 h1 qx1 => ?_)
  obtain ⟨rfl, ⟨rfl, cx1⟩ | ⟨rfl, cx1⟩⟩ := qx1
  · refine z_if_eq_F (M := M_X12_isAsked) 9 dX12_isAsked_9 35 rfl (by omega) ?_
    refine z_iload_n (M := M_X12_isAsked) 12 dX12_isAsked_12 rfl ?_
    refine z_sI (M := M_X12_isAsked) 13 dX12_isAsked_13 t_X12_isKeeper l_X12_169 (m_rr_of rfl) (rest := []) (c_X12_isKeeper h0 a2 G0) rfl rfl (Nat.le_of_ble_eq_true rfl) ⟨rfl, rfl⟩ (fun x2 h2 qx2 => ?_)
    obtain ⟨rfl, ⟨rfl, cx2⟩ | ⟨rfl, cx2⟩⟩ := qx2
    · refine z_if_eq_F (M := M_X12_isAsked) 16 dX12_isAsked_16 35 rfl (by omega) ?_
      refine z_aload_n (M := M_X12_isAsked) 19 dX12_isAsked_19 rfl ?_
      refine z_iload_n (M := M_X12_isAsked) 20 dX12_isAsked_20 rfl ?_
      refine z_bipush (M := M_X12_isAsked) 21 dX12_isAsked_21 ?_
      refine z_iload_n (M := M_X12_isAsked) 23 dX12_isAsked_23 rfl ?_
      refine z_iaddN (M := M_X12_isAsked) 24 dX12_isAsked_24 (by omega) (by omega) ?_
      refine z_vI (M := M_X12_isAsked) 25 dX12_isAsked_25 t_X12_isAnswered l_X12_394 (m_rr_of rfl) (rest := []) (c_X12_isAnswered2 h0 a1 (12 + a2) G0 (NP.call hN (FR.rf (cs := [115, 116, 117, 118, 119, 120, 121, 122, 123, 124, 125, 126, 127, 128, 129, 130, 131, 132, 133, 134]) (ss := [(108, 21)]) (h := h0)) (fun _ => rfl) (fun _ => rfl) (fun _ => rfl))) o_108 rfl rfl rfl (Nat.le_of_ble_eq_true rfl) ⟨rfl, rfl⟩ (fun x3 h3 qx3 => ?_)
      obtain ⟨G3, S3, ax3, bx3, fx3_0, fx3_1⟩ := qx3
      have R3 := (FR.rf (cs := [115, 116, 117, 118, 119, 120, 121, 122, 123, 124, 125, 126, 127, 128, 129, 130, 131, 132, 133, 134]) (ss := [(108, 21)]) (h := h0)).call S3 (by decide +kernel)
      refine z_if_eq (M := M_X12_isAsked) 28 dX12_isAsked_28 35 rfl (fun c4 => ?_) (fun c4 => ?_)
      · refine z_iconst (M := M_X12_isAsked) 35 dX12_isAsked_35 ?_
        exact z_retZ (M := M_X12_isAsked) 36 dX12_isAsked_36 rfl (by omega) ⟨G3, R3, by omega, by omega, akQ_0, ⟨fun z => absurd z (by decide), fun z => absurd (fx3_1.mpr ⟨z.2.2.1, ⟨by omega, by omega, Or.inr (Or.inl (by omega))⟩, z.2.2.2⟩) (by omega)⟩⟩
      · refine z_iconst (M := M_X12_isAsked) 31 dX12_isAsked_31 ?_
        refine z_goto (M := M_X12_isAsked) 32 dX12_isAsked_32 36 rfl ?_
        exact z_retZ (M := M_X12_isAsked) 36 dX12_isAsked_36 rfl (by omega) ⟨G3, R3, by omega, by omega, fun _ => ⟨⟨by omega, by omega⟩, ⟨by omega, by omega⟩, gG_b (fx3_0 (by omega)).2.2 (FR.rf (cs := [115, 116, 117, 118, 119, 120, 121, 122, 123, 124, 125, 126, 127, 128, 129, 130, 131, 132, 133, 134]) (ss := [(108, 21)]) (h := h0)) (fun _ => rfl)⟩, ⟨fun _ => ⟨cx1, ⟨by omega, by omega⟩, (fx3_1.mp (by omega)).1, (fx3_1.mp (by omega)).2.2⟩, fun _ => rfl⟩⟩
    · refine z_if_eq_T (M := M_X12_isAsked) 16 dX12_isAsked_16 35 rfl (by omega) ?_
      refine z_iconst (M := M_X12_isAsked) 35 dX12_isAsked_35 ?_
      exact z_retZ (M := M_X12_isAsked) 36 dX12_isAsked_36 rfl (by omega) ⟨G0, (FR.rf (cs := [115, 116, 117, 118, 119, 120, 121, 122, 123, 124, 125, 126, 127, 128, 129, 130, 131, 132, 133, 134]) (ss := [(108, 21)]) (h := h0)), by omega, by omega, akQ_0, ⟨fun z => absurd z (by decide), fun z => absurd z.2.1 cx2⟩⟩
  · refine z_if_eq_T (M := M_X12_isAsked) 9 dX12_isAsked_9 35 rfl (by omega) ?_
    refine z_iconst (M := M_X12_isAsked) 35 dX12_isAsked_35 ?_
    exact z_retZ (M := M_X12_isAsked) 36 dX12_isAsked_36 rfl (by omega) ⟨G0, (FR.rf (cs := [115, 116, 117, 118, 119, 120, 121, 122, 123, 124, 125, 126, 127, 128, 129, 130, 131, 132, 133, 134]) (ss := [(108, 21)]) (h := h0)), by omega, by omega, akQ_0, ⟨fun z => absurd z (by decide), fun z => absurd z.1 cx1⟩⟩
def wdK (r : Nat → Int) (a f n k : Int) : Prop := (1 ≤ n ∧ n ≤ 99) ∧ (0 ≤ k ∧ k ≤ 2) ∧ ftK r a f
def wdQ (r : Nat → Int) (a f n k x : Int) : Prop := (¬ wdK r a f n k ∧ x = -2) ∨ (wdK r a f n k ∧ ∃ B C, BX (bR r) (12 + f).toNat a.toNat B ∧ BX (bR r) a.toNat (12 + f).toNat C ∧ tlF B C n k x)
abbrev P_X12_would3 (h0 : m_H) (a1 a2 a3 a4 : Int) : Int → m_H → Prop := fun x h' => GI h' ∧ FR [115, 116, 117, 118, 119, 120, 121, 122, 123, 124, 125, 126, 127, 128, 129, 130, 131, 132, 133, 134, 135, 136, 138] [(108, 0), (108, 21), (108, 44), (108, 45), (108, 46), (108, 47)] h0 h' ∧ (-2) ≤ x ∧ x ≤ 2 ∧ wdQ (h0 110) a1 a2 a3 a4 x
set_option maxHeartbeats 4000000 in
set_option maxRecDepth 100000 in
theorem c_X12_would3 (h0 : m_H) (a1 a2 a3 a4 : Int) (G0 : GI h0) (hN : NP h0) : m_CI M_X12_would [mR 108, mI a1, mI a2, mI a3, mI a4] h0 (P_X12_would3 h0 a1 a2 a3 a4) := by
  refine m_CI_of ⟨by decide, rfl, by simp [m_arg, m_isL, M_X12_would], ⟨rfl, rfl⟩, rfl, rfl⟩ (ls := [some (mR 108), some (mI a1), some (mI a2), some (mI a3), some (mI a4)]) rfl ?_
  refine z_ok (fun _ _ ok => ?_)
  have oa1 : m_32 a1 := ok 1 _ rfl
  unfold m_32 at oa1
  have oa2 : m_32 a2 := ok 2 _ rfl
  unfold m_32 at oa2
  have oa3 : m_32 a3 := ok 3 _ rfl
  unfold m_32 at oa3
  have oa4 : m_32 a4 := ok 4 _ rfl
  unfold m_32 at oa4
  refine z_aload_n (M := M_X12_would) 0 dX12_would_0 rfl ?_
  refine z_iconst (M := M_X12_would) 1 dX12_would_1 ?_
  refine z_putIH (M := M_X12_would) 2 dX12_would_2 p_X12_133 o_108 rfl (u_108_0 G0) ((FR.rf (cs := [115, 116, 117, 118, 119, 120, 121, 122, 123, 124, 125, 126, 127, 128, 129, 130, 131, 132, 133, 134, 135, 136, 138]) (ss := [(108, 0), (108, 21), (108, 44), (108, 45), (108, 46), (108, 47)]) (h := h0)).up rfl) (fun h1 E1 G1 R1 => ?_)
  refine z_iload_n (M := M_X12_would) 5 dX12_would_5 rfl ?_
  refine z_i2l (M := M_X12_would) 6 dX12_would_6 ?_
  refine z_lconst (M := M_X12_would) 7 dX12_would_7 (v := 1) ?_
  refine z_ldc2 (M := M_X12_would) 8 dX12_would_8 k_X12_180 ?_
  refine z_sI (M := M_X12_would) 11 dX12_would_11 t_X12_in l_X12_143 (m_rr_of rfl) (rest := []) (c_X12_in h1 a3 1 99 G1) rfl rfl (Nat.le_of_ble_eq_true rfl) ⟨rfl, rfl⟩ (fun x1 h2 qx1 => ?_)
  obtain ⟨rfl, ⟨rfl, cx1⟩ | ⟨rfl, cx1⟩⟩ := qx1
  · refine z_if_eq_F (M := M_X12_would) 14 dX12_would_14 39 rfl (by omega) ?_
    refine z_iload (M := M_X12_would) 17 dX12_would_17 rfl ?_
    refine z_i2l (M := M_X12_would) 19 dX12_would_19 ?_
    refine z_lconst (M := M_X12_would) 20 dX12_would_20 (v := 0) ?_
    refine z_ldc2 (M := M_X12_would) 21 dX12_would_21 k_X12_182 ?_
    refine z_sI (M := M_X12_would) 24 dX12_would_24 t_X12_in l_X12_143 (m_rr_of rfl) (rest := []) (c_X12_in h1 a4 0 2 G1) rfl rfl (Nat.le_of_ble_eq_true rfl) ⟨rfl, rfl⟩ (fun x2 h3 qx2 => ?_)
    obtain ⟨rfl, ⟨rfl, cx2⟩ | ⟨rfl, cx2⟩⟩ := qx2
    · refine z_if_eq_F (M := M_X12_would) 27 dX12_would_27 39 rfl (by omega) ?_
      refine z_aload_n (M := M_X12_would) 30 dX12_would_30 rfl ?_
      refine z_iload_n (M := M_X12_would) 31 dX12_would_31 rfl ?_
      refine z_iload_n (M := M_X12_would) 32 dX12_would_32 rfl ?_
      refine z_vI (M := M_X12_would) 33 dX12_would_33 t_X12_isAsked l_X12_425 (m_rr_of rfl) (rest := []) (c_X12_isAsked4 h1 a1 a2 G1 (NP.call hN R1 (fun _ => rfl) (fun _ => rfl) (fun _ => rfl))) o_108 rfl rfl rfl (Nat.le_of_ble_eq_true rfl) ⟨rfl, rfl⟩ (fun x3 h4 qx3 => ?_)
      obtain ⟨G4, S4, ax3, bx3, fx3_0, fx3_1⟩ := qx3
      rw [(FR.row R1 (fun _ => rfl) : h1 110 = h0 110)] at fx3_1
      have R4 := R1.call S4 (by decide +kernel)
      refine z_if_ne (M := M_X12_would) 36 dX12_would_36 42 rfl (fun c4 => ?_) (fun c4 => ?_)
      · have an := fx3_0 (by omega)
        have an1 := an.1
        have an2 := an.2.1
        refine z_aload_n (M := M_X12_would) 42 dX12_would_42 rfl ?_
        refine z_iload_n (M := M_X12_would) 43 dX12_would_43 rfl ?_
        refine z_iload_n (M := M_X12_would) 44 dX12_would_44 rfl ?_
        refine z_vV (M := M_X12_would) 45 dX12_would_45 t_X12_findEnds l_X12_428 (m_rr_of rfl) (rest := []) (c_X12_findEnds4 h4 a1 a2 G4 ⟨by omega, by omega⟩ ⟨by omega, by omega⟩ (NP.call hN R4 (fun _ => rfl) (fun _ => rfl) (fun _ => rfl)) (gG_f (gG_b an.2.2 R1 (fun _ => rfl)) R4 (fun _ => rfl))) o_108 rfl rfl rfl (Nat.le_of_ble_eq_true rfl) ⟨rfl, rfl⟩ (fun h5 qx5 => ?_)
        obtain ⟨G5, S5, fx5_0, fx5_1, fx5_2⟩ := qx5
        unfold lP at fx5_1
        unfold hP at fx5_2
        rw [(FR.row R4 (fun _ => rfl) : h4 110 = h0 110)] at fx5_1 fx5_2
        have R5 := R4.call S5 (by decide +kernel)
        refine z_aload_n (M := M_X12_would) 48 dX12_would_48 rfl ?_
        refine z_iload_n (M := M_X12_would) 49 dX12_would_49 rfl ?_
        refine z_iload (M := M_X12_would) 50 dX12_would_50 rfl ?_
        refine z_vI (M := M_X12_would) 52 dX12_would_52 t_X12_tells l_X12_431 (m_rr_of rfl) (rest := []) (c_X12_tells4 h5 a3 a4 G5 ⟨by omega, by omega⟩ ⟨by omega, by omega⟩ ⟨fx5_1.2, fx5_2.2⟩) o_108 rfl rfl rfl (Nat.le_of_ble_eq_true rfl) ⟨rfl, rfl⟩ (fun x6 h6 qx6 => ?_)
        obtain ⟨G6, S6, ax6, bx6, fx6⟩ := qx6
        have R6 := R5.call S6 (by decide +kernel)
        exact z_retI (M := M_X12_would) 55 dX12_would_55 rfl ⟨G6, R6, by omega, by omega, Or.inr ⟨⟨⟨by omega, by omega⟩, ⟨by omega, by omega⟩, fx3_1.mp (by omega)⟩, _, _, fx5_1.1, fx5_2.1, fx6⟩⟩
      · refine z_bipush (M := M_X12_would) 39 dX12_would_39 ?_
        exact z_retI (M := M_X12_would) 41 dX12_would_41 rfl ⟨G4, R4, by omega, by omega, Or.inl ⟨fun z => absurd (fx3_1.mpr z.2.2) (by omega), rfl⟩⟩
    · refine z_if_eq_T (M := M_X12_would) 27 dX12_would_27 39 rfl (by omega) ?_
      refine z_bipush (M := M_X12_would) 39 dX12_would_39 ?_
      exact z_retI (M := M_X12_would) 41 dX12_would_41 rfl ⟨G1, R1, by omega, by omega, Or.inl ⟨fun z => cx2 z.2.1, rfl⟩⟩
  · refine z_if_eq_T (M := M_X12_would) 14 dX12_would_14 39 rfl (by omega) ?_
    refine z_bipush (M := M_X12_would) 39 dX12_would_39 ?_
    exact z_retI (M := M_X12_would) 41 dX12_would_41 rfl ⟨G1, R1, by omega, by omega, Or.inl ⟨fun z => cx1 z.1, rfl⟩⟩
/-! numbers of a kind, by the ends -/
theorem of0 : ofK 0 = 1 := by decide
theorem of1 : ofK 1 = 1 := by decide
theorem of2 : ofK 2 = 2 := by decide
theorem lo0 (n : Int) : loK n 0 = n := if_neg (by decide)
theorem lo1 (n : Int) : loK n 1 = n := if_neg (by decide)
theorem lo2 (n : Int) : loK n 2 = 2 * n - 1 := if_pos rfl
theorem hi0 (n : Int) : hiK n 0 = n := if_pos rfl
theorem hi1 (n : Int) : hiK n 1 = n + 1 := (if_neg (by decide)).trans (if_pos rfl)
theorem hi2 (n : Int) : hiK n 2 = 2 * n + 1 := (if_neg (by decide)).trans (if_neg (by decide))
theorem le_dv {a b n : Int} (hb : 0 < b) : n ≤ a / b ↔ b * n ≤ a := by
  constructor
  · intro z
    have m := Int.mul_le_mul_of_nonneg_left z (Int.le_of_lt hb)
    have k := Int.mul_ediv_self_le (x := a) (k := b) (by omega)
    omega
  · intro z
    exact Int.le_ediv_of_mul_le hb (by rw [Int.mul_comm]; exact z)
theorem dv_le {a b n : Int} (hb : 0 < b) : a / b ≤ n ↔ a < b * (n + 1) := by
  have q := le_dv (a := a) (b := b) (n := n + 1) hb
  omega
theorem dv_ex {a b n : Int} (hb : 0 < b) (e : a = b * n) : a / b * b = a := by
  rw [e, Int.mul_ediv_cancel_left n (by omega), Int.mul_comm]
theorem ln_U {T L o n k : Int} (hT : 0 < T) (hk : 0 ≤ k ∧ k ≤ 2) : lnF k T L o ≤ n ↔ tlU (T, L, o) n k := by
  have hk' : k = 0 ∨ k = 1 ∨ k = 2 := by omega
  show lnF k T L o ≤ n ↔ (L * ofK k < T * hiK n k ∨ (L * ofK k = T * hiK n k ∧ k = 0 ∧ o ≠ 1))
  rcases hk' with rfl | rfl | rfl
  · rw [of0, hi0, Int.mul_one]
    unfold lnF
    rw [if_neg (by decide)]
    have q := dv_le (a := L) (b := T) (n := n) hT
    have q1 := dv_le (a := L) (b := T) (n := n - 1) hT
    rw [show n - 1 + 1 = n by omega] at q1
    by_cases c : (0 : Int) = 0 ∧ (o = 1 ∨ L / T * T ≠ L)
    · rw [if_pos c]
      constructor
      · intro z; exact Or.inl (q1.mp (by omega))
      · rintro (z | ⟨z1, _, z3⟩)
        · have := q1.mpr z; omega
        · exfalso
          rcases c.2 with c2 | c2
          · exact z3 c2
          · exact c2 (dv_ex hT z1)
    · rw [if_neg c]
      have no : o ≠ 1 := fun z => c ⟨rfl, Or.inl z⟩
      have ex : L / T * T = L := Decidable.byContradiction (fun z => c ⟨rfl, Or.inr z⟩)
      constructor
      · intro z
        have m := Int.mul_le_mul_of_nonneg_right z (Int.le_of_lt hT)
        rw [ex, Int.mul_comm n] at m
        rcases Int.lt_or_eq_of_le m with y | y
        · exact Or.inl y
        · exact Or.inr ⟨y, rfl, no⟩
      · rintro (z | ⟨z1, _, _⟩)
        · have := q1.mpr z; omega
        · refine q.mpr ?_
          rw [Int.mul_add, Int.mul_one]; omega
  · rw [of1, hi1, Int.mul_one]
    unfold lnF
    rw [if_neg (by decide), if_neg (fun z => absurd z.1 (by decide)), dv_le hT]
    exact ⟨Or.inl, fun z => z.elim id (fun y => absurd y.2.1 (by decide))⟩
  · rw [of2, hi2]
    unfold lnF
    rw [if_pos rfl, dv_le (show 0 < 2 * T by omega)]
    have e1 : 2 * T * (n + 1) = 2 * (T * n) + 2 * T := by rw [Int.mul_add, Int.mul_one, Int.mul_assoc]
    have e2 : T * (2 * n + 1) = 2 * (T * n) + T := by rw [Int.mul_add, Int.mul_one, Int.mul_left_comm]
    rw [e1, e2]
    constructor
    · intro z; exact Or.inl (by omega)
    · rintro (z | ⟨_, z, _⟩)
      · omega
      · exact absurd z (by decide)
theorem gg_le {T L o n : Int} (hL : 0 < L) : n ≤ gnG T L o ↔ (L * n < T ∨ (L * n = T ∧ o ≠ 1)) := by
  have q := le_dv (a := T) (b := L) (n := n) hL
  have q1 := le_dv (a := T) (b := L) (n := n + 1) hL
  rw [Int.mul_add, Int.mul_one] at q1
  unfold gnG
  by_cases c : o = 1 ∧ T / L * L = T
  · rw [if_pos c]
    constructor
    · intro z; left; have := q1.mp (by omega); omega
    · rintro (z | ⟨_, z⟩)
      · have e : L * n < L * (T / L) := by rw [Int.mul_comm L (T / L), c.2]; exact z
        have := Int.lt_of_mul_lt_mul_left e (Int.le_of_lt hL)
        omega
      · exact absurd c.1 z
  · rw [if_neg c, q]
    constructor
    · intro z
      rcases Int.lt_or_eq_of_le z with y | y
      · exact Or.inl y
      · exact Or.inr ⟨y, fun w => c ⟨w, dv_ex hL y.symm⟩⟩
    · rintro (z | ⟨z, _⟩) <;> omega
theorem gn_O {T L o n k : Int} (hT : 0 < T) (hL : 0 ≤ L) (hk : 0 ≤ k ∧ k ≤ 2) : (L = 0 ∨ n ≤ gnF k T L o) ↔ tlO (T, L, o) n k := by
  have hk' : k = 0 ∨ k = 1 ∨ k = 2 := by omega
  show (L = 0 ∨ n ≤ gnF k T L o) ↔ (L * loK n k < T * ofK k ∨ (T * ofK k = L * loK n k ∧ o ≠ 1))
  by_cases g : L = 0
  · refine ⟨fun _ => Or.inl ?_, fun _ => Or.inl g⟩
    rw [g, Int.zero_mul]
    refine Int.mul_pos hT ?_
    unfold ofK
    split <;> decide
  · have hL' : 0 < L := by omega
    have e : (L = 0 ∨ n ≤ gnF k T L o) ↔ n ≤ gnF k T L o := ⟨fun z => z.elim (fun y => absurd y g) id, Or.inr⟩
    rw [e]
    unfold gnF
    rw [if_neg g]
    rcases hk' with rfl | rfl | rfl
    · rw [if_neg (by decide), gg_le hL', of0, lo0, Int.mul_one]
      exact or_congr Iff.rfl (and_congr eq_comm Iff.rfl)
    · rw [if_neg (by decide), gg_le hL', of1, lo1, Int.mul_one]
      exact or_congr Iff.rfl (and_congr eq_comm Iff.rfl)
    · rw [if_pos rfl, gg_le (show 0 < 2 * L by omega), of2, lo2]
      have e1 : 2 * L * n = 2 * (L * n) := Int.mul_assoc 2 L n
      have e2 : L * (2 * n - 1) = 2 * (L * n) - L := by rw [Int.mul_sub, Int.mul_one, Int.mul_left_comm]
      rw [e1, e2]
      exact or_congr (by omega) (and_congr (by omega) Iff.rfl)
/-- forced: nothing else can be told -/
def fcQ (B C : Int × Int × Int) (n k : Int) : Prop := (k = 0 ∧ C.1 = n * C.2.1 ∧ B.2.1 = n * B.1) ∨ (k ≠ 0 ∧ lnF k B.1 B.2.1 B.2.2 = n ∧ gnF k C.1 C.2.1 C.2.2 = n)
theorem fc_I {T L o T' L' o' n k : Int} (hT : 0 < T) (hT' : 0 < T') (hL' : 0 ≤ L') (hn : 1 ≤ n) (hk : 0 ≤ k ∧ k ≤ 2) (u : tlU (T, L, o) n k) (v : tlO (T', L', o') n k) : fcQ (T, L, o) (T', L', o') n k ↔ tlI (T, L, o) (T', L', o') n k := by
  have hk' : k = 0 ∨ k = 1 ∨ k = 2 := by omega
  have gn : k ≠ 0 → (gnF k T' L' o' = n ↔ (T' * ofK k < L' * hiK n k ∨ (T' * ofK k = L' * hiK n k ∧ o' = 1))) := fun k0 => by
    have v' := (gn_O hT' hL' hk).mpr v
    by_cases g : L' = 0
    · rw [g, Int.zero_mul]
      have p : 0 < T' * ofK k := Int.mul_pos hT' (by unfold ofK; split <;> decide)
      unfold gnF
      rw [if_pos rfl]
      constructor
      · intro z; omega
      · rintro (z | ⟨z, _⟩) <;> omega
    · have hL2 : 0 < L' := by omega
      have w : n ≤ gnF k T' L' o' := v'.elim (fun y => absurd y g) id
      have e : gnF k T' L' o' = n ↔ ¬ (n + 1 ≤ gnF k T' L' o') := by omega
      rw [e]
      unfold gnF
      rw [if_neg g]
      rcases hk' with rfl | rfl | rfl
      · exact absurd rfl k0
      · rw [if_neg (by decide), gg_le hL2, of1, hi1, Int.mul_one]
        by_cases o1 : o' = 1
        · constructor
          · intro z
            rcases Int.lt_trichotomy T' (L' * (n + 1)) with y | y | y
            · exact Or.inl y
            · exact Or.inr ⟨y, o1⟩
            · exact absurd (Or.inl y) z
          · rintro (z | ⟨z, _⟩) (y | ⟨y, y2⟩)
            · omega
            · exact y2 o1
            · omega
            · exact y2 o1
        · constructor
          · intro z
            rcases Int.lt_trichotomy T' (L' * (n + 1)) with y | y | y
            · exact Or.inl y
            · exact absurd (Or.inr ⟨y.symm, o1⟩) z
            · exact absurd (Or.inl y) z
          · rintro (z | ⟨_, z⟩)
            · rintro (y | ⟨y, _⟩) <;> omega
            · exact absurd z o1
      · rw [if_pos rfl, gg_le (show 0 < 2 * L' by omega), of2, hi2]
        have e1 : 2 * L' * (n + 1) = 2 * (L' * n) + 2 * L' := by rw [Int.mul_add, Int.mul_one, Int.mul_assoc]
        have e2 : L' * (2 * n + 1) = 2 * (L' * n) + L' := by rw [Int.mul_add, Int.mul_one, Int.mul_left_comm]
        rw [e1, e2]
        generalize L' * n = P
        by_cases o1 : o' = 1
        · constructor
          · intro z
            rcases Int.lt_trichotomy (T' * 2) (2 * P + L') with y | y | y
            · exact Or.inl y
            · exact Or.inr ⟨y, o1⟩
            · exact absurd (Or.inl (by omega)) z
          · rintro (z | ⟨z, _⟩) (y | ⟨y, y2⟩)
            · omega
            · exact y2 o1
            · omega
            · exact y2 o1
        · constructor
          · intro z
            rcases Int.lt_trichotomy (T' * 2) (2 * P + L') with y | y | y
            · exact Or.inl y
            · exact absurd (Or.inr ⟨by omega, o1⟩) z
            · exact absurd (Or.inl (by omega)) z
          · rintro (z | ⟨_, z⟩)
            · rintro (y | ⟨y, _⟩) <;> omega
            · exact absurd z o1
  have ln : k ≠ 0 → (lnF k T L o = n ↔ T * loK n k ≤ L * ofK k) := fun k0 => by
    have u' := (ln_U hT hk).mpr u
    have e : lnF k T L o = n ↔ n ≤ lnF k T L o := by omega
    rw [e]
    unfold lnF
    rcases hk' with rfl | rfl | rfl
    · exact absurd rfl k0
    · rw [if_neg (by decide), if_neg (fun z => absurd z.1 (by decide)), le_dv hT, of1, lo1, Int.mul_one]
    · rw [if_pos rfl, le_dv (show 0 < 2 * T by omega), of2, lo2]
      have e1 : 2 * T * n = 2 * (T * n) := Int.mul_assoc 2 T n
      have e2 : T * (2 * n - 1) = 2 * (T * n) - T := by rw [Int.mul_sub, Int.mul_one, Int.mul_left_comm]
      rw [e1, e2]
      omega
  show ((k = 0 ∧ T' = n * L' ∧ L = n * T) ∨ (k ≠ 0 ∧ lnF k T L o = n ∧ gnF k T' L' o' = n)) ↔ (T * loK n k ≤ L * ofK k ∧ (T' * ofK k < L' * hiK n k ∨ (T' * ofK k = L' * hiK n k ∧ (k = 0 ∨ o' = 1))))
  by_cases k0 : k = 0
  · subst k0
    have u' : L * ofK 0 < T * hiK n 0 ∨ (L * ofK 0 = T * hiK n 0 ∧ (0 : Int) = 0 ∧ o ≠ 1) := u
    have v' : L' * loK n 0 < T' * ofK 0 ∨ (T' * ofK 0 = L' * loK n 0 ∧ o' ≠ 1) := v
    rw [of0, hi0, Int.mul_one] at u'
    rw [of0, lo0, Int.mul_one] at v'
    rw [of0, lo0, hi0, Int.mul_one, Int.mul_one, Int.mul_comm n L', Int.mul_comm n T]
    generalize T * n = P at *
    generalize L' * n = Q at *
    have u2 : L ≤ P := u'.elim (fun z => by omega) (fun z => by have := z.1; omega)
    have v2 : Q ≤ T' := v'.elim (fun z => by omega) (fun z => by have := z.1; omega)
    constructor
    · rintro (⟨_, z1, z2⟩ | ⟨z, _⟩)
      · exact ⟨by omega, Or.inr ⟨z1, Or.inl rfl⟩⟩
      · exact absurd rfl z
    · rintro ⟨z1, z2⟩
      have z3 : T' ≤ Q := z2.elim (fun z => by omega) (fun z => by have := z.1; omega)
      exact Or.inl ⟨rfl, by omega, by omega⟩
  · have e1 := ln k0
    have e2 := gn k0
    constructor
    · rintro (⟨z, _⟩ | ⟨_, z1, z2⟩)
      · exact absurd z k0
      · exact ⟨e1.mp z1, (e2.mp z2).elim Or.inl (fun y => Or.inr ⟨y.1, Or.inr y.2⟩)⟩
    · rintro ⟨z1, z2⟩
      exact Or.inr ⟨k0, e1.mpr z1, e2.mpr (z2.elim Or.inl (fun y => Or.inr ⟨y.1, y.2.elim (fun w => absurd w k0) id⟩))⟩
/-- the same ends tell the same -/
theorem sc_cmp {T L T' L' : Int} (c m : Int) (hT : 0 < T) (hT' : 0 < T') (e : T * L' = T' * L) : (L * c < T * m ↔ L' * c < T' * m) ∧ (L * c = T * m ↔ L' * c = T' * m) := by
  have k1 : T' * (L * c) = T * (L' * c) := by rw [← Int.mul_assoc, ← Int.mul_assoc, e]
  have k2 : T' * (T * m) = T * (T' * m) := Int.mul_left_comm T' T m
  refine ⟨⟨fun z => ?_, fun z => ?_⟩, ⟨fun z => ?_, fun z => ?_⟩⟩
  · have q := Int.mul_lt_mul_of_pos_left z hT'
    rw [k1, k2] at q
    exact Int.lt_of_mul_lt_mul_left q (Int.le_of_lt hT)
  · have q := Int.mul_lt_mul_of_pos_left z hT
    rw [← k1, ← k2] at q
    exact Int.lt_of_mul_lt_mul_left q (Int.le_of_lt hT')
  · rw [z, k2] at k1
    exact (Int.eq_of_mul_eq_mul_left (Int.ne_of_gt hT) k1).symm
  · rw [z, ← k2] at k1
    exact Int.eq_of_mul_eq_mul_left (Int.ne_of_gt hT') k1
theorem U_eq {Ls : List gE} (hE : ∀ e ∈ Ls, gEo e) {a b : Nat} {B B' : Int × Int × Int} (h : BX Ls a b B) (h' : BX Ls a b B') (n k : Int) : tlU B n k ↔ tlU B' n k := by
  obtain ⟨x, y⟩ := sc_cmp (ofK k) (hiK n k) h.1.1.1 h'.1.1.1 (BW_eq hE h.1 h'.1).2.1
  exact or_congr x (and_congr y (and_congr Iff.rfl (not_congr (BX_o hE h h'))))
theorem O_eq {Ls : List gE} (hE : ∀ e ∈ Ls, gEo e) {a b : Nat} {B B' : Int × Int × Int} (h : BX Ls a b B) (h' : BX Ls a b B') (n k : Int) : tlO B n k ↔ tlO B' n k := by
  obtain ⟨x, y⟩ := sc_cmp (loK n k) (ofK k) h.1.1.1 h'.1.1.1 (BW_eq hE h.1 h'.1).2.1
  exact or_congr x (and_congr ⟨fun z => (y.mp z.symm).symm, fun z => (y.mpr z.symm).symm⟩ (not_congr (BX_o hE h h')))
theorem I_eq {Ls : List gE} (hE : ∀ e ∈ Ls, gEo e) {a b : Nat} {B B' C C' : Int × Int × Int} (h : BX Ls b a B) (h' : BX Ls b a B') (g : BX Ls a b C) (g' : BX Ls a b C') (n k : Int) : tlI B C n k ↔ tlI B' C' n k := by
  obtain ⟨x, y⟩ := sc_cmp (ofK k) (loK n k) h.1.1.1 h'.1.1.1 (BW_eq hE h.1 h'.1).2.1
  obtain ⟨u, v⟩ := sc_cmp (hiK n k) (ofK k) g.1.1.1 g'.1.1.1 (BW_eq hE g.1 g'.1).2.1
  refine and_congr ⟨fun z => ?_, fun z => ?_⟩ (or_congr ⟨fun z => ?_, fun z => ?_⟩ (and_congr ⟨fun z => (v.mp z.symm).symm, fun z => (v.mpr z.symm).symm⟩ (or_congr Iff.rfl (BX_o hE g g'))))
  · exact Int.not_lt.mp (fun w => absurd (x.mpr w) (Int.not_lt.mpr z))
  · exact Int.not_lt.mp (fun w => absurd (x.mp w) (Int.not_lt.mpr z))
  · rcases Int.lt_trichotomy (C'.1 * ofK k) (C'.2.1 * hiK n k) with w | w | w
    · exact w
    · have := v.mpr w.symm; omega
    · have := u.mpr w; omega
  · rcases Int.lt_trichotomy (C.1 * ofK k) (C.2.1 * hiK n k) with w | w | w
    · exact w
    · have := v.mp w.symm; omega
    · have := u.mp w; omega
theorem wd_eq {r : Nat → Int} (hE : ∀ e ∈ bR r, gEo e) {a f n k x y : Int} (h : wdQ r a f n k x) (h' : wdQ r a f n k y) : x = y := by
  rcases h with ⟨w, e⟩ | ⟨w, B, C, b, c, t⟩
  · rcases h' with ⟨_, e'⟩ | ⟨w', _⟩
    · omega
    · exact absurd w' w
  · rcases h' with ⟨w', _⟩ | ⟨_, B', C', b', c', t'⟩
    · exact absurd w w'
    · have u := U_eq hE b b' n k
      have o := O_eq hE c c' n k
      have i := I_eq hE b b' c c' n k
      unfold tlF at t t'
      rw [← u, ← o, ← i] at t'
      rcases t with ⟨p, q⟩ | ⟨p, ⟨s, q⟩ | ⟨s, q⟩⟩ <;> rcases t' with ⟨p', q'⟩ | ⟨p', ⟨s', q'⟩ | ⟨s', q'⟩⟩
      · omega
      · exact absurd p' p
      · exact absurd p' p
      · exact absurd p p'
      · omega
      · exact absurd s s'
      · exact absurd p p'
      · exact absurd s' s
      · omega
theorem LX.would {h h1 : m_H} {a b n k x y : Int} {cs : List Nat} {ss : List (Nat × Nat)} (G : GI h) (N : NP h) (S1 : FR cs ss h h1) (A : wdQ (h 110) a b n k x) (B : wdQ (h1 110) a b n k y) (o : out 110 110 cs ss = true) : x = y := by
  rw [rowz S1 (fr_out o (by decide) (by decide))] at B
  exact wd_eq (bR_ok G N) A B
abbrev P_X7_firstNumber4 (h0 : m_H) (a1 : Int) : Int → m_H → Prop := fun x h' => GI h' ∧ FR [] [] h0 h' ∧ (1 ≤ x ∧ x ≤ 100 ∧ ∀ v, 1 ≤ v → v ≤ 99 → (x ≤ v ↔ tlU (bd h0 94) v a1))
set_option maxHeartbeats 4000000 in
set_option maxRecDepth 100000 in
theorem c_X7_firstNumber4 (h0 : m_H) (a1 : Int) (G0 : GI h0) (pk : 0 ≤ a1 ∧ a1 ≤ 2) (q94 : (1 ≤ h0 94 0 ∧ h0 94 0 ≤ 1600000000) ∧ (0 ≤ h0 94 1 ∧ h0 94 1 ≤ 1600000000)) : m_CI M_X7_firstNumber [mR 93, mI a1] h0 (P_X7_firstNumber4 h0 a1) := by
  refine m_CI_of ⟨by decide, rfl, by simp [m_arg, m_isL, M_X7_firstNumber], ⟨rfl, rfl⟩, rfl, rfl⟩ (ls := [some (mR 93), some (mI a1)]) rfl ?_
  refine z_ok (fun _ _ ok => ?_)
  have oa1 : m_32 a1 := ok 1 _ rfl
  unfold m_32 at oa1
  refine z_ldc2 (M := M_X7_firstNumber) 0 dX7_firstNumber_0 k_X7_48 ?_
  refine z_lconst (M := M_X7_firstNumber) 3 dX7_firstNumber_3 (v := 1) ?_
  refine z_aload_n (M := M_X7_firstNumber) 4 dX7_firstNumber_4 rfl ?_
  refine z_iload_n (M := M_X7_firstNumber) 5 dX7_firstNumber_5 rfl ?_
  refine z_vJ (M := M_X7_firstNumber) 6 dX7_firstNumber_6 t_X7_leastNumber l_X7_50 (m_rr_of rfl) (rest := [mJ 1, mJ 100]) (c_X7_leastNumber2 h0 a1 G0 pk q94) o_93 rfl rfl rfl (Nat.le_of_ble_eq_true rfl) ⟨rfl, rfl⟩ (fun x1 h1 qx1 => ?_)
  obtain ⟨G1, S1, fx1⟩ := qx1
  have R1 := (FR.rf (cs := []) (ss := []) (h := h0)).call S1 (by decide +kernel)
  refine z_maxJ (M := M_X7_firstNumber) 9 dX7_firstNumber_9 ml_X7_54 (rest := [mJ 100]) (Nat.le_of_ble_eq_true rfl) (Nat.le_of_ble_eq_true rfl) ?_
  refine z_topJ (fun x2 ex2 => ?_)
  refine z_minJ (M := M_X7_firstNumber) 12 dX7_firstNumber_12 ml_X7_59 (rest := []) (Nat.le_of_ble_eq_true rfl) (Nat.le_of_ble_eq_true rfl) ?_
  have bx3_ : 1 ≤ x2 := (by rw [← ex2]; split <;> omega)
  refine z_topBJ (lo := 1) (hi := 100) ⟨by split <;> omega, by split <;> omega⟩ (fun x3 ex3 ax3 bx3 => ?_)
  refine z_l2iN (M := M_X7_firstNumber) 15 dX7_firstNumber_15 (by omega) (by omega) ?_
  exact z_retI (M := M_X7_firstNumber) 16 dX7_firstNumber_16 rfl ⟨G1, R1, by omega, by omega, fun v v1 v2 => by rw [← (show lnF a1 (h0 94 0) (h0 94 1) (h0 94 2) ≤ v ↔ tlU (bd h0 94) v a1 from ln_U (by omega) pk), fx1, ← ex3, ← ex2]; split <;> split <;> omega⟩
abbrev P_X7_lastNumber4 (h0 : m_H) (a1 : Int) : Int → m_H → Prop := fun x h' => GI h' ∧ FR [] [] h0 h' ∧ (-1 ≤ x ∧ x ≤ 99 ∧ ∀ v, 1 ≤ v → v ≤ 99 → (v ≤ x ↔ tlO (bd h0 95) v a1))
set_option maxHeartbeats 4000000 in
set_option maxRecDepth 100000 in
theorem c_X7_lastNumber4 (h0 : m_H) (a1 : Int) (G0 : GI h0) (pk : 0 ≤ a1 ∧ a1 ≤ 2) (q95 : (1 ≤ h0 95 0 ∧ h0 95 0 ≤ 1600000000) ∧ (0 ≤ h0 95 1 ∧ h0 95 1 ≤ 1600000000)) : m_CI M_X7_lastNumber [mR 93, mI a1] h0 (P_X7_lastNumber4 h0 a1) := by
  refine m_CI_of ⟨by decide, rfl, by simp [m_arg, m_isL, M_X7_lastNumber], ⟨rfl, rfl⟩, rfl, rfl⟩ (ls := [some (mR 93), some (mI a1)]) rfl ?_
  refine z_ok (fun _ _ ok => ?_)
  have oa1 : m_32 a1 := ok 1 _ rfl
  unfold m_32 at oa1
  refine z_aload_n (M := M_X7_lastNumber) 0 dX7_lastNumber_0 rfl ?_
  refine z_getR (M := M_X7_lastNumber) 1 dX7_lastNumber_1 f_X7_18 o_93 rfl (g_93_1 G0) ?_
  refine z_getJV (M := M_X7_lastNumber) 4 dX7_lastNumber_4 f_X7_29 o_95 rfl (fun x1 ex1 => ?_)
  refine z_lconst (M := M_X7_lastNumber) 7 dX7_lastNumber_7 (v := 0) ?_
  refine z_lcmp (M := M_X7_lastNumber) 8 dX7_lastNumber_8 ?_
  refine z_if_ne (M := M_X7_lastNumber) 9 dX7_lastNumber_9 17 rfl (fun c2 => ?_) (fun c2 => ?_)
  · rw [m_cmp_eq] at c2
    refine z_aload_n (M := M_X7_lastNumber) 17 dX7_lastNumber_17 rfl ?_
    refine z_iload_n (M := M_X7_lastNumber) 18 dX7_lastNumber_18 rfl ?_
    refine z_vJ (M := M_X7_lastNumber) 19 dX7_lastNumber_19 t_X7_greatestNumber l_X7_62 (m_rr_of rfl) (rest := []) (c_X7_greatestNumber2 h0 a1 G0 pk q95) o_93 rfl rfl rfl (Nat.le_of_ble_eq_true rfl) ⟨rfl, rfl⟩ (fun x3 h1 qx3 => ?_)
    obtain ⟨G1, S1, fx3⟩ := qx3
    have gb_ := gnF_b (k := a1) (t := h0 95 0) (l := h0 95 1) (o := h0 95 2) (by omega) (by omega)
    rw [fx3] at gb_
    have R1 := (FR.rf (cs := []) (ss := []) (h := h0)).call S1 (by decide +kernel)
    refine z_ldc2 (M := M_X7_lastNumber) 22 dX7_lastNumber_22 k_X7_65 ?_
    refine z_nI (M := M_X7_lastNumber) 25 dX7_lastNumber_25 t_X11_atMost l_X7_67 (m_rr_of rfl) (rest := []) (c_X11_atMost2 h1 x3 99 G1 (by omega) ⟨by omega, by omega⟩) rfl rfl (Nat.le_of_ble_eq_true rfl) ⟨rfl, rfl⟩ (fun x4 h2 qx4 => ?_)
    obtain ⟨G2, S2, fx4⟩ := qx4
    have R2 := R1.call S2 (by decide +kernel)
    refine z_ok (fun ox4 _ _ => ?_)
    have ox4 := ox4.1; unfold m_ok m_32 at ox4
    exact z_retI (M := M_X7_lastNumber) 28 dX7_lastNumber_28 rfl ⟨G2, R2, by rw [← fx4]; split <;> omega, by rw [← fx4]; split <;> omega, fun v v1 v2 => by rw [← (show (h0 95 1 = 0 ∨ v ≤ gnF a1 (h0 95 0) (h0 95 1) (h0 95 2)) ↔ tlO (bd h0 95) v a1 from gn_O (by omega) (by omega) pk), fx3, ← fx4, ex1]; split <;> omega⟩
  · rw [m_cmp_eq] at c2
    refine z_bipush (M := M_X7_lastNumber) 12 dX7_lastNumber_12 ?_
    refine z_goto (M := M_X7_lastNumber) 14 dX7_lastNumber_14 28 rfl ?_
    exact z_retI (M := M_X7_lastNumber) 28 dX7_lastNumber_28 rfl ⟨G0, (FR.rf (cs := []) (ss := []) (h := h0)), by omega, by omega, fun v v1 v2 => by rw [← (show (h0 95 1 = 0 ∨ v ≤ gnF a1 (h0 95 0) (h0 95 1) (h0 95 2)) ↔ tlO (bd h0 95) v a1 from gn_O (by omega) (by omega) pk), ex1]; omega⟩
def nmI (B C : Int × Int × Int) (k fo la : Int) : Prop := (1 ≤ fo ∧ fo ≤ 100) ∧ (-1 ≤ la ∧ la ≤ 99) ∧ (∀ v, 1 ≤ v → v ≤ 99 → (fo ≤ v ↔ tlU B v k)) ∧ ∀ v, 1 ≤ v → v ≤ 99 → (v ≤ la ↔ tlO C v k)
def nmN (fo la : Int) : Int := if fo ≤ la then la - fo + 1 else 0
abbrev P_X7_manyNumbers4 (h0 : m_H) (a1 : Int) : Int → m_H → Prop := fun x h' => GI h' ∧ FR [] [] h0 h' ∧ 0 ≤ x ∧ x ≤ 2147483647 ∧ ∃ fo la, nmI (bd h0 94) (bd h0 95) a1 fo la ∧ nmN fo la = x
set_option maxHeartbeats 4000000 in
set_option maxRecDepth 100000 in
theorem c_X7_manyNumbers4 (h0 : m_H) (a1 : Int) (G0 : GI h0) (pk : 0 ≤ a1 ∧ a1 ≤ 2) (q94 : (1 ≤ h0 94 0 ∧ h0 94 0 ≤ 1600000000) ∧ (0 ≤ h0 94 1 ∧ h0 94 1 ≤ 1600000000)) (q95 : (1 ≤ h0 95 0 ∧ h0 95 0 ≤ 1600000000) ∧ (0 ≤ h0 95 1 ∧ h0 95 1 ≤ 1600000000)) : m_CI M_X7_manyNumbers [mR 93, mI a1] h0 (P_X7_manyNumbers4 h0 a1) := by
  refine m_CI_of ⟨by decide, rfl, by simp [m_arg, m_isL, M_X7_manyNumbers], ⟨rfl, rfl⟩, rfl, rfl⟩ (ls := [some (mR 93), some (mI a1)]) rfl ?_
  refine z_ok (fun _ _ ok => ?_)
  have oa1 : m_32 a1 := ok 1 _ rfl
  unfold m_32 at oa1
  refine z_iconst (M := M_X7_manyNumbers) 0 dX7_manyNumbers_0 ?_
  refine z_aload_n (M := M_X7_manyNumbers) 1 dX7_manyNumbers_1 rfl ?_
  refine z_iload_n (M := M_X7_manyNumbers) 2 dX7_manyNumbers_2 rfl ?_
  refine z_vI (M := M_X7_manyNumbers) 3 dX7_manyNumbers_3 t_X7_lastNumber l_X7_71 (m_rr_of rfl) (rest := [mI 0]) (c_X7_lastNumber4 h0 a1 G0 pk q95) o_93 rfl rfl rfl (Nat.le_of_ble_eq_true rfl) ⟨rfl, rfl⟩ (fun x1 h1 qx1 => ?_)
  obtain ⟨G1, S1, l1_, l2_, l3_⟩ := qx1
  have R1 := (FR.rf (cs := []) (ss := []) (h := h0)).call S1 (by decide +kernel)
  refine z_ok (fun ox1 _ _ => ?_)
  have ox1 := ox1.1; unfold m_ok m_32 at ox1
  refine z_aload_n (M := M_X7_manyNumbers) 6 dX7_manyNumbers_6 rfl ?_
  refine z_iload_n (M := M_X7_manyNumbers) 7 dX7_manyNumbers_7 rfl ?_
  refine z_vI (M := M_X7_manyNumbers) 8 dX7_manyNumbers_8 t_X7_firstNumber l_X7_75 (m_rr_of rfl) (rest := [mI x1, mI 0]) (c_X7_firstNumber4 h1 a1 G1 pk (by rw [frE S1]; exact q94)) o_93 rfl rfl rfl (Nat.le_of_ble_eq_true rfl) ⟨rfl, rfl⟩ (fun x2 h2 qx2 => ?_)
  obtain ⟨G2, S2, f1_, f2_, f3_⟩ := qx2
  rw [frE S1] at f3_
  have R2 := R1.call S2 (by decide +kernel)
  refine z_ok (fun ox2 _ _ => ?_)
  have ox2 := ox2.1; unfold m_ok m_32 at ox2
  refine z_isubN (M := M_X7_manyNumbers) 11 dX7_manyNumbers_11 (by omega) (by omega) ?_
  refine z_iconst (M := M_X7_manyNumbers) 12 dX7_manyNumbers_12 ?_
  refine z_iaddN (M := M_X7_manyNumbers) 13 dX7_manyNumbers_13 (by omega) (by omega) ?_
  refine z_maxI (M := M_X7_manyNumbers) 14 dX7_manyNumbers_14 ml_X7_78 (rest := []) (Nat.le_of_ble_eq_true rfl) (Nat.le_of_ble_eq_true rfl) ?_
  refine z_topBI (lo := 0) (hi := 2147483647) ⟨by split <;> omega, by split <;> omega⟩ (fun x5 ex5 ax5 bx5 => ?_)
  exact z_retI (M := M_X7_manyNumbers) 17 dX7_manyNumbers_17 rfl ⟨G2, R2, by omega, by omega, ⟨x2, x1, ⟨⟨f1_, f2_⟩, ⟨l1_, l2_⟩, f3_, l3_⟩, by rw [← ex5]; unfold nmN; split <;> split <;> omega⟩⟩
abbrev P_X7_allows4 (h0 : m_H) (a1 a2 : Int) : Int → m_H → Prop := fun x h' => GI h' ∧ FR [] [] h0 h' ∧ 0 ≤ x ∧ x ≤ 1 ∧ (x = 1 ↔ (tlU (bd h0 94) a1 a2 ∧ tlO (bd h0 95) a1 a2))
set_option maxHeartbeats 4000000 in
set_option maxRecDepth 100000 in
theorem c_X7_allows4 (h0 : m_H) (a1 a2 : Int) (G0 : GI h0) (pn : 1 ≤ a1 ∧ a1 ≤ 99) (pk : 0 ≤ a2 ∧ a2 ≤ 2) (q94 : (1 ≤ h0 94 0 ∧ h0 94 0 ≤ 1600000000) ∧ (0 ≤ h0 94 1 ∧ h0 94 1 ≤ 1600000000)) (q95 : (1 ≤ h0 95 0 ∧ h0 95 0 ≤ 1600000000) ∧ (0 ≤ h0 95 1 ∧ h0 95 1 ≤ 1600000000)) : m_CI M_X7_allows [mR 93, mI a1, mI a2] h0 (P_X7_allows4 h0 a1 a2) := by
  refine m_CI_of ⟨by decide, rfl, by simp [m_arg, m_isL, M_X7_allows], ⟨rfl, rfl⟩, rfl, rfl⟩ (ls := [some (mR 93), some (mI a1), some (mI a2)]) rfl ?_
  refine z_ok (fun _ _ ok => ?_)
  have oa1 : m_32 a1 := ok 1 _ rfl
  unfold m_32 at oa1
  have oa2 : m_32 a2 := ok 2 _ rfl
  unfold m_32 at oa2
  refine z_iload_n (M := M_X7_allows) 0 dX7_allows_0 rfl ?_
  refine z_aload_n (M := M_X7_allows) 1 dX7_allows_1 rfl ?_
  refine z_iload_n (M := M_X7_allows) 2 dX7_allows_2 rfl ?_
  refine z_vI (M := M_X7_allows) 3 dX7_allows_3 t_X7_firstNumber l_X7_75 (m_rr_of rfl) (rest := [mI a1]) (c_X7_firstNumber4 h0 a2 G0 pk q94) o_93 rfl rfl rfl (Nat.le_of_ble_eq_true rfl) ⟨rfl, rfl⟩ (fun x1 h1 qx1 => ?_)
  obtain ⟨G1, S1, f1_, f2_, f3_⟩ := qx1
  have u_ := f3_ a1 pn.1 pn.2
  have R1 := (FR.rf (cs := []) (ss := []) (h := h0)).call S1 (by decide +kernel)
  refine z_ok (fun ox1 _ _ => ?_)
  have ox1 := ox1.1; unfold m_ok m_32 at ox1
  refine z_icmp_lt (M := M_X7_allows) 6 dX7_allows_6 22 rfl (fun c2 => ?_) (fun c2 => ?_)
  · refine z_iconst (M := M_X7_allows) 22 dX7_allows_22 ?_
    exact z_retZ (M := M_X7_allows) 23 dX7_allows_23 rfl (by omega) ⟨G1, R1, by omega, by omega, ⟨fun z => absurd z (by decide), fun z => absurd (u_.mpr z.1) (by omega)⟩⟩
  · refine z_iload_n (M := M_X7_allows) 9 dX7_allows_9 rfl ?_
    refine z_aload_n (M := M_X7_allows) 10 dX7_allows_10 rfl ?_
    refine z_iload_n (M := M_X7_allows) 11 dX7_allows_11 rfl ?_
    refine z_vI (M := M_X7_allows) 12 dX7_allows_12 t_X7_lastNumber l_X7_71 (m_rr_of rfl) (rest := [mI a1]) (c_X7_lastNumber4 h1 a2 G1 pk (by rw [frE S1]; exact q95)) o_93 rfl rfl rfl (Nat.le_of_ble_eq_true rfl) ⟨rfl, rfl⟩ (fun x3 h2 qx3 => ?_)
    obtain ⟨G2, S2, l1_, l2_, l3_⟩ := qx3
    rw [frE S1] at l3_
    have o_ := l3_ a1 pn.1 pn.2
    have R2 := R1.call S2 (by decide +kernel)
    refine z_ok (fun ox3 _ _ => ?_)
    have ox3 := ox3.1; unfold m_ok m_32 at ox3
    refine z_icmp_gt (M := M_X7_allows) 15 dX7_allows_15 22 rfl (fun c4 => ?_) (fun c4 => ?_)
    · refine z_iconst (M := M_X7_allows) 22 dX7_allows_22 ?_
      exact z_retZ (M := M_X7_allows) 23 dX7_allows_23 rfl (by omega) ⟨G2, R2, by omega, by omega, ⟨fun z => absurd z (by decide), fun z => absurd (o_.mpr z.2) (by omega)⟩⟩
    · refine z_iconst (M := M_X7_allows) 18 dX7_allows_18 ?_
      refine z_goto (M := M_X7_allows) 19 dX7_allows_19 23 rfl ?_
      exact z_retZ (M := M_X7_allows) 23 dX7_allows_23 rfl (by omega) ⟨G2, R2, by omega, by omega, ⟨fun _ => ⟨u_.mp (by omega), o_.mp (by omega)⟩, fun _ => rfl⟩⟩
abbrev P_X7_forces4 (h0 : m_H) (a1 a2 : Int) : Int → m_H → Prop := fun x h' => GI h' ∧ FR [] [] h0 h' ∧ 0 ≤ x ∧ x ≤ 1 ∧ (x = 1 ↔ fcQ (bd h0 94) (bd h0 95) a1 a2)
set_option maxHeartbeats 4000000 in
set_option maxRecDepth 100000 in
theorem c_X7_forces4 (h0 : m_H) (a1 a2 : Int) (G0 : GI h0) (pn : 1 ≤ a1 ∧ a1 ≤ 99) (pk : 0 ≤ a2 ∧ a2 ≤ 2) (q94 : (1 ≤ h0 94 0 ∧ h0 94 0 ≤ 1600000000) ∧ (0 ≤ h0 94 1 ∧ h0 94 1 ≤ 1600000000)) (q95 : (1 ≤ h0 95 0 ∧ h0 95 0 ≤ 1600000000) ∧ (0 ≤ h0 95 1 ∧ h0 95 1 ≤ 1600000000)) : m_CI M_X7_forces [mR 93, mI a1, mI a2] h0 (P_X7_forces4 h0 a1 a2) := by
  refine m_CI_of ⟨by decide, rfl, by simp [m_arg, m_isL, M_X7_forces], ⟨rfl, rfl⟩, rfl, rfl⟩ (ls := [some (mR 93), some (mI a1), some (mI a2)]) rfl ?_
  refine z_ok (fun _ _ ok => ?_)
  have oa1 : m_32 a1 := ok 1 _ rfl
  unfold m_32 at oa1
  have oa2 : m_32 a2 := ok 2 _ rfl
  unfold m_32 at oa2
  refine z_iload_n (M := M_X7_forces) 0 dX7_forces_0 rfl ?_
  refine z_if_ne (M := M_X7_forces) 1 dX7_forces_1 11 rfl (fun c1 => ?_) (fun c1 => ?_)
  · refine z_aload_n (M := M_X7_forces) 11 dX7_forces_11 rfl ?_
    refine z_iload_n (M := M_X7_forces) 12 dX7_forces_12 rfl ?_
    refine z_vJ (M := M_X7_forces) 13 dX7_forces_13 t_X7_leastNumber l_X7_50 (m_rr_of rfl) (rest := []) (c_X7_leastNumber2 h0 a2 G0 pk q94) o_93 rfl rfl rfl (Nat.le_of_ble_eq_true rfl) ⟨rfl, rfl⟩ (fun x2 h1 qx2 => ?_)
    obtain ⟨G1, S1, fx2⟩ := qx2
    have R1 := (FR.rf (cs := []) (ss := []) (h := h0)).call S1 (by decide +kernel)
    refine z_iload_n (M := M_X7_forces) 16 dX7_forces_16 rfl ?_
    refine z_i2l (M := M_X7_forces) 17 dX7_forces_17 ?_
    refine z_lcmp (M := M_X7_forces) 18 dX7_forces_18 ?_
    refine z_if_ne (M := M_X7_forces) 19 dX7_forces_19 37 rfl (fun c3 => ?_) (fun c3 => ?_)
    · rw [m_cmp_eq] at c3
      refine z_iconst (M := M_X7_forces) 37 dX7_forces_37 ?_
      exact z_retZ (M := M_X7_forces) 38 dX7_forces_38 rfl (by omega) ⟨G1, R1, by omega, by omega, ⟨fun z => absurd z (by decide), fun z => z.elim (fun y => absurd y.1 c1) (fun y => absurd ((fx2.symm.trans (show lnF a2 (h0 94 0) (h0 94 1) (h0 94 2) = a1 from y.2.1))) c3)⟩⟩
    · rw [m_cmp_eq] at c3
      refine z_aload_n (M := M_X7_forces) 22 dX7_forces_22 rfl ?_
      refine z_iload_n (M := M_X7_forces) 23 dX7_forces_23 rfl ?_
      refine z_vJ (M := M_X7_forces) 24 dX7_forces_24 t_X7_greatestNumber l_X7_62 (m_rr_of rfl) (rest := []) (c_X7_greatestNumber2 h1 a2 G1 pk (by rw [frE S1]; exact q95)) o_93 rfl rfl rfl (Nat.le_of_ble_eq_true rfl) ⟨rfl, rfl⟩ (fun x4 h2 qx4 => ?_)
      obtain ⟨G2, S2, fx4⟩ := qx4
      rw [frE S1] at fx4
      have R2 := R1.call S2 (by decide +kernel)
      refine z_iload_n (M := M_X7_forces) 27 dX7_forces_27 rfl ?_
      refine z_i2l (M := M_X7_forces) 28 dX7_forces_28 ?_
      refine z_lcmp (M := M_X7_forces) 29 dX7_forces_29 ?_
      refine z_if_ne (M := M_X7_forces) 30 dX7_forces_30 37 rfl (fun c5 => ?_) (fun c5 => ?_)
      · rw [m_cmp_eq] at c5
        refine z_iconst (M := M_X7_forces) 37 dX7_forces_37 ?_
        exact z_retZ (M := M_X7_forces) 38 dX7_forces_38 rfl (by omega) ⟨G2, R2, by omega, by omega, ⟨fun z => absurd z (by decide), fun z => z.elim (fun y => absurd y.1 c1) (fun y => absurd ((fx4.symm.trans (show gnF a2 (h0 95 0) (h0 95 1) (h0 95 2) = a1 from y.2.2))) c5)⟩⟩
      · rw [m_cmp_eq] at c5
        refine z_iconst (M := M_X7_forces) 33 dX7_forces_33 ?_
        refine z_goto (M := M_X7_forces) 34 dX7_forces_34 38 rfl ?_
        exact z_retZ (M := M_X7_forces) 38 dX7_forces_38 rfl (by omega) ⟨G2, R2, by omega, by omega, ⟨fun _ => Or.inr ⟨c1, fx2.trans (by omega), fx4.trans (by omega)⟩, fun _ => rfl⟩⟩
  · refine z_aload_n (M := M_X7_forces) 4 dX7_forces_4 rfl ?_
    refine z_iload_n (M := M_X7_forces) 5 dX7_forces_5 rfl ?_
    refine z_i2l (M := M_X7_forces) 6 dX7_forces_6 ?_
    refine z_vI (M := M_X7_forces) 7 dX7_forces_7 t_X7_isAlways l_X7_81 (m_rr_of rfl) (rest := []) (c_X7_isAlways2 h0 a1 G0 ⟨by omega, by omega⟩ ⟨⟨by omega, by omega⟩, by omega, by omega⟩ ⟨⟨by omega, by omega⟩, by omega, by omega⟩) o_93 rfl rfl rfl (Nat.le_of_ble_eq_true rfl) ⟨rfl, rfl⟩ (fun x6 h3 qx6 => ?_)
    obtain ⟨G3, S3, ax6, bx6, fx6⟩ := qx6
    have R3 := (FR.rf (cs := []) (ss := []) (h := h0)).call S3 (by decide +kernel)
    exact z_retZ (M := M_X7_forces) 10 dX7_forces_10 rfl (by omega) ⟨G3, R3, by omega, by omega, ⟨fun z => Or.inl ⟨by omega, fx6.mp z⟩, fun z => fx6.mpr (z.elim (fun y => y.2) (fun y => absurd (by omega) y.1))⟩⟩
abbrev P_X11_would3 (h0 : m_H) (a1 a2 a3 a4 : Int) : Int → m_H → Prop := fun x h' => GI h' ∧ FR (csB ++ [39, 40, 41]) [] h0 h' ∧ (-2) ≤ x ∧ x ≤ 2 ∧ wdQ (h0 110) a1 a2 a3 a4 x
set_option maxHeartbeats 4000000 in
set_option maxRecDepth 100000 in
theorem c_X11_would3 (h0 : m_H) (a1 a2 a3 a4 : Int) (G0 : GI h0) (hR : LR 1 h0 (h0 110)) (hN : NP h0) : m_CI M_X11_would [mR 0, mI a1, mI a2, mI a3, mI a4] h0 (P_X11_would3 h0 a1 a2 a3 a4) := by
  refine m_CI_of ⟨by decide, rfl, by simp [m_arg, m_isL, M_X11_would], ⟨rfl, rfl⟩, rfl, rfl⟩ (ls := [some (mR 0), some (mI a1), some (mI a2), some (mI a3), some (mI a4)]) rfl ?_
  refine z_ok (fun _ _ ok => ?_)
  have oa1 : m_32 a1 := ok 1 _ rfl
  unfold m_32 at oa1
  have oa2 : m_32 a2 := ok 2 _ rfl
  unfold m_32 at oa2
  have oa3 : m_32 a3 := ok 3 _ rfl
  unfold m_32 at oa3
  have oa4 : m_32 a4 := ok 4 _ rfl
  unfold m_32 at oa4
  refine z_iload_n (M := M_X11_would) 0 dX11_would_0 rfl ?_
  refine z_sI (M := M_X11_would) 1 dX11_would_1 t_X11_isNumber l_X11_298 (m_rr_of rfl) (rest := []) (c_X11_isNumber h0 a3 G0) rfl rfl (Nat.le_of_ble_eq_true rfl) ⟨rfl, rfl⟩ (fun x1 h1 qx1 => ?_)
  obtain ⟨rfl, ⟨rfl, cx1⟩ | ⟨rfl, cx1⟩⟩ := qx1
  · refine z_if_eq_F (M := M_X11_would) 4 dX11_would_4 24 rfl (by omega) ?_
    refine z_iload (M := M_X11_would) 7 dX11_would_7 rfl ?_
    refine z_sI (M := M_X11_would) 9 dX11_would_9 t_X11_isKind l_X11_301 (m_rr_of rfl) (rest := []) (c_X11_isKind h0 a4 G0) rfl rfl (Nat.le_of_ble_eq_true rfl) ⟨rfl, rfl⟩ (fun x2 h2 qx2 => ?_)
    obtain ⟨rfl, ⟨rfl, cx2⟩ | ⟨rfl, cx2⟩⟩ := qx2
    · refine z_if_eq_F (M := M_X11_would) 12 dX11_would_12 24 rfl (by omega) ?_
      refine z_aload_n (M := M_X11_would) 15 dX11_would_15 rfl ?_
      refine z_iload_n (M := M_X11_would) 16 dX11_would_16 rfl ?_
      refine z_iload_n (M := M_X11_would) 17 dX11_would_17 rfl ?_
      refine z_vI (M := M_X11_would) 18 dX11_would_18 t_X11_compareToFoot l_X11_247 (m_rr_of rfl) (rest := []) (c_X11_compareToFoot2 h0 a1 a2 G0 hR hN) o_0 rfl rfl rfl (Nat.le_of_ble_eq_true rfl) ⟨rfl, rfl⟩ (fun x3 h3 qx3 => ?_)
      obtain ⟨G3, S3, ax3, bx3, fx3⟩ := qx3
      have R3 := (FR.rf (cs := (csB ++ [39, 40, 41])) (ss := []) (h := h0)).call S3 (by decide +kernel)
      refine z_if_ne (M := M_X11_would) 21 dX11_would_21 27 rfl (fun c4 => ?_) (fun c4 => ?_)
      · have k_ := fx3.1.mp (by omega)
        have p_ := fx3.2 (by omega)
        have pb1_ : (1 ≤ h3 95 0 ∧ h3 95 0 ≤ 1600000000) ∧ (0 ≤ h3 95 1 ∧ h3 95 1 ≤ 1600000000) := by have z := p_.1.2.1; unfold pBb bd at z; simp only at z; omega
        have pb2_ : (1 ≤ h3 94 0 ∧ h3 94 0 ≤ 1600000000) ∧ (0 ≤ h3 94 1 ∧ h3 94 1 ≤ 1600000000) := by have z := p_.2.2.1; unfold pBb bd at z; simp only at z; omega
        refine z_aload_n (M := M_X11_would) 27 dX11_would_27 rfl ?_
        refine z_getR (M := M_X11_would) 28 dX11_would_28 f_X11_53 o_0 rfl (g_0_7 G3) ?_
        refine z_iload_n (M := M_X11_would) 31 dX11_would_31 rfl ?_
        refine z_iload (M := M_X11_would) 32 dX11_would_32 rfl ?_
        refine z_vI (M := M_X11_would) 34 dX11_would_34 t_X7_allows l_X11_304 (m_rr_of rfl) (rest := []) (c_X7_allows4 h3 a3 a4 G3 cx1 cx2 pb2_ pb1_) o_93 rfl rfl rfl (Nat.le_of_ble_eq_true rfl) ⟨rfl, rfl⟩ (fun x5 h4 qx5 => ?_)
        obtain ⟨G4, S4, ax5, bx5, fx5⟩ := qx5
        have R4 := R3.call S4 (by decide +kernel)
        refine z_if_ne (M := M_X11_would) 37 dX11_would_37 42 rfl (fun c6 => ?_) (fun c6 => ?_)
        · refine z_aload_n (M := M_X11_would) 42 dX11_would_42 rfl ?_
          refine z_getR (M := M_X11_would) 43 dX11_would_43 f_X11_53 o_0 rfl (g_0_7 G4) ?_
          refine z_iload_n (M := M_X11_would) 46 dX11_would_46 rfl ?_
          refine z_iload (M := M_X11_would) 47 dX11_would_47 rfl ?_
          refine z_vI (M := M_X11_would) 49 dX11_would_49 t_X7_forces l_X11_307 (m_rr_of rfl) (rest := []) (c_X7_forces4 h4 a3 a4 G4 cx1 cx2 (by rw [frE S4]; exact pb2_) (by rw [frE S4]; exact pb1_)) o_93 rfl rfl rfl (Nat.le_of_ble_eq_true rfl) ⟨rfl, rfl⟩ (fun x7 h5 qx7 => ?_)
          obtain ⟨G5, S5, ax7, bx7, fx7⟩ := qx7
          rw [frE S4] at fx7
          have uo_ := fx5.mp (by omega)
          have fi_ := fc_I (T := h3 94 0) (L := h3 94 1) (o := h3 94 2) (T' := h3 95 0) (L' := h3 95 1) (o' := h3 95 2) (by omega) (by omega) (by omega) cx1.1 cx2 uo_.1 uo_.2
          have R5 := R4.call S5 (by decide +kernel)
          refine z_if_eq (M := M_X11_would) 52 dX11_would_52 59 rfl (fun c8 => ?_) (fun c8 => ?_)
          · refine z_iconst (M := M_X11_would) 59 dX11_would_59 ?_
            exact z_retI (M := M_X11_would) 60 dX11_would_60 rfl ⟨G5, R5, by omega, by omega, Or.inr ⟨⟨cx1, cx2, k_⟩, _, _, ⟨p_.2.1, p_.2.2.2.1⟩, ⟨p_.1.1, p_.1.2.2.1⟩, Or.inr ⟨uo_, Or.inr ⟨fun z => absurd (fx7.mpr (fi_.mpr z)) (by omega), rfl⟩⟩⟩⟩
          · refine z_iconst (M := M_X11_would) 55 dX11_would_55 ?_
            refine z_goto (M := M_X11_would) 56 dX11_would_56 60 rfl ?_
            exact z_retI (M := M_X11_would) 60 dX11_would_60 rfl ⟨G5, R5, by omega, by omega, Or.inr ⟨⟨cx1, cx2, k_⟩, _, _, ⟨p_.2.1, p_.2.2.2.1⟩, ⟨p_.1.1, p_.1.2.2.1⟩, Or.inr ⟨uo_, Or.inl ⟨fi_.mp (fx7.mp (by omega)), rfl⟩⟩⟩⟩
        · refine z_iconst (M := M_X11_would) 40 dX11_would_40 ?_
          exact z_retI (M := M_X11_would) 41 dX11_would_41 rfl ⟨G4, R4, by omega, by omega, Or.inr ⟨⟨cx1, cx2, k_⟩, _, _, ⟨p_.2.1, p_.2.2.2.1⟩, ⟨p_.1.1, p_.1.2.2.1⟩, Or.inl ⟨fun z => absurd (fx5.mpr z) (by omega), rfl⟩⟩⟩
      · refine z_bipush (M := M_X11_would) 24 dX11_would_24 ?_
        exact z_retI (M := M_X11_would) 26 dX11_would_26 rfl ⟨G3, R3, by omega, by omega, Or.inl ⟨fun z => absurd (fx3.1.mpr z.2.2) (by omega), rfl⟩⟩
    · refine z_if_eq_T (M := M_X11_would) 12 dX11_would_12 24 rfl (by omega) ?_
      refine z_bipush (M := M_X11_would) 24 dX11_would_24 ?_
      exact z_retI (M := M_X11_would) 26 dX11_would_26 rfl ⟨G0, (FR.rf (cs := (csB ++ [39, 40, 41])) (ss := []) (h := h0)), by omega, by omega, Or.inl ⟨fun z => cx2 z.2.1, rfl⟩⟩
  · refine z_if_eq_T (M := M_X11_would) 4 dX11_would_4 24 rfl (by omega) ?_
    refine z_bipush (M := M_X11_would) 24 dX11_would_24 ?_
    exact z_retI (M := M_X11_would) 26 dX11_would_26 rfl ⟨G0, (FR.rf (cs := (csB ++ [39, 40, 41])) (ss := []) (h := h0)), by omega, by omega, Or.inl ⟨fun z => cx1 z.1, rfl⟩⟩
/-! numbers -/
theorem nmI_ex {B C : Int × Int × Int} {k : Int} (hB : 0 < B.1) (hC : 0 < C.1) (hL : 0 ≤ C.2.1) (hk : 0 ≤ k ∧ k ≤ 2) : ∃ fo la, nmI B C k fo la := by
  obtain ⟨T, L, o⟩ := B
  obtain ⟨T', L', o'⟩ := C
  have hT' : 0 < T' := hC
  have hL' : 0 ≤ L' := hL
  have gb := gnF_b (k := k) (t := T') (l := L') (o := o') (by omega) hL'
  have e1 : ∀ v, lnF k T L o ≤ v ↔ tlU (T, L, o) v k := fun v => ln_U hB hk
  have e2 : ∀ v, (L' = 0 ∨ v ≤ gnF k T' L' o') ↔ tlO (T', L', o') v k := fun v => gn_O hT' hL' hk
  generalize lnF k T L o = p at e1
  generalize gnF k T' L' o' = q at e2 gb
  refine ⟨if p < 1 then 1 else if 100 < p then 100 else p, if L' = 0 then 99 else if 99 < q then 99 else q, ?_, ?_, ?_, ?_⟩
  · split
    · omega
    · split <;> omega
  · split
    · omega
    · split <;> omega
  · intro v v1 v2
    rw [← e1]
    split
    · omega
    · split <;> omega
  · intro v v1 v2
    rw [← e2]
    split
    · omega
    · split <;> omega
theorem eLo_f {h0 h : m_H} (R : FR [135, 136] [] h0 h) : eLo h = eLo h0 := by
  unfold eLo
  rw [(R 108 44 rfl : h 108 44 = h0 108 44), (R 108 46 rfl : h 108 46 = h0 108 46), (FR.row R (fun _ => rfl) : h 138 = h0 138)]
theorem eHi_f {h0 h : m_H} (R : FR [135, 136] [] h0 h) : eHi h = eHi h0 := by
  unfold eHi
  rw [(R 108 45 rfl : h 108 45 = h0 108 45), (R 108 47 rfl : h 108 47 = h0 108 47), (FR.row R (fun _ => rfl) : h 138 = h0 138)]
theorem eOk_f {h0 h : m_H} (R : FR [135, 136] [] h0 h) (E : eOk h0) : eOk h := by
  unfold eOk
  rw [(R 108 44 rfl : h 108 44 = h0 108 44), (R 108 46 rfl : h 108 46 = h0 108 46), (R 108 45 rfl : h 108 45 = h0 108 45), (R 108 47 rfl : h 108 47 = h0 108 47)]
  exact E
theorem tl_pos {B C : Int × Int × Int} {n k fo la x : Int} (I : nmI B C k fo la) (hn : 1 ≤ n ∧ n ≤ 99) (t : tlF B C n k x) : 0 < x ↔ (fo ≤ n ∧ n ≤ la) := by
  have u := I.2.2.1 n hn.1 hn.2
  have o := I.2.2.2 n hn.1 hn.2
  rw [u, o]
  rcases t with ⟨p, q⟩ | ⟨p, ⟨_, q⟩ | ⟨_, q⟩⟩
  · exact ⟨fun z => by omega, fun z => absurd z p⟩
  · exact ⟨fun _ => p, fun _ => by omega⟩
  · exact ⟨fun _ => p, fun _ => by omega⟩
def nmC (fo la m : Int) : Int := nmN fo (if la < m then la else m)
theorem nmC_b {B C : Int × Int × Int} {k fo la : Int} (I : nmI B C k fo la) (m : Int) : 0 ≤ nmC fo la m ∧ nmC fo la m ≤ 99 := by
  have i1 := I.1
  have i2 := I.2.1
  unfold nmC nmN
  split <;> split <;> omega
theorem nmC_y {fo la m : Int} (h : fo ≤ m ∧ m ≤ la) : nmC fo la m = nmC fo la (m - 1) + 1 := by
  unfold nmC nmN
  split <;> split <;> split <;> (try split) <;> omega
theorem nmC_n {fo la m : Int} (h : ¬ (fo ≤ m ∧ m ≤ la)) : nmC fo la m = nmC fo la (m - 1) := by
  unfold nmC nmN
  split <;> split <;> split <;> (try split) <;> omega
theorem nmC_0 {B C : Int × Int × Int} {k fo la : Int} (I : nmI B C k fo la) : nmC fo la (1 - 1) = 0 := by
  have i1 := I.1
  unfold nmC nmN
  split <;> split <;> omega
theorem nmC_e {B C : Int × Int × Int} {k fo la m : Int} (I : nmI B C k fo la) (hm : 100 ≤ m) : nmC fo la (m - 1) = nmN fo la := by
  have i2 := I.2.1
  unfold nmC
  by_cases g : la < m - 1
  · rw [if_pos g]
  · rw [if_neg g, show m - 1 = la by omega]
def nmW (fo la w k y : Int) : Prop := (w = 1 → ((fo ≤ la ∧ 101 - k ≤ la) → (y = fo ∨ y = 101 - k) ∧ fo ≤ y ∧ 101 - k ≤ y) ∧ (¬ (fo ≤ la ∧ 101 - k ≤ la) → y = -1)) ∧ (w = 2 → ((fo ≤ la ∧ fo ≤ k - 1) → (y = la ∨ y = k - 1) ∧ y ≤ la ∧ y ≤ k - 1) ∧ (¬ (fo ≤ la ∧ fo ≤ k - 1) → y = -1))
def nmV (fo la w x : Int) : Prop := (w = 0 → x = nmN fo la) ∧ (w = 1 → (fo ≤ la → x = fo) ∧ (¬ fo ≤ la → x = -1)) ∧ (w = 2 → (fo ≤ la → x = la) ∧ (¬ fo ≤ la → x = -1))
def nmK (r : Nat → Int) (a f k w : Int) : Prop := (0 ≤ k ∧ k ≤ 2) ∧ (0 ≤ w ∧ w ≤ 2) ∧ ftK r a f
def nmE (r : Nat → Int) (a f k : Int) (B C : Int × Int × Int) (fo la : Int) : Prop := BX (bR r) (12 + f).toNat a.toNat B ∧ BX (bR r) a.toNat (12 + f).toNat C ∧ nmI B C k fo la
def nbQ (r : Nat → Int) (a f k w x : Int) : Prop := (¬ nmK r a f k w ∧ x = -2) ∨ (nmK r a f k w ∧ ∃ B C fo la, nmE r a f k B C fo la ∧ nmV fo la w x)
theorem nmE_eq {r : Nat → Int} (hE : ∀ e ∈ bR r, gEo e) {a f k : Int} {B C B' C' : Int × Int × Int} {fo la fo' la' : Int} (h : nmE r a f k B C fo la) (h' : nmE r a f k B' C' fo' la') : fo = fo' ∧ (la = la' ∨ (la ≤ 0 ∧ la' ≤ 0)) := by
  obtain ⟨b, c, ⟨f1, f2⟩, ⟨l1, l2⟩, u, o⟩ := h
  obtain ⟨b', c', ⟨g1, g2⟩, ⟨m1, m2⟩, u', o'⟩ := h'
  have uu : ∀ v, 1 ≤ v → v ≤ 99 → (fo ≤ v ↔ fo' ≤ v) := fun v v1 v2 => (u v v1 v2).trans ((U_eq hE b b' v k).trans (u' v v1 v2).symm)
  have oo : ∀ v, 1 ≤ v → v ≤ 99 → (v ≤ la ↔ v ≤ la') := fun v v1 v2 => (o v v1 v2).trans ((O_eq hE c c' v k).trans (o' v v1 v2).symm)
  constructor
  · rcases Int.lt_trichotomy fo fo' with z | z | z
    · have := uu fo f1 (by omega); omega
    · exact z
    · have := uu fo' g1 (by omega); omega
  · rcases Int.lt_trichotomy la la' with z | z | z
    · by_cases q : 1 ≤ la'
      · have := oo la' q m2; omega
      · omega
    · exact Or.inl z
    · by_cases q : 1 ≤ la
      · have := oo la q l2; omega
      · omega
theorem nm_eq {r : Nat → Int} (hE : ∀ e ∈ bR r, gEo e) {a f k w x y : Int} (h : nbQ r a f k w x) (h' : nbQ r a f k w y) : x = y := by
  rcases h with ⟨n, e⟩ | ⟨K, B, C, fo, la, i, v⟩
  · rcases h' with ⟨_, e'⟩ | ⟨K', _⟩
    · omega
    · exact absurd K' n
  · rcases h' with ⟨n', _⟩ | ⟨_, B', C', fo', la', i', v'⟩
    · exact absurd K n'
    · obtain ⟨e1, e2⟩ := nmE_eq hE i i'
      have f1 := i.2.2.1
      have ww := K.2.1
      unfold nmV at v v'
      subst e1
      have en : nmN fo la = nmN fo la' := by
        rcases e2 with z | z
        · rw [z]
        · unfold nmN; rw [if_neg (by omega), if_neg (by omega)]
      rw [en] at v
      obtain ⟨a1, a2, a3⟩ := v
      obtain ⟨b1, b2, b3⟩ := v'
      have w3 : w = 0 ∨ w = 1 ∨ w = 2 := by omega
      rcases w3 with z | z | z
      · rw [a1 z, b1 z]
      · have p := a2 z
        have q := b2 z
        omega
      · have p := a3 z
        have q := b3 z
        omega
theorem LX.numbers {h h1 : m_H} {a b k w x y : Int} {cs : List Nat} {ss : List (Nat × Nat)} (G : GI h) (N : NP h) (S1 : FR cs ss h h1) (A : nbQ (h 110) a b k w x) (B : nbQ (h1 110) a b k w y) (o : out 110 110 cs ss = true) : x = y := by
  rw [rowz S1 (fr_out o (by decide) (by decide))] at B
  exact nm_eq (bR_ok G N) A B
abbrev P_X12_numbersOf4 (h0 : m_H) (a1 : Int) (fo : Int) (la : Int) : Int → m_H → Prop := fun x h' => GI h' ∧ FR [135, 136] [] h0 h' ∧ (0 ≤ x ∧ x ≤ 99) ∧ nmN fo la = x
def q_X12_numbersOf4 (h0 : m_H) (a1 : Int) (fo : Int) (la : Int) (n : Nat) : Prop := (∀ (l2 l3 : Int) (h : m_H), GI h → FR [135, 136] [] h0 h → 1 ≤ l3 → l3 ≤ 100 → (nmC fo la (l3 - 1) = l2) → 2 * (100 - l3) + (1) ≤ (n : Int) → m_Z oF M_X12_numbersOf 4 [some (mR 108), some (mI a1), some (mI l2), some (mI l3)] [] h (m_QI (P_X12_numbersOf4 h0 a1 fo la)))
set_option maxHeartbeats 4000000 in
set_option maxRecDepth 100000 in
theorem s_X12_numbersOf4_4 (h0 : m_H) (a1 : Int) (fo : Int) (la : Int) (G0 : GI h0) (pa1 : 0 ≤ a1 ∧ a1 ≤ 2) (hE : eOk h0) (hI : nmI (eLo h0) (eHi h0) a1 fo la) (n : Nat) (ih : q_X12_numbersOf4 h0 a1 fo la n) : ∀ (l2 l3 : Int) (h : m_H), GI h → FR [135, 136] [] h0 h → 1 ≤ l3 → l3 ≤ 100 → (nmC fo la (l3 - 1) = l2) → 2 * (100 - l3) + (1) ≤ ((n + 1 : Nat) : Int) → m_Z oF M_X12_numbersOf 4 [some (mR 108), some (mI a1), some (mI l2), some (mI l3)] [] h (m_QI (P_X12_numbersOf4 h0 a1 fo la)) := by
  intro l2 l3 h G R v0 v1 i0 hr
  have lb_ := nmC_b hI (l3 - 1)
  rw [i0] at lb_
  refine z_ok (fun ostk _ olocs => ?_)
  have ol2 : m_32 l2 := olocs 2 _ rfl
  unfold m_32 at ol2
  refine z_iload_n (M := M_X12_numbersOf) 4 dX12_numbersOf_4 rfl ?_
  refine z_bipush (M := M_X12_numbersOf) 5 dX12_numbersOf_5 ?_
  refine z_icmp_ge (M := M_X12_numbersOf) 7 dX12_numbersOf_7 33 rfl (fun c1 => ?_) (fun c1 => ?_)
  · refine z_iload_n (M := M_X12_numbersOf) 33 dX12_numbersOf_33 rfl ?_
    exact z_retI (M := M_X12_numbersOf) 34 dX12_numbersOf_34 rfl ⟨G, R, ⟨by omega, by omega⟩, (nmC_e hI (by omega)).symm.trans i0⟩
  · refine z_iload_n (M := M_X12_numbersOf) 10 dX12_numbersOf_10 rfl ?_
    refine z_aload_n (M := M_X12_numbersOf) 11 dX12_numbersOf_11 rfl ?_
    refine z_iload_n (M := M_X12_numbersOf) 12 dX12_numbersOf_12 rfl ?_
    refine z_iload_n (M := M_X12_numbersOf) 13 dX12_numbersOf_13 rfl ?_
    refine z_vI (M := M_X12_numbersOf) 14 dX12_numbersOf_14 t_X12_tells l_X12_431 (m_rr_of rfl) (rest := [mI l2]) (c_X12_tells4 h l3 a1 G ⟨by omega, by omega⟩ ⟨by omega, by omega⟩ (eOk_f R hE)) o_108 rfl rfl rfl (Nat.le_of_ble_eq_true rfl) ⟨rfl, rfl⟩ (fun x2 h1 qx2 => ?_)
    obtain ⟨G1, S1, ax2, bx2, fx2⟩ := qx2
    rw [eLo_f R, eHi_f R] at fx2
    have t_ := tl_pos hI ⟨by omega, by omega⟩ fx2
    have R1 := R.call S1 (by decide +kernel)
    refine z_if_le (M := M_X12_numbersOf) 17 dX12_numbersOf_17 24 rfl (fun c3 => ?_) (fun c3 => ?_)
    · refine z_iconst (M := M_X12_numbersOf) 24 dX12_numbersOf_24 ?_
      refine z_iaddN (M := M_X12_numbersOf) 25 dX12_numbersOf_25 (by omega) (by omega) ?_
      refine z_istore_n (M := M_X12_numbersOf) 26 dX12_numbersOf_26 (ls' := [some (mR 108), some (mI a1), some (mI (l2 + 0)), some (mI l3)]) (by decide) rfl ?_
      refine z_iincN (M := M_X12_numbersOf) 27 dX12_numbersOf_27 (ls' := [some (mR 108), some (mI a1), some (mI (l2 + 0)), some (mI (l3 + 1))]) (by decide) rfl (by (unfold m_32; decide)) (by omega) (by omega) rfl ?_
      refine z_goto (M := M_X12_numbersOf) 30 dX12_numbersOf_30 4 rfl ?_
      exact z_mask [true, true, true, true] rfl (ih (l2 + 0) (l3 + 1) h1 G1 R1 (by omega) (by omega) (by rw [show l3 + 1 - 1 = l3 by omega, nmC_n (fun z => absurd (t_.mpr z) (by omega)), i0]; omega) (by omega))
    · refine z_iconst (M := M_X12_numbersOf) 20 dX12_numbersOf_20 ?_
      refine z_goto (M := M_X12_numbersOf) 21 dX12_numbersOf_21 25 rfl ?_
      refine z_iaddN (M := M_X12_numbersOf) 25 dX12_numbersOf_25 (by omega) (by omega) ?_
      refine z_istore_n (M := M_X12_numbersOf) 26 dX12_numbersOf_26 (ls' := [some (mR 108), some (mI a1), some (mI (l2 + 1)), some (mI l3)]) (by decide) rfl ?_
      refine z_iincN (M := M_X12_numbersOf) 27 dX12_numbersOf_27 (ls' := [some (mR 108), some (mI a1), some (mI (l2 + 1)), some (mI (l3 + 1))]) (by decide) rfl (by (unfold m_32; decide)) (by omega) (by omega) rfl ?_
      refine z_goto (M := M_X12_numbersOf) 30 dX12_numbersOf_30 4 rfl ?_
      exact z_mask [true, true, true, true] rfl (ih (l2 + 1) (l3 + 1) h1 G1 R1 (by omega) (by omega) (by rw [show l3 + 1 - 1 = l3 by omega, nmC_y (t_.mp (by omega)), i0]) (by omega))
theorem a_X12_numbersOf4 (h0 : m_H) (a1 : Int) (fo : Int) (la : Int) (G0 : GI h0) (pa1 : 0 ≤ a1 ∧ a1 ≤ 2) (hE : eOk h0) (hI : nmI (eLo h0) (eHi h0) a1 fo la) : ∀ n, q_X12_numbersOf4 h0 a1 fo la n := by
  intro n
  induction n with
  | zero => unfold q_X12_numbersOf4; intros; omega
  | succ n ih => exact s_X12_numbersOf4_4 h0 a1 fo la G0 pa1 hE hI n ih
set_option maxHeartbeats 4000000 in
set_option maxRecDepth 100000 in
theorem c_X12_numbersOf4 (h0 : m_H) (a1 : Int) (fo : Int) (la : Int) (G0 : GI h0) (pa1 : 0 ≤ a1 ∧ a1 ≤ 2) (hE : eOk h0) (hI : nmI (eLo h0) (eHi h0) a1 fo la) : m_CI M_X12_numbersOf [mR 108, mI a1] h0 (P_X12_numbersOf4 h0 a1 fo la) := by
  refine m_CI_of ⟨by decide, rfl, by simp [m_arg, m_isL, M_X12_numbersOf], ⟨rfl, rfl⟩, rfl, rfl⟩ (ls := [some (mR 108), some (mI a1), none, none]) rfl ?_
  have ih := a_X12_numbersOf4 h0 a1 fo la G0 pa1 hE hI 206
  refine z_iconst (M := M_X12_numbersOf) 0 dX12_numbersOf_0 ?_
  refine z_istore_n (M := M_X12_numbersOf) 1 dX12_numbersOf_1 (ls' := [some (mR 108), some (mI a1), some (mI 0), none]) (by decide) rfl ?_
  refine z_iconst (M := M_X12_numbersOf) 2 dX12_numbersOf_2 ?_
  refine z_istore_n (M := M_X12_numbersOf) 3 dX12_numbersOf_3 (ls' := [some (mR 108), some (mI a1), some (mI 0), some (mI 1)]) (by decide) rfl ?_
  exact z_mask [true, true, true, true] rfl (ih 0 1 h0 G0 (FR.rf (cs := [135, 136]) (ss := []) (h := h0)) (by omega) (by omega) (nmC_0 hI) (by omega))
def nmX (h0 h : m_H) (a f k w y j : Int) : Prop := (eOk h ∧ nmK (h0 110) a f k w) ∧ ∃ fo la, nmE (h0 110) a f k (eLo h) (eHi h) fo la ∧ nmW fo la w j y
theorem nmX_s {h0 h h' : m_H} {a f k w y y' j n x : Int} (S : FR [135, 136] [] h h') (I : nmX h0 h a f k w y j) (hj : 1 ≤ j ∧ j ≤ 99) (hw : w = 1 ∨ w = 2) (hn : (w = 1 ∧ n = 100 - j) ∨ (w = 2 ∧ n = j)) (t : tlF (eLo h) (eHi h) n k x) (hy : (0 < x ∧ y' = n) ∨ (¬ 0 < x ∧ y' = y)) : nmX h0 h' a f k w y' (j + 1) := by
  obtain ⟨⟨E, K⟩, fo, la, e, W⟩ := I
  have p := tl_pos e.2.2 (by omega) t
  have i1 := e.2.2.1
  have i2 := e.2.2.2.1
  refine ⟨⟨eOk_f S E, K⟩, fo, la, by rw [eLo_f S, eHi_f S]; exact e, ?_⟩
  unfold nmW at W ⊢
  rcases hw with w1 | w1
  · have W' := W.1 w1
    refine ⟨fun _ => ?_, fun z => by omega⟩
    rcases hy with ⟨y1, y2⟩ | ⟨y1, y2⟩
    · have q := p.mp y1; constructor <;> omega
    · have q : ¬ (fo ≤ n ∧ n ≤ la) := fun z => y1 (p.mpr z); constructor <;> omega
  · have W' := W.2 w1
    refine ⟨fun z => by omega, fun _ => ?_⟩
    rcases hy with ⟨y1, y2⟩ | ⟨y1, y2⟩
    · have q := p.mp y1; constructor <;> omega
    · have q : ¬ (fo ≤ n ∧ n ≤ la) := fun z => y1 (p.mpr z); constructor <;> omega
theorem nmX_e {h0 h : m_H} {a f k w y j : Int} (I : nmX h0 h a f k w y j) (hj : j = 100) (hw : w = 1 ∨ w = 2) : nbQ (h0 110) a f k w y := by
  obtain ⟨⟨E, K⟩, fo, la, e, W⟩ := I
  have i1 := e.2.2.1
  have i2 := e.2.2.2.1
  refine Or.inr ⟨K, _, _, fo, la, e, ?_⟩
  unfold nmW at W
  refine ⟨fun z => by omega, fun z => ?_, fun z => ?_⟩
  · have W' := W.1 z; constructor <;> omega
  · have W' := W.2 z; constructor <;> omega
theorem nmX_0 {h0 h : m_H} {a f k w fo la : Int} (E : eOk h) (K : nmK (h0 110) a f k w) (e : nmE (h0 110) a f k (eLo h) (eHi h) fo la) : nmX h0 h a f k w (-1) 1 := by
  have i1 := e.2.2.1
  have i2 := e.2.2.2.1
  refine ⟨⟨E, K⟩, fo, la, e, ?_⟩
  unfold nmW
  refine ⟨fun z => ?_, fun z => ?_⟩ <;> constructor <;> omega
abbrev P_X12_numbers3 (h0 : m_H) (a1 a2 a3 a4 : Int) : Int → m_H → Prop := fun x h' => GI h' ∧ FR [115, 116, 117, 118, 119, 120, 121, 122, 123, 124, 125, 126, 127, 128, 129, 130, 131, 132, 133, 134, 135, 136, 138] [(108, 0), (108, 21), (108, 44), (108, 45), (108, 46), (108, 47)] h0 h' ∧ nbQ (h0 110) a1 a2 a3 a4 x
def q_X12_numbers3 (h0 : m_H) (a1 a2 a3 a4 : Int) (n : Nat) : Prop := (∀ (l5 l6 : Int) (h : m_H), GI h → FR [115, 116, 117, 118, 119, 120, 121, 122, 123, 124, 125, 126, 127, 128, 129, 130, 131, 132, 133, 134, 135, 136, 138] [(108, 0), (108, 21), (108, 44), (108, 45), (108, 46), (108, 47)] h0 h → (-1) ≤ l5 → l5 ≤ 99 → 1 ≤ l6 → l6 ≤ 100 → 0 ≤ a1 → a1 ≤ 11 → 0 ≤ a2 → a2 ≤ 3 → 0 ≤ a3 → a3 ≤ 2 → 1 ≤ a4 → a4 ≤ 2 → (nmX h0 h a1 a2 a3 a4 l5 l6) → 2 * (100 - l6) + (1) ≤ (n : Int) → m_Z oF M_X12_numbers 65 [some (mR 108), none, none, some (mI a3), some (mI a4), some (mI l5), some (mI l6), none] [] h (m_QI (P_X12_numbers3 h0 a1 a2 a3 a4)))
set_option maxHeartbeats 4000000 in
set_option maxRecDepth 100000 in
theorem s_X12_numbers3_65 (h0 : m_H) (a1 a2 a3 a4 : Int) (G0 : GI h0) (hN : NP h0) (n : Nat) (ih : q_X12_numbers3 h0 a1 a2 a3 a4 n) : ∀ (l5 l6 : Int) (h : m_H), GI h → FR [115, 116, 117, 118, 119, 120, 121, 122, 123, 124, 125, 126, 127, 128, 129, 130, 131, 132, 133, 134, 135, 136, 138] [(108, 0), (108, 21), (108, 44), (108, 45), (108, 46), (108, 47)] h0 h → (-1) ≤ l5 → l5 ≤ 99 → 1 ≤ l6 → l6 ≤ 100 → 0 ≤ a1 → a1 ≤ 11 → 0 ≤ a2 → a2 ≤ 3 → 0 ≤ a3 → a3 ≤ 2 → 1 ≤ a4 → a4 ≤ 2 → (nmX h0 h a1 a2 a3 a4 l5 l6) → 2 * (100 - l6) + (1) ≤ ((n + 1 : Nat) : Int) → m_Z oF M_X12_numbers 65 [some (mR 108), none, none, some (mI a3), some (mI a4), some (mI l5), some (mI l6), none] [] h (m_QI (P_X12_numbers3 h0 a1 a2 a3 a4)) := by
  intro l5 l6 h G R v0 v1 v2 v3 v4 v5 v6 v7 v8 v9 v10 v11 i0 hr
  have ok_ := i0.1.1
  refine z_iload (M := M_X12_numbers) 65 dX12_numbers_65 rfl ?_
  refine z_bipush (M := M_X12_numbers) 67 dX12_numbers_67 ?_
  refine z_icmp_ge (M := M_X12_numbers) 69 dX12_numbers_69 115 rfl (fun c1 => ?_) (fun c1 => ?_)
  · refine z_iload (M := M_X12_numbers) 115 dX12_numbers_115 rfl ?_
    exact z_retI (M := M_X12_numbers) 117 dX12_numbers_117 rfl ⟨G, R, nmX_e i0 (by omega) (by omega)⟩
  · refine z_iload (M := M_X12_numbers) 72 dX12_numbers_72 rfl ?_
    refine z_iconst (M := M_X12_numbers) 74 dX12_numbers_74 ?_
    refine z_icmp_ne (M := M_X12_numbers) 75 dX12_numbers_75 86 rfl (fun c2 => ?_) (fun c2 => ?_)
    · refine z_iload (M := M_X12_numbers) 86 dX12_numbers_86 rfl ?_
      refine z_istore (M := M_X12_numbers) 88 dX12_numbers_88 (ls' := [some (mR 108), none, none, some (mI a3), some (mI a4), some (mI l5), some (mI l6), some (mI l6)]) (by decide) rfl ?_
      refine z_aload_n (M := M_X12_numbers) 90 dX12_numbers_90 rfl ?_
      refine z_iload (M := M_X12_numbers) 91 dX12_numbers_91 rfl ?_
      refine z_iload_n (M := M_X12_numbers) 93 dX12_numbers_93 rfl ?_
      refine z_vI (M := M_X12_numbers) 94 dX12_numbers_94 t_X12_tells l_X12_431 (m_rr_of rfl) (rest := []) (c_X12_tells4 h l6 a3 G ⟨by omega, by omega⟩ ⟨by omega, by omega⟩ ok_) o_108 rfl rfl rfl (Nat.le_of_ble_eq_true rfl) ⟨rfl, rfl⟩ (fun x3 h1 qx3 => ?_)
      obtain ⟨G1, S1, ax3, bx3, fx3⟩ := qx3
      have R1 := R.call S1 (by decide +kernel)
      refine z_if_le (M := M_X12_numbers) 97 dX12_numbers_97 105 rfl (fun c4 => ?_) (fun c4 => ?_)
      · refine z_iload (M := M_X12_numbers) 105 dX12_numbers_105 rfl ?_
        refine z_istore (M := M_X12_numbers) 107 dX12_numbers_107 (ls' := [some (mR 108), none, none, some (mI a3), some (mI a4), some (mI l5), some (mI l6), some (mI l6)]) (by decide) rfl ?_
        refine z_iincN (M := M_X12_numbers) 109 dX12_numbers_109 (ls' := [some (mR 108), none, none, some (mI a3), some (mI a4), some (mI l5), some (mI (l6 + 1)), some (mI l6)]) (by decide) rfl (by (unfold m_32; decide)) (by omega) (by omega) rfl ?_
        refine z_goto (M := M_X12_numbers) 112 dX12_numbers_112 65 rfl ?_
        exact z_mask [true, false, false, true, true, true, true, false] rfl (ih l5 (l6 + 1) h1 G1 R1 (by omega) (by omega) (by omega) (by omega) (by omega) (by omega) (by omega) (by omega) (by omega) (by omega) (by omega) (by omega) (nmX_s S1 i0 ⟨by omega, by omega⟩ (by omega) (Or.inr ⟨by omega, rfl⟩) fx3 (Or.inr ⟨by omega, rfl⟩)) (by omega))
      · refine z_iload (M := M_X12_numbers) 100 dX12_numbers_100 rfl ?_
        refine z_goto (M := M_X12_numbers) 102 dX12_numbers_102 107 rfl ?_
        refine z_istore (M := M_X12_numbers) 107 dX12_numbers_107 (ls' := [some (mR 108), none, none, some (mI a3), some (mI a4), some (mI l6), some (mI l6), some (mI l6)]) (by decide) rfl ?_
        refine z_iincN (M := M_X12_numbers) 109 dX12_numbers_109 (ls' := [some (mR 108), none, none, some (mI a3), some (mI a4), some (mI l6), some (mI (l6 + 1)), some (mI l6)]) (by decide) rfl (by (unfold m_32; decide)) (by omega) (by omega) rfl ?_
        refine z_goto (M := M_X12_numbers) 112 dX12_numbers_112 65 rfl ?_
        exact z_mask [true, false, false, true, true, true, true, false] rfl (ih l6 (l6 + 1) h1 G1 R1 (by omega) (by omega) (by omega) (by omega) (by omega) (by omega) (by omega) (by omega) (by omega) (by omega) (by omega) (by omega) (nmX_s S1 i0 ⟨by omega, by omega⟩ (by omega) (Or.inr ⟨by omega, rfl⟩) fx3 (Or.inl ⟨by omega, rfl⟩)) (by omega))
    · refine z_bipush (M := M_X12_numbers) 78 dX12_numbers_78 ?_
      refine z_iload (M := M_X12_numbers) 80 dX12_numbers_80 rfl ?_
      refine z_isubN (M := M_X12_numbers) 82 dX12_numbers_82 (by omega) (by omega) ?_
      refine z_goto (M := M_X12_numbers) 83 dX12_numbers_83 88 rfl ?_
      refine z_istore (M := M_X12_numbers) 88 dX12_numbers_88 (ls' := [some (mR 108), none, none, some (mI a3), some (mI a4), some (mI l5), some (mI l6), some (mI (100 - l6))]) (by decide) rfl ?_
      refine z_aload_n (M := M_X12_numbers) 90 dX12_numbers_90 rfl ?_
      refine z_iload (M := M_X12_numbers) 91 dX12_numbers_91 rfl ?_
      refine z_iload_n (M := M_X12_numbers) 93 dX12_numbers_93 rfl ?_
      refine z_vI (M := M_X12_numbers) 94 dX12_numbers_94 t_X12_tells l_X12_431 (m_rr_of rfl) (rest := []) (c_X12_tells4 h (100 - l6) a3 G ⟨by omega, by omega⟩ ⟨by omega, by omega⟩ ok_) o_108 rfl rfl rfl (Nat.le_of_ble_eq_true rfl) ⟨rfl, rfl⟩ (fun x5 h2 qx5 => ?_)
      obtain ⟨G2, S2, ax5, bx5, fx5⟩ := qx5
      have R2 := R.call S2 (by decide +kernel)
      refine z_if_le (M := M_X12_numbers) 97 dX12_numbers_97 105 rfl (fun c6 => ?_) (fun c6 => ?_)
      · refine z_iload (M := M_X12_numbers) 105 dX12_numbers_105 rfl ?_
        refine z_istore (M := M_X12_numbers) 107 dX12_numbers_107 (ls' := [some (mR 108), none, none, some (mI a3), some (mI a4), some (mI l5), some (mI l6), some (mI (100 - l6))]) (by decide) rfl ?_
        refine z_iincN (M := M_X12_numbers) 109 dX12_numbers_109 (ls' := [some (mR 108), none, none, some (mI a3), some (mI a4), some (mI l5), some (mI (l6 + 1)), some (mI (100 - l6))]) (by decide) rfl (by (unfold m_32; decide)) (by omega) (by omega) rfl ?_
        refine z_goto (M := M_X12_numbers) 112 dX12_numbers_112 65 rfl ?_
        exact z_mask [true, false, false, true, true, true, true, false] rfl (ih l5 (l6 + 1) h2 G2 R2 (by omega) (by omega) (by omega) (by omega) (by omega) (by omega) (by omega) (by omega) (by omega) (by omega) (by omega) (by omega) (nmX_s S2 i0 ⟨by omega, by omega⟩ (by omega) (Or.inl ⟨by omega, rfl⟩) fx5 (Or.inr ⟨by omega, rfl⟩)) (by omega))
      · refine z_iload (M := M_X12_numbers) 100 dX12_numbers_100 rfl ?_
        refine z_goto (M := M_X12_numbers) 102 dX12_numbers_102 107 rfl ?_
        refine z_istore (M := M_X12_numbers) 107 dX12_numbers_107 (ls' := [some (mR 108), none, none, some (mI a3), some (mI a4), some (mI (100 - l6)), some (mI l6), some (mI (100 - l6))]) (by decide) rfl ?_
        refine z_iincN (M := M_X12_numbers) 109 dX12_numbers_109 (ls' := [some (mR 108), none, none, some (mI a3), some (mI a4), some (mI (100 - l6)), some (mI (l6 + 1)), some (mI (100 - l6))]) (by decide) rfl (by (unfold m_32; decide)) (by omega) (by omega) rfl ?_
        refine z_goto (M := M_X12_numbers) 112 dX12_numbers_112 65 rfl ?_
        exact z_mask [true, false, false, true, true, true, true, false] rfl (ih (100 - l6) (l6 + 1) h2 G2 R2 (by omega) (by omega) (by omega) (by omega) (by omega) (by omega) (by omega) (by omega) (by omega) (by omega) (by omega) (by omega) (nmX_s S2 i0 ⟨by omega, by omega⟩ (by omega) (Or.inl ⟨by omega, rfl⟩) fx5 (Or.inl ⟨by omega, rfl⟩)) (by omega))
theorem a_X12_numbers3 (h0 : m_H) (a1 a2 a3 a4 : Int) (G0 : GI h0) (hN : NP h0) : ∀ n, q_X12_numbers3 h0 a1 a2 a3 a4 n := by
  intro n
  induction n with
  | zero => unfold q_X12_numbers3; intros; omega
  | succ n ih => exact s_X12_numbers3_65 h0 a1 a2 a3 a4 G0 hN n ih
set_option maxHeartbeats 4000000 in
set_option maxRecDepth 100000 in
theorem c_X12_numbers3 (h0 : m_H) (a1 a2 a3 a4 : Int) (G0 : GI h0) (hN : NP h0) : m_CI M_X12_numbers [mR 108, mI a1, mI a2, mI a3, mI a4] h0 (P_X12_numbers3 h0 a1 a2 a3 a4) := by
  refine m_CI_of ⟨by decide, rfl, by simp [m_arg, m_isL, M_X12_numbers], ⟨rfl, rfl⟩, rfl, rfl⟩ (ls := [some (mR 108), some (mI a1), some (mI a2), some (mI a3), some (mI a4), none, none, none]) rfl ?_
  have ih := a_X12_numbers3 h0 a1 a2 a3 a4 G0 hN 206
  refine z_ok (fun _ _ ok => ?_)
  have oa1 : m_32 a1 := ok 1 _ rfl
  unfold m_32 at oa1
  have oa2 : m_32 a2 := ok 2 _ rfl
  unfold m_32 at oa2
  have oa3 : m_32 a3 := ok 3 _ rfl
  unfold m_32 at oa3
  have oa4 : m_32 a4 := ok 4 _ rfl
  unfold m_32 at oa4
  refine z_aload_n (M := M_X12_numbers) 0 dX12_numbers_0 rfl ?_
  refine z_iconst (M := M_X12_numbers) 1 dX12_numbers_1 ?_
  refine z_putIH (M := M_X12_numbers) 2 dX12_numbers_2 p_X12_133 o_108 rfl (u_108_0 G0) ((FR.rf (cs := [115, 116, 117, 118, 119, 120, 121, 122, 123, 124, 125, 126, 127, 128, 129, 130, 131, 132, 133, 134, 135, 136, 138]) (ss := [(108, 0), (108, 21), (108, 44), (108, 45), (108, 46), (108, 47)]) (h := h0)).up rfl) (fun h1 E1 G1 R1 => ?_)
  refine z_iload_n (M := M_X12_numbers) 5 dX12_numbers_5 rfl ?_
  refine z_i2l (M := M_X12_numbers) 6 dX12_numbers_6 ?_
  refine z_lconst (M := M_X12_numbers) 7 dX12_numbers_7 (v := 0) ?_
  refine z_ldc2 (M := M_X12_numbers) 8 dX12_numbers_8 k_X12_182 ?_
  refine z_sI (M := M_X12_numbers) 11 dX12_numbers_11 t_X12_in l_X12_143 (m_rr_of rfl) (rest := []) (c_X12_in h1 a3 0 2 G1) rfl rfl (Nat.le_of_ble_eq_true rfl) ⟨rfl, rfl⟩ (fun x1 h2 qx1 => ?_)
  obtain ⟨rfl, ⟨rfl, cx1⟩ | ⟨rfl, cx1⟩⟩ := qx1
  · refine z_if_eq_F (M := M_X12_numbers) 14 dX12_numbers_14 39 rfl (by omega) ?_
    refine z_iload (M := M_X12_numbers) 17 dX12_numbers_17 rfl ?_
    refine z_i2l (M := M_X12_numbers) 19 dX12_numbers_19 ?_
    refine z_lconst (M := M_X12_numbers) 20 dX12_numbers_20 (v := 0) ?_
    refine z_ldc2 (M := M_X12_numbers) 21 dX12_numbers_21 k_X12_182 ?_
    refine z_sI (M := M_X12_numbers) 24 dX12_numbers_24 t_X12_in l_X12_143 (m_rr_of rfl) (rest := []) (c_X12_in h1 a4 0 2 G1) rfl rfl (Nat.le_of_ble_eq_true rfl) ⟨rfl, rfl⟩ (fun x2 h3 qx2 => ?_)
    obtain ⟨rfl, ⟨rfl, cx2⟩ | ⟨rfl, cx2⟩⟩ := qx2
    · refine z_if_eq_F (M := M_X12_numbers) 27 dX12_numbers_27 39 rfl (by omega) ?_
      refine z_aload_n (M := M_X12_numbers) 30 dX12_numbers_30 rfl ?_
      refine z_iload_n (M := M_X12_numbers) 31 dX12_numbers_31 rfl ?_
      refine z_iload_n (M := M_X12_numbers) 32 dX12_numbers_32 rfl ?_
      refine z_vI (M := M_X12_numbers) 33 dX12_numbers_33 t_X12_isAsked l_X12_425 (m_rr_of rfl) (rest := []) (c_X12_isAsked4 h1 a1 a2 G1 (NP.call hN R1 (fun _ => rfl) (fun _ => rfl) (fun _ => rfl))) o_108 rfl rfl rfl (Nat.le_of_ble_eq_true rfl) ⟨rfl, rfl⟩ (fun x3 h4 qx3 => ?_)
      obtain ⟨G4, S4, ax3, bx3, fx3_0, fx3_1⟩ := qx3
      rw [(FR.row R1 (fun _ => rfl) : h1 110 = h0 110)] at fx3_1
      have R4 := R1.call S4 (by decide +kernel)
      refine z_if_ne (M := M_X12_numbers) 36 dX12_numbers_36 42 rfl (fun c4 => ?_) (fun c4 => ?_)
      · have an := fx3_0 (by omega)
        have an1 := an.1
        have an2 := an.2.1
        refine z_aload_n (M := M_X12_numbers) 42 dX12_numbers_42 rfl ?_
        refine z_iload_n (M := M_X12_numbers) 43 dX12_numbers_43 rfl ?_
        refine z_iload_n (M := M_X12_numbers) 44 dX12_numbers_44 rfl ?_
        refine z_vV (M := M_X12_numbers) 45 dX12_numbers_45 t_X12_findEnds l_X12_428 (m_rr_of rfl) (rest := []) (c_X12_findEnds4 h4 a1 a2 G4 ⟨by omega, by omega⟩ ⟨by omega, by omega⟩ (NP.call hN R4 (fun _ => rfl) (fun _ => rfl) (fun _ => rfl)) (gG_f (gG_b an.2.2 R1 (fun _ => rfl)) R4 (fun _ => rfl))) o_108 rfl rfl rfl (Nat.le_of_ble_eq_true rfl) ⟨rfl, rfl⟩ (fun h5 qx5 => ?_)
        obtain ⟨G5, S5, fx5_0, fx5_1, fx5_2⟩ := qx5
        unfold lP at fx5_1
        unfold hP at fx5_2
        rw [(FR.row R4 (fun _ => rfl) : h4 110 = h0 110)] at fx5_1 fx5_2
        have k_ : nmK (h0 110) a1 a2 a3 a4 := ⟨cx1, cx2, fx3_1.mp (by omega)⟩
        obtain ⟨fo, la, nm_⟩ := nmI_ex (k := a3) fx5_1.1.1.1.1 fx5_2.1.1.1.1 fx5_2.1.1.1.2 cx1
        have R5 := R4.call S5 (by decide +kernel)
        refine z_iload (M := M_X12_numbers) 48 dX12_numbers_48 rfl ?_
        refine z_if_ne (M := M_X12_numbers) 50 dX12_numbers_50 59 rfl (fun c6 => ?_) (fun c6 => ?_)
        · refine z_iconst (M := M_X12_numbers) 59 dX12_numbers_59 ?_
          refine z_istore (M := M_X12_numbers) 60 dX12_numbers_60 (ls' := [some (mR 108), some (mI a1), some (mI a2), some (mI a3), some (mI a4), some (mI (-1)), none, none]) (by decide) rfl ?_
          refine z_iconst (M := M_X12_numbers) 62 dX12_numbers_62 ?_
          refine z_istore (M := M_X12_numbers) 63 dX12_numbers_63 (ls' := [some (mR 108), some (mI a1), some (mI a2), some (mI a3), some (mI a4), some (mI (-1)), some (mI 1), none]) (by decide) rfl ?_
          exact z_mask [true, false, false, true, true, true, true, false] rfl (ih (-1) 1 h5 G5 R5 (by omega) (by omega) (by omega) (by omega) (by omega) (by omega) (by omega) (by omega) (by omega) (by omega) (by omega) (by omega) (nmX_0 ⟨fx5_1.2, fx5_2.2⟩ k_ ⟨fx5_1.1, fx5_2.1, nm_⟩) (by omega))
        · refine z_aload_n (M := M_X12_numbers) 53 dX12_numbers_53 rfl ?_
          refine z_iload_n (M := M_X12_numbers) 54 dX12_numbers_54 rfl ?_
          refine z_vI (M := M_X12_numbers) 55 dX12_numbers_55 t_X12_numbersOf l_X12_434 (m_rr_of rfl) (rest := []) (c_X12_numbersOf4 h5 a3 fo la G5 ⟨by omega, by omega⟩ ⟨fx5_1.2, fx5_2.2⟩ nm_) o_108 rfl rfl rfl (Nat.le_of_ble_eq_true rfl) ⟨rfl, rfl⟩ (fun x7 h6 qx7 => ?_)
          obtain ⟨G6, S6, _, fx7⟩ := qx7
          have R6 := R5.call S6 (by decide +kernel)
          refine z_ok (fun ox7 _ _ => ?_)
          have ox7 := ox7.1; unfold m_ok m_32 at ox7
          exact z_retI (M := M_X12_numbers) 58 dX12_numbers_58 rfl ⟨G6, R6, Or.inr ⟨k_, _, _, fo, la, ⟨fx5_1.1, fx5_2.1, nm_⟩, fun _ => fx7.symm, fun z => by omega, fun z => by omega⟩⟩
      · refine z_bipush (M := M_X12_numbers) 39 dX12_numbers_39 ?_
        exact z_retI (M := M_X12_numbers) 41 dX12_numbers_41 rfl ⟨G4, R4, Or.inl ⟨fun z => absurd (fx3_1.mpr z.2.2) (by omega), rfl⟩⟩
    · refine z_if_eq_T (M := M_X12_numbers) 27 dX12_numbers_27 39 rfl (by omega) ?_
      refine z_bipush (M := M_X12_numbers) 39 dX12_numbers_39 ?_
      exact z_retI (M := M_X12_numbers) 41 dX12_numbers_41 rfl ⟨G1, R1, Or.inl ⟨fun z => cx2 z.2.1, rfl⟩⟩
  · refine z_if_eq_T (M := M_X12_numbers) 14 dX12_numbers_14 39 rfl (by omega) ?_
    refine z_bipush (M := M_X12_numbers) 39 dX12_numbers_39 ?_
    exact z_retI (M := M_X12_numbers) 41 dX12_numbers_41 rfl ⟨G1, R1, Or.inl ⟨fun z => cx1 z.1, rfl⟩⟩
abbrev P_X11_numbers3 (h0 : m_H) (a1 a2 a3 a4 : Int) : Int → m_H → Prop := fun x h' => GI h' ∧ FR (csB ++ [39, 40, 41]) [] h0 h' ∧ nbQ (h0 110) a1 a2 a3 a4 x
set_option maxHeartbeats 4000000 in
set_option maxRecDepth 100000 in
theorem c_X11_numbers3 (h0 : m_H) (a1 a2 a3 a4 : Int) (G0 : GI h0) (hR : LR 1 h0 (h0 110)) (hN : NP h0) : m_CI M_X11_numbers [mR 0, mI a1, mI a2, mI a3, mI a4] h0 (P_X11_numbers3 h0 a1 a2 a3 a4) := by
  refine m_CI_of ⟨by decide, rfl, by simp [m_arg, m_isL, M_X11_numbers], ⟨rfl, rfl⟩, rfl, rfl⟩ (ls := [some (mR 0), some (mI a1), some (mI a2), some (mI a3), some (mI a4), none]) rfl ?_
  refine z_ok (fun _ _ ok => ?_)
  have oa1 : m_32 a1 := ok 1 _ rfl
  unfold m_32 at oa1
  have oa2 : m_32 a2 := ok 2 _ rfl
  unfold m_32 at oa2
  have oa3 : m_32 a3 := ok 3 _ rfl
  unfold m_32 at oa3
  have oa4 : m_32 a4 := ok 4 _ rfl
  unfold m_32 at oa4
  refine z_iload_n (M := M_X11_numbers) 0 dX11_numbers_0 rfl ?_
  refine z_sI (M := M_X11_numbers) 1 dX11_numbers_1 t_X11_isKind l_X11_301 (m_rr_of rfl) (rest := []) (c_X11_isKind h0 a3 G0) rfl rfl (Nat.le_of_ble_eq_true rfl) ⟨rfl, rfl⟩ (fun x1 h1 qx1 => ?_)
  obtain ⟨rfl, ⟨rfl, cx1⟩ | ⟨rfl, cx1⟩⟩ := qx1
  · refine z_if_eq_F (M := M_X11_numbers) 4 dX11_numbers_4 26 rfl (by omega) ?_
    refine z_iload (M := M_X11_numbers) 7 dX11_numbers_7 rfl ?_
    refine z_iconst (M := M_X11_numbers) 9 dX11_numbers_9 ?_
    refine z_iconst (M := M_X11_numbers) 10 dX11_numbers_10 ?_
    refine z_sI (M := M_X11_numbers) 11 dX11_numbers_11 t_X11_within l_X11_112 (m_rr_of rfl) (rest := []) (c_X11_within h0 a4 0 2 G0) rfl rfl (Nat.le_of_ble_eq_true rfl) ⟨rfl, rfl⟩ (fun x2 h2 qx2 => ?_)
    obtain ⟨rfl, ⟨rfl, cx2⟩ | ⟨rfl, cx2⟩⟩ := qx2
    · refine z_if_eq_F (M := M_X11_numbers) 14 dX11_numbers_14 26 rfl (by omega) ?_
      refine z_aload_n (M := M_X11_numbers) 17 dX11_numbers_17 rfl ?_
      refine z_iload_n (M := M_X11_numbers) 18 dX11_numbers_18 rfl ?_
      refine z_iload_n (M := M_X11_numbers) 19 dX11_numbers_19 rfl ?_
      refine z_vI (M := M_X11_numbers) 20 dX11_numbers_20 t_X11_compareToFoot l_X11_247 (m_rr_of rfl) (rest := []) (c_X11_compareToFoot2 h0 a1 a2 G0 hR hN) o_0 rfl rfl rfl (Nat.le_of_ble_eq_true rfl) ⟨rfl, rfl⟩ (fun x3 h3 qx3 => ?_)
      obtain ⟨G3, S3, ax3, bx3, fx3⟩ := qx3
      have R3 := (FR.rf (cs := (csB ++ [39, 40, 41])) (ss := []) (h := h0)).call S3 (by decide +kernel)
      refine z_if_ne (M := M_X11_numbers) 23 dX11_numbers_23 29 rfl (fun c4 => ?_) (fun c4 => ?_)
      · have k_ := fx3.1.mp (by omega)
        have p_ := fx3.2 (by omega)
        have pb1_ : (1 ≤ h3 95 0 ∧ h3 95 0 ≤ 1600000000) ∧ (0 ≤ h3 95 1 ∧ h3 95 1 ≤ 1600000000) := by have z := p_.1.2.1; unfold pBb bd at z; simp only at z; omega
        have pb2_ : (1 ≤ h3 94 0 ∧ h3 94 0 ≤ 1600000000) ∧ (0 ≤ h3 94 1 ∧ h3 94 1 ≤ 1600000000) := by have z := p_.2.2.1; unfold pBb bd at z; simp only at z; omega
        refine z_aload_n (M := M_X11_numbers) 29 dX11_numbers_29 rfl ?_
        refine z_getR (M := M_X11_numbers) 30 dX11_numbers_30 f_X11_53 o_0 rfl (g_0_7 G3) ?_
        refine z_iload_n (M := M_X11_numbers) 33 dX11_numbers_33 rfl ?_
        refine z_vI (M := M_X11_numbers) 34 dX11_numbers_34 t_X7_manyNumbers l_X11_310 (m_rr_of rfl) (rest := []) (c_X7_manyNumbers4 h3 a3 G3 cx1 pb2_ pb1_) o_93 rfl rfl rfl (Nat.le_of_ble_eq_true rfl) ⟨rfl, rfl⟩ (fun x5 h4 qx5 => ?_)
        obtain ⟨G4, S4, ax5, bx5, fo, la, nm_, nx_⟩ := qx5
        have ne_ : nmE (h0 110) a1 a2 a3 (bd h3 94) (bd h3 95) fo la := ⟨⟨p_.2.1, p_.2.2.2.1⟩, ⟨p_.1.1, p_.1.2.2.1⟩, nm_⟩
        have n1_ := nm_.1
        have n2_ := nm_.2.1
        have fl_ : x5 = 0 ↔ ¬ fo ≤ la := by rw [← nx_]; unfold nmN; split <;> omega
        have R4 := R3.call S4 (by decide +kernel)
        refine z_istore (M := M_X11_numbers) 37 dX11_numbers_37 (ls' := [some (mR 0), some (mI a1), some (mI a2), some (mI a3), some (mI a4), some (mI x5)]) (by decide) rfl ?_
        refine z_iload (M := M_X11_numbers) 39 dX11_numbers_39 rfl ?_
        refine z_if_ne (M := M_X11_numbers) 41 dX11_numbers_41 47 rfl (fun c6 => ?_) (fun c6 => ?_)
        · refine z_iload (M := M_X11_numbers) 47 dX11_numbers_47 rfl ?_
          refine z_if_ne (M := M_X11_numbers) 49 dX11_numbers_49 54 rfl (fun c7 => ?_) (fun c7 => ?_)
          · refine z_iload (M := M_X11_numbers) 54 dX11_numbers_54 rfl ?_
            refine z_iconst (M := M_X11_numbers) 56 dX11_numbers_56 ?_
            refine z_icmp_ne (M := M_X11_numbers) 57 dX11_numbers_57 71 rfl (fun c8 => ?_) (fun c8 => ?_)
            · refine z_aload_n (M := M_X11_numbers) 71 dX11_numbers_71 rfl ?_
              refine z_getR (M := M_X11_numbers) 72 dX11_numbers_72 f_X11_53 o_0 rfl (g_0_7 G4) ?_
              refine z_iload_n (M := M_X11_numbers) 75 dX11_numbers_75 rfl ?_
              refine z_vI (M := M_X11_numbers) 76 dX11_numbers_76 t_X7_lastNumber l_X11_316 (m_rr_of rfl) (rest := []) (c_X7_lastNumber4 h4 a3 G4 cx1 (by rw [frE S4]; exact pb1_)) o_93 rfl rfl rfl (Nat.le_of_ble_eq_true rfl) ⟨rfl, rfl⟩ (fun x9 h5 qx9 => ?_)
              obtain ⟨G5, S5, l1_, l2_, l3_⟩ := qx9
              rw [frE S4] at l3_
              have el_ : x9 = la := by
                have y1 := (l3_ la (by omega) (by omega)).trans (nm_.2.2.2 la (by omega) (by omega)).symm
                by_cases g : 1 ≤ x9
                · have y2 := (l3_ x9 (by omega) (by omega)).trans (nm_.2.2.2 x9 (by omega) (by omega)).symm
                  omega
                · omega
              have R5 := R4.call S5 (by decide +kernel)
              refine z_ok (fun ox9 _ _ => ?_)
              have ox9 := ox9.1; unfold m_ok m_32 at ox9
              exact z_retI (M := M_X11_numbers) 79 dX11_numbers_79 rfl ⟨G5, R5, Or.inr ⟨⟨cx1, cx2, k_⟩, _, _, fo, la, ne_, fun z => by omega, fun z => by omega, fun _ => ⟨fun _ => el_, fun z => absurd (fl_.mpr z) c7⟩⟩⟩
            · refine z_aload_n (M := M_X11_numbers) 60 dX11_numbers_60 rfl ?_
              refine z_getR (M := M_X11_numbers) 61 dX11_numbers_61 f_X11_53 o_0 rfl (g_0_7 G4) ?_
              refine z_iload_n (M := M_X11_numbers) 64 dX11_numbers_64 rfl ?_
              refine z_vI (M := M_X11_numbers) 65 dX11_numbers_65 t_X7_firstNumber l_X11_313 (m_rr_of rfl) (rest := []) (c_X7_firstNumber4 h4 a3 G4 cx1 (by rw [frE S4]; exact pb2_)) o_93 rfl rfl rfl (Nat.le_of_ble_eq_true rfl) ⟨rfl, rfl⟩ (fun x10 h6 qx10 => ?_)
              obtain ⟨G6, S6, f1_, f2_, f3_⟩ := qx10
              rw [frE S4] at f3_
              have ef_ : x10 = fo := by
                have y1 := (f3_ fo (by omega) (by omega)).trans (nm_.2.2.1 fo (by omega) (by omega)).symm
                have y2 := (f3_ x10 (by omega) (by omega)).trans (nm_.2.2.1 x10 (by omega) (by omega)).symm
                omega
              have R6 := R4.call S6 (by decide +kernel)
              refine z_ok (fun ox10 _ _ => ?_)
              have ox10 := ox10.1; unfold m_ok m_32 at ox10
              refine z_goto (M := M_X11_numbers) 68 dX11_numbers_68 79 rfl ?_
              exact z_retI (M := M_X11_numbers) 79 dX11_numbers_79 rfl ⟨G6, R6, Or.inr ⟨⟨cx1, cx2, k_⟩, _, _, fo, la, ne_, fun z => by omega, fun _ => ⟨fun _ => ef_, fun z => absurd (fl_.mpr z) c7⟩, fun z => by omega⟩⟩
          · refine z_iconst (M := M_X11_numbers) 52 dX11_numbers_52 ?_
            exact z_retI (M := M_X11_numbers) 53 dX11_numbers_53 rfl ⟨G4, R4, Or.inr ⟨⟨cx1, cx2, k_⟩, _, _, fo, la, ne_, fun z => by omega, fun _ => ⟨fun z => absurd z (fl_.mp (by omega)), fun _ => rfl⟩, fun _ => ⟨fun z => absurd z (fl_.mp (by omega)), fun _ => rfl⟩⟩⟩
        · refine z_iload (M := M_X11_numbers) 44 dX11_numbers_44 rfl ?_
          exact z_retI (M := M_X11_numbers) 46 dX11_numbers_46 rfl ⟨G4, R4, Or.inr ⟨⟨cx1, cx2, k_⟩, _, _, fo, la, ne_, fun _ => nx_.symm, fun z => by omega, fun z => by omega⟩⟩
      · refine z_bipush (M := M_X11_numbers) 26 dX11_numbers_26 ?_
        exact z_retI (M := M_X11_numbers) 28 dX11_numbers_28 rfl ⟨G3, R3, Or.inl ⟨fun z => absurd (fx3.1.mpr z.2.2) (by omega), rfl⟩⟩
    · refine z_if_eq_T (M := M_X11_numbers) 14 dX11_numbers_14 26 rfl (by omega) ?_
      refine z_bipush (M := M_X11_numbers) 26 dX11_numbers_26 ?_
      exact z_retI (M := M_X11_numbers) 28 dX11_numbers_28 rfl ⟨G0, (FR.rf (cs := (csB ++ [39, 40, 41])) (ss := []) (h := h0)), Or.inl ⟨fun z => cx2 z.2.1, rfl⟩⟩
  · refine z_if_eq_T (M := M_X11_numbers) 4 dX11_numbers_4 26 rfl (by omega) ?_
    refine z_bipush (M := M_X11_numbers) 26 dX11_numbers_26 ?_
    exact z_retI (M := M_X11_numbers) 28 dX11_numbers_28 rfl ⟨G0, (FR.rf (cs := (csB ++ [39, 40, 41])) (ss := []) (h := h0)), Or.inl ⟨fun z => cx1 z.1, rfl⟩⟩
