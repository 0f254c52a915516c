/-! walks over the edges: what both solvers decide -/
def wk (L : List gE) : List gE → Nat → Nat → Prop
  | [], a, b => a = b ∧ a < 16
  | e :: w, a, b => (e ∈ L ∧ e.1.1 = a) ∧ wk L w e.1.2 b
def wp : List gE → Int
  | [] => 1
  | e :: w => e.2.1 * wp w
def wq : List gE → Int
  | [] => 1
  | e :: w => e.2.2.1 * wq w
def ws : List gE → Prop
  | [] => False
  | e :: w => e.2.2.2 = 1 ∨ ws w
/-- a closed walk that leads below itself -/
def gain (L : List gE) : Prop := ∃ (a : Nat) (w : List gE), wk L w a a ∧ (wq w < wp w ∨ (wq w = wp w ∧ ws w))
theorem wp_pos {L : List gE} (hE : ∀ e ∈ L, gEo e) : ∀ (w : List gE) (a b : Nat), wk L w a b → (0 < wp w ∧ 0 < wq w) ∧ a < 16 ∧ b < 16
  | [], a, b, h => ⟨⟨by decide, by decide⟩, h.2, h.1 ▸ h.2⟩
  | e :: w, a, b, h => by
    obtain ⟨⟨h1, h2⟩, h3⟩ := h
    have i := wp_pos hE w _ b h3
    have o := hE e h1
    unfold gEo at o
    refine ⟨⟨Int.mul_pos (by omega) i.1.1, Int.mul_pos (by omega) i.1.2⟩, ?_, i.2.2⟩
    rw [← h2]; exact o.1.1
theorem wk_le {L : List gE} {PU PL : Nat → Int} {TT : Nat → Nat → Prop} (hE : ∀ e ∈ L, gEo e) (hP : gP L PU PL TT) : ∀ (w : List gE) (a b : Nat), wk L w a b → PU a * wp w * PL b ≤ PU b * wq w * PL a ∧ (PU a * wp w * PL b = PU b * wq w * PL a → TT a b ∧ (ws w → ¬ TT b a))
  | [], a, b, h => by
    obtain ⟨h1, h2⟩ := h
    subst h1
    exact ⟨Int.le_refl _, fun _ => ⟨hP.2.2.1 a h2, fun z => z.elim⟩⟩
  | e :: w, a, b, h => by
    obtain ⟨⟨h1, h2⟩, h3⟩ := h
    have i := wk_le hE hP w _ b h3
    have ps := wp_pos hE w _ b h3
    have o := hE e h1
    have o2 := o
    unfold gEo at o2
    obtain ⟨p1, p2, p3, p4, p5, p6⟩ := hP
    have e1 := p2 e h1
    subst h2
    have ma : 0 < PU e.1.1 ∧ 0 < PL e.1.1 := p1 _ o2.1.1
    have mm : 0 < PU e.1.2 ∧ 0 < PL e.1.2 := p1 _ o2.1.2
    have mb : 0 < PU b ∧ 0 < PL b := p1 _ ps.2.2
    have hx : 0 < PL e.1.1 * e.2.2.1 := Int.mul_pos ma.2 (by omega)
    -- the ratios
    have r1 : PU e.1.1 * e.2.1 * wp w * PL e.1.2 ≤ PU e.1.2 * wp w * (PL e.1.1 * e.2.2.1) := by
      have z := Int.mul_le_mul_of_nonneg_left e1 (Int.le_of_lt ps.1.1)
      have a1 : wp w * (PU e.1.1 * e.2.1 * PL e.1.2) = PU e.1.1 * e.2.1 * wp w * PL e.1.2 := by ac_rfl
      have a2 : wp w * (PU e.1.2 * (PL e.1.1 * e.2.2.1)) = PU e.1.2 * wp w * (PL e.1.1 * e.2.2.1) := by ac_rfl
      omega
    have r2 : PU e.1.2 * wp w * PL b ≤ PU b * wq w * PL e.1.2 := i.1
    have g1 : PU e.1.1 * (e.2.1 * wp w) * PL b = PU e.1.1 * e.2.1 * wp w * PL b := by ac_rfl
    have g2 : PU b * (e.2.2.1 * wq w) * PL e.1.1 = PU b * wq w * (PL e.1.1 * e.2.2.1) := by ac_rfl
    show PU e.1.1 * (e.2.1 * wp w) * PL b ≤ PU b * (e.2.2.1 * wq w) * PL e.1.1 ∧ (PU e.1.1 * (e.2.1 * wp w) * PL b = PU b * (e.2.2.1 * wq w) * PL e.1.1 → TT e.1.1 b ∧ (e.2.2.2 = 1 ∨ ws w → ¬ TT b e.1.1))
    rw [g1, g2]
    refine ⟨fr_tr (Int.le_of_lt hx) mm.2 (Int.le_of_lt mb.2) r1 r2, fun eq => ?_⟩
    have q1 : PU e.1.1 * e.2.1 * wp w * PL e.1.2 = PU e.1.2 * wp w * (PL e.1.1 * e.2.2.1) := by
      rcases Int.lt_or_eq_of_le r1 with z | z
      · exact absurd eq (Int.ne_of_lt (fr_trl (Int.le_of_lt hx) mm.2 mb.2 z r2))
      · exact z
    have q2 : PU e.1.2 * wp w * PL b = PU b * wq w * PL e.1.2 := by
      rcases Int.lt_or_eq_of_le r2 with z | z
      · exact absurd eq (Int.ne_of_lt (fr_ltr hx mm.2 (Int.le_of_lt mb.2) r1 z))
      · exact z
    have t1 : gti PU PL e := by
      unfold gti
      have a1 : wp w * (PU e.1.1 * e.2.1 * PL e.1.2) = PU e.1.1 * e.2.1 * wp w * PL e.1.2 := by ac_rfl
      have a2 : wp w * (PU e.1.2 * (PL e.1.1 * e.2.2.1)) = PU e.1.2 * wp w * (PL e.1.1 * e.2.2.1) := by ac_rfl
      exact Int.eq_of_mul_eq_mul_left (Int.ne_of_gt ps.1.1) (by omega)
    have t2 := i.2 q2
    have tam := p5 e h1 t1
    refine ⟨p4 _ _ _ o2.1.1 o2.1.2 ps.2.2 tam t2.1, fun st tba => ?_⟩
    rcases st with st | st
    · exact p6 e h1 st t1 (p4 _ _ _ o2.1.2 ps.2.2 o2.1.1 t2.1 tba)
    · exact t2.2 st (p4 _ _ _ ps.2.2 o2.1.1 o2.1.2 tba tam)
/-- the reference's 1: nothing gains -/
theorem gG_no {L : List gE} (hE : ∀ e ∈ L, gEo e) (h : gG L) : ¬ gain L := by
  obtain ⟨PU, PL, TT, hP⟩ := h
  rintro ⟨a, w, hw, hg⟩
  have ps := wp_pos hE w a a hw
  have z := wk_le hE hP w a a hw
  have ma := hP.1 a ps.2.1
  have m : 0 < PU a * PL a := Int.mul_pos ma.1 ma.2
  have a1 : PU a * wp w * PL a = PU a * PL a * wp w := by ac_rfl
  have a2 : PU a * wq w * PL a = PU a * PL a * wq w := by ac_rfl
  rw [a1, a2] at z
  rcases hg with g | ⟨g, s⟩
  · have := Int.mul_lt_mul_of_pos_left g m
    omega
  · exact (z.2 (by rw [g])).2 s (hP.2.2.1 a ps.2.1)
/-- walks go on -/
theorem wk_app {L : List gE} : ∀ (w v : List gE) (a b c : Nat), wk L w a b → wk L v b c → wk L (w ++ v) a c
  | [], v, a, b, c, h, k => by obtain ⟨rfl, _⟩ := h; exact k
  | e :: w, v, a, b, c, h, k => ⟨h.1, wk_app w v _ b c h.2 k⟩
theorem wp_app : ∀ w v : List gE, wp (w ++ v) = wp w * wp v
  | [], v => (Int.one_mul _).symm
  | e :: w, v => by show e.2.1 * wp (w ++ v) = e.2.1 * wp w * wp v; rw [wp_app w v, Int.mul_assoc]
theorem wq_app : ∀ w v : List gE, wq (w ++ v) = wq w * wq v
  | [], v => (Int.one_mul _).symm
  | e :: w, v => by show e.2.2.1 * wq (w ++ v) = e.2.2.1 * wq w * wq v; rw [wq_app w v, Int.mul_assoc]
theorem ws_app : ∀ w v : List gE, ws (w ++ v) ↔ (ws w ∨ ws v)
  | [], v => ⟨Or.inr, fun z => z.elim (fun y => y.elim) id⟩
  | e :: w, v => by
    show (e.2.2.2 = 1 ∨ ws (w ++ v)) ↔ ((e.2.2.2 = 1 ∨ ws w) ∨ ws v)
    rw [ws_app w v, or_assoc]
