/-! tight walks -/
def tw (L : List gE) (S : gS) (a b : Nat) : Prop := ∃ w, wk L w a b ∧ ∀ e ∈ w, gti (fun l => (S l).1.1) (fun l => (S l).1.2) e
theorem tw_nil {L : List gE} {S : gS} {a : Nat} (h : a < 16) : tw L S a a := ⟨[], ⟨rfl, h⟩, fun e he => by cases he⟩
theorem tw_app {L : List gE} {S : gS} {a b c : Nat} (h : tw L S a b) (k : tw L S b c) : tw L S a c := by
  obtain ⟨w, h1, h2⟩ := h
  obtain ⟨v, k1, k2⟩ := k
  refine ⟨w ++ v, wk_app w v a b c h1 k1, fun e he => ?_⟩
  rcases List.mem_append.mp he with z | z
  · exact h2 e z
  · exact k2 e z
theorem tw_one {L : List gE} {S : gS} {e : gE} (hE : ∀ e ∈ L, gEo e) (he : e ∈ L) (t : gti (fun l => (S l).1.1) (fun l => (S l).1.2) e) : tw L S e.1.1 e.1.2 := by
  refine ⟨[e], ⟨⟨he, rfl⟩, rfl, (hE e he).1.2⟩, fun d hd => ?_⟩
  rcases List.mem_cons.mp hd with rfl | z
  · exact t
  · cases z
theorem tw_eq {L : List gE} {PU PL : Nat → Int} (hE : ∀ e ∈ L, gEo e) (hp : ∀ l, l < 16 → 0 < PU l ∧ 0 < PL l) : ∀ (w : List gE) (a b : Nat), wk L w a b → (∀ e ∈ w, gti PU PL e) → PU a * wp w * PL b = PU b * wq w * PL a
  | [], a, b, h, _ => by obtain ⟨rfl, _⟩ := h; rfl
  | e :: w, a, b, h, t => by
    obtain ⟨⟨h1, h2⟩, h3⟩ := h
    subst h2
    have i := tw_eq hE hp w _ b h3 (fun d hd => t d (List.mem_cons_of_mem _ hd))
    have t1 : PU e.1.1 * e.2.1 * PL e.1.2 = PU e.1.2 * (PL e.1.1 * e.2.2.1) := t e List.mem_cons_self
    have mm := hp _ (hE e h1).1.2
    show PU e.1.1 * (e.2.1 * wp w) * PL b = PU b * (e.2.2.1 * wq w) * PL e.1.1
    have m : 0 < PU e.1.2 * PL e.1.2 := Int.mul_pos mm.1 mm.2
    refine Int.eq_of_mul_eq_mul_left (Int.ne_of_gt m) ?_
    have k1 : PU e.1.2 * PL e.1.2 * (PU e.1.1 * (e.2.1 * wp w) * PL b) = (PU e.1.1 * e.2.1 * PL e.1.2) * (PU e.1.2 * wp w * PL b) := by ac_rfl
    have k2 : PU e.1.2 * PL e.1.2 * (PU b * (e.2.2.1 * wq w) * PL e.1.1) = (PU e.1.2 * (PL e.1.1 * e.2.2.1)) * (PU b * wq w * PL e.1.2) := by ac_rfl
    rw [k1, k2, t1, i]
/-- a strict tight edge with a tight way back gains -/
theorem tw_gain {L : List gE} {S : gS} {e : gE} (hE : ∀ e ∈ L, gEo e) (hp : ∀ l, l < 16 → 0 < (S l).1.1 ∧ 0 < (S l).1.2) (he : e ∈ L) (st : e.2.2.2 = 1) (t : gti (fun l => (S l).1.1) (fun l => (S l).1.2) e) (b : tw L S e.1.2 e.1.1) : gain L := by
  obtain ⟨w, h1, h2⟩ := b
  have hw : wk L (e :: w) e.1.1 e.1.1 := ⟨⟨he, rfl⟩, h1⟩
  have q := tw_eq (PU := fun l => (S l).1.1) (PL := fun l => (S l).1.2) hE hp (e :: w) _ _ hw (fun d hd => by
    rcases List.mem_cons.mp hd with rfl | z
    · exact t
    · exact h2 d z)
  have ma := hp _ (hE e he).1.1
  have m : 0 < (S e.1.1).1.1 * (S e.1.1).1.2 := Int.mul_pos ma.1 ma.2
  have k1 : (S e.1.1).1.1 * wp (e :: w) * (S e.1.1).1.2 = (S e.1.1).1.1 * (S e.1.1).1.2 * wp (e :: w) := by ac_rfl
  have k2 : (S e.1.1).1.1 * wq (e :: w) * (S e.1.1).1.2 = (S e.1.1).1.1 * (S e.1.1).1.2 * wq (e :: w) := by ac_rfl
  have q2 : (S e.1.1).1.1 * (S e.1.1).1.2 * wp (e :: w) = (S e.1.1).1.1 * (S e.1.1).1.2 * wq (e :: w) := k1.symm.trans (q.trans k2)
  exact ⟨e.1.1, e :: w, hw, Or.inr ⟨(Int.eq_of_mul_eq_mul_left (Int.ne_of_gt m) q2).symm, Or.inl st⟩⟩
