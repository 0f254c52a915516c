/-! a long walk goes round -/
def nd : List gE → Nat → List Nat
  | [], a => [a]
  | e :: w, a => a :: nd w e.1.2
theorem nd_len : ∀ (w : List gE) (a : Nat), (nd w a).length = w.length + 1
  | [], _ => rfl
  | e :: w, a => by show (nd w e.1.2).length + 1 = _; rw [nd_len w]; rfl
theorem nd_lt {L : List gE} (hE : ∀ e ∈ L, gEo e) : ∀ (w : List gE) (a b : Nat), wk L w a b → ∀ c ∈ nd w a, c < 16
  | [], a, b, h, c, hc => by
    rcases List.mem_cons.mp hc with rfl | z
    · exact h.2
    · cases z
  | e :: w, a, b, h, c, hc => by
    rcases List.mem_cons.mp hc with rfl | z
    · have o := hE e h.1.1
      unfold gEo at o
      rw [← h.1.2]; exact o.1.1
    · exact nd_lt hE w _ b h.2 c z
theorem nd_mem {L : List gE} (hE : ∀ e ∈ L, gEo e) : ∀ (w : List gE) (a b c : Nat), wk L w a b → c ∈ nd w a → ∃ x z, w = x ++ z ∧ wk L x a c ∧ wk L z c b
  | [], a, b, c, h, hc => by
    rcases List.mem_cons.mp hc with rfl | z
    · exact ⟨[], [], rfl, ⟨rfl, h.2⟩, h⟩
    · cases z
  | e :: w, a, b, c, h, hc => by
    rcases List.mem_cons.mp hc with rfl | z
    · exact ⟨[], e :: w, rfl, ⟨rfl, nd_lt hE (e :: w) c b h c (List.mem_cons_self)⟩, h⟩
    · obtain ⟨x, y, e1, e2, e3⟩ := nd_mem hE w _ b c h.2 z
      exact ⟨e :: x, y, by rw [e1]; rfl, ⟨h.1, e2⟩, e3⟩
theorem nd_split {L : List gE} (hE : ∀ e ∈ L, gEo e) : ∀ (w : List gE) (a b : Nat), wk L w a b → ¬ (nd w a).Nodup → ∃ x y z c, w = x ++ (y ++ z) ∧ y ≠ [] ∧ wk L x a c ∧ wk L y c c ∧ wk L z c b
  | [], a, b, h, hn => absurd (List.nodup_cons.mpr ⟨by simp, List.nodup_nil⟩) hn
  | e :: w, a, b, h, hn => by
    by_cases g : a ∈ nd w e.1.2
    · obtain ⟨x, z, e1, e2, e3⟩ := nd_mem hE w _ b a h.2 g
      have ha := nd_lt hE (e :: w) a b h a (List.mem_cons_self)
      exact ⟨[], e :: x, z, a, by rw [e1]; rfl, by simp, ⟨rfl, ha⟩, ⟨h.1, e2⟩, e3⟩
    · have g2 : ¬ (nd w e.1.2).Nodup := fun z => hn (List.nodup_cons.mpr ⟨g, z⟩)
      obtain ⟨x, y, z, c, e1, e2, e3, e4, e5⟩ := nd_split hE w _ b h.2 g2
      exact ⟨e :: x, y, z, c, by rw [e1]; rfl, e2, ⟨h.1, e3⟩, e4, e5⟩
/-- a walk of 16 edges or more: without a round in it, it is no worse unless the round gains -/
theorem wk_cut {L : List gE} (hE : ∀ e ∈ L, gEo e) (w : List gE) (a b : Nat) (h : wk L w a b) (hl : 16 ≤ w.length) (ng : ¬ gain L) : ∃ v, wk L v a b ∧ v.length < w.length ∧ wp w * wq v ≤ wp v * wq w ∧ (wp w * wq v = wp v * wq w → ws w → ws v) := by
  have hn : ¬ (nd w a).Nodup := fun z => by
    have y := gl_le z (fun u hu => nd_lt hE w a b h u hu)
    rw [nd_len] at y
    omega
  obtain ⟨x, y, z, c, e1, e2, e3, e4, e5⟩ := nd_split hE w a b h hn
  refine ⟨x ++ z, wk_app x z a c b e3 e5, ?_, ?_, ?_⟩
  · rw [e1, List.length_append, List.length_append, List.length_append]
    have : 0 < y.length := List.length_pos_iff.mpr e2
    omega
  all_goals
    have px := wp_pos hE x a c e3
    have py := wp_pos hE y c c e4
    have pz := wp_pos hE z c b e5
    have k1 : wp (x ++ (y ++ z)) * wq (x ++ z) = (wp x * wp z * (wq x * wq z)) * wp y := by rw [wp_app, wp_app, wq_app]; ac_rfl
    have k2 : wp (x ++ z) * wq (x ++ (y ++ z)) = (wp x * wp z * (wq x * wq z)) * wq y := by rw [wp_app, wq_app, wq_app]; ac_rfl
    have m : 0 < wp x * wp z * (wq x * wq z) := Int.mul_pos (Int.mul_pos px.1.1 pz.1.1) (Int.mul_pos px.1.2 pz.1.2)
    have ly : wp y ≤ wq y := by
      rcases Int.lt_or_le (wq y) (wp y) with g | g
      · exact absurd ⟨c, y, e4, Or.inl g⟩ ng
      · exact g
  · rw [e1, k1, k2]
    exact Int.mul_le_mul_of_nonneg_left ly (Int.le_of_lt m)
  · rw [e1, k1, k2, ws_app, ws_app, ws_app]
    intro eq st
    rcases st with s | s | s
    · exact Or.inl s
    · exact absurd ⟨c, y, e4, Or.inr ⟨(Int.eq_of_mul_eq_mul_left (Int.ne_of_gt m) eq).symm, s⟩⟩ ng
    · exact Or.inr s
