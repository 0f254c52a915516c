/-! the reference's rounds: the best of all walks so long -/
def bfI (L : List gE) (k : Nat) (S : gS) : Prop := (∀ l, l < 16 → ∃ (w : List gE) (a : Nat), wk L w a l ∧ w.length ≤ k ∧ (S l).1.1 = wp w ∧ (S l).1.2 = wq w) ∧ ∀ (v : List gE) (a l : Nat), wk L v a l → v.length ≤ k → wp v * (S l).1.2 ≤ (S l).1.1 * wq v
theorem bf_0 {L : List gE} {S : gS} (s : ∀ l, l < 16 → (S l).1 = (1, 1)) : bfI L 0 S := by
  refine ⟨fun l hl => ⟨[], l, ⟨rfl, hl⟩, Nat.le_refl _, by rw [s l hl]; rfl, by rw [s l hl]; rfl⟩, fun v a l h hv => ?_⟩
  have e : v = [] := List.eq_nil_of_length_eq_zero (by omega)
  subst e
  have hl : l < 16 := h.1 ▸ h.2
  rw [s l hl]
  exact Int.le_refl _
theorem wk_last {L : List gE} : ∀ (v : List gE) (a l : Nat), wk L v a l → v ≠ [] → ∃ u e, v = u ++ [e] ∧ e ∈ L ∧ e.1.2 = l ∧ l < 16 ∧ ∃ (_ : True), (e.1.1 < 16 → wk L u a e.1.1)
  | [], a, l, h, hn => absurd rfl hn
  | [e], a, l, h, _ => ⟨[], e, rfl, h.1.1, h.2.1, h.2.1 ▸ h.2.2, trivial, fun q => ⟨h.1.2.symm, h.1.2 ▸ q⟩⟩
  | e :: f :: v, a, l, h, _ => by
    obtain ⟨u, d, e1, e2, e3, e4, t, e5⟩ := wk_last (f :: v) _ l h.2 (by simp)
    exact ⟨e :: u, d, by rw [e1]; rfl, e2, e3, e4, trivial, fun q => ⟨h.1, e5 q⟩⟩
theorem bf_step {L : List gE} {k : Nat} {M : Int} {S : gS} (hE : ∀ e ∈ L, gEo e) (hM : M * 199 < gBig) (h : gM M S) (I : bfI L k S) : bfI L (k + 1) (gi 0 S L L.length).1 ∧ ((gi 0 S L L.length).2 = 0 ∨ ((gi 0 S L L.length).2 = 1 ∧ ∃ l, l < 16 ∧ (S l).1.1 * ((gi 0 S L L.length).1 l).1.2 < ((gi 0 S L L.length).1 l).1.1 * (S l).1.2)) := by
  have hcx := fun (e : gE) (he : e ∈ L) => gc_ex (S := S) (z := 0) (M := M) hM (hE e he) (h _ (hE e he).1.1).2.1 (h _ (hE e he).1.1).2.2
  have hR := gi_ok (z := 0) (S := S) (L := L) (fun e he => (hE e he).1) (fun e he t => by have := (hcx e he).2.2.1; omega) (fun l hl t => by have := (h l hl).2.2; omega) L.length
  have gM' := (gM_step hE hM h).1
  generalize gi 0 S L L.length = p at hR gM' ⊢
  obtain ⟨r1, r2, r3⟩ := hR
  obtain ⟨A, B⟩ := I
  have gbl : ∀ c t : gN, t.2.2 = 1 → c.2.1 = 0 → gb c t → t.1.1 * c.1.2 < c.1.1 * t.1.2 := fun c t h1 h2 g => by
    rcases g with g | g | g
    · exact absurd h1 g
    · exact g
    · omega
  have c0 : ∀ e, (gc 0 S e).2.1 = 0 := fun e => rfl
  have mono : ∀ l, l < 16 → (S l).1.1 * (p.1 l).1.2 ≤ (p.1 l).1.1 * (S l).1.2 := fun l hl => by
    rcases r1 l with q | ⟨⟨e, he, t, s, q⟩, g⟩
    · rw [q]; exact Int.le_refl _
    · exact Int.le_of_lt (gbl _ _ (h l hl).1 (by rw [q]; exact c0 e) g)
  refine ⟨⟨fun l hl => ?_, fun v a l hv hl => ?_⟩, ?_⟩
  · rcases r1 l with q | ⟨⟨e, he, t, s, q⟩, g⟩
    · obtain ⟨w, a, w1, w2, w3, w4⟩ := A l hl
      exact ⟨w, a, w1, by omega, by rw [q]; exact w3, by rw [q]; exact w4⟩
    · obtain ⟨w, a, w1, w2, w3, w4⟩ := A e.1.1 (hE e he).1.1
      have cx := hcx e he
      refine ⟨w ++ [e], a, wk_app w [e] a _ l w1 ⟨⟨he, rfl⟩, t, t ▸ (hE e he).1.2⟩, by rw [List.length_append]; show w.length + 1 ≤ _; omega, ?_, ?_⟩
      · rw [q, wp_app, ← w3, cx.1.1]; show _ = _ * (e.2.1 * 1); rw [Int.mul_one]
      · rw [q, wq_app, ← w4, cx.1.2]; show _ = _ * (e.2.2.1 * 1); rw [Int.mul_one]
  · have pv := wp_pos hE v a l hv
    have l16 := pv.2.2
    have pl := gM' l l16
    have sl := h l l16
    by_cases c : v.length ≤ k
    · have z := B v a l hv c
      exact fr_tr (Int.le_of_lt pv.1.2) (show 0 < (S l).1.2 by omega) (by omega) z (mono l l16)
    · obtain ⟨u, e, e1, e2, e3, e4, _, e5⟩ := wk_last v a l hv (fun y => by rw [y] at c; exact c (Nat.zero_le _))
      have o := (hE e e2).1
      have wu := e5 o.1
      have lu : u.length ≤ k := by rw [e1, List.length_append] at hl; have : [e].length = 1 := rfl; omega
      have z := B u a e.1.1 wu lu
      have pu := wp_pos hE u a e.1.1 wu
      have cx := hcx e e2
      obtain ⟨j, hj⟩ := List.getElem?_of_mem e2
      have nb := r2 j e (List.getElem?_eq_some_iff.mp hj).1 hj (h _ o.1).1
      rw [e3] at nb
      have le : (gc 0 S e).1.1 * (p.1 l).1.2 ≤ (p.1 l).1.1 * (gc 0 S e).1.2 := by
        rcases Int.lt_or_le ((p.1 l).1.1 * (gc 0 S e).1.2) ((gc 0 S e).1.1 * (p.1 l).1.2) with g | g
        · exact absurd (Or.inr (Or.inl g)) nb
        · exact g
      have og := hE e e2
      unfold gEo at og
      have sf := h e.1.1 o.1
      rw [e1, wp_app, wq_app]
      show wp u * (e.2.1 * 1) * (p.1 l).1.2 ≤ (p.1 l).1.1 * (wq u * (e.2.2.1 * 1))
      rw [Int.mul_one, Int.mul_one]
      rw [cx.1.1, cx.1.2] at le
      have p1 : 0 < wq u * e.2.2.1 := Int.mul_pos pu.1.2 (by omega)
      have p2 : 0 < (S e.1.1).1.2 * e.2.2.1 := Int.mul_pos (by omega) (by omega)
      refine fr_tr (b := (S e.1.1).1.1 * e.2.1) (y := (S e.1.1).1.2 * e.2.2.1) (Int.le_of_lt p1) p2 (by omega) ?_ le
      have k1 : wp u * e.2.1 * ((S e.1.1).1.2 * e.2.2.1) = (e.2.1 * e.2.2.1) * (wp u * (S e.1.1).1.2) := by ac_rfl
      have k2 : (S e.1.1).1.1 * e.2.1 * (wq u * e.2.2.1) = (e.2.1 * e.2.2.1) * ((S e.1.1).1.1 * wq u) := by ac_rfl
      rw [k1, k2]
      exact Int.mul_le_mul_of_nonneg_left z (Int.mul_nonneg (by omega) (by omega))
  · rcases r3 with ⟨a1, _⟩ | ⟨a1, l, hl, g, e, he, t, s, q⟩
    · exact Or.inl a1
    · exact Or.inr ⟨a1, l, hl, gbl _ _ (h l hl).1 (by rw [q]; exact c0 e) g⟩
/-- a round past the sixteenth that still gains -/
theorem bf_gain {L : List gE} {S S' : gS} (hE : ∀ e ∈ L, gEo e) (I : bfI L 16 S) (I' : bfI L 17 S') (hS : ∀ l, l < 16 → 0 < (S l).1.2 ∧ 0 < (S' l).1.2) (g : ∃ l, l < 16 ∧ (S l).1.1 * (S' l).1.2 < (S' l).1.1 * (S l).1.2) : gain L := by
  refine Classical.byContradiction fun ng => ?_
  obtain ⟨l, hl, lt⟩ := g
  obtain ⟨w, a, w1, w2, w3, w4⟩ := I'.1 l hl
  have pw := wp_pos hE w a l w1
  have no : ∀ v, wk L v a l → v.length ≤ 16 → wp w * wq v ≤ wp v * wq w → False := fun v v1 v2 v3 => by
    have pv := wp_pos hE v a l v1
    have z := I.2 v a l v1 v2
    have y := fr_tr (a := wp w) (x := wq w) (b := wp v) (y := wq v) (Int.le_of_lt pw.1.2) pv.1.2 (Int.le_of_lt (hS l hl).1) v3 z
    rw [w3, w4] at lt
    have k : (S l).1.1 * wq w = (S l).1.1 * wq w := rfl
    omega
  by_cases c : w.length ≤ 16
  · exact no w w1 c (Int.le_refl _)
  · obtain ⟨v, v1, v2, v3, _⟩ := wk_cut hE w a l w1 (by omega) ng
    exact no v v1 (by omega) v3
