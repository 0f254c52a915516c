/-! up to three steps -/
theorem lb_c {t l o P Q P' Q' : Int} {s s' : Prop} (h : lb t l o P Q s) (e1 : P' = P) (e2 : Q' = Q) (e3 : s' → s) : lb t l o P' Q' s' := by
  subst e1; subst e2
  refine ⟨h.1, ?_⟩
  rcases h.2 with z | z
  · exact Or.inl z
  · exact Or.inr ⟨z.1, fun k => z.2 (e3 k)⟩
theorem reach_ok {L : List gE} (hE : ∀ e ∈ L, gEo e) {st t2 re : Nat → Nat → Int × Int × Int} (p1 : ∀ i j, pB (st i j)) (p2 : ∀ i j, pB (t2 i j))
    (h1 : ∀ e, MF L e → e.1.1 ≠ e.1.2 → lb (st e.1.1 e.1.2).1 (st e.1.1 e.1.2).2.1 (st e.1.1 e.1.2).2.2 e.2.1 e.2.2.1 (e.2.2.2 = 1))
    (h2 : ∀ a b, a ≠ b → t2 a b = goL st st a b [12, 13, 14, 15] (st a b)) (h3 : ∀ a b, a ≠ b → re a b = goL t2 st a b [12, 13, 14, 15] (t2 a b)) :
    ∀ (v : List gE) (a b : Nat), v ≠ [] → v.length ≤ 3 → wm (MF L) v a b → (nd v a).Nodup → lb (re a b).1 (re a b).2.1 (re a b).2.2 (wp v) (wq v) (ws v) := by
  have kf := MF_k hE
  have mem : ∀ e, MF L e → e.1.2 ∈ [12, 13, 14, 15] := fun e he => by
    have o := kf e he
    have q : e.1.2 = 12 ∨ e.1.2 = 13 ∨ e.1.2 = 14 ∨ e.1.2 = 15 := by have := he.1.2; omega
    rcases q with q | q | q | q <;> simp [q]
  -- one, two steps
  have one : ∀ e, MF L e → e.1.1 ≠ e.1.2 → lb (t2 e.1.1 e.1.2).1 (t2 e.1.1 e.1.2).2.1 (t2 e.1.1 e.1.2).2.2 e.2.1 e.2.2.1 (e.2.2.2 = 1) := fun e he ne => by
    rw [h2 _ _ ne]; exact gl_keep p1 p1 (kf e he).2 _ _ (h1 e he ne)
  have two : ∀ e f, MF L e → MF L f → e.1.2 = f.1.1 → e.1.1 ≠ e.1.2 → f.1.1 ≠ f.1.2 → e.1.1 ≠ f.1.2 → lb (t2 e.1.1 f.1.2).1 (t2 e.1.1 f.1.2).2.1 (t2 e.1.1 f.1.2).2.2 (e.2.1 * f.2.1) (e.2.2.1 * f.2.2.1) (e.2.2.2 = 1 ∨ f.2.2.2 = 1) := fun e f he hf ef n1 n2 n3 => by
    rw [h2 _ _ n3]
    have b := h1 f hf n2
    rw [← ef] at b
    exact gl_take p1 p1 (kf e he).2 (kf f hf).2 (Ne.symm n1) (by rw [ef]; exact n2) (h1 e he n1) b _ _ (mem e he) (p1 _ _)
  intro v a b hn hl hw hd
  match v, hn, hl, hw, hd with
  | [e], _, _, hw, hd =>
    obtain ⟨⟨he, rfl⟩, hb, _⟩ := hw
    subst hb
    have ne : e.1.1 ≠ e.1.2 := by have y : [e.1.1, e.1.2].Nodup := hd; simp at y; exact y
    rw [h3 _ _ ne]
    exact lb_c (gl_keep p2 p1 (kf e he).2 _ _ (one e he ne)) (Int.mul_one _) (Int.mul_one _) (fun z => z.elim id (fun y => y.elim))
  | [e, f], _, _, hw, hd =>
    obtain ⟨⟨he, rfl⟩, ⟨hf, ef⟩, hb, _⟩ := hw
    subst hb
    have y : [e.1.1, e.1.2, f.1.2].Nodup := hd
    simp at y
    have n2 : f.1.1 ≠ f.1.2 := by rw [ef]; exact y.2
    rw [h3 _ _ y.1.2]
    have pp : 0 < e.2.1 * f.2.1 ∧ 0 < e.2.2.1 * f.2.2.1 := ⟨Int.mul_pos (kf e he).2.1 (kf f hf).2.1, Int.mul_pos (kf e he).2.2 (kf f hf).2.2⟩
    exact lb_c (gl_keep p2 p1 pp _ _ (two e f he hf ef.symm y.1.1 n2 y.1.2)) (show e.2.1 * (f.2.1 * 1) = _ by rw [Int.mul_one]) (show e.2.2.1 * (f.2.2.1 * 1) = _ by rw [Int.mul_one]) (fun z => z.elim Or.inl (fun q => q.elim Or.inr (fun u => u.elim)))
  | [e, f, g], _, _, hw, hd =>
    obtain ⟨⟨he, rfl⟩, ⟨hf, ef⟩, ⟨hg, eg⟩, hb, _⟩ := hw
    subst hb
    have y : [e.1.1, e.1.2, f.1.2, g.1.2].Nodup := hd
    simp at y
    have n2 : f.1.1 ≠ f.1.2 := by rw [ef]; exact y.2.1.1
    have n3 : g.1.1 ≠ g.1.2 := by rw [eg]; exact y.2.2
    rw [h3 _ _ y.1.2.2]
    have pp : 0 < e.2.1 * f.2.1 ∧ 0 < e.2.2.1 * f.2.2.1 := ⟨Int.mul_pos (kf e he).2.1 (kf f hf).2.1, Int.mul_pos (kf e he).2.2 (kf f hf).2.2⟩
    have b := h1 g hg n3
    rw [eg] at b
    exact lb_c (gl_take p2 p1 pp (kf g hg).2 (Ne.symm y.1.2.1) (by rw [← eg]; exact n3) (two e f he hf ef.symm y.1.1 n2 y.1.2.1) b _ _ (mem f hf) (p2 _ _)) (show e.2.1 * (f.2.1 * (g.2.1 * 1)) = _ by rw [Int.mul_one, Int.mul_assoc]) (show e.2.2.1 * (f.2.2.1 * (g.2.2.1 * 1)) = _ by rw [Int.mul_one, Int.mul_assoc]) (fun z => z.elim (fun q => Or.inl (Or.inl q)) (fun q => q.elim (fun u => Or.inl (Or.inr u)) (fun u => u.elim Or.inr (fun w => w.elim))))
  | _ :: _ :: _ :: _ :: _, _, hl, _, _ => exact absurd hl (by simp)
