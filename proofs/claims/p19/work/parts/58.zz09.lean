/-! limits as the class keeps them -/
/-- a limit (t, l, o) leaves no more than a walk with (P, Q), strict if s -/
def lb (t l o P Q : Int) (s : Prop) : Prop := (0 < t ∧ 0 < l) ∧ (t * P < l * Q ∨ (t * P = l * Q ∧ (s → o = 1)))
theorem lb_le {t l o P Q : Int} {s : Prop} (h : lb t l o P Q s) : t * P ≤ l * Q := by
  rcases h.2 with z | z
  · exact Int.le_of_lt z
  · exact Int.le_of_eq z.1
theorem lb_mul {t l o t' l' o' o2 P Q P' Q' : Int} {s s' : Prop} (h : lb t l o P Q s) (h' : lb t' l' o' P' Q' s') (hP : 0 < P ∧ 0 < Q) (hP' : 0 < P' ∧ 0 < Q') (ho : o = 1 ∨ o' = 1 → o2 = 1) : lb (t * t') (l * l') o2 (P * P') (Q * Q') (s ∨ s') := by
  refine ⟨⟨Int.mul_pos h.1.1 h'.1.1, Int.mul_pos h.1.2 h'.1.2⟩, ?_⟩
  have k1 : t * t' * (P * P') = (t * P) * (t' * P') := by ac_rfl
  have k2 : l * l' * (Q * Q') = (l * Q) * (l' * Q') := by ac_rfl
  rw [k1, k2]
  have p1 : 0 < t * P := Int.mul_pos h.1.1 hP.1
  have p2 : 0 < t' * P' := Int.mul_pos h'.1.1 hP'.1
  have p3 : 0 < l * Q := Int.mul_pos h.1.2 hP.2
  have p4 : 0 < l' * Q' := Int.mul_pos h'.1.2 hP'.2
  rcases h.2 with a | ⟨a, b⟩
  · exact Or.inl (Int.lt_of_lt_of_le (Int.mul_lt_mul_of_pos_right a p2) (Int.mul_le_mul_of_nonneg_left (lb_le h') (Int.le_of_lt p3)))
  · rcases h'.2 with c | ⟨c, d⟩
    · refine Or.inl ?_
      rw [a]; exact Int.mul_lt_mul_of_pos_left c p3
    · refine Or.inr ⟨by rw [a, c], fun z => ho ?_⟩
      rcases z with z | z
      · exact Or.inl (b z)
      · exact Or.inr (d z)
/-- a round that gains, under a limit: the limit is below one -/
theorem lb_gain {t l o : Int} {w : List gE} {P Q : Int} {s : Prop} (h : lb t l o P Q s) (eP : P = wp w) (eQ : Q = wq w) (es : ws w → s) (hw : 0 < wp w ∧ 0 < wq w) (g : gnw w) : t < l ∨ (t = l ∧ o = 1) := by
  subst eP; subst eQ
  rcases g with g | ⟨g, k⟩
  · refine Or.inl ?_
    have z := lb_le h
    rcases Int.lt_or_le t l with y | y
    · exact y
    · have m1 := Int.mul_le_mul_of_nonneg_right y (Int.le_of_lt hw.1)
      have m2 := Int.mul_lt_mul_of_pos_left g h.1.2
      omega
  · rw [g] at h
    rcases h.2 with z | ⟨z, y⟩
    · exact Or.inl (Int.lt_of_mul_lt_mul_right z (Int.le_of_lt hw.1))
    · exact Or.inr ⟨Int.eq_of_mul_eq_mul_right (Int.ne_of_gt hw.1) z, y (es k)⟩
/-- nothing gains, where each foot holds and the feet hold together -/
theorem cls_no {L : List gE} (hE : ∀ e ∈ L, gEo e) (hc : ∀ e ∈ L, e.1.1 < 12 → e.1.2 < 12 → e.1.1 = 6 + e.1.2) (st re : Nat → Nat → Int × Int × Int)
    (h1 : ∀ e, MF L e → e.1.1 = e.1.2 → lb (st e.1.1 e.1.2).1 (st e.1.1 e.1.2).2.1 (st e.1.1 e.1.2).2.2 e.2.1 e.2.2.1 (e.2.2.2 = 1))
    (h2 : ∀ a, 12 ≤ a → a < 16 → (st a a).2.1 ≠ 0 → ¬ ((st a a).1 < (st a a).2.1 ∨ ((st a a).1 = (st a a).2.1 ∧ (st a a).2.2 = 1)))
    (h3 : ∀ (v : List gE) (a b : Nat), v ≠ [] → v.length ≤ 3 → wm (MF L) v a b → (nd v a).Nodup → lb (re a b).1 (re a b).2.1 (re a b).2.2 (wp v) (wq v) (ws v))
    (h4 : ∀ a b, 12 ≤ a → a < 16 → 12 ≤ b → b < 16 → a ≠ b → ¬ ((re a b).1 * (re b a).1 < (re a b).2.1 * (re b a).2.1 ∨ ((re a b).1 * (re b a).1 = (re a b).2.1 * (re b a).2.1 ∧ ((re a b).2.2 = 1 ∨ (re b a).2.2 = 1)))) : ¬ gain L := by
  intro g
  obtain ⟨e, v, v1, v2, v3, v4⟩ := gain_four hE hc g
  have F := v1.1.1
  have pos := wm_pos (MF_k hE) (e :: v) _ _ v1
  have o := (MF_k hE) e F
  cases v with
  | nil =>
    have eq : e.1.1 = e.1.2 := v1.2.1.symm
    have b := h1 e F eq
    rw [← eq] at b
    have z := lb_gain (w := [e]) b (show _ = e.2.1 * 1 by rw [Int.mul_one]) (show _ = e.2.2.1 * 1 by rw [Int.mul_one]) (fun k => k.elim id (fun y => y.elim)) pos.1 v2
    exact h2 e.1.1 F.1.1 o.1.1 (Int.ne_of_gt b.1.2) z
  | cons d v =>
    have pv := wm_pos (MF_k hE) (d :: v) _ _ v1.2
    -- the two ends differ
    have last : ∀ (w : List gE) (a b : Nat), wm (MF L) w a b → b ∈ nd w a := by
      intro w
      induction w with
      | nil => intro a b h; obtain ⟨rfl, _⟩ := h; exact List.mem_cons_self
      | cons e w ih => intro a b h; exact List.mem_cons_of_mem _ (ih _ b h.2)
    have ne : e.1.1 ≠ e.1.2 := fun eq => by
      have y : nd (d :: v) e.1.2 = e.1.2 :: nd v d.1.2 := rfl
      rw [y] at v3
      have m := last v d.1.2 e.1.1 v1.2.2
      rw [eq] at m
      exact (List.nodup_cons.mp v3).1 m
    have w1 : wm (MF L) [e] e.1.1 e.1.2 := ⟨⟨F, rfl⟩, rfl, o.1.2⟩
    have n1 : (nd [e] e.1.1).Nodup := by
      show [e.1.1, e.1.2].Nodup
      simp [ne]
    have b1 := h3 [e] e.1.1 e.1.2 (by simp) (show 1 ≤ 3 by decide) w1 n1
    have b2 := h3 (d :: v) e.1.2 e.1.1 (by simp) v4 v1.2 v3
    have p1 := wm_pos (MF_k hE) [e] _ _ w1
    have b := lb_mul (o2 := if (re e.1.1 e.1.2).2.2 = 1 ∨ (re e.1.2 e.1.1).2.2 = 1 then 1 else 0) b1 b2 p1.1 pv.1 (fun z => if_pos z)
    have z := lb_gain (w := e :: d :: v) b (show wp [e] * wp (d :: v) = wp (e :: d :: v) from (wp_app [e] (d :: v)).symm) (show wq [e] * wq (d :: v) = wq (e :: d :: v) from (wq_app [e] (d :: v)).symm) (fun k => (ws_app [e] (d :: v)).mp k) pos.1 v2
    refine h4 e.1.1 e.1.2 F.1.1 o.1.1 F.1.2 o.1.2 ne ?_
    rcases z with z | ⟨z, y⟩
    · exact Or.inl z
    · refine Or.inr ⟨z, ?_⟩
      by_cases k : (re e.1.1 e.1.2).2.2 = 1 ∨ (re e.1.2 e.1.1).2.2 = 1
      · exact k
      · rw [if_neg k] at y; exact absurd y (by decide)
