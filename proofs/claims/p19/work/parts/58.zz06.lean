/-! walks from foot to foot -/
/-- the first foot on the way -/
theorem wk_foot {L : List gE} (hE : ∀ e ∈ L, gEo e) : ∀ (w : List gE) (a b : Nat), wk L w a b → 12 ≤ b → w ≠ [] → ∃ (u v : List gE) (c : Nat), w = u ++ v ∧ u ≠ [] ∧ wk L u a c ∧ 12 ≤ c ∧ wk L v c b ∧ (∀ d ∈ (nd u a).tail.dropLast, d < 12)
  | [], a, b, h, hb, hn => absurd rfl hn
  | e :: w, a, b, h, hb, _ => by
    by_cases g : 12 ≤ e.1.2
    · refine ⟨[e], w, e.1.2, rfl, by simp, ⟨h.1, rfl, (hE e h.1.1).1.2⟩, g, h.2, fun d hd => ?_⟩
      have : (nd [e] a).tail.dropLast = [] := rfl
      rw [this] at hd; cases hd
    · have hw : w ≠ [] := fun z => by
        subst z
        have z2 : e.1.2 = b := h.2.1
        omega
      obtain ⟨u, v, c, e1, e2, e3, e4, e5, e6⟩ := wk_foot hE w _ b h.2 hb hw
      refine ⟨e :: u, v, c, by rw [e1]; rfl, by simp, ⟨h.1, e3⟩, e4, e5, fun d hd => ?_⟩
      have t : (nd (e :: u) a).tail = nd u e.1.2 := rfl
      rw [t] at hd
      cases u with
      | nil => exact absurd rfl e2
      | cons f u =>
        have t2 : nd (f :: u) e.1.2 = e.1.2 :: nd u f.1.2 := rfl
        have t3 : (nd (f :: u) e.1.2).tail = nd u f.1.2 := rfl
        rw [t3] at e6
        have nn : nd u f.1.2 ≠ [] := by cases u <;> simp [nd]
        rw [t2, List.dropLast_cons_of_ne_nil nn] at hd
        rcases List.mem_cons.mp hd with rfl | z
        · omega
        · exact e6 d z
/-- a closed walk may begin at any node of it -/
theorem gain_at {L : List gE} (hE : ∀ e ∈ L, gEo e) {w : List gE} {a c : Nat} (h : wk L w a a) (hc : c ∈ nd w a) : ∃ v, wk L v c c ∧ wp v = wp w ∧ wq v = wq w ∧ (ws v ↔ ws w) := by
  obtain ⟨x, z, e1, e2, e3⟩ := nd_mem hE w a a c h hc
  refine ⟨z ++ x, wk_app z x c a c e3 e2, ?_, ?_, ?_⟩
  · rw [e1, wp_app, wp_app, Int.mul_comm]
  · rw [e1, wq_app, wq_app, Int.mul_comm]
  · rw [e1, ws_app, ws_app, or_comm]
/-- among lengths alone nothing goes round, if cuts alone join them -/
theorem no_round {L : List gE} (hE : ∀ e ∈ L, gEo e) (hc : ∀ e ∈ L, e.1.1 < 12 → e.1.2 < 12 → e.1.1 = 6 + e.1.2) : ∀ (w : List gE) (a b : Nat), wk L w a b → (∀ d ∈ nd w a, d < 12) → (w = [] ∧ a = b) ∨ b < a
  | [], a, b, h, _ => Or.inl ⟨rfl, h.1⟩
  | e :: w, a, b, h, n => by
    have na : a < 12 := n a (List.mem_cons_self)
    have nw : ∀ d ∈ nd w e.1.2, d < 12 := fun d hd => n d (List.mem_cons_of_mem _ hd)
    have n2 : e.1.2 < 12 := by
      cases w with
      | nil => exact nw _ (List.mem_cons_self)
      | cons f w => exact nw _ (List.mem_cons_self)
    have k := hc e h.1.1 (by rw [h.1.2]; exact na) n2
    rw [h.1.2] at k
    rcases no_round hE hc w _ b h.2 nw with ⟨_, z⟩ | z
    · exact Or.inr (by omega)
    · exact Or.inr (by omega)
/-- so what gains, gains from a foot to itself -/
theorem gain_foot {L : List gE} (hE : ∀ e ∈ L, gEo e) (hc : ∀ e ∈ L, e.1.1 < 12 → e.1.2 < 12 → e.1.1 = 6 + e.1.2) (g : gain L) : ∃ (c : Nat) (v : List gE), 12 ≤ c ∧ wk L v c c ∧ (wq v < wp v ∨ (wq v = wp v ∧ ws v)) := by
  obtain ⟨a, w, h, k⟩ := g
  by_cases y : ∀ d ∈ nd w a, d < 12
  · rcases no_round hE hc w a a h y with ⟨z, _⟩ | z
    · subst z
      rcases k with k | ⟨_, k⟩
      · exact absurd k (by decide)
      · exact k.elim
    · omega
  · have ⟨d, hd⟩ : ∃ d, ¬ (d ∈ nd w a → d < 12) := Classical.not_forall.mp y
    have hd1 : d ∈ nd w a := Classical.byContradiction fun z => hd (fun u => absurd u z)
    have hd2 : ¬ d < 12 := fun z => hd (fun _ => z)
    obtain ⟨v, v1, v2, v3, v4⟩ := gain_at hE h hd1
    exact ⟨d, v, by omega, v1, by rw [v2, v3, v4]; exact k⟩
