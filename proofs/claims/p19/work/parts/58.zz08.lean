/-! the feet alone -/
def stp (L : List gE) (u : List gE) (a b : Nat) : Prop := wk L u a b ∧ u ≠ [] ∧ ∀ d ∈ (nd u a).tail.dropLast, d < 12
def MF (L : List gE) (e : gE) : Prop := (12 ≤ e.1.1 ∧ 12 ≤ e.1.2) ∧ ∃ u, stp L u e.1.1 e.1.2 ∧ e.2.1 = wp u ∧ e.2.2.1 = wq u ∧ (e.2.2.2 = 1 ↔ ws u)
theorem MF_k {L : List gE} (hE : ∀ e ∈ L, gEo e) : kM (MF L) := fun e he => by
  obtain ⟨_, u, ⟨u1, _⟩, u2, u3, _⟩ := he
  have p := wp_pos hE u _ _ u1
  exact ⟨p.2, by rw [u2]; exact p.1.1, by rw [u3]; exact p.1.2⟩
theorem toF {L : List gE} (hE : ∀ e ∈ L, gEo e) : ∀ (n : Nat) (w : List gE) (a b : Nat), w.length ≤ n → wk L w a b → 12 ≤ a → 12 ≤ b → ∃ f, wm (MF L) f a b ∧ wp f = wp w ∧ wq f = wq w ∧ (ws f ↔ ws w)
  | 0, w, a, b, hn, h, _, _ => by
    have e : w = [] := List.eq_nil_of_length_eq_zero (by omega)
    subst e
    exact ⟨[], h, rfl, rfl, Iff.rfl⟩
  | n + 1, w, a, b, hn, h, ha, hb => by
    by_cases c : w = []
    · subst c
      exact ⟨[], h, rfl, rfl, Iff.rfl⟩
    · obtain ⟨u, v, d, e1, e2, e3, e4, e5, e6⟩ := wk_foot hE w a b h hb c
      have lu : 0 < u.length := List.length_pos_iff.mpr e2
      have lw : w.length = u.length + v.length := by rw [e1, List.length_append]
      obtain ⟨f, f1, f2, f3, f4⟩ := toF hE n v d b (by omega) e5 e4 hb
      have ⟨s, hs⟩ : ∃ s : Int, s = 1 ↔ ws u := by
        by_cases y : ws u
        · exact ⟨1, fun _ => y, fun _ => rfl⟩
        · exact ⟨0, fun z => absurd z (by decide), fun z => absurd z y⟩
      refine ⟨((a, d), (wp u, wq u, s)) :: f, ⟨⟨⟨⟨ha, e4⟩, u, ⟨e3, e2, e6⟩, rfl, rfl, hs⟩, rfl⟩, f1⟩, ?_, ?_, ?_⟩
      · show wp u * wp f = wp w
        rw [f2, e1, wp_app]
      · show wq u * wq f = wq w
        rw [f3, e1, wq_app]
      · show (s = 1 ∨ ws f) ↔ ws w
        rw [hs, f4, e1, ws_app]
/-- what gains, gains in a round of at most four feet -/
theorem gain_four {L : List gE} (hE : ∀ e ∈ L, gEo e) (hc : ∀ e ∈ L, e.1.1 < 12 → e.1.2 < 12 → e.1.1 = 6 + e.1.2) (g : gain L) : ∃ (e : gE) (v : List gE), wm (MF L) (e :: v) e.1.1 e.1.1 ∧ gnw (e :: v) ∧ (nd v e.1.2).Nodup ∧ v.length ≤ 3 := by
  obtain ⟨c, w, h1, h2, h3⟩ := gain_foot hE hc g
  obtain ⟨f, f1, f2, f3, f4⟩ := toF hE w.length w c c (Nat.le_refl _) h2 h1 h1
  have gf : gnw f := by unfold gnw; rw [f2, f3, f4]; exact h3
  obtain ⟨e, v, v1, v2, v3⟩ := gnw_min (MF_k hE) f.length f c (Nat.le_refl _) f1 gf
  refine ⟨e, v, v1, v2, v3, ?_⟩
  have all : ∀ (v : List gE) (a b : Nat), 12 ≤ a → wm (MF L) v a b → ∀ d ∈ nd v a, 12 ≤ d := by
    intro v
    induction v with
    | nil => intro a b ha _ d hd; rcases List.mem_cons.mp hd with rfl | z; exact ha; cases z
    | cons e v ih =>
      intro a b ha h d hd
      rcases List.mem_cons.mp hd with rfl | z
      · exact ha
      · exact ih _ b h.1.1.1.2 h.2 d z
  have a12 := all v e.1.2 e.1.1 v1.1.1.1.2 v1.2
  have lt := nm_lt (MF_k hE) v e.1.2 e.1.1 v1.2
  have k := gk_le v3 lt
  have fl : (nd v e.1.2).filter (fun u => decide (12 ≤ u)) = nd v e.1.2 := List.filter_eq_self.mpr (fun d hd => decide_eq_true (a12 d hd))
  unfold gk at k
  rw [fl, nd_len] at k
  omega
