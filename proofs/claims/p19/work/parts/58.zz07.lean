/-! walks over a predicate: steps from foot to foot as edges -/
def kM (M : gE → Prop) : Prop := ∀ e, M e → (e.1.1 < 16 ∧ e.1.2 < 16) ∧ 0 < e.2.1 ∧ 0 < e.2.2.1
def wm (M : gE → Prop) : List gE → Nat → Nat → Prop
  | [], a, b => a = b ∧ a < 16
  | e :: w, a, b => (M e ∧ e.1.1 = a) ∧ wm M w e.1.2 b
theorem wm_pos {M : gE → Prop} (hE : kM M) : ∀ (w : List gE) (a b : Nat), wm M w a b → (0 < wp w ∧ 0 < wq w) ∧ a < 16 ∧ b < 16
  | [], a, b, h => ⟨⟨by decide, by decide⟩, h.2, h.1 ▸ h.2⟩
  | e :: w, a, b, h => by
    obtain ⟨⟨h1, h2⟩, h3⟩ := h
    have i := wm_pos hE w _ b h3
    have o := hE e h1
    refine ⟨⟨Int.mul_pos o.2.1 i.1.1, Int.mul_pos o.2.2 i.1.2⟩, ?_, i.2.2⟩
    rw [← h2]; exact o.1.1
theorem wm_app {M : gE → Prop} : ∀ (w v : List gE) (a b c : Nat), wm M w a b → wm M v b c → wm M (w ++ v) a c
  | [], v, a, b, c, h, k => by obtain ⟨rfl, _⟩ := h; exact k
  | e :: w, v, a, b, c, h, k => ⟨h.1, wm_app w v _ b c h.2 k⟩
theorem nm_lt {M : gE → Prop} (hE : kM M) : ∀ (w : List gE) (a b : Nat), wm M w a b → ∀ c ∈ nd w a, c < 16
  | [], a, b, h, c, hc => by
    rcases List.mem_cons.mp hc with rfl | z
    · exact h.2
    · cases z
  | e :: w, a, b, h, c, hc => by
    rcases List.mem_cons.mp hc with rfl | z
    · have o := hE e h.1.1
      rw [← h.1.2]; exact o.1.1
    · exact nm_lt hE w _ b h.2 c z
theorem nm_mem {M : gE → Prop} (hE : kM M) : ∀ (w : List gE) (a b c : Nat), wm M w a b → c ∈ nd w a → ∃ x z, w = x ++ z ∧ wm M x a c ∧ wm M z c b
  | [], a, b, c, h, hc => by
    rcases List.mem_cons.mp hc with rfl | z
    · exact ⟨[], [], rfl, ⟨rfl, h.2⟩, h⟩
    · cases z
  | e :: w, a, b, c, h, hc => by
    rcases List.mem_cons.mp hc with rfl | z
    · exact ⟨[], e :: w, rfl, ⟨rfl, nm_lt hE (e :: w) c b h c (List.mem_cons_self)⟩, h⟩
    · obtain ⟨x, y, e1, e2, e3⟩ := nm_mem hE w _ b c h.2 z
      exact ⟨e :: x, y, by rw [e1]; rfl, ⟨h.1, e2⟩, e3⟩
theorem nm_split {M : gE → Prop} (hE : kM M) : ∀ (w : List gE) (a b : Nat), wm M w a b → ¬ (nd w a).Nodup → ∃ x y z c, w = x ++ (y ++ z) ∧ y ≠ [] ∧ wm M x a c ∧ wm M y c c ∧ wm M z c b
  | [], a, b, h, hn => absurd (List.nodup_cons.mpr ⟨by simp, List.nodup_nil⟩) hn
  | e :: w, a, b, h, hn => by
    by_cases g : a ∈ nd w e.1.2
    · obtain ⟨x, z, e1, e2, e3⟩ := nm_mem hE w _ b a h.2 g
      have ha := nm_lt hE (e :: w) a b h a (List.mem_cons_self)
      exact ⟨[], e :: x, z, a, by rw [e1]; rfl, by simp, ⟨rfl, ha⟩, ⟨h.1, e2⟩, e3⟩
    · have g2 : ¬ (nd w e.1.2).Nodup := fun z => hn (List.nodup_cons.mpr ⟨g, z⟩)
      obtain ⟨x, y, z, c, e1, e2, e3, e4, e5⟩ := nm_split hE w _ b h.2 g2
      exact ⟨e :: x, y, z, c, by rw [e1]; rfl, e2, ⟨h.1, e3⟩, e4, e5⟩
def gnw (w : List gE) : Prop := wq w < wp w ∨ (wq w = wp w ∧ ws w)
/-- of two rounds one after the other, one gains if both together do -/
theorem gnw_two {x y z : List gE} (hx : 0 < wp x ∧ 0 < wq x) (hy : 0 < wp y ∧ 0 < wq y) (hz : 0 < wp z ∧ 0 < wq z) (g : gnw (x ++ (y ++ z))) : gnw y ∨ gnw (x ++ z) := by
  unfold gnw at *
  rw [wp_app, wq_app, wp_app, wq_app, ws_app, ws_app] at g
  rw [wp_app, wq_app, ws_app]
  have k1 : wp x * (wp y * wp z) = wp y * (wp x * wp z) := by ac_rfl
  have k2 : wq x * (wq y * wq z) = wq y * (wq x * wq z) := by ac_rfl
  rw [k1, k2] at g
  have pz : 0 < wp x * wp z := Int.mul_pos hx.1 hz.1
  have qz : 0 < wq x * wq z := Int.mul_pos hx.2 hz.2
  rcases Int.lt_trichotomy (wq y) (wp y) with a | a | a
  · exact Or.inl (Or.inl a)
  · rw [a] at g
    rcases g with g | ⟨g, s⟩
    · exact Or.inr (Or.inl (Int.lt_of_mul_lt_mul_left g (Int.le_of_lt hy.1)))
    · have e := Int.eq_of_mul_eq_mul_left (Int.ne_of_gt hy.1) g
      rcases s with s | s | s
      · exact Or.inr (Or.inr ⟨e, Or.inl s⟩)
      · exact Or.inl (Or.inr ⟨a, s⟩)
      · exact Or.inr (Or.inr ⟨e, Or.inr s⟩)
  · refine Or.inr (Or.inl ?_)
    rcases Int.lt_or_le (wq x * wq z) (wp x * wp z) with b | b
    · exact b
    · exfalso
      have m1 := Int.mul_lt_mul_of_pos_right a pz
      have m2 := Int.mul_le_mul_of_nonneg_left b (Int.le_of_lt hy.2)
      rcases g with g | ⟨g, _⟩ <;> omega
/-- a shortest round that gains comes by no node twice -/
theorem gnw_min {M : gE → Prop} (hE : kM M) : ∀ (n : Nat) (w : List gE) (a : Nat), w.length ≤ n → wm M w a a → gnw w → ∃ (e : gE) (v : List gE), wm M (e :: v) e.1.1 e.1.1 ∧ gnw (e :: v) ∧ (nd v e.1.2).Nodup
  | 0, w, a, hn, h, g => by
    have e : w = [] := List.eq_nil_of_length_eq_zero (by omega)
    subst e
    rcases g with g | ⟨_, g⟩
    · exact absurd g (by decide)
    · exact g.elim
  | n + 1, [], a, hn, h, g => by
    rcases g with g | ⟨_, g⟩
    · exact absurd g (by decide)
    · exact g.elim
  | n + 1, e :: v, a, hn, h, g => by
    by_cases c : (nd v e.1.2).Nodup
    · refine ⟨e, v, ?_, g, c⟩
      have h2 := h.1.2
      subst h2
      exact h
    · obtain ⟨x, y, z, d, e1, e2, e3, e4, e5⟩ := nm_split hE v _ a h.2 c
      have ly : 0 < y.length := List.length_pos_iff.mpr e2
      have lv : v.length = x.length + (y.length + z.length) := by rw [e1, List.length_append, List.length_append]
      have hl : v.length + 1 ≤ n + 1 := hn
      have g' : gnw ((e :: x) ++ (y ++ z)) := by rw [e1] at g; exact g
      have wx : wm M (e :: x) a d := ⟨h.1, e3⟩
      rcases gnw_two (wm_pos hE _ _ _ wx).1 (wm_pos hE _ _ _ e4).1 (wm_pos hE _ _ _ e5).1 g' with k | k
      · exact gnw_min hE n y d (by omega) e4 k
      · refine gnw_min hE n ((e :: x) ++ z) a ?_ (wm_app _ _ _ _ _ wx e5) k
        rw [List.length_append]; show x.length + 1 + z.length ≤ n; omega
