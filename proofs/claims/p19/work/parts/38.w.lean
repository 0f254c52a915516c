/-! ===== what is asked of the graph ===== -/
def lnQ (x a : Int) : Prop := x = 1 → 0 ≤ a ∧ a ≤ 15
theorem lnQ_0 {a : Int} : lnQ 0 a := fun q => absurd q (by decide)
def anQ (x a b : Int) (L : List gE) : Prop := x = 1 → (0 ≤ a ∧ a ≤ 15) ∧ (0 ≤ b ∧ b ≤ 15) ∧ gG L
theorem anQ_0 {a b : Int} {L : List gE} : anQ 0 a b L := fun q => absurd q (by decide)
def akQ (x a b : Int) (L : List gE) : Prop := x = 1 → (0 ≤ a ∧ a ≤ 11) ∧ (0 ≤ b ∧ b ≤ 3) ∧ gG L
theorem akQ_0 {a b : Int} {L : List gE} : akQ 0 a b L := fun q => absurd q (by decide)
theorem gG_b {h0 h : m_H} {cs : List Nat} {ss : List (Nat × Nat)} (g : gG (bR (h 110))) (R : FR cs ss h0 h) (e : ∀ j, fr cs ss 110 j = false) : gG (bR (h0 110)) := by
  rw [FR.row R e] at g; exact g
theorem gG_f {h0 h : m_H} {cs : List Nat} {ss : List (Nat × Nat)} (g : gG (bR (h0 110))) (R : FR cs ss h0 h) (e : ∀ j, fr cs ss 110 j = false) : gG (bR (h 110)) := by
  rw [FR.row R e]; exact g
def dgP (f : Nat → Int) (a : Nat) : Prop := f (a + 2) = 0 ∧ 1 ≤ f a + 100000000 * f (a + 1)
theorem vS_dg {f : Nat → Int} {a : Nat} (hd : ∀ j, j < 5 → 0 ≤ f (a + j) ∧ f (a + j) ≤ 99999999) (h1 : 1 ≤ vS f a 5) (h2 : vS f a 5 ≤ 25091827216) : dgP f a := by
  have d0 := hd 0 (by omega); have d1 := hd 1 (by omega); have d2 := hd 2 (by omega); have d3 := hd 3 (by omega); have d4 := hd 4 (by omega)
  simp only [vS] at h1 h2
  rw [Nat.add_zero] at h1 h2 d0
  unfold dgP
  omega
theorem ga_dg {h : m_H} {l : Nat} {x : Int} (G : GI h) (g : goQ h) (hl : l < 16) (ex : h 127 l = x) (hx : x = 1) : dgP (h 124) (5 * l) ∧ dgP (h 125) (5 * l) := by
  obtain ⟨⟨u1, u2⟩, ⟨l1, l2⟩⟩ := (g l hl).2.2 (ex.trans hx)
  exact ⟨vS_dg (fun j hj => g_124 G (by omega)) u1 u2, vS_dg (fun j hj => g_125 G (by omega)) l1 l2⟩
theorem ga_dgi {h : m_H} {l x : Int} (G : GI h) (g : goQ h) (h0 : 0 ≤ l) (hl : l ≤ 15) (ex : h 127 l.toNat = x) (hx : x = 1) : dgP (h 124) (5 * l).toNat ∧ dgP (h 125) (5 * l).toNat := by
  rw [show (5 * l).toNat = 5 * l.toNat by omega]
  exact ga_dg G g (by omega) ex hx
def whQ (x : Int) (f : Nat → Int) (a : Nat) : Prop := dgP f a → 1 ≤ x
theorem wh_of {f : Nat → Int} {a x1 x2 x3 x4 x5 : Int} (ha : 0 ≤ a) (e1 : f a.toNat = x1) (e2 : f (a + 1).toNat = x2) (e3 : f (a + 2).toNat = x3) (b1 : 0 ≤ x1 ∧ x1 ≤ 99999999) (b2 : 0 ≤ x2 ∧ x2 ≤ 99999999) (e4 : m_x (100000000 * (x2 + 100000000 * x3)) = x4) (e5 : m_x (x1 + x4) = x5) : whQ x5 f a.toNat := by
  rintro ⟨d1, d2⟩
  rw [show (a + 1).toNat = a.toNat + 1 by omega] at e2
  rw [show (a + 2).toNat = a.toNat + 2 by omega] at e3
  rw [e1, e2] at d2
  rw [e3] at d1
  subst d1
  rw [show (100000000 : Int) * (x2 + 100000000 * 0) = 100000000 * x2 by omega, m_x_id (by omega) (by omega)] at e4
  rw [← e4, m_x_id (by omega) (by omega)] at e5
  omega
def coI (a x y : Int) : Prop := a ≠ 0 → x ≠ 0 ∨ y ≠ 0
def coQ (x a : Int) : Prop := a ≠ 0 → x ≠ 0
theorem coI_0 {a y : Int} : coI a a y := fun q => Or.inl q
theorem coI_1 {a x y : Int} (h : x ≠ 0) : coI a x y := fun _ => Or.inl h
theorem coQ_of {a x y : Int} (I : coI a x y) (h : y = 0) : coQ x a := fun q => (I q).resolve_right (fun w => w h)
theorem tm_lt {x y r : Int} (hy : y ≠ 0) (e : x.tmod y = r) : ((r.natAbs : Nat) : Int) + 1 ≤ ((y.natAbs : Nat) : Int) := by
  rw [← e, Int.natAbs_tmod]
  have := Nat.mod_lt x.natAbs (y := y.natAbs) (by omega)
  omega
/-! the ends -/
def e1Q (h : m_H) : Prop := h 108 44 = 1 → dgP (h 138) 0 ∧ dgP (h 138) 5
def e2Q (h : m_H) : Prop := h 108 45 = 1 → dgP (h 138) 10 ∧ dgP (h 138) 15
def enQ (h : m_H) : Prop := e1Q h ∧ e2Q h
theorem goQ.put {h h' : m_H} {k j : Nat} {v : Int} (g : goQ h) (E : h' = m_up h k j v) (hk : k ≠ 124 ∧ k ≠ 125 ∧ k ≠ 126 ∧ k ≠ 127) : goQ h' := by
  unfold goQ
  rw [aS_same (upo E (Ne.symm hk.1)) (upo E (Ne.symm hk.2.1)) (upo E (Ne.symm hk.2.2.1)) (upo E (Ne.symm hk.2.2.2))]
  exact g
def feA (h : m_H) (a l : Int) : Prop := goQ h ∧ h 108 44 = h 127 a.toNat ∧ ∀ j : Nat, (j : Int) < l → h 138 j = h 124 (5 * a.toNat + j) ∧ h 138 (5 + j) = h 125 (5 * a.toNat + j)
def feB (h : m_H) (t l : Int) : Prop := goQ h ∧ h 108 45 = h 127 t.toNat ∧ ∀ j : Nat, (j : Int) < l → h 138 (10 + j) = h 125 (5 * t.toNat + j) ∧ h 138 (15 + j) = h 124 (5 * t.toNat + j)
theorem feA_0 {h1 h2 h3 : m_H} {a x v : Int} (g : goQ h1) (ex : h1 127 a.toNat = x) (E2 : h2 = m_up h1 108 44 x) (E3 : h3 = m_up h2 108 46 v) : feA h3 a 0 := by
  refine ⟨(g.put E2 (by decide)).put E3 (by decide), ?_, fun j hj => by omega⟩
  rw [upN E3 (by decide), upE E2, upN E3 (fun z => absurd z.1 (by decide)), upN E2 (fun z => absurd z.1 (by decide)), ex]
theorem feB_0 {h1 h2 h3 : m_H} {a x v : Int} (g : goQ h1) (ex : h1 127 a.toNat = x) (E2 : h2 = m_up h1 108 45 x) (E3 : h3 = m_up h2 108 47 v) : feB h3 a 0 := by
  refine ⟨(g.put E2 (by decide)).put E3 (by decide), ?_, fun j hj => by omega⟩
  rw [upN E3 (by decide), upE E2, upN E3 (fun z => absurd z.1 (by decide)), upN E2 (fun z => absurd z.1 (by decide)), ex]
theorem feA_step {h h1 h2 : m_H} {a l x y : Int} (ha : 0 ≤ a) (hl : 0 ≤ l) (hl4 : l ≤ 4) (I : feA h a l) (ex : h 124 (5 * a + l).toNat = x) (E1 : h1 = m_up h 138 l.toNat x) (ey : h1 125 (5 * a + l).toNat = y) (E2 : h2 = m_up h1 138 (5 + l).toNat y) : feA h2 a (l + 1) := by
  obtain ⟨g, i1, i2⟩ := I
  have n1 : (5 * a + l).toNat = 5 * a.toNat + l.toNat := by omega
  rw [n1] at ex ey
  rw [upN E1 (fun z => absurd z.1 (by decide))] at ey
  refine ⟨(g.put E1 (by decide)).put E2 (by decide), ?_, fun j hj => ?_⟩
  · rw [upN E2 (fun z => absurd z.1 (by decide)), upN E1 (fun z => absurd z.1 (by decide)), upN E2 (fun z => absurd z.1 (by decide)), upN E1 (fun z => absurd z.1 (by decide))]; exact i1
  · rw [upN (a := 124) E2 (fun z => absurd z.1 (by decide)), upN (a := 124) E1 (fun z => absurd z.1 (by decide)), upN (a := 125) E2 (fun z => absurd z.1 (by decide)), upN (a := 125) E1 (fun z => absurd z.1 (by decide))]
    by_cases q : (j : Int) = l
    · have q1 : l.toNat = j := by omega
      have q2 : (5 + l).toNat = 5 + j := by omega
      rw [q1] at E1 ex ey; rw [q2] at E2
      rw [upN E2 (fun z => by have := z.2; omega), upE E1, upE E2, ex, ey]
      exact ⟨rfl, rfl⟩
    · rw [upN E2 (fun z => by have := z.2; omega), upN E1 (fun z => by have := z.2; omega), upN E2 (fun z => by have := z.2; omega), upN E1 (fun z => by have := z.2; omega)]
      exact i2 j (by omega)
theorem feB_step {h h1 h2 : m_H} {a l x y : Int} (ha : 0 ≤ a) (hl : 0 ≤ l) (hl4 : l ≤ 4) (I : feB h a l) (ex : h 125 (5 * a + l).toNat = x) (E1 : h1 = m_up h 138 (10 + l).toNat x) (ey : h1 124 (5 * a + l).toNat = y) (E2 : h2 = m_up h1 138 (15 + l).toNat y) : feB h2 a (l + 1) := by
  obtain ⟨g, i1, i2⟩ := I
  have n1 : (5 * a + l).toNat = 5 * a.toNat + l.toNat := by omega
  rw [n1] at ex ey
  rw [upN E1 (fun z => absurd z.1 (by decide))] at ey
  refine ⟨(g.put E1 (by decide)).put E2 (by decide), ?_, fun j hj => ?_⟩
  · rw [upN E2 (fun z => absurd z.1 (by decide)), upN E1 (fun z => absurd z.1 (by decide)), upN E2 (fun z => absurd z.1 (by decide)), upN E1 (fun z => absurd z.1 (by decide))]; exact i1
  · rw [upN (a := 124) E2 (fun z => absurd z.1 (by decide)), upN (a := 124) E1 (fun z => absurd z.1 (by decide)), upN (a := 125) E2 (fun z => absurd z.1 (by decide)), upN (a := 125) E1 (fun z => absurd z.1 (by decide))]
    by_cases q : (j : Int) = l
    · have q1 : (10 + l).toNat = 10 + j := by omega
      have q2 : (15 + l).toNat = 15 + j := by omega
      have q3 : l.toNat = j := by omega
      rw [q3] at ex ey; rw [q1] at E1; rw [q2] at E2
      rw [upN E2 (fun z => by have := z.2; omega), upE E1, upE E2, ex, ey]
      exact ⟨rfl, rfl⟩
    · rw [upN E2 (fun z => by have := z.2; omega), upN E1 (fun z => by have := z.2; omega), upN E2 (fun z => by have := z.2; omega), upN E1 (fun z => by have := z.2; omega)]
      exact i2 j (by omega)
theorem feA_end {h : m_H} {a l : Int} (G : GI h) (ha : 0 ≤ a) (ha15 : a ≤ 15) (hl : 5 ≤ l) (I : feA h a l) : e1Q h := by
  obtain ⟨g, i1, i2⟩ := I
  intro hq
  obtain ⟨⟨d1, d2⟩, ⟨d3, d4⟩⟩ := ga_dg G g (l := a.toNat) (by omega) i1.symm hq
  have j0 := i2 0 (by omega); have j1 := i2 1 (by omega); have j2 := i2 2 (by omega)
  refine ⟨⟨?_, ?_⟩, ⟨?_, ?_⟩⟩
  · show h 138 2 = 0; rw [j2.1]; exact d1
  · show 1 ≤ h 138 0 + 100000000 * h 138 1; rw [j0.1, j1.1]; exact d2
  · show h 138 (5 + 2) = 0; rw [j2.2]; exact d3
  · show 1 ≤ h 138 (5 + 0) + 100000000 * h 138 (5 + 1); rw [j0.2, j1.2]; exact d4
theorem feB_end {h : m_H} {a l : Int} (G : GI h) (ha : 0 ≤ a) (ha15 : a ≤ 15) (hl : 5 ≤ l) (I : feB h a l) : e2Q h := by
  obtain ⟨g, i1, i2⟩ := I
  intro hq
  obtain ⟨⟨d1, d2⟩, ⟨d3, d4⟩⟩ := ga_dg G g (l := a.toNat) (by omega) i1.symm hq
  have j0 := i2 0 (by omega); have j1 := i2 1 (by omega); have j2 := i2 2 (by omega)
  refine ⟨⟨?_, ?_⟩, ⟨?_, ?_⟩⟩
  · show h 138 (10 + 2) = 0; rw [j2.1]; exact d3
  · show 1 ≤ h 138 (10 + 0) + 100000000 * h 138 (10 + 1); rw [j0.1, j1.1]; exact d4
  · show h 138 (15 + 2) = 0; rw [j2.2]; exact d1
  · show 1 ≤ h 138 (15 + 0) + 100000000 * h 138 (15 + 1); rw [j0.2, j1.2]; exact d2
theorem e1Q.same {h h' : m_H} (q : e1Q h) (e1 : h' 108 44 = h 108 44) (e2 : h' 138 = h 138) : e1Q h' := by
  unfold e1Q; rw [e1, e2]; exact q
theorem e1Q.put {h h' : m_H} {j : Nat} {v : Int} (q : e1Q h) (E : h' = m_up h 138 j v) (hj : 8 ≤ j) : e1Q h' := by
  unfold e1Q
  rw [upN E (fun z => absurd z.1 (by decide))]
  intro hq
  obtain ⟨⟨d1, d2⟩, ⟨d3, d4⟩⟩ := q hq
  refine ⟨⟨?_, ?_⟩, ⟨?_, ?_⟩⟩
  · rw [upN E (fun z => by have := z.2; omega)]; exact d1
  · rw [upN E (fun z => by have := z.2; omega), upN E (fun z => by have := z.2; omega)]; exact d2
  · rw [upN E (fun z => by have := z.2; omega)]; exact d3
  · rw [upN E (fun z => by have := z.2; omega), upN E (fun z => by have := z.2; omega)]; exact d4
def teI (h : m_H) (a x : Int) : Prop := enQ h ∧ (a = 1 → h 108 44 = x) ∧ (a = 0 → h 108 45 = x)
theorem te_of {h h1 h2 : m_H} {a x u v : Int} (q : enQ h) (e1 : a = 1 → h 108 44 = x) (e2 : a = 0 → h 108 45 = x) (E1 : h1 = m_up h 108 54 u) (E2 : h2 = m_up h1 108 55 v) : teI h2 a x := by
  have r1 : h2 138 = h 138 := by rw [upo E2 (by decide), upo E1 (by decide)]
  have r2 : h2 108 44 = h 108 44 := by rw [upN E2 (by decide), upN E1 (by decide)]
  have r3 : h2 108 45 = h 108 45 := by rw [upN E2 (by decide), upN E1 (by decide)]
  refine ⟨⟨?_, ?_⟩, by rw [r2]; exact e1, by rw [r3]; exact e2⟩
  · unfold e1Q; rw [r1, r2]; exact q.1
  · unfold e2Q; rw [r1, r3]; exact q.2
theorem te_low {h : m_H} {a x : Int} (I : teI h a x) (ha : a = 1) (hx : x = 1) : dgP (h 138) 0 := (I.1.1 ((I.2.1 ha).trans hx)).1
theorem te_high {h : m_H} {a x : Int} (I : teI h a x) (ha : a = 0) (hx : x = 1) : dgP (h 138) 10 := (I.1.2 ((I.2.2 ha).trans hx)).1
theorem shl_b {n : Int} (h1 : 0 ≤ n) (h2 : n ≤ 3) : 1 ≤ m_shl 1 (2 * n) ∧ m_shl 1 (2 * n) ≤ 64 := by
  have h3 : n = 0 ∨ n = 1 ∨ n = 2 ∨ n = 3 := by omega
  rcases h3 with q | q | q | q <;> rw [q] <;> decide
