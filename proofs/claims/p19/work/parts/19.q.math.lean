/-! ===== rounds over a graph, pure ===== -/
abbrev gE : Type := (Nat × Nat) × (Int × Int × Int)
abbrev gN : Type := (Int × Int) × (Int × Int)
abbrev gS : Type := Nat → gN
abbrev gBig : Int := 10000000000000000000000000000000000000000
def gc (z : Int) (S : gS) (e : gE) : gN := ((((S e.1.1).1.1 * e.2.1) % gBig, ((S e.1.1).1.2 * e.2.2.1) % gBig), (if z = 1 ∧ ((S e.1.1).2.1 = 1 ∨ e.2.2.2 = 1) then 1 else 0, 1))
abbrev gb (c t : gN) : Prop := t.2.2 ≠ 1 ∨ t.1.1 * c.1.2 < c.1.1 * t.1.2 ∨ (c.1.1 * t.1.2 = t.1.1 * c.1.2 ∧ c.2.1 = 1 ∧ t.2.1 ≠ 1)
def gs (z : Int) (S : gS) (p : gS × Int) (e : gE) : gS × Int := if (S e.1.1).2.2 = 1 ∧ gb (gc z S e) (p.1 e.1.2) then (fun l => if l = e.1.2 then gc z S e else p.1 l, 1) else p
def gi (z : Int) (S : gS) (L : List gE) : Nat → gS × Int
  | 0 => (S, 0)
  | i + 1 => match L[i]? with
    | some e => gs z S (gi z S L i) e
    | none => gi z S L i
theorem fr_tr {a b c x y z : Int} (hx : 0 ≤ x) (hy : 0 < y) (hz : 0 ≤ z) (h1 : a * y ≤ b * x) (h2 : b * z ≤ c * y) : a * z ≤ c * x := by
  have k1 : a * y * z ≤ b * x * z := Int.mul_le_mul_of_nonneg_right h1 hz
  have k2 : b * z * x ≤ c * y * x := Int.mul_le_mul_of_nonneg_right h2 hx
  have e1 : b * x * z = b * z * x := by ac_rfl
  have e2 : a * z * y = a * y * z := by ac_rfl
  have e3 : c * x * y = c * y * x := by ac_rfl
  refine Int.le_of_mul_le_mul_right (a := y) ?_ hy
  rw [e2, e3]
  exact Int.le_trans k1 (by rw [e1]; exact k2)
theorem fr_trl {a b c x y z : Int} (hx : 0 ≤ x) (hy : 0 < y) (hz : 0 < z) (h1 : a * y < b * x) (h2 : b * z ≤ c * y) : a * z < c * x := by
  have k1 : a * y * z < b * x * z := Int.mul_lt_mul_of_pos_right h1 hz
  have k2 : b * z * x ≤ c * y * x := Int.mul_le_mul_of_nonneg_right h2 hx
  have e1 : b * x * z = b * z * x := by ac_rfl
  have e2 : a * z * y = a * y * z := by ac_rfl
  have e3 : c * x * y = c * y * x := by ac_rfl
  refine Int.lt_of_mul_lt_mul_right (a := y) ?_ (by omega)
  rw [e2, e3]
  exact Int.lt_of_lt_of_le k1 (by rw [e1]; exact k2)
theorem fr_ltr {a b c x y z : Int} (hx : 0 < x) (hy : 0 < y) (hz : 0 ≤ z) (h1 : a * y ≤ b * x) (h2 : b * z < c * y) : a * z < c * x := by
  have k1 : a * y * z ≤ b * x * z := Int.mul_le_mul_of_nonneg_right h1 hz
  have k2 : b * z * x < c * y * x := Int.mul_lt_mul_of_pos_right h2 hx
  have e1 : b * x * z = b * z * x := by ac_rfl
  have e2 : a * z * y = a * y * z := by ac_rfl
  have e3 : c * x * y = c * y * x := by ac_rfl
  refine Int.lt_of_mul_lt_mul_right (a := y) ?_ (by omega)
  rw [e2, e3]
  exact Int.lt_of_le_of_lt k1 (by rw [e1]; exact k2)
theorem gb_tr {a b c : gN} (ha : 0 < a.1.2) (hb : 0 < b.1.2) (hc : c.2.2 = 1 → 0 < c.1.2) (tb : b.2.2 = 1) (h1 : gb a b) (h2 : gb b c) : gb a c := by
  by_cases tc : c.2.2 = 1
  · have hc := hc tc
    rcases h1 with q | h1 | ⟨h1, o1, o2⟩
    · exact absurd tb q
    · rcases h2 with q | h2 | ⟨h2, p1, p2⟩
      · exact absurd tc q
      · exact Or.inr (Or.inl (fr_trl (Int.le_of_lt hc) hb ha h2 (Int.le_of_lt h1)))
      · exact Or.inr (Or.inl (fr_ltr hc hb (Int.le_of_lt ha) (Int.le_of_eq h2.symm) h1))
    · rcases h2 with q | h2 | ⟨h2, p1, p2⟩
      · exact absurd tc q
      · exact Or.inr (Or.inl (fr_trl (Int.le_of_lt hc) hb ha h2 (Int.le_of_eq h1.symm)))
      · exact absurd p1 o2
  · exact Or.inl tc
theorem gc_T (z : Int) (S : gS) (e : gE) : (gc z S e).2.2 = 1 := rfl
theorem gb_ir {c : gN} (h : c.2.2 = 1) : ¬ gb c c := by
  rintro (q | q | ⟨-, q1, q2⟩)
  · exact q h
  · exact Int.lt_irrefl _ q
  · exact q2 q1
theorem gi_ok {z : Int} {S : gS} {L : List gE} (hE : ∀ e ∈ L, e.1.1 < 16 ∧ e.1.2 < 16) (hc : ∀ e ∈ L, (S e.1.1).2.2 = 1 → 0 < (gc z S e).1.2) (hS : ∀ l, l < 16 → (S l).2.2 = 1 → 0 < (S l).1.2) : ∀ i,
    (∀ l, (gi z S L i).1 l = S l ∨ ((∃ e ∈ L, e.1.2 = l ∧ (S e.1.1).2.2 = 1 ∧ (gi z S L i).1 l = gc z S e) ∧ gb ((gi z S L i).1 l) (S l))) ∧
    (∀ j e, j < i → L[j]? = some e → (S e.1.1).2.2 = 1 → ¬ gb (gc z S e) ((gi z S L i).1 e.1.2)) ∧
    (((gi z S L i).2 = 0 ∧ ∀ l, (gi z S L i).1 l = S l) ∨ ((gi z S L i).2 = 1 ∧ ∃ l, l < 16 ∧ gb ((gi z S L i).1 l) (S l) ∧ ∃ e ∈ L, e.1.2 = l ∧ (S e.1.1).2.2 = 1 ∧ (gi z S L i).1 l = gc z S e))
  | 0 => ⟨fun _ => Or.inl rfl, fun j e hj => absurd hj (Nat.not_lt_zero _), Or.inl ⟨rfl, fun _ => rfl⟩⟩
  | i + 1 => by
    have ih := gi_ok hE hc hS i
    cases hL : L[i]? with
    | none =>
      have e0 : gi z S L (i + 1) = gi z S L i := by simp only [gi, hL]
      rw [e0]
      refine ⟨ih.1, fun j e hj hje => ?_, ih.2.2⟩
      by_cases hji : j = i
      · subst hji; rw [hL] at hje; cases hje
      · exact ih.2.1 j e (by omega) hje
    | some e =>
      have he : e ∈ L := List.mem_of_getElem? hL
      have e0 : gi z S L (i + 1) = gs z S (gi z S L i) e := by simp only [gi, hL]
      rw [e0]
      generalize gi z S L i = p at ih ⊢
      obtain ⟨i1, i2, i3⟩ := ih
      by_cases hu : (S e.1.1).2.2 = 1 ∧ gb (gc z S e) (p.1 e.1.2)
      · have e1 : gs z S p e = (fun l => if l = e.1.2 then gc z S e else p.1 l, 1) := by unfold gs; rw [if_pos hu]
        rw [e1]
        have cp := hc e he hu.1
        have key : gb (gc z S e) (S e.1.2) := by
          rcases i1 e.1.2 with q | ⟨⟨e2, m2, t2, s2, q2⟩, q3⟩
          · rw [← q]; exact hu.2
          · refine gb_tr cp ?_ (hS _ (hE e he).2) ?_ hu.2 q3
            · rw [q2]; exact hc e2 m2 s2
            · rw [q2]; rfl
        refine ⟨fun l => ?_, fun j e2 hj hje s2 => ?_, Or.inr ⟨rfl, e.1.2, (hE e he).2, ?_, e, he, rfl, hu.1, ?_⟩⟩
        · by_cases hl : l = e.1.2
          · subst hl
            refine Or.inr ⟨⟨e, he, rfl, hu.1, ?_⟩, ?_⟩
            · simp
            · simp only [if_true]; exact key
          · simp only [hl, if_false]; exact i1 l
        · by_cases hl : e2.1.2 = e.1.2
          · simp only [hl, if_true]
            by_cases hji : j = i
            · subst hji; rw [hL] at hje; cases hje
              exact gb_ir rfl
            · intro hg
              have m2 : e2 ∈ L := List.mem_of_getElem? hje
              have h2 := i2 j e2 (by omega) hje s2
              rw [hl] at h2
              refine h2 ?_
              by_cases hT : (p.1 e.1.2).2.2 = 1
              · refine gb_tr (hc e2 m2 s2) cp (fun _ => ?_) rfl hg hu.2
                rcases i1 e.1.2 with q | ⟨⟨e3, m3, t3, s3, q3⟩, q4⟩
                · rw [q]; rw [q] at hT; exact hS _ (hE e he).2 hT
                · rw [q3]; exact hc e3 m3 s3
              · exact Or.inl hT
          · simp only [hl, if_false]
            by_cases hji : j = i
            · subst hji; rw [hL] at hje; cases hje; exact absurd rfl hl
            · exact i2 j e2 (by omega) hje s2
        · simp only [if_true]; exact key
        · simp
      · have e1 : gs z S p e = p := by unfold gs; rw [if_neg hu]
        rw [e1]
        refine ⟨i1, fun j e2 hj hje s2 hg => ?_, i3⟩
        by_cases hji : j = i
        · subst hji; rw [hL] at hje; cases hje; exact hu ⟨s2, hg⟩
        · exact i2 j e2 (by omega) hje s2 hg
def gEo (e : gE) : Prop := (e.1.1 < 16 ∧ e.1.2 < 16) ∧ (1 ≤ e.2.1 ∧ e.2.1 ≤ 199) ∧ (1 ≤ e.2.2.1 ∧ e.2.2.1 ≤ 199) ∧ (12 ≤ e.1.1 → e.1.2 < 12 → e.2.2.1 ≤ 2) ∧ (e.1.1 < 12 → 12 ≤ e.1.2 → e.2.1 ≤ 2) ∧ ((12 ≤ e.1.1 ↔ 12 ≤ e.1.2) → e.2.1 = 1 ∧ e.2.2.1 = 1)
def gti (PU PL : Nat → Int) (e : gE) : Prop := PU e.1.1 * e.2.1 * PL e.1.2 = PU e.1.2 * (PL e.1.1 * e.2.2.1)
def gP (L : List gE) (PU PL : Nat → Int) (TT : Nat → Nat → Prop) : Prop :=
  (∀ l, l < 16 → 0 < PU l ∧ 0 < PL l) ∧ (∀ e ∈ L, PU e.1.1 * e.2.1 * PL e.1.2 ≤ PU e.1.2 * (PL e.1.1 * e.2.2.1)) ∧ (∀ a, a < 16 → TT a a) ∧ (∀ a b c, a < 16 → b < 16 → c < 16 → TT a b → TT b c → TT a c) ∧ (∀ e ∈ L, gti PU PL e → TT e.1.1 e.1.2) ∧ (∀ e ∈ L, e.2.2.2 = 1 → gti PU PL e → ¬ TT e.1.2 e.1.1)
/-- it can be -/
def gG (L : List gE) : Prop := ∃ (PU PL : Nat → Int) (TT : Nat → Nat → Prop), gP L PU PL TT
def nX (PL : Nat → Int) (S : gS) (l : Nat) : Int := (S l).1.1 * PL l
def nY (PU : Nat → Int) (S : gS) (l : Nat) : Int := (S l).1.2 * PU l
def gO (L : List gE) (PU PL : Nat → Int) (TT : Nat → Nat → Prop) (u l : Nat) : Prop := ∃ e ∈ L, e.2.2.2 = 1 ∧ gti PU PL e ∧ TT u e.1.1 ∧ TT e.1.2 l
def gq (L : List gE) (PU PL : Nat → Int) (TT : Nat → Nat → Prop) (S : gS) (u l : Nat) : Prop :=
  (S u).2.2 = 1 ∧ nX PL S l * nY PU S u ≤ nX PL S u * nY PU S l ∧ (nX PL S l * nY PU S u = nX PL S u * nY PU S l → TT u l ∧ ((S l).2.1 = 1 → (S u).2.1 = 1 ∨ gO L PU PL TT u l))
def gk (P : List Nat) : Nat := (P.filter (fun u => decide (12 ≤ u))).length
def gw (P : List Nat) (n : gN) (l : Nat) : Prop := n.1.1 * (if 12 ≤ l then 199 else 1) ≤ 398 ^ gk P ∧ n.1.2 * (if 12 ≤ l then 2 else 1) ≤ 398 ^ gk P
def ga (n : gN) : Prop := (n.2.2 = 0 ∨ n.2.2 = 1) ∧ (n.2.1 = 0 ∨ n.2.1 = 1) ∧ (n.2.2 = 1 → (1 ≤ n.1.1 ∧ n.1.1 ≤ 25091827216) ∧ (1 ≤ n.1.2 ∧ n.1.2 ≤ 25091827216))
def gch (L : List gE) (PU PL : Nat → Int) (TT : Nat → Nat → Prop) (k : Nat) (S : gS) (l : Nat) : Prop :=
  ∃ P : List Nat, P.length = k + 1 ∧ P.Nodup ∧ (∀ u ∈ P, u < 16) ∧ gw P (S l) l ∧ ∀ u ∈ P, gq L PU PL TT S u l
def gJ (L : List gE) (PU PL : Nat → Int) (TT : Nat → Nat → Prop) (k : Nat) (S : gS) (I : Nat → Prop) : Prop :=
  (∀ l, l < 16 → ga (S l)) ∧ (∀ l, l < 16 → I l → (S l).2.2 = 1 ∧ l < 16 ∧ gch L PU PL TT k S l) ∧ (∀ e ∈ L, (S e.1.1).2.2 = 1 → ¬ I e.1.1 → ¬ gb (gc 1 S e) (S e.1.2))
theorem gk_le {P : List Nat} (hn : P.Nodup) (h : ∀ u ∈ P, u < 16) : gk P ≤ 4 := by
  unfold gk
  have h1 : (P.filter (fun u => decide (12 ≤ u))) ⊆ [12, 13, 14, 15] := by
    intro u hu
    obtain ⟨h2, h3⟩ := List.mem_filter.mp hu
    have h4 := h u h2
    have h5 : 12 ≤ u := of_decide_eq_true h3
    have h6 : u = 12 ∨ u = 13 ∨ u = 14 ∨ u = 15 := by omega
    simpa using h6
  exact List.Nodup.length_le_of_subset (hn.sublist List.filter_sublist) h1
theorem gl_le {P : List Nat} (hn : P.Nodup) (h : ∀ u ∈ P, u < 16) : P.length ≤ 16 := by
  have h1 := List.Nodup.length_le_of_subset (l₂ := List.range 16) hn (fun u hu => List.mem_range.mpr (h u hu))
  simpa using h1
theorem gk_pow {P : List Nat} (hn : P.Nodup) (h : ∀ u ∈ P, u < 16) : (398 : Int) ^ gk P ≤ 25091827216 := by
  have h1 := gk_le hn h
  have h2 : gk P = 0 ∨ gk P = 1 ∨ gk P = 2 ∨ gk P = 3 ∨ gk P = 4 := by omega
  rcases h2 with q | q | q | q | q <;> rw [q] <;> decide
/-- no remainder is taken -/
theorem gc_ex {S : gS} {e : gE} {z M : Int} (hM : M * 199 < gBig) (hE : gEo e) (hU : 1 ≤ (S e.1.1).1.1 ∧ (S e.1.1).1.1 ≤ M) (hL : 1 ≤ (S e.1.1).1.2 ∧ (S e.1.1).1.2 ≤ M) :
    ((gc z S e).1.1 = (S e.1.1).1.1 * e.2.1 ∧ (gc z S e).1.2 = (S e.1.1).1.2 * e.2.2.1) ∧ (1 ≤ (gc z S e).1.1 ∧ (gc z S e).1.1 ≤ M * 199) ∧ (1 ≤ (gc z S e).1.2 ∧ (gc z S e).1.2 ≤ M * 199) := by
  obtain ⟨-, hu, hl, -⟩ := hE
  have u1 : (S e.1.1).1.1 * e.2.1 ≤ M * 199 := Int.mul_le_mul hU.2 hu.2 (by omega) (by omega)
  have u0 : 0 < (S e.1.1).1.1 * e.2.1 := Int.mul_pos (by omega) (by omega)
  have l1 : (S e.1.1).1.2 * e.2.2.1 ≤ M * 199 := Int.mul_le_mul hL.2 hl.2 (by omega) (by omega)
  have l0 : 0 < (S e.1.1).1.2 * e.2.2.1 := Int.mul_pos (by omega) (by omega)
  have e1 : (gc z S e).1.1 = (S e.1.1).1.1 * e.2.1 := Int.emod_eq_of_lt (Int.le_of_lt u0) (Int.lt_of_le_of_lt u1 hM)
  have e2 : (gc z S e).1.2 = (S e.1.1).1.2 * e.2.2.1 := Int.emod_eq_of_lt (Int.le_of_lt l0) (Int.lt_of_le_of_lt l1 hM)
  exact ⟨⟨e1, e2⟩, ⟨by rw [e1]; exact u0, by rw [e1]; exact u1⟩, ⟨by rw [e2]; exact l0, by rw [e2]; exact l1⟩⟩
theorem gnorm {a b c d p q : Int} (hp : 0 < p) (hq : 0 < q) : (a * p) * (b * q) ≤ (c * p) * (d * q) ↔ a * b ≤ c * d := by
  have e1 : (a * p) * (b * q) = a * b * (p * q) := by ac_rfl
  have e2 : (c * p) * (d * q) = c * d * (p * q) := by ac_rfl
  have h0 : 0 < p * q := Int.mul_pos hp hq
  rw [e1, e2]
  exact ⟨fun h => Int.le_of_mul_le_mul_right h h0, fun h => Int.mul_le_mul_of_nonneg_right h (Int.le_of_lt h0)⟩
theorem gJ_0 {L : List gE} {PU PL : Nat → Int} {TT : Nat → Nat → Prop} (hP : gP L PU PL TT) (hE : ∀ e ∈ L, gEo e) {s : Nat} (hs : s < 16) {S : gS} (h1 : ∀ l, l < 16 → S l = ((1, 1), (0, if l = s then 1 else 0))) : gJ L PU PL TT 0 S (fun l => l = s) := by
  refine ⟨fun l hl => ?_, fun l hl e => ?_, fun e he t hI => ?_⟩
  · rw [h1 l hl]
    refine ⟨?_, Or.inl rfl, fun _ => ⟨⟨(by decide : (1 : Int) ≤ 1), (by decide : (1 : Int) ≤ 25091827216)⟩, ⟨(by decide : (1 : Int) ≤ 1), (by decide : (1 : Int) ≤ 25091827216)⟩⟩⟩
    by_cases q : l = s
    · right; simp [q]
    · left; simp [q]
  · subst e
    have e1 := h1 l hl
    have e2 : (S l).2.2 = 1 := by rw [e1]; simp
    refine ⟨e2, hl, [l], rfl, by simp, fun u hu => ?_, ?_, fun u hu => ?_⟩
    · rw [List.mem_singleton.mp hu]; exact hl
    · rw [e1]
      unfold gw gk
      by_cases q : 12 ≤ l
      · simp [q]
      · simp [q]
    · rw [List.mem_singleton.mp hu]
      exact ⟨e2, Int.le_refl _, fun _ => ⟨hP.2.2.1 l hl, fun o => Or.inl o⟩⟩
  · have hf := (hE e he).1.1
    rw [h1 _ hf] at t
    by_cases q : e.1.1 = s
    · exact absurd q hI
    · simp [q] at t
theorem gJ_step {L : List gE} {PU PL : Nat → Int} {TT : Nat → Nat → Prop} {k : Nat} {S : gS} {I : Nat → Prop} (hP : gP L PU PL TT) (hE : ∀ e ∈ L, gEo e) (J : gJ L PU PL TT k S I) : gJ L PU PL TT (k + 1) (gi 1 S L L.length).1 (fun l => (gi 1 S L L.length).1 l ≠ S l) := by
  obtain ⟨ja, jb, jc⟩ := J
  have hcx := fun (e : gE) (he : e ∈ L) (t : (S e.1.1).2.2 = 1) => gc_ex (z := 1) (M := 25091827216) (by decide) (hE e he) ((ja _ (hE e he).1.1).2.2 t).1 ((ja _ (hE e he).1.1).2.2 t).2
  have hR := gi_ok (z := 1) (S := S) (L := L) (fun e he => (hE e he).1) (fun e he t => by have := (hcx e he t).2.2.1; omega) (fun l hl t => by have := ((ja l hl).2.2 t).2.1; omega) L.length
  generalize gi 1 S L L.length = p at hR ⊢
  obtain ⟨r1, r2, -⟩ := hR
  have mono : ∀ u, u < 16 → (S u).2.2 = 1 → (p.1 u).2.2 = 1 ∧ (S u).1.1 * (p.1 u).1.2 ≤ (p.1 u).1.1 * (S u).1.2 ∧ 0 < (p.1 u).1.2 ∧ ((S u).1.1 * (p.1 u).1.2 = (p.1 u).1.1 * (S u).1.2 → (S u).2.1 = 1 → (p.1 u).2.1 = 1) := by
    intro u hu tu
    rcases r1 u with q | ⟨⟨e, he, t, s, q⟩, g⟩
    · rw [q]
      exact ⟨tu, Int.le_refl _, by have := ((ja u hu).2.2 tu).2.1; omega, fun _ o => o⟩
    · have h1 := (hcx e he s).2.2.1
      rw [← q] at h1
      refine ⟨by rw [q]; rfl, ?_, by omega, ?_⟩
      · rcases g with w | w | ⟨w, o1, o2⟩
        · exact absurd tu w
        · exact Int.le_of_lt w
        · exact Int.le_of_eq w.symm
      · rcases g with w | w | ⟨w, o1, o2⟩
        · exact absurd tu w
        · exact fun h => absurd h (Int.ne_of_lt w)
        · exact fun _ _ => o1
  have main : ∀ l, l < 16 → p.1 l ≠ S l → (p.1 l).2.2 = 1 ∧ l < 16 ∧ gch L PU PL TT (k + 1) p.1 l := by
    intro l hl hne
    rcases r1 l with q | ⟨⟨e, he, t, s, q⟩, g⟩
    · exact absurd q hne
    · have hf := (hE e he).1.1
      have hI : I e.1.1 := Classical.byContradiction (fun hI => jc e he s hI (by rw [t, ← q]; exact g))
      obtain ⟨tf, -, P, pl, pn, pb, pw, pq⟩ := jb e.1.1 hf hI
      obtain ⟨⟨cu, cl⟩, cu1, cl1⟩ := hcx e he s
      obtain ⟨pul, pll⟩ := hP.1 l hl
      obtain ⟨puf, plf⟩ := hP.1 _ hf
      obtain ⟨fU, fL⟩ := (ja _ hf).2.2 s
      have t1 : (p.1 l).2.2 = 1 := by rw [q]; rfl
      have yl' : 0 < nY PU p.1 l := Int.mul_pos (by rw [q]; omega) pul
      have yf : 0 < nY PU S e.1.1 := Int.mul_pos (by omega) puf
      have uf0 : 0 < (S e.1.1).1.1 * (S e.1.1).1.2 := Int.mul_pos (by omega) (by omega)
      have hed := hP.2.1 e he
      rw [t] at hed
      have x1 : nX PL p.1 l * nY PU S e.1.1 = PU e.1.1 * e.2.1 * PL l * ((S e.1.1).1.1 * (S e.1.1).1.2) := by
        unfold nX nY; rw [q, cu]; ac_rfl
      have x2 : nX PL S e.1.1 * nY PU p.1 l = PU l * (PL e.1.1 * e.2.2.1) * ((S e.1.1).1.1 * (S e.1.1).1.2) := by
        unfold nX nY; rw [q, cl]; ac_rfl
      have A : nX PL p.1 l * nY PU S e.1.1 ≤ nX PL S e.1.1 * nY PU p.1 l := by
        rw [x1, x2]; exact Int.mul_le_mul_of_nonneg_right hed (Int.le_of_lt uf0)
      have Aeq : nX PL S e.1.1 * nY PU p.1 l ≤ nX PL p.1 l * nY PU S e.1.1 → gti PU PL e := by
        intro h'
        rw [x1, x2] at h'
        have h2 := Int.le_of_mul_le_mul_right h' uf0
        unfold gti
        rw [t]
        exact Int.le_antisymm hed h2
      have opn : (p.1 l).2.1 = 1 → (S e.1.1).2.1 = 1 ∨ e.2.2.2 = 1 := by
        rw [q]
        intro h
        by_cases hc : (1 : Int) = 1 ∧ ((S e.1.1).2.1 = 1 ∨ e.2.2.2 = 1)
        · exact hc.2
        · have h2 : (if (1 : Int) = 1 ∧ ((S e.1.1).2.1 = 1 ∨ e.2.2.2 = 1) then (1 : Int) else 0) = 1 := h
          rw [if_neg hc] at h2
          exact absurd h2 (by decide)
      have hnot : l ∉ P := by
        intro hl2
        obtain ⟨tl, le1, eq1⟩ := pq l hl2
        have yl : 0 < nY PU S l := Int.mul_pos (by have := ((ja l hl).2.2 tl).2.1; omega) pul
        have c1 : nX PL p.1 l * nY PU S l ≤ nX PL S l * nY PU p.1 l := fr_tr (Int.le_of_lt yl') yf (Int.le_of_lt yl) A le1
        have c2 : (p.1 l).1.1 * (S l).1.2 ≤ (S l).1.1 * (p.1 l).1.2 := (gnorm pll pul).mp c1
        rcases g with w | w | ⟨w, o1, o2⟩
        · exact absurd tl w
        · exact absurd w (Int.not_lt.mpr c2)
        · have lc : nX PL S l * nY PU p.1 l ≤ nX PL p.1 l * nY PU S l := (gnorm pll pul).mpr (Int.le_of_eq w.symm)
          have lf : nX PL S l * nY PU S e.1.1 ≤ nX PL S e.1.1 * nY PU S l := fr_tr (Int.le_of_lt yl) yl' (Int.le_of_lt yf) lc A
          obtain ⟨tt, oo⟩ := eq1 (Int.le_antisymm le1 lf)
          have fc : nX PL S e.1.1 * nY PU p.1 l ≤ nX PL p.1 l * nY PU S e.1.1 := fr_tr (Int.le_of_lt yf) yl (Int.le_of_lt yl') le1 lc
          have ti := Aeq fc
          have hft := hP.2.2.2.2.1 e he ti
          rw [t] at hft
          rcases opn o1 with o | o
          · rcases oo o with o3 | ⟨e2, m2, q1, q2, q3, q4⟩
            · exact o2 o3
            · have g2 := (hE e2 m2).1
              exact hP.2.2.2.2.2 e2 m2 q1 q2 (hP.2.2.2.1 _ l _ g2.2 hl g2.1 (hP.2.2.2.1 _ _ l g2.2 hf hl q4 hft) q3)
          · exact hP.2.2.2.2.2 e he o ti (by rw [t]; exact tt)
      refine ⟨t1, hl, l :: P, by simp [pl], List.nodup_cons.mpr ⟨hnot, pn⟩, ?_, ?_, ?_⟩
      · intro u hu
        rcases List.mem_cons.mp hu with h1 | h1
        · rw [h1]; exact hl
        · exact pb u h1
      · obtain ⟨-, hu, hlo, ht1, ht2, ht3⟩ := hE e he
        rw [t] at ht1 ht2 ht3
        obtain ⟨w1, w2⟩ := pw
        unfold gw
        rw [q, cu, cl]
        have mu : (S e.1.1).1.1 * e.2.1 ≤ (S e.1.1).1.1 * 199 := Int.mul_le_mul_of_nonneg_left hu.2 (by omega)
        have ml : (S e.1.1).1.2 * e.2.2.1 ≤ (S e.1.1).1.2 * 199 := Int.mul_le_mul_of_nonneg_left hlo.2 (by omega)
        have b0 : (0 : Int) ≤ 398 ^ gk P := Int.le_of_lt (Int.pow_pos (by decide))
        by_cases kl : 12 ≤ l
        · have gk1 : gk (l :: P) = gk P + 1 := by unfold gk; simp [kl]
          rw [gk1, if_pos kl, if_pos kl, Int.pow_succ]
          generalize (398 : Int) ^ gk P = B at *
          by_cases kf : 12 ≤ e.1.1
          · rw [if_pos kf] at w1 w2
            obtain ⟨a1, a2⟩ := ht3 ⟨fun _ => kl, fun _ => kf⟩
            rw [a1, a2]
            constructor <;> omega
          · rw [if_neg kf] at w1 w2
            have a := ht2 (by omega) kl
            have mu2 : (S e.1.1).1.1 * e.2.1 ≤ (S e.1.1).1.1 * 2 := Int.mul_le_mul_of_nonneg_left a (by omega)
            constructor <;> omega
        · have gk1 : gk (l :: P) = gk P := by unfold gk; simp [kl]
          rw [gk1, if_neg kl, if_neg kl]
          generalize (398 : Int) ^ gk P = B at *
          by_cases kf : 12 ≤ e.1.1
          · rw [if_pos kf] at w1 w2
            have a := ht1 kf (by omega)
            have ml2 : (S e.1.1).1.2 * e.2.2.1 ≤ (S e.1.1).1.2 * 2 := Int.mul_le_mul_of_nonneg_left a (by omega)
            constructor <;> omega
          · rw [if_neg kf] at w1 w2
            obtain ⟨a1, a2⟩ := ht3 ⟨fun z => absurd z kf, fun z => absurd z kl⟩
            rw [a1, a2]
            constructor <;> omega
      · intro u hu
        rcases List.mem_cons.mp hu with h1 | h1
        · rw [h1]
          exact ⟨t1, Int.le_refl _, fun _ => ⟨hP.2.2.1 _ hl, fun o => Or.inl o⟩⟩
        · obtain ⟨tu, le1, eq1⟩ := pq u h1
          have hu16 := pb u h1
          obtain ⟨m1, m2, m4, m5⟩ := mono u hu16 tu
          obtain ⟨puu, plu⟩ := hP.1 u hu16
          have uu : nX PL S u * nY PU p.1 u ≤ nX PL p.1 u * nY PU S u := (gnorm plu puu).mpr m2
          have yu : 0 < nY PU S u := Int.mul_pos (by have := ((ja u hu16).2.2 tu).2.1; omega) puu
          have yu' : 0 < nY PU p.1 u := Int.mul_pos m4 puu
          have c1 : nX PL p.1 l * nY PU S u ≤ nX PL S u * nY PU p.1 l := fr_tr (Int.le_of_lt yl') yf (Int.le_of_lt yu) A le1
          have c2 : nX PL p.1 l * nY PU p.1 u ≤ nX PL p.1 u * nY PU p.1 l := fr_tr (Int.le_of_lt yl') yu (Int.le_of_lt yu') c1 uu
          refine ⟨m1, c2, fun eq => ?_⟩
          have back : nX PL p.1 u * nY PU p.1 l ≤ nX PL p.1 l * nY PU p.1 u := Int.le_of_eq eq.symm
          have b1 : nX PL p.1 u * nY PU S e.1.1 ≤ nX PL S e.1.1 * nY PU p.1 u := fr_tr (Int.le_of_lt yu') yl' (Int.le_of_lt yf) back A
          have b2 : nX PL S u * nY PU S e.1.1 ≤ nX PL S e.1.1 * nY PU S u := fr_tr (Int.le_of_lt yu) yu' (Int.le_of_lt yf) uu b1
          obtain ⟨tt, oo⟩ := eq1 (Int.le_antisymm le1 b2)
          have b3 : nX PL S e.1.1 * nY PU p.1 u ≤ nX PL p.1 u * nY PU S e.1.1 := fr_tr (Int.le_of_lt yf) yu (Int.le_of_lt yu') le1 uu
          have b4 : nX PL S e.1.1 * nY PU p.1 l ≤ nX PL p.1 l * nY PU S e.1.1 := fr_tr (Int.le_of_lt yf) yu' (Int.le_of_lt yl') b3 back
          have ti := Aeq b4
          have hft := hP.2.2.2.2.1 e he ti
          rw [t] at hft
          refine ⟨hP.2.2.2.1 u e.1.1 l hu16 hf hl tt hft, fun o => ?_⟩
          rcases opn o with o | o
          · rcases oo o with o3 | ⟨e2, m2', q1, q2, q3, q4⟩
            · refine Or.inl (m5 ?_ o3)
              have b5 : nX PL p.1 u * nY PU S u ≤ nX PL S u * nY PU p.1 u := fr_tr (Int.le_of_lt yu') yf (Int.le_of_lt yu) b1 le1
              exact Int.le_antisymm m2 ((gnorm plu puu).mp b5)
            · exact Or.inr ⟨e2, m2', q1, q2, q3, hP.2.2.2.1 _ _ l (hE e2 m2').1.2 hf hl q4 hft⟩
          · exact Or.inr ⟨e, he, o, ti, tt, by rw [t]; exact hP.2.2.1 _ hl⟩
  refine ⟨fun l hl => ?_, main, fun e he s hI => ?_⟩
  · by_cases hne : p.1 l = S l
    · rw [hne]; exact ja l hl
    · obtain ⟨t1, -, P, pl, pn, pb, pw, -⟩ := main l hl hne
      rcases r1 l with q | ⟨⟨e, he, t, s, q⟩, g⟩
      · exact absurd q hne
      · obtain ⟨-, cu1, cl1⟩ := hcx e he s
        rw [← q] at cu1 cl1
        refine ⟨Or.inr t1, ?_, fun _ => ?_⟩
        · rw [q]
          unfold gc
          dsimp only
          split
          · exact Or.inr rfl
          · exact Or.inl rfl
        · have hb := gk_pow pn pb
          obtain ⟨w1, w2⟩ := pw
          generalize (398 : Int) ^ gk P = B at *
          by_cases kl : 12 ≤ l
          · rw [if_pos kl] at w1 w2
            omega
          · rw [if_neg kl] at w1 w2
            omega
  · have hf : p.1 e.1.1 = S e.1.1 := Classical.byContradiction hI
    have e1 : gc 1 p.1 e = gc 1 S e := by unfold gc; rw [hf]
    rw [e1]
    obtain ⟨j, hj⟩ := List.getElem?_of_mem he
    exact r2 j e (List.getElem?_eq_some_iff.mp hj).1 hj (by rw [← hf]; exact s)
theorem gJ_end {L : List gE} {PU PL : Nat → Int} {TT : Nat → Nat → Prop} {k : Nat} {S : gS} {I : Nat → Prop} (hP : gP L PU PL TT) (hE : ∀ e ∈ L, gEo e) (J : gJ L PU PL TT k S I) (h : (gi 1 S L L.length).2 ≠ 0) : k ≤ 14 := by
  have J' := gJ_step hP hE J
  obtain ⟨ja, jb, jc⟩ := J
  have hcx := fun (e : gE) (he : e ∈ L) (t : (S e.1.1).2.2 = 1) => gc_ex (z := 1) (M := 25091827216) (by decide) (hE e he) ((ja _ (hE e he).1.1).2.2 t).1 ((ja _ (hE e he).1.1).2.2 t).2
  have hR := gi_ok (z := 1) (S := S) (L := L) (fun e he => (hE e he).1) (fun e he t => by have := (hcx e he t).2.2.1; omega) (fun l hl t => by have := ((ja l hl).2.2 t).2.1; omega) L.length
  rcases hR.2.2 with ⟨q, -⟩ | ⟨-, l, hl, g, e, he, t, s, q⟩
  · exact absurd q h
  · have hne : (gi 1 S L L.length).1 l ≠ S l := by
      intro q2
      rw [← q2] at g
      exact gb_ir (by rw [q]; rfl) g
    obtain ⟨-, -, P, pl, pn, pb, -⟩ := J'.2.1 l hl hne
    have := gl_le pn pb
    omega
theorem gJ_01 {L : List gE} {PU PL : Nat → Int} {TT : Nat → Nat → Prop} {k : Nat} {S : gS} {I : Nat → Prop} (J : gJ L PU PL TT k S I) (hE : ∀ e ∈ L, gEo e) : (gi 1 S L L.length).2 = 0 ∨ (gi 1 S L L.length).2 = 1 := by
  obtain ⟨ja, jb, jc⟩ := J
  have hcx := fun (e : gE) (he : e ∈ L) (t : (S e.1.1).2.2 = 1) => gc_ex (z := 1) (M := 25091827216) (by decide) (hE e he) ((ja _ (hE e he).1.1).2.2 t).1 ((ja _ (hE e he).1.1).2.2 t).2
  have hR := gi_ok (z := 1) (S := S) (L := L) (fun e he => (hE e he).1) (fun e he t => by have := (hcx e he t).2.2.1; omega) (fun l hl t => by have := ((ja l hl).2.2 t).2.1; omega) L.length
  rcases hR.2.2 with ⟨q, -⟩ | ⟨q, -⟩
  · exact Or.inl q
  · exact Or.inr q
/-! the search for numbers that fit -/
def gM (M : Int) (S : gS) : Prop := ∀ l, l < 16 → (S l).2.2 = 1 ∧ (1 ≤ (S l).1.1 ∧ (S l).1.1 ≤ M) ∧ (1 ≤ (S l).1.2 ∧ (S l).1.2 ≤ M)
theorem gM_step {L : List gE} {M : Int} {S : gS} (hE : ∀ e ∈ L, gEo e) (hM : M * 199 < gBig) (h : gM M S) : gM (M * 199) (gi 0 S L L.length).1 ∧ ((gi 0 S L L.length).2 = 0 → (∀ l, (gi 0 S L L.length).1 l = S l) ∧ ∀ e ∈ L, (S e.1.1).1.1 * e.2.1 * (S e.1.2).1.2 ≤ (S e.1.2).1.1 * ((S e.1.1).1.2 * e.2.2.1)) := by
  have hcx := fun (e : gE) (he : e ∈ L) => gc_ex (S := S) (z := 0) (M := M) hM (hE e he) (h _ (hE e he).1.1).2.1 (h _ (hE e he).1.1).2.2
  have hR := gi_ok (z := 0) (S := S) (L := L) (fun e he => (hE e he).1) (fun e he t => by have := (hcx e he).2.2.1; omega) (fun l hl t => by have := (h l hl).2.2; omega) L.length
  generalize gi 0 S L L.length = p at hR ⊢
  obtain ⟨r1, r2, r3⟩ := hR
  refine ⟨fun l hl => ?_, fun z => ?_⟩
  · rcases r1 l with q | ⟨⟨e, he, t, s, q⟩, -⟩
    · rw [q]; have := h l hl; omega
    · rw [q]; exact ⟨rfl, (hcx e he).2.1, (hcx e he).2.2⟩
  · rcases r3 with ⟨-, q⟩ | ⟨q, -⟩
    · refine ⟨q, fun e he => ?_⟩
      obtain ⟨j, hj⟩ := List.getElem?_of_mem he
      have h1 := r2 j e (List.getElem?_eq_some_iff.mp hj).1 hj (h _ (hE e he).1.1).1
      rw [q] at h1
      obtain ⟨⟨cu, cl⟩, -⟩ := hcx e he
      have h2 : ¬ (S e.1.2).1.1 * (gc 0 S e).1.2 < (gc 0 S e).1.1 * (S e.1.2).1.2 := fun w => h1 (Or.inr (Or.inl w))
      rw [cu, cl] at h2
      exact Int.not_lt.mp h2
    · omega
