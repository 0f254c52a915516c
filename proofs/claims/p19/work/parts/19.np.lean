/-! every ENTRY's NUMBER is 1 at least, in the row and in the images that are kept -/
def NP (h : m_H) : Prop := (∀ e : Nat, (e : Int) < h 110 0 → 1 ≤ h 110 (5 * e + 82)) ∧ ∀ k, k < 2 → h 112 k ≠ 0 → ∀ e : Nat, (e : Int) < h 111 (200 * k) → 1 ≤ h 111 (200 * k + (5 * e + 82))
def NQi (h h' : m_H) : Prop := NP h → NP h'
theorem NP.same {h h' : m_H} (n : NP h) (e0 : ∀ j, h' 110 j = h 110 j) (e1 : ∀ j, h' 111 j = h 111 j) (e2 : ∀ j, h' 112 j = h 112 j) : NP h' := by
  refine ⟨fun e he => ?_, fun k hk z e he => ?_⟩
  · rw [e0] at he ⊢; exact n.1 e he
  · rw [e2] at z; rw [e1] at he ⊢; exact n.2 k hk z e he
theorem NQi.rf {h : m_H} : NQi h h := fun n => n
theorem NQi.tr {h0 h h' : m_H} (n : NQi h0 h) (m : NQi h h') : NQi h0 h' := fun q => m (n q)
theorem NQi.call {h0 h h' : m_H} {cs : List Nat} {ss : List (Nat × Nat)} (n : NQi h0 h) (S : FR cs ss h h') (e0 : ∀ j, fr cs ss 110 j = false) (e1 : ∀ j, fr cs ss 111 j = false) (e2 : ∀ j, fr cs ss 112 j = false) : NQi h0 h' := fun q => (n q).same (fun j => S _ _ (e0 j)) (fun j => S _ _ (e1 j)) (fun j => S _ _ (e2 j))
theorem NP.call {h h' : m_H} {cs : List Nat} {ss : List (Nat × Nat)} (n : NP h) (S : FR cs ss h h') (e0 : ∀ j, fr cs ss 110 j = false) (e1 : ∀ j, fr cs ss 111 j = false) (e2 : ∀ j, fr cs ss 112 j = false) : NP h' := n.same (fun j => S _ _ (e0 j)) (fun j => S _ _ (e1 j)) (fun j => S _ _ (e2 j))
theorem NQi.put {h0 h h' : m_H} {k j : Nat} {x : Int} (n : NQi h0 h) (E : h' = m_up h k j x) (hk : k ≠ 110 ∧ k ≠ 111 ∧ k ≠ 112) : NQi h0 h' := fun q => (n q).same (fun j => upN E (fun z => hk.1 z.1.symm)) (fun j => upN E (fun z => hk.2.1 z.1.symm)) (fun j => upN E (fun z => hk.2.2 z.1.symm))
theorem NP.put {h h' : m_H} {k j : Nat} {x : Int} (n : NP h) (E : h' = m_up h k j x) (hk : k ≠ 110 ∧ k ≠ 111 ∧ k ≠ 112) : NP h' := n.same (fun j => upN E (fun z => hk.1 z.1.symm)) (fun j => upN E (fun z => hk.2.1 z.1.symm)) (fun j => upN E (fun z => hk.2.2 z.1.symm))
theorem NQi.change {h0 h h' : m_H} {cs : List Nat} {ss : List (Nat × Nat)} {i : Nat} (n : NQi h0 h) (S : FR cs ss h h') (e1 : ∀ j, fr cs ss 111 j = false) (e2 : ∀ j, fr cs ss 112 j = false) (f : ∀ j, j ≠ i → h' 110 j = h 110 j) (hi : i ≠ 0 ∧ ∀ e : Nat, i ≠ 5 * e + 82) : NQi h0 h' := by
  intro q
  obtain ⟨n1, n2⟩ := n q
  refine ⟨fun e he => ?_, fun k hk z e he => ?_⟩
  · rw [f 0 (Ne.symm hi.1)] at he
    rw [f _ (Ne.symm (hi.2 e))]; exact n1 e he
  · rw [S 112 k (e2 k)] at z
    rw [S 111 _ (e1 _)] at he ⊢
    exact n2 k hk z e he
theorem NQi.st {h0 h h' : m_H} {i : Nat} {x : Int} (n : NQi h0 h) (E : h' = m_up h 110 i x) (hi : i ≠ 0 ∧ ∀ e : Nat, i ≠ 5 * e + 82) : NQi h0 h' := by
  intro q
  obtain ⟨n1, n2⟩ := n q
  refine ⟨fun e he => ?_, fun k hk z e he => ?_⟩
  · rw [upN E (fun z => hi.1 z.2.symm)] at he
    rw [upN E (fun z => hi.2 e z.2.symm)]; exact n1 e he
  · rw [upN E (fun z => absurd z.1 (by decide))] at z he ⊢
    exact n2 k hk z e he
theorem NQi.stN {h0 h h' : m_H} {i : Nat} {x : Int} (n : NQi h0 h) (E : h' = m_up h 110 i x) (hi : i ≠ 0) (hx : 1 ≤ x) : NQi h0 h' := by
  intro q
  obtain ⟨n1, n2⟩ := n q
  refine ⟨fun e he => ?_, fun k hk z e he => ?_⟩
  · rw [upN E (fun z => hi z.2.symm)] at he
    by_cases hj : 5 * e + 82 = i
    · rw [hj, upE E]; exact hx
    · rw [upN E (fun z => hj z.2)]; exact n1 e he
  · rw [upN E (fun z => absurd z.1 (by decide))] at z he ⊢
    exact n2 k hk z e he
/-- one ENTRY more -/
theorem NQi.inc {h0 h h' : m_H} {x : Int} (n : NQi h0 h) (E : h' = m_up h 110 (0 : Int).toNat (x + 1)) (e0 : h 110 (0 : Int).toNat = x) (hx : 0 ≤ x) (hn : 1 ≤ h 110 (80 + (5 * x) + 2).toNat) : NQi h0 h' := by
  intro q
  obtain ⟨n1, n2⟩ := n q
  refine ⟨fun e he => ?_, fun k hk z e he => ?_⟩
  · have e1 : h' 110 0 = x + 1 := upE E
    rw [e1] at he
    have e2 : h' 110 (5 * e + 82) = h 110 (5 * e + 82) := upN E (fun z => by have z2 := z.2; change 5 * e + 82 = 0 at z2; omega)
    rw [e2]
    by_cases hj : (e : Int) = x
    · have e3 : 5 * e + 82 = (80 + (5 * x) + 2).toNat := by omega
      rw [e3]; exact hn
    · exact n1 e (by have e4 : h 110 0 = x := e0; omega)
  · rw [upN E (fun z => absurd z.1 (by decide))] at z he ⊢
    exact n2 k hk z e he
theorem NP_num {h3 h4 h5 : m_H} {h2 : m_H} {x a3 a4 : Int} (hx : 0 ≤ x) (h1 : 1 ≤ a3) (E3 : h3 = m_up h2 110 (80 + (5 * x) + 2).toNat a3) (E4 : h4 = m_up h3 110 (80 + (5 * x) + 3).toNat a4) (E5 : h5 = m_up h4 110 (80 + (5 * x) + 4).toNat 1) : 1 ≤ h5 110 (80 + (5 * x) + 2).toNat := by
  rw [upN E5 (fun z => by have := z.2; omega), upN E4 (fun z => by have := z.2; omega), upE E3]
  exact h1
/-- the told world stays -/
def NW (h h' : m_H) : Prop := ∀ j, 60 ≤ j → j ≤ 75 → h' 110 j = h 110 j
def NPi (h h' : m_H) : Prop := NQi h h' ∧ NW h h'
theorem NPi.rf {h : m_H} : NPi h h := ⟨NQi.rf, fun _ _ _ => rfl⟩
theorem NPi.tr {h0 h h' : m_H} (n : NPi h0 h) (m : NPi h h') : NPi h0 h' := ⟨n.1.tr m.1, fun j a b => (m.2 j a b).trans (n.2 j a b)⟩
theorem NPi.call {h0 h h' : m_H} {cs : List Nat} {ss : List (Nat × Nat)} (n : NPi h0 h) (S : FR cs ss h h') (e0 : ∀ j, fr cs ss 110 j = false) (e1 : ∀ j, fr cs ss 111 j = false) (e2 : ∀ j, fr cs ss 112 j = false) : NPi h0 h' := ⟨n.1.call S e0 e1 e2, fun j a b => (S _ _ (e0 j)).trans (n.2 j a b)⟩
theorem NPi.put {h0 h h' : m_H} {k j : Nat} {x : Int} (n : NPi h0 h) (E : h' = m_up h k j x) (hk : k ≠ 110 ∧ k ≠ 111 ∧ k ≠ 112) : NPi h0 h' := ⟨n.1.put E hk, fun j a b => (upN E (fun z => hk.1 z.1.symm)).trans (n.2 j a b)⟩
theorem NPi.change {h0 h h' : m_H} {cs : List Nat} {ss : List (Nat × Nat)} {i : Nat} (n : NPi h0 h) (S : FR cs ss h h') (e1 : ∀ j, fr cs ss 111 j = false) (e2 : ∀ j, fr cs ss 112 j = false) (f : ∀ j, j ≠ i → h' 110 j = h 110 j) (hi : i ≠ 0 ∧ ∀ e : Nat, i ≠ 5 * e + 82) (hw : i < 60 ∨ 75 < i) : NPi h0 h' := ⟨n.1.change S e1 e2 f hi, fun j a b => (f j (by omega)).trans (n.2 j a b)⟩
theorem NPi.st {h0 h h' : m_H} {i : Nat} {x : Int} (n : NPi h0 h) (E : h' = m_up h 110 i x) (hi : i ≠ 0 ∧ ∀ e : Nat, i ≠ 5 * e + 82) (hw : i < 60 ∨ 75 < i) : NPi h0 h' := ⟨n.1.st E hi, fun j a b => (upN E (fun z => by have := z.2; omega)).trans (n.2 j a b)⟩
theorem NPi.stN {h0 h h' : m_H} {i : Nat} {x : Int} (n : NPi h0 h) (E : h' = m_up h 110 i x) (hi : i ≠ 0) (hx : 1 ≤ x) (hw : i < 60 ∨ 75 < i) : NPi h0 h' := ⟨n.1.stN E hi hx, fun j a b => (upN E (fun z => by have := z.2; omega)).trans (n.2 j a b)⟩
theorem NPi.inc {h0 h h' : m_H} {x : Int} (n : NPi h0 h) (E : h' = m_up h 110 (0 : Int).toNat (x + 1)) (e0 : h 110 (0 : Int).toNat = x) (hx : 0 ≤ x) (hn : 1 ≤ h 110 (80 + (5 * x) + 2).toNat) : NPi h0 h' := ⟨n.1.inc E e0 hx hn, fun j a b => (upN E (fun z => by have z2 := z.2; change j = 0 at z2; omega)).trans (n.2 j a b)⟩
/-- tell, exactly -/
def tlQ (c i : Nat) (a1 a2 x : Int) (h0 h' : m_H) : Prop := ((a1 < 0 ∨ 15 < a1 ∨ a2 < 1 ∨ 9999 < a2) ∧ x = -1 ∧ ∀ j, h' c j = h0 c j) ∨ (0 ≤ a1 ∧ a1 ≤ 15 ∧ 1 ≤ a2 ∧ a2 ≤ 9999 ∧ h0 c i = x ∧ h' c i = a2 ∧ ∀ j, j ≠ i → h' c j = h0 c j)
theorem tl_o {h h' : m_H} {c j : Nat} {v : Int} (E : h' = m_up h c j v) {k : Nat} (hk : k ≠ c) (i : Nat) : h' k i = h k i := by rw [E, m_up_ne1 hk]
/-! image, back -/
def NIm (h0 h : m_H) (a : Nat) (n : Int) : Prop := (∀ j, h 110 j = h0 110 j) ∧ (∀ j, h 112 j = h0 112 j) ∧ (∀ j, j < 200 * a ∨ 200 * a + 200 ≤ j → h 111 j = h0 111 j) ∧ ∀ j : Nat, (j : Int) < n → h 111 (200 * a + j) = h0 110 j
theorem NIm_0 {h0 h : m_H} {a : Nat} {v : Int} (E : h = m_up h0 108 0 v) : NIm h0 h a 0 :=
  ⟨fun j => upN E (fun z => absurd z.1 (by decide)), fun j => upN E (fun z => absurd z.1 (by decide)), fun j _ => upN E (fun z => absurd z.1 (by decide)), fun j hj => by omega⟩
theorem NIm_step {h0 h h' : m_H} {a l x : Int} (ha : 0 ≤ a) (h1 : 0 ≤ l) (h2 : l ≤ 199) (I : NIm h0 h a.toNat l) (E : h' = m_up h 111 (200 * a + l).toNat x) (ex : h 110 l.toNat = x) : NIm h0 h' a.toNat (l + 1) := by
  obtain ⟨i1, i2, i3, i4⟩ := I
  refine ⟨fun j => (upN E (fun z => absurd z.1 (by decide))).trans (i1 j), fun j => (upN E (fun z => absurd z.1 (by decide))).trans (i2 j), fun j hj => (upN E (fun z => by have := z.2; omega)).trans (i3 j hj), fun j hj => ?_⟩
  by_cases q : (j : Int) = l
  · have e1 : 200 * a.toNat + j = (200 * a + l).toNat := by omega
    have e2 : l.toNat = j := by omega
    rw [e1, upE E, ← ex, e2]; exact i1 j
  · rw [upN E (fun z => by have := z.2; omega)]; exact i4 j (by omega)
theorem NIm_end {h0 h h1 h' : m_H} {cs : List Nat} {ss : List (Nat × Nat)} {a l : Int} (G0 : GI h0) (ha : 0 ≤ a) (ha1 : a ≤ 1) (I : NIm h0 h a.toNat l) (hl : 200 ≤ l) (E : h1 = m_up h 112 a.toNat 1) (S : FR cs ss h1 h') (e0 : ∀ j, fr cs ss 110 j = false) (e1 : ∀ j, fr cs ss 111 j = false) (e2 : ∀ j, fr cs ss 112 j = false) : NPi h0 h' := by
  obtain ⟨i1, i2, i3, i4⟩ := I
  have f0 : ∀ j, h' 110 j = h0 110 j := fun j => (S _ _ (e0 j)).trans ((upN E (fun z => absurd z.1 (by decide))).trans (i1 j))
  refine ⟨fun n => ?_, fun j _ _ => f0 j⟩
  have f1 : ∀ j, h' 111 j = h 111 j := fun j => (S _ _ (e1 j)).trans (upN E (fun z => absurd z.1 (by decide)))
  have b0 : h0 110 0 ≤ 24 := (gw_0 G0).2
  refine ⟨fun e he => ?_, fun k hk z e he => ?_⟩
  · rw [f0] at he ⊢; exact n.1 e he
  · rw [f1] at he ⊢
    by_cases q : k = a.toNat
    · subst q
      have g0 := i4 0 (by omega)
      rw [Nat.add_zero] at g0
      rw [g0] at he
      rw [i4 _ (by omega)]
      exact n.1 e he
    · have z2 : h0 112 k ≠ 0 := by
        rw [S _ _ (e2 k), upN E (fun z => q z.2), i2] at z; exact z
      by_cases he2 : e < 24
      · rw [i3 _ (by omega)] at he ⊢
        exact n.2 k hk z2 e he
      · exfalso
        rw [i3 _ (by omega)] at he
        have := (G0.2 k hk z2 0 (by decide)).2
        rw [Nat.add_zero] at this
        have r : r_hi 0 = 24 := by decide
        omega
def NBk (h0 h : m_H) (a : Nat) (n : Int) : Prop := (∀ j, h 111 j = h0 111 j) ∧ (∀ j, h 112 j = h0 112 j) ∧ ∀ j : Nat, (j : Int) < n → h 110 j = h0 111 (200 * a + j)
theorem NBk_0 {h0 h : m_H} {a : Nat} {v : Int} (E : h = m_up h0 108 0 v) : NBk h0 h a 0 :=
  ⟨fun j => upN E (fun z => absurd z.1 (by decide)), fun j => upN E (fun z => absurd z.1 (by decide)), fun j hj => by omega⟩
theorem NBk_step {h0 h h' : m_H} {a l x : Int} (ha : 0 ≤ a) (h1 : 0 ≤ l) (I : NBk h0 h a.toNat l) (E : h' = m_up h 110 l.toNat x) (ex : h 111 (200 * a + l).toNat = x) : NBk h0 h' a.toNat (l + 1) := by
  obtain ⟨i1, i2, i3⟩ := I
  refine ⟨fun j => (upN E (fun z => absurd z.1 (by decide))).trans (i1 j), fun j => (upN E (fun z => absurd z.1 (by decide))).trans (i2 j), fun j hj => ?_⟩
  by_cases q : (j : Int) = l
  · have e1 : (200 * a + l).toNat = 200 * a.toNat + j := by omega
    have e2 : l.toNat = j := by omega
    rw [e2] at E
    rw [upE E, ← ex, e1]; exact i1 _
  · rw [upN E (fun z => by have := z.2; omega)]; exact i3 j (by omega)
theorem NBk_end {h0 h h' : m_H} {cs : List Nat} {ss : List (Nat × Nat)} {a l : Int} (G : GI h) (ha : 0 ≤ a) (ha1 : a ≤ 1) (I : NBk h0 h a.toNat l) (hl : 200 ≤ l) (hk : h 112 a.toNat ≠ 0) (S : FR cs ss h h') (e0 : ∀ j, fr cs ss 110 j = false) (e1 : ∀ j, fr cs ss 111 j = false) (e2 : ∀ j, fr cs ss 112 j = false) : NQi h0 h' := by
  intro n
  obtain ⟨i1, i2, i3⟩ := I
  have b0 : h 110 0 ≤ 24 := (gw_0 G).2
  refine ⟨fun e he => ?_, fun k hk z e he => ?_⟩
  · rw [S _ _ (e0 _)] at he ⊢
    rw [i3 _ (by omega)]
    have g0 := i3 0 (by omega)
    rw [Nat.add_zero] at g0
    rw [g0] at he
    rw [i2] at hk
    exact n.2 _ (by omega) hk e he
  · rw [S _ _ (e2 _), i2] at z
    rw [S _ _ (e1 _), i1] at he ⊢
    exact n.2 k hk z e he
