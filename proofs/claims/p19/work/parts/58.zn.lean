/-! the calls, over rows -/
noncomputable def spSet (V : Prop) (i : Nat) (v : Int) (r : Nat → Int) : Int × (Nat → Int) := cif V (r i, rU r i v) (-1, r)
noncomputable def spShort (a b : Int) (r : Nat → Int) : Int × (Nat → Int) := cif (((0 ≤ a ∧ a ≤ 3) ∧ (0 ≤ b ∧ b ≤ 3)) ∧ a ≠ b) (cif (iS r a b) (-3, r) (cif (r 1 ≤ 5) (r 1 + 1, rS r a b) (-5, r))) (-1, r)
def canE (t w n k : Int) : Prop := (0 ≤ t ∧ t ≤ 5) ∧ (0 ≤ w ∧ w ≤ 31) ∧ (1 ≤ n ∧ n ≤ 99) ∧ (0 ≤ k ∧ k ≤ 2)
noncomputable def spEntry (t w n k : Int) (r : Nat → Int) : Int × (Nat → Int) := cif (canE t w n k) (cif (r 0 ≤ 23) (r 0, rE r t w n k) (-5, r)) (-1, r)
noncomputable def spCount (e c : Int) (r : Nat → Int) : Nat → Int := cif ((0 ≤ e ∧ e < r 0) ∧ (0 ≤ c ∧ c ≤ 1)) (rU r (5 * e.toNat + 84) c) r
/-- a class's call does to its ledger what sp does to the row -/
def cR (sp : (Nat → Int) → Int × (Nat → Int)) (x : Int) (h0 h' : m_H) : Prop := ∀ r, LR 1 h0 r → x = (sp r).1 ∧ LR 1 h' (sp r).2
def mRr (sp : (Nat → Int) → Int × (Nat → Int)) (x : Int) (h0 h' : m_H) : Prop := x = (sp (h0 110)).1 ∧ h' 110 = (sp (h0 110)).2
theorem LR.S {L : Nat} {cs : List Nat} {ss : List (Nat × Nat)} {h h' : m_H} {r : Nat → Int} (R : LR L h r) (S : FR cs ss h h') (o : out L (L + 7) cs ss = true) : LR L h' r := R.same (fun i hi j => S _ j (fr_out o (by omega) (by omega) j)) (fun _ _ => rfl)
theorem LR.k2 {h h' : m_H} {r : Nat → Int} {i v : Int} (R : LR 1 h r) (h0 : 0 ≤ i) (h1 : i ≤ 31) (E : h' = m_up h 2 i.toNat v) : LR 1 h' (rU r (10 + i.toNat) v) := by
  have z := R.setU (i := i.toNat) (Or.inl ⟨rfl, by omega⟩) E
  rw [if_pos rfl] at z; exact z
theorem LR.k3 {h h' : m_H} {r : Nat → Int} {i v : Int} (R : LR 1 h r) (h0 : 0 ≤ i) (h1 : i ≤ 5) (E : h' = m_up h 3 i.toNat v) : LR 1 h' (rU r (42 + i.toNat) v) := by
  have z := R.setU (i := i.toNat) (Or.inr (Or.inl ⟨rfl, by omega⟩)) E
  rw [if_neg (by decide), if_pos rfl] at z; exact z
theorem LR.k8 {h h' : m_H} {r : Nat → Int} {i v : Int} (R : LR 1 h r) (h0 : 0 ≤ i) (h1 : i ≤ 15) (E : h' = m_up h 8 i.toNat v) : LR 1 h' (rU r (60 + i.toNat) v) := by
  have z := R.setU (i := i.toNat) (Or.inr (Or.inr ⟨rfl, by omega⟩)) E
  rw [if_neg (by decide), if_neg (by decide)] at z; exact z
theorem cR_no {V : Prop} {i : Nat} {v : Int} {cs : List Nat} {ss : List (Nat × Nat)} {h0 h' : m_H} (n : ¬ V) (S : FR cs ss h0 h') (o : out 1 8 cs ss = true) : cR (spSet V i v) (-1) h0 h' := fun r R => by unfold spSet; rw [cif_neg n]; exact ⟨rfl, R.S S o⟩
theorem cR_yes {V : Prop} {i c j : Nat} {v x : Int} {cs : List Nat} {ss : List (Nat × Nat)} {h0 h1 h' : m_H} (y : V) (ex : h0 c j = x) (er : ∀ r, LR 1 h0 r → h0 c j = r i) (up : ∀ r, LR 1 h0 r → LR 1 h1 (rU r i v)) (S : FR cs ss h1 h') (o : out 1 8 cs ss = true) : cR (spSet V i v) x h0 h' := fun r R => by
  unfold spSet; rw [cif_pos y]; exact ⟨ex.symm.trans (er r R), (up r R).S S o⟩
theorem mR_no {V : Prop} {i k : Nat} {v w : Int} {cs : List Nat} {ss : List (Nat × Nat)} {h0 h1 h' : m_H} (n : ¬ V) (E : h1 = m_up h0 108 k w) (S : FR cs ss h1 h') (o : ∀ j, fr cs ss 110 j = false) : mRr (spSet V i v) (-1) h0 h' := by
  unfold mRr spSet; rw [cif_neg n]; exact ⟨rfl, (rowz S o).trans (tl_r E (by decide))⟩
theorem mR_yes {V : Prop} {i k j : Nat} {v w x : Int} {h0 h1 h' : m_H} (y : V) (E : h1 = m_up h0 108 k w) (ei : j = i) (f0 : h1 110 j = x) (f1 : ∀ q : Nat, q ≠ j → h' 110 q = h1 110 q) (f2 : h' 110 j = v) : mRr (spSet V i v) x h0 h' := by
  subst ei
  have e : h1 110 = h0 110 := tl_r E (by decide)
  unfold mRr spSet; rw [cif_pos y]
  refine ⟨by rw [← e]; exact f0.symm, ?_⟩
  funext q
  show _ = (if q = j then v else h0 110 q)
  by_cases g : q = j
  · rw [if_pos g, g]; exact f2
  · rw [if_neg g, f1 q g, e]
/-- both calls: the ledger stays the row -/
theorem both {sp : (Nat → Int) → Int × (Nat → Int)} {x y : Int} {cs cs' : List Nat} {ss ss' : List (Nat × Nat)} {h h1 h2 : m_H} (R : LR 1 h (h 110)) (A : cR sp x h h1) (B : mRr sp y h1 h2) (S1 : FR cs ss h h1) (S2 : FR cs' ss' h1 h2) (o1 : ∀ j, fr cs ss 110 j = false) (o2 : out 1 8 cs' ss' = true) : LR 1 h2 (h2 110) ∧ x = y := by
  have e : h1 110 = h 110 := rowz S1 o1
  obtain ⟨a1, a2⟩ := A _ R
  obtain ⟨b1, b2⟩ := B
  rw [e] at b1 b2
  exact ⟨by rw [b2]; exact a2.S S2 o2, a1.trans b1.symm⟩
theorem LR.cnt {h h' : m_H} {r : Nat → Int} {e c v : Int} (R : LR 1 h r) (h0 : 0 ≤ e) (h1 : e < r 0) (hc : (c = 1 ∧ v = m_or (h 1 8) (m_shl 1 e)) ∨ (c = 0 ∧ v = m_and (h 1 8) (m_xor (m_shl 1 e) (-1)))) (E : h' = m_up h 1 8 v) : LR 1 h' (rU r (5 * e.toNat + 84) c) := by
  obtain ⟨b, k, cc, w, n, q, cb, sb⟩ := R
  obtain ⟨b1, b2, b3, b4⟩ := b
  have lo : ∀ j, j ≠ 5 * e.toNat + 84 → rU r (5 * e.toNat + 84) c j = r j := fun j hj => by unfold rU; rw [if_neg hj]
  have o : ∀ a j, (a ≠ 1 ∨ j ≠ 8) → h' a j = h a j := fun a j ha => upN E (fun z => by have := z.1; have := z.2; omega)
  have he : e = ((e.toNat : Nat) : Int) := by omega
  refine ⟨⟨by rw [lo 0 (by omega)]; exact b1, by rw [lo 0 (by omega)]; exact b2, by rw [lo 1 (by omega)]; exact b3, by rw [lo 1 (by omega)]; exact b4⟩, fun j hj => ?_, fun j hj => ?_, fun j hj => ?_, ?_, fun x hx => ?_, fun x hx => ?_, ?_⟩
  · rw [o _ _ (Or.inl (by decide)), lo _ (by omega)]; exact k j hj
  · rw [o _ _ (Or.inl (by decide)), lo _ (by omega)]; exact cc j hj
  · rw [o _ _ (Or.inl (by decide)), lo _ (by omega)]; exact w j hj
  · rw [o _ _ (Or.inr (by decide)), lo 0 (by omega)]; exact n
  · rw [lo 0 (by omega)] at hx
    rw [o _ _ (Or.inl (by decide)), o _ _ (Or.inl (by decide)), o _ _ (Or.inl (by decide)), o _ _ (Or.inl (by decide)), lo _ (by omega), lo _ (by omega), lo _ (by omega), lo _ (by omega)]; exact q x hx
  · rw [upE E, lo 0 (by omega)]
    by_cases g : x = e.toNat
    · have v1 : rU r (5 * e.toNat + 84) c (5 * x + 84) = c := by unfold rU; rw [if_pos (by omega)]
      rw [v1]
      rcases hc with ⟨hc, hv⟩ | ⟨hc, hv⟩
      · rw [hv, he, bt_or (by omega) hx, Bool.or_eq_true, decide_eq_true_eq]
        exact ⟨fun _ => ⟨by omega, hc⟩, fun _ => Or.inr g⟩
      · rw [hv, he, bt_an (by omega) hx, Bool.and_eq_true, Bool.not_eq_true', decide_eq_false_iff_not]
        exact ⟨fun z => absurd g z.2, fun z => by omega⟩
    · rw [lo _ (by omega), ← cb x hx]
      rcases hc with ⟨hc, hv⟩ | ⟨hc, hv⟩
      · rw [hv, he, bt_or (by omega) hx, Bool.or_eq_true, decide_eq_true_eq]
        exact ⟨fun z => z.resolve_right g, Or.inl⟩
      · rw [hv, he, bt_an (by omega) hx, Bool.and_eq_true, Bool.not_eq_true', decide_eq_false_iff_not]
        exact ⟨fun z => z.1, fun z => ⟨z, g⟩⟩
  · rw [o _ _ (Or.inr (by decide))]
    obtain ⟨s1, s2, s3, s4⟩ := sb
    refine ⟨s1, s2, by rw [lo 1 (by omega)]; exact s3, fun p hp => (s4 p hp).trans ?_⟩
    unfold iS
    rw [lo 1 (by omega)]
    constructor
    · rintro ⟨k', u, v, w'⟩
      exact ⟨k', u, by rw [lo _ (by omega)]; exact v, by rw [lo _ (by omega)]; exact w'⟩
    · rintro ⟨k', u, v, w'⟩
      rw [lo _ (by omega)] at v w'
      exact ⟨k', u, v, w'⟩
def cR1 (sp : (Nat → Int) → Int × (Nat → Int)) (r : Nat → Int) (x : Int) (h' : m_H) : Prop := x = (sp r).1 ∧ LR 1 h' (sp r).2
theorem both1 {sp : (Nat → Int) → Int × (Nat → Int)} {x y : Int} {cs cs' : List Nat} {ss ss' : List (Nat × Nat)} {h h1 h2 : m_H} (A : cR1 sp (h 110) x h1) (B : mRr sp y h1 h2) (S1 : FR cs ss h h1) (S2 : FR cs' ss' h1 h2) (o1 : ∀ j, fr cs ss 110 j = false) (o2 : out 1 8 cs' ss' = true) : LR 1 h2 (h2 110) ∧ x = y := by
  have e : h1 110 = h 110 := rowz S1 o1
  obtain ⟨a1, a2⟩ := A
  obtain ⟨b1, b2⟩ := B
  rw [e] at b1 b2
  exact ⟨by rw [b2]; exact a2.S S2 o2, a1.trans b1.symm⟩
theorem fr_up8 {h h' : m_H} (S : FR [] [(1, 8)] h h') : h' = m_up h 1 8 (h' 1 8) := by
  funext a j
  by_cases g : a = 1 ∧ j = 8
  · obtain ⟨rfl, rfl⟩ := g; rw [m_up_eq]
  · rw [m_up_ne g]
    exact S a j (by
      unfold fr
      simp only [List.any_cons, List.any_nil, Bool.or_false, Bool.false_or, Bool.and_eq_false_iff, beq_eq_false_iff_ne]
      by_cases q : 1 = a
      · exact Or.inr (fun z => g ⟨q.symm, z.symm⟩)
      · exact Or.inl q)
/-- a row off the tape, four bytes at a time -/
noncomputable def rwS (b : Nat → Int) (n k : Int) (s : Int × Int × (Nat → Int)) : Int × Int × (Nat → Int) := cif ((k + 3 < n ∧ s.2.2 0 ≤ 23) ∧ canE (b k.toNat) (b (k + 1).toNat) (b (k + 2).toNat) (b (k + 3).toNat)) (s.1 + 1, s.2.1, rE s.2.2 (b k.toNat) (b (k + 1).toNat) (b (k + 2).toNat) (b (k + 3).toNat)) (s.1, s.2.1 + 1, s.2.2)
noncomputable def rwL (b : Nat → Int) (n : Int) (r : Nat → Int) : Nat → Int × Int × (Nat → Int)
  | 0 => (0, 0, r)
  | i + 1 => rwS b n (4 * (i : Int)) (rwL b n r i)
theorem rwL_s {b : Nat → Int} {n k : Int} {r : Nat → Int} {i : Nat} (e : k = 4 * (i : Int)) : rwL b n r (i + 1) = rwS b n k (rwL b n r i) := by rw [e]; rfl
noncomputable def rwN (n : Int) : Nat := ((n + 3) / 4).toNat
theorem rwL_0 {b : Nat → Int} {n : Int} {r : Nat → Int} : ∀ i : Nat, (rwL b n r i).2.2 0 = r 0 + (rwL b n r i).1
  | 0 => (Int.add_zero _).symm
  | i + 1 => by
    have z := rwL_0 (b := b) (n := n) (r := r) i
    show (rwS b n (4 * (i : Int)) (rwL b n r i)).2.2 0 = r 0 + (rwS b n (4 * (i : Int)) (rwL b n r i)).1
    unfold rwS
    by_cases c : (4 * (i : Int) + 3 < n ∧ (rwL b n r i).2.2 0 ≤ 23) ∧ canE (b (4 * (i : Int)).toNat) (b (4 * (i : Int) + 1).toNat) (b (4 * (i : Int) + 2).toNat) (b (4 * (i : Int) + 3).toNat)
    · rw [cif_pos c]; show (rwL b n r i).2.2 0 + 1 = r 0 + ((rwL b n r i).1 + 1); omega
    · rw [cif_neg c]; exact z
theorem rwS_c {b b' : Nat → Int} {n k : Int} {s : Int × Int × (Nat → Int)} (hk : 0 ≤ k) (e : ∀ j : Nat, (j : Int) < n → b' j = b j) : rwS b' n k s = rwS b n k s := by
  unfold rwS
  by_cases g : k + 3 < n
  · rw [e _ (by omega), e _ (by omega), e _ (by omega), e _ (by omega)]
  · rw [cif_neg (fun z => g z.1.1), cif_neg (fun z => g z.1.1)]
theorem rwL_c {b b' : Nat → Int} {n : Int} {r : Nat → Int} (e : ∀ j : Nat, (j : Int) < n → b' j = b j) : ∀ i, rwL b' n r i = rwL b n r i
  | 0 => rfl
  | i + 1 => by
    show rwS b' n _ (rwL b' n r i) = rwS b n _ (rwL b n r i)
    rw [rwL_c e i, rwS_c (by omega) e]
def rwQ (b : Nat → Int) (n : Int) (r : Nat → Int) (x : Int) (bl bl' : Int) (h' : m_H) : Prop := (n = 0 ∧ x = -6 ∧ bl' = bl ∧ LR 1 h' r) ∨ (n ≠ 0 ∧ x = (rwL b n r (rwN n)).1 ∧ bl' = (rwL b n r (rwN n)).2.1 ∧ LR 1 h' (rwL b n r (rwN n)).2.2)
def rwM (b : Nat → Int) (n : Int) (r : Nat → Int) (x : Int) (bl bl' : Int) (h' : m_H) : Prop := (n = 0 ∧ x = -6 ∧ bl' = bl ∧ h' 110 = r) ∨ (n ≠ 0 ∧ x = (rwL b n r (rwN n)).1 ∧ bl' = (rwL b n r (rwN n)).2.1 ∧ h' 110 = (rwL b n r (rwN n)).2.2)
def boQ (z : Except Int (Int × (Nat → Int))) (r : Nat → Int) (x : Int) (h' : m_H) : Prop := match z with
  | .ok p => x = p.1 ∧ LR 1 h' p.2 ∧ h' 0 16 = -1
  | .error e => x = -6 ∧ LR 1 h' r ∧ h' 0 16 = e
theorem bo_ok {z : Except Int (Int × (Nat → Int))} {r : Nat → Int} {x : Int} {h h' : m_H} (Q : onQ z x h) (hx : x ≠ -1) (R : ∀ q, LR 9 h q → LR 1 h' q) (u : h 37 3 = -1 → h' 0 16 = -1) : boQ z r x h' := by
  unfold onQ at Q; unfold boQ
  cases z with
  | ok p => exact ⟨Q.1, R _ Q.2.2.1, u Q.2.2.2⟩
  | error e => exact absurd Q.1 hx
theorem bo_er {z : Except Int (Int × (Nat → Int))} {r : Nat → Int} {x : Int} {h h' : m_H} (Q : onQ z x h) (hx : x = -1) (R : LR 1 h' r) (u : h' 0 16 = h 37 3) : boQ z r (-6) h' := by
  unfold onQ at Q; unfold boQ
  cases z with
  | ok p => exfalso; have := Q.2.1; omega
  | error e => exact ⟨rfl, R, u.trans Q.2⟩
theorem rwL_b {b : Nat → Int} {n : Int} {r : Nat → Int} : ∀ i : Nat, 0 ≤ (rwL b n r i).2.1 ∧ (rwL b n r i).2.1 ≤ (i : Int) ∧ 0 ≤ (rwL b n r i).1 ∧ (rwL b n r i).1 ≤ (i : Int)
  | 0 => ⟨Int.le_refl _, Int.le_refl _, Int.le_refl _, Int.le_refl _⟩
  | i + 1 => by
    obtain ⟨z1, z2, z3, z4⟩ := rwL_b (b := b) (n := n) (r := r) i
    show 0 ≤ (rwS b n (4 * (i : Int)) (rwL b n r i)).2.1 ∧ (rwS b n (4 * (i : Int)) (rwL b n r i)).2.1 ≤ _ ∧ 0 ≤ (rwS b n (4 * (i : Int)) (rwL b n r i)).1 ∧ (rwS b n (4 * (i : Int)) (rwL b n r i)).1 ≤ _
    unfold rwS
    by_cases c : (4 * (i : Int) + 3 < n ∧ (rwL b n r i).2.2 0 ≤ 23) ∧ canE (b (4 * (i : Int)).toNat) (b (4 * (i : Int) + 1).toNat) (b (4 * (i : Int) + 2).toNat) (b (4 * (i : Int) + 3).toNat)
    · rw [cif_pos c]
      show 0 ≤ (rwL b n r i).2.1 ∧ (rwL b n r i).2.1 ≤ _ ∧ 0 ≤ (rwL b n r i).1 + 1 ∧ (rwL b n r i).1 + 1 ≤ _
      omega
    · rw [cif_neg c]
      show 0 ≤ (rwL b n r i).2.1 + 1 ∧ (rwL b n r i).2.1 + 1 ≤ _ ∧ 0 ≤ (rwL b n r i).1 ∧ (rwL b n r i).1 ≤ _
      omega
