/-! the grammar, over tokens and rows -/
noncomputable def nxt (b : Nat → Int) (n : Int) (q : Int × Int) : Int × Int := nx b n q.2
noncomputable def rdBy (b : Nat → Int) (n : Int) (q : Int × Int) (r : Nat → Int) (f l : Int) : Except Int ((Int × Int) × (Nat → Int)) :=
  cif (isW b q 2) (cif (isW b (nxt b n q) 3) (.ok (nxt b n (nxt b n q), rW r f l (-1))) (cif (nOk b n (nxt b n q) 0 3) (.ok (nxt b n (nxt b n q), rW r f l (num b (nxt b n q)))) (.error (nxt b n q).1))) (.error q.1)
noncomputable def rdWeeks (b : Nat → Int) (n : Int) (q : Int × Int) (r : Nat → Int) : Except Int ((Int × Int) × (Nat → Int)) :=
  cif (nOk b n q 0 31) (cif (isW b (nxt b n q) 1) (cif (nOk b n (nxt b n (nxt b n q)) (num b q) 31) (rdBy b n (nxt b n (nxt b n (nxt b n q))) r (num b q) (num b (nxt b n (nxt b n q)))) (.error (nxt b n (nxt b n q)).1)) (rdBy b n (nxt b n q) r (num b q) (num b q))) (.error q.1)
noncomputable def rdCut (b : Nat → Int) (n : Int) (q : Int × Int) (r : Nat → Int) (t : Int) : Except Int ((Int × Int) × (Nat → Int)) :=
  cif (isW b q 6) (.ok (nxt b n q, rU r (42 + t).toNat (-1))) (cif (isW b q 7) (cif (nOk b n (nxt b n q) 1 31) (.ok (nxt b n (nxt b n q), rU r (42 + t).toNat (num b (nxt b n q)))) (.error (nxt b n q).1)) (.error q.1))
noncomputable def rdKind (b : Nat → Int) (q : Int × Int) : Int := cif (isW b q 9) 1 (cif (isW b q 10) 2 0)
noncomputable def rdKq (b : Nat → Int) (n : Int) (q : Int × Int) : Int × Int := cif (isW b q 9 ∨ isW b q 10 ∨ isW b q 11) (nxt b n q) q
noncomputable def rdMeas (b : Nat → Int) (n : Int) (q : Int × Int) (r : Nat → Int) (t : Int) : Except Int ((Int × Int) × (Nat → Int)) :=
  cif (r 0 ≤ 23 ∧ isW b q 7) (cif (nOk b n (nxt b n q) 0 31) (cif (isW b (nxt b n (nxt b n q)) 8) (cif (nOk b n (nxt b n (nxt b n (nxt b n q))) 1 99)
    (.ok (rdKq b n (nxt b n (nxt b n (nxt b n (nxt b n q)))), rE r t (num b (nxt b n q)) (num b (nxt b n (nxt b n (nxt b n q)))) (rdKind b (nxt b n (nxt b n (nxt b n (nxt b n q)))))))
    (.error (nxt b n (nxt b n (nxt b n q))).1)) (.error (nxt b n (nxt b n q)).1)) (.error (nxt b n q).1)) (.error q.1)
noncomputable def rdMs (b : Nat → Int) (n : Int) (t : Int) : Nat → Int × Int → (Nat → Int) → Except Int ((Int × Int) × (Nat → Int))
  | 0, q, _ => .error q.1
  | f + 1, q, r => match rdMeas b n q r t with
    | .error e => .error e
    | .ok p => cif (isW b p.1 12) (rdMs b n t f (nxt b n p.1) p.2) (.ok p)
noncomputable def rdThing (b : Nat → Int) (n : Int) (q : Int × Int) (r : Nat → Int) : Except Int ((Int × Int) × (Nat → Int)) :=
  cif (nOk b n q 0 5) (cif (isW b (nxt b n q) 5) (rdCut b n (nxt b n (nxt b n q)) r (num b q)) (rdMs b n (num b q) 25 (nxt b n q) r)) (.error q.1)
noncomputable def rdShort (b : Nat → Int) (n : Int) (pl : Int) (q : Int × Int) (r : Nat → Int) : Except Int ((Int × Int) × (Nat → Int)) :=
  cif (nOk b n q 0 3) (cif (isW b (nxt b n q) 14) (cif (nOk b n (nxt b n (nxt b n q)) 0 3 ∧ num b (nxt b n (nxt b n q)) ≠ num b q)
    (cif (iS r (num b q) (num b (nxt b n (nxt b n q)))) (.ok (nxt b n (nxt b n (nxt b n q)), r)) (cif (r 1 ≤ 5) (.ok (nxt b n (nxt b n (nxt b n q)), rS r (num b q) (num b (nxt b n (nxt b n q))))) (.error pl)))
    (.error (nxt b n (nxt b n q)).1)) (.error (nxt b n q).1)) (.error q.1)
noncomputable def rdCl (b : Nat → Int) (n : Int) (q : Int × Int) (r : Nat → Int) : Except Int ((Int × Int) × (Nat → Int)) :=
  cif (isW b q 0) (rdWeeks b n (nxt b n q) r) (cif (isW b q 4) (rdThing b n (nxt b n q) r) (cif (isW b q 13) (rdShort b n q.1 (nxt b n q) r) (.error q.1)))
noncomputable def rdBook (b : Nat → Int) (n : Int) : Nat → Int × Int → (Nat → Int) → Int → Except Int (Int × (Nat → Int))
  | 0, q, _, _ => .error q.1
  | f + 1, q, r, k => match rdCl b n q r with
    | .error e => .error e
    | .ok p => cif (n ≤ p.1.1) (.ok (k, p.2)) (cif (isW b p.1 15) (rdBook b n f (nxt b n p.1) p.2 (k + 1)) (.error p.1.1))
/-! the class's walk through it -/
def okQ (L : Nat) (z : Except Int ((Int × Int) × (Nat → Int))) (x : Int) (h0 h' : m_H) : Prop := match z with
  | .ok p => x = 1 ∧ Qc h' = p.1 ∧ LR L h' p.2 ∧ h' 37 3 = h0 37 3
  | .error e => x = 0 ∧ (h0 37 3 = -1 → (if h' 37 3 = -1 then h' 37 1 else h' 37 3) = e)
theorem ok_of {L : Nat} {z : Except Int ((Int × Int) × (Nat → Int))} {p : (Int × Int) × (Nat → Int)} {h0 h' : m_H} (e : z = .ok p) (q : Qc h' = p.1) (R : LR L h' p.2) (u : h' 37 3 = h0 37 3) : okQ L z 1 h0 h' := by rw [e]; exact ⟨rfl, q, R, u⟩
theorem er_of {L : Nat} {z : Except Int ((Int × Int) × (Nat → Int))} {q : Int × Int} {h0 h' : m_H} (e : z = .error q.1) (eq : Qc h' = q) (u : h' 37 3 = h0 37 3) : okQ L z 0 h0 h' := by
  rw [e]
  refine ⟨rfl, fun z => ?_⟩
  rw [u, if_pos z, ← eq]; rfl
theorem tkc_ {w : Nat} {x : Int} {b : Nat → Int} {n : Int} {q : Int × Int} {h h' : m_H} (eb : h 36 = b) (en : h 35 1 = n) (eq : Qc h = q) (T : tkQ w x h h') : (x = 1 ∧ isW b q w ∧ Qc h' = nxt b n q) ∨ (x = 0 ∧ ¬ isW b q w ∧ Qc h' = q) := by
  subst eb en eq; exact T
theorem tn_c {lo hi x : Int} {b : Nat → Int} {n : Int} {q : Int × Int} {h h' : m_H} (eb : h 36 = b) (en : h 35 1 = n) (eq : Qc h = q) (T : tnQ lo hi x h h') : (x = -1 ∧ ¬ nOk b n q lo hi ∧ Qc h' = q) ∨ (x = num b q ∧ nOk b n q lo hi ∧ Qc h' = nxt b n q) := by
  subst eb en eq; exact T
theorem vl_c {x : Int} {b : Nat → Int} {n : Int} {q : Int × Int} {h : m_H} (eb : h 36 = b) (en : h 35 1 = n) (eq : Qc h = q) (V : vlQ (h 36) (h 35 1) (Qc h) x) : vlQ b n q x := by subst eb en eq; exact V
/-! what the class's steps do to a row -/
theorem LR.setU {L : Nat} {h h' : m_H} {r : Nat → Int} {i c : Nat} {v : Int} (R : LR L h r) (hc : (c = L + 1 ∧ i < 32) ∨ (c = L + 2 ∧ i < 6) ∨ (c = L + 7 ∧ i < 16)) (E : h' = m_up h c i v) : LR L h' (rU r ((if c = L + 1 then 10 else if c = L + 2 then 42 else 60) + i) v) := by
  obtain ⟨b, k, cc, w, n, q, cb, sb⟩ := R
  obtain ⟨b1, b2, b3, b4⟩ := b
  have o : ∀ a j, a ≠ c → h' a j = h a j := fun a j ha => upN E (fun z => ha z.1)
  generalize hd : (if c = L + 1 then 10 else if c = L + 2 then 42 else 60) + i = d
  have dlo : 10 ≤ d ∧ d < 48 ∨ 60 ≤ d ∧ d < 76 := by
    rcases hc with ⟨g, u⟩ | ⟨g, u⟩ | ⟨g, u⟩
    · rw [if_pos g] at hd; omega
    · rw [if_neg (by omega), if_pos g] at hd; omega
    · rw [if_neg (by omega), if_neg (by omega)] at hd; omega
  have lo : ∀ j, j ≠ d → rU r d v j = r j := fun j hj => by unfold rU; rw [if_neg hj]
  refine ⟨⟨by rw [lo 0 (by omega)]; exact b1, by rw [lo 0 (by omega)]; exact b2, by rw [lo 1 (by omega)]; exact b3, by rw [lo 1 (by omega)]; exact b4⟩, fun j hj => ?_, fun j hj => ?_, fun j hj => ?_, ?_, fun e he => ?_, fun e he => ?_, ?_⟩
  · by_cases g : c = L + 1
    · rw [if_pos g] at hd
      by_cases g2 : j = i
      · have e1 : 10 + j = d := by omega
        rw [← g, g2, upE E, ← g2, e1]; unfold rU; rw [if_pos rfl]
      · rw [upN E (fun z => g2 z.2), lo _ (by omega)]; exact k j hj
    · rw [o _ _ (fun z => g z.symm), lo _ (by
        rcases hc with ⟨u, _⟩ | ⟨u, v⟩ | ⟨u, v⟩
        · exact absurd u g
        · rw [if_neg g, if_pos u] at hd; omega
        · rw [if_neg g, if_neg (by omega)] at hd; omega)]; exact k j hj
  · by_cases g : c = L + 2
    · rw [if_neg (by omega), if_pos g] at hd
      by_cases g2 : j = i
      · have e1 : 42 + j = d := by omega
        rw [← g, g2, upE E, ← g2, e1]; unfold rU; rw [if_pos rfl]
      · rw [upN E (fun z => g2 z.2), lo _ (by omega)]; exact cc j hj
    · rw [o _ _ (fun z => g z.symm), lo _ (by
        rcases hc with ⟨u, v⟩ | ⟨u, _⟩ | ⟨u, v⟩
        · rw [if_pos u] at hd; omega
        · exact absurd u g
        · rw [if_neg (by omega), if_neg (by omega)] at hd; omega)]; exact cc j hj
  · by_cases g : c = L + 7
    · rw [if_neg (by omega), if_neg (by omega)] at hd
      by_cases g2 : j = i
      · have e1 : 60 + j = d := by omega
        rw [← g, g2, upE E, ← g2, e1]; unfold rU; rw [if_pos rfl]
      · rw [upN E (fun z => g2 z.2), lo _ (by omega)]; exact w j hj
    · rw [o _ _ (fun z => g z.symm), lo _ (by
        rcases hc with ⟨u, v⟩ | ⟨u, v⟩ | ⟨u, _⟩
        · rw [if_pos u] at hd; omega
        · rw [if_neg (by omega), if_pos u] at hd; omega
        · exact absurd u g)]; exact w j hj
  · rw [o _ _ (by omega), lo 0 (by omega)]; exact n
  · rw [lo 0 (by omega)] at he
    rw [o _ _ (by omega), o _ _ (by omega), o _ _ (by omega), o _ _ (by omega), lo _ (by omega), lo _ (by omega), lo _ (by omega), lo _ (by omega)]; exact q e he
  · rw [o _ _ (by omega), lo 0 (by omega), lo _ (by omega)]; exact cb e he
  · rw [o _ _ (by omega)]
    obtain ⟨s1, s2, s3, s4⟩ := sb
    refine ⟨s1, s2, by rw [lo 1 (by omega)]; exact s3, fun p hp => (s4 p hp).trans ?_⟩
    unfold iS
    rw [lo 1 (by omega)]
    constructor
    · rintro ⟨k', u, v, w'⟩
      exact ⟨k', u, by rw [lo _ (by omega)]; exact v, by rw [lo _ (by omega)]; exact w'⟩
    · rintro ⟨k', u, v, w'⟩
      rw [lo _ (by omega)] at v w'
      exact ⟨k', u, v, w'⟩
theorem LR.wk {L : Nat} {h h' : m_H} {r : Nat → Int} {f w k : Int} (R : LR L h (rW r f (w - 1) k)) (h0 : 0 ≤ f) (h1 : f ≤ w) (h2 : w ≤ 31) (E : h' = m_up h (L + 1) w.toNat k) : LR L h' (rW r f w k) := by
  have z := R.setU (i := w.toNat) (Or.inl ⟨rfl, by omega⟩) E
  rw [if_pos rfl] at z
  refine z.same (fun _ _ _ => rfl) (fun j _ => ?_)
  unfold rW rU
  by_cases g : j = 10 + w.toNat
  · rw [if_pos g, if_pos (by omega)]
  · rw [if_neg g]
    show (if 10 + f ≤ (j : Int) ∧ (j : Int) ≤ 10 + w then k else r j) = (if 10 + f ≤ (j : Int) ∧ (j : Int) ≤ 10 + (w - 1) then k else r j)
    by_cases g2 : 10 + f ≤ (j : Int) ∧ (j : Int) ≤ 10 + (w - 1)
    · rw [if_pos g2, if_pos (by omega)]
    · rw [if_neg g2, if_neg (by omega)]
theorem rW_0 {r : Nat → Int} {f k : Int} : rW r f (f - 1) k = r := by
  funext j; unfold rW; rw [if_neg (by omega)]
theorem LR.ct {L : Nat} {h h' : m_H} {r : Nat → Int} {t k : Int} (R : LR L h r) (h0 : 0 ≤ t) (h1 : t ≤ 5) (E : h' = m_up h (L + 2) t.toNat k) : LR L h' (rU r (42 + t).toNat k) := by
  have z := R.setU (i := t.toNat) (Or.inr (Or.inl ⟨rfl, by omega⟩)) E
  rw [if_neg (by omega), if_pos rfl] at z
  have e : (42 + t).toNat = 42 + t.toNat := by omega
  rw [e]; exact z
theorem ok_c {L : Nat} {F : (Nat → Int) → Int → Int × Int → Except Int ((Int × Int) × (Nat → Int))} {b : Nat → Int} {n : Int} {q : Int × Int} {x : Int} {h0 h h' : m_H} (eb : h 36 = b) (en : h 35 1 = n) (eq : Qc h = q) (e3 : h 37 3 = h0 37 3) (K : okQ L (F (h 36) (h 35 1) (Qc h)) x h h') : okQ L (F b n q) x h0 h' := by
  subst eb en eq
  unfold okQ at K ⊢
  cases e : F (h 36) (h 35 1) (Qc h) with
  | ok p => rw [e] at K; exact ⟨K.1, K.2.1, K.2.2.1, K.2.2.2.trans e3⟩
  | error z => rw [e] at K; exact ⟨K.1, fun u => K.2 (e3.trans u)⟩
theorem ok_cs {L : Nat} {z : Except Int ((Int × Int) × (Nat → Int))} {x : Int} {h0 h' : m_H} (K : okQ L z x h0 h') : (∃ p, z = .ok p ∧ x = 1 ∧ Qc h' = p.1 ∧ LR L h' p.2 ∧ h' 37 3 = h0 37 3) ∨ (∃ e, z = .error e ∧ x = 0 ∧ (h0 37 3 = -1 → (if h' 37 3 = -1 then h' 37 1 else h' 37 3) = e)) := by
  unfold okQ at K
  cases z with
  | ok p => exact Or.inl ⟨p, rfl, K⟩
  | error e => exact Or.inr ⟨e, rfl, K⟩
theorem er2_of {L : Nat} {z : Except Int ((Int × Int) × (Nat → Int))} {e : Int} {h0 h' : m_H} (ez : z = .error e) (F : h0 37 3 = -1 → (if h' 37 3 = -1 then h' 37 1 else h' 37 3) = e) : okQ L z 0 h0 h' := by rw [ez]; exact ⟨rfl, F⟩
theorem Qc_S {cs : List Nat} {ss : List (Nat × Nat)} {h h' : m_H} (S : FR cs ss h h') (e1 : fr cs ss 37 1 = false) (e2 : fr cs ss 37 2 = false) : Qc h' = Qc h := by unfold Qc; rw [S _ _ e1, S _ _ e2]
theorem tl_r {h h' : m_H} {c j : Nat} {v : Int} (E : h' = m_up h c j v) {k : Nat} (hk : k ≠ c) : h' k = h k := funext fun i => tl_o E hk i
theorem tl_q {h h' : m_H} {c j : Nat} {v : Int} (E : h' = m_up h c j v) (hk : 37 ≠ c) : Qc h' = Qc h := by unfold Qc; rw [tl_o E hk, tl_o E hk]
def wkI (z : Except Int ((Int × Int) × (Nat → Int))) (r : Nat → Int) (f l k w : Int) (h0 h : m_H) : Prop := (∃ q, z = .ok (q, rW r f l k) ∧ Qc h = q) ∧ h 37 3 = h0 37 3 ∧ LR 9 h (rW r f (w - 1) k) ∧ 0 ≤ f ∧ f ≤ w ∧ w ≤ l + 1 ∧ l ≤ 31
theorem wk_0 {z : Except Int ((Int × Int) × (Nat → Int))} {r : Nat → Int} {f l k : Int} {q : Int × Int} {h0 h : m_H} (ez : z = .ok (q, rW r f l k)) (eq : Qc h = q) (u : h 37 3 = h0 37 3) (R : LR 9 h r) (h1 : 0 ≤ f) (h2 : f ≤ l) (h3 : l ≤ 31) : wkI z r f l k f h0 h := ⟨⟨q, ez, eq⟩, u, by rw [rW_0]; exact R, h1, Int.le_refl _, by omega, h3⟩
theorem wk_st {z : Except Int ((Int × Int) × (Nat → Int))} {r : Nat → Int} {f l k w : Int} {h0 h h' : m_H} (i : wkI z r f l k w h0 h) (hw : w ≤ l) (E : h' = m_up h 10 w.toNat k) : wkI z r f l k (w + 1) h0 h' := by
  obtain ⟨⟨q, i1, i2⟩, i3, i4, i5, i6, i7, i8⟩ := i
  refine ⟨⟨q, i1, (tl_q E (by decide)).trans i2⟩, (tl_o E (by decide) _).trans i3, ?_, i5, by omega, by omega, i8⟩
  have e : w + 1 - 1 = w := by omega
  rw [e]
  exact LR.wk i4 i5 i6 (by omega) E
theorem wk_end {z : Except Int ((Int × Int) × (Nat → Int))} {r : Nat → Int} {f l k w : Int} {h0 h : m_H} (i : wkI z r f l k w h0 h) (hw : l < w) : okQ 9 z 1 h0 h := by
  obtain ⟨⟨q, i1, i2⟩, i3, i4, i5, i6, i7, i8⟩ := i
  have e : w - 1 = l := by omega
  rw [e] at i4
  exact ok_of i1 i2 i4 i3
theorem kq_9 {b : Nat → Int} {n : Int} {q : Int × Int} (w : isW b q 9) : rdKq b n q = nxt b n q ∧ rdKind b q = 1 := ⟨cif_pos (Or.inl w), cif_pos w⟩
theorem kq_10 {b : Nat → Int} {n : Int} {q : Int × Int} (v : ¬ isW b q 9) (w : isW b q 10) : rdKq b n q = nxt b n q ∧ rdKind b q = 2 := ⟨cif_pos (Or.inr (Or.inl w)), (cif_neg v).trans (cif_pos w)⟩
theorem kq_11 {b : Nat → Int} {n : Int} {q : Int × Int} (v : ¬ isW b q 9) (v2 : ¬ isW b q 10) (w : isW b q 11) : rdKq b n q = nxt b n q ∧ rdKind b q = 0 := ⟨cif_pos (Or.inr (Or.inr w)), (cif_neg v).trans (cif_neg v2)⟩
theorem kq_0 {b : Nat → Int} {n : Int} {q : Int × Int} (v : ¬ isW b q 9) (v2 : ¬ isW b q 10) (w : ¬ isW b q 11) : rdKq b n q = q ∧ rdKind b q = 0 := ⟨cif_neg (fun z => z.elim v (fun z => z.elim v2 w)), (cif_neg v).trans (cif_neg v2)⟩
theorem rdMeas_0 {b : Nat → Int} {n : Int} {q : Int × Int} {r : Nat → Int} {t : Int} {p : (Int × Int) × (Nat → Int)} (h : rdMeas b n q r t = .ok p) : p.2 0 = r 0 + 1 := by
  unfold rdMeas at h
  by_cases c1 : r 0 ≤ 23 ∧ isW b q 7
  · rw [cif_pos c1] at h
    by_cases c2 : nOk b n (nxt b n q) 0 31
    · rw [cif_pos c2] at h
      by_cases c3 : isW b (nxt b n (nxt b n q)) 8
      · rw [cif_pos c3] at h
        by_cases c4 : nOk b n (nxt b n (nxt b n (nxt b n q))) 1 99
        · rw [cif_pos c4] at h
          injection h with h
          rw [← h]; rfl
        · rw [cif_neg c4] at h; cases h
      · rw [cif_neg c3] at h; cases h
    · rw [cif_neg c2] at h; cases h
  · rw [cif_neg c1] at h; cases h
theorem ms_er {b : Nat → Int} {n t : Int} {k : Nat} {q : Int × Int} {r : Nat → Int} {e : Int} (M : rdMeas b n q r t = .error e) : rdMs b n t (k + 1) q r = .error e := by unfold rdMs; rw [M]
theorem ms_ok {b : Nat → Int} {n t : Int} {k : Nat} {q : Int × Int} {r : Nat → Int} {p : (Int × Int) × (Nat → Int)} (M : rdMeas b n q r t = .ok p) (w : ¬ isW b p.1 12) : rdMs b n t (k + 1) q r = .ok p := by unfold rdMs; rw [M]; exact cif_neg w
theorem ms_nx {b : Nat → Int} {n t : Int} {k : Nat} {q : Int × Int} {r : Nat → Int} {p : (Int × Int) × (Nat → Int)} (M : rdMeas b n q r t = .ok p) (w : isW b p.1 12) : rdMs b n t (k + 1) q r = rdMs b n t k (nxt b n p.1) p.2 := by
  conv => lhs; unfold rdMs
  rw [M]; exact cif_pos w
def thI (z : Except Int ((Int × Int) × (Nat → Int))) (b : Nat → Int) (n t i : Int) (h0 h : m_H) (rr : Nat → Int) : Prop := LR 9 h rr ∧ rdMs b n t (25 - i).toNat (Qc h) rr = z ∧ h 37 3 = h0 37 3 ∧ i ≤ rr 0
noncomputable def rdS3 (b : Nat → Int) (n : Int) (q : Int × Int) (r : Nat → Int) : Except Int ((Int × Int) × (Nat → Int)) := cif (isW b q 13) (rdShort b n q.1 (nxt b n q) r) (.error q.1)
theorem vl_n {b : Nat → Int} {n x lo hi : Int} {q : Int × Int} (V : vlQ b n q x) (k : nOk b n q lo hi) : x = num b q := by
  rcases V with ⟨a, _⟩ | ⟨_, _, c⟩
  · exact absurd ⟨k.1, k.2.1⟩ a
  · exact c
theorem Qc_3 {h h' : m_H} {v : Int} (E : h' = m_up h 37 3 v) : Qc h' = Qc h := by
  unfold Qc
  rw [upN E (fun z => absurd z.2 (by decide)), upN E (fun z => absurd z.2 (by decide))]
theorem LR.S9 {h : m_H} {r : Nat → Int} {L : Nat} (R : LR L h r) : (0 ≤ h L 9 ∧ h L 9 < 65536) ∧ ((bcN (h L 9).toNat : Nat) : Int) = r 1 := ⟨⟨R.2.2.2.2.2.2.2.1, R.2.2.2.2.2.2.2.2.1⟩, R.2.2.2.2.2.2.2.2.2.1⟩
theorem LR.up37 {h h' : m_H} {r : Nat → Int} {j : Nat} {v : Int} (R : LR 9 h r) (E : h' = m_up h 37 j v) : LR 9 h' r := R.same (fun i hi k => tl_o E (by omega) k) (fun _ _ => rfl)
def onI (z : Except Int (Int × (Nat → Int))) (b : Nat → Int) (n k : Int) (h : m_H) (rr : Nat → Int) : Prop := LR 9 h rr ∧ rdBook b n (401 - k).toNat (Qc h) rr k = z ∧ h 37 3 = -1
def onQ (z : Except Int (Int × (Nat → Int))) (x : Int) (h' : m_H) : Prop := match z with
  | .ok p => x = p.1 ∧ 1 ≤ x ∧ LR 9 h' p.2 ∧ h' 37 3 = -1
  | .error e => x = -1 ∧ h' 37 3 = e
theorem on_ok {z : Except Int (Int × (Nat → Int))} {x : Int} {r : Nat → Int} {h' : m_H} (e : z = .ok (x, r)) (hx : 1 ≤ x) (R : LR 9 h' r) (u : h' 37 3 = -1) : onQ z x h' := by rw [e]; exact ⟨rfl, hx, R, u⟩
theorem on_er {z : Except Int (Int × (Nat → Int))} {e : Int} {h' : m_H} (ez : z = .error e) (u : h' 37 3 = e) : onQ z (-1) h' := by rw [ez]; exact ⟨rfl, u⟩
theorem bk_er {b : Nat → Int} {n k : Int} {f : Nat} {q : Int × Int} {r : Nat → Int} {e : Int} (C : rdCl b n q r = .error e) : rdBook b n (f + 1) q r k = .error e := by
  conv => lhs; unfold rdBook
  rw [C]
theorem bk_end {b : Nat → Int} {n k : Int} {f : Nat} {q : Int × Int} {r : Nat → Int} {p : (Int × Int) × (Nat → Int)} (C : rdCl b n q r = .ok p) (h : n ≤ p.1.1) : rdBook b n (f + 1) q r k = .ok (k, p.2) := by
  conv => lhs; unfold rdBook
  rw [C]; exact cif_pos h
theorem bk_no {b : Nat → Int} {n k : Int} {f : Nat} {q : Int × Int} {r : Nat → Int} {p : (Int × Int) × (Nat → Int)} (C : rdCl b n q r = .ok p) (h : ¬ n ≤ p.1.1) (w : ¬ isW b p.1 15) : rdBook b n (f + 1) q r k = .error p.1.1 := by
  conv => lhs; unfold rdBook
  rw [C]; exact (cif_neg h).trans (cif_neg w)
theorem bk_nx {b : Nat → Int} {n k : Int} {f : Nat} {q : Int × Int} {r : Nat → Int} {p : (Int × Int) × (Nat → Int)} (C : rdCl b n q r = .ok p) (h : ¬ n ≤ p.1.1) (w : isW b p.1 15) : rdBook b n (f + 1) q r k = rdBook b n f (nxt b n p.1) p.2 (k + 1) := by
  conv => lhs; unfold rdBook
  rw [C]; exact (cif_neg h).trans (cif_pos w)
theorem adv_0 {h1 h2 : m_H} {b : Nat → Int} {n : Int} (S : FR [] [(37, 1), (37, 2)] h1 h2) (T : Tok (h1 36) (h1 35 1) (h1 37 2) (h2 37 1, h2 37 2)) (e : h1 37 2 = 0) (eb : h1 36 = b) (en : h1 35 1 = n) : EnS h2 ∧ Qc h2 = nx b n 0 := by
  have r1 : h2 36 = h1 36 := rowz S (fun _ => rfl)
  have r2 : h2 35 1 = h1 35 1 := S 35 1 rfl
  refine ⟨?_, ?_⟩
  · unfold EnS; rw [r1, r2]; exact T.2
  · rw [e, eb, en] at T
    exact (nx_eq (Int.le_refl 0) T).symm
