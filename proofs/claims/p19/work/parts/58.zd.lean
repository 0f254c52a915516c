/-! rows, and a ledger that is a row -/
def rE (r : Nat → Int) (t w n k : Int) : Nat → Int := fun j => if j = 0 then r 0 + 1 else if j = 5 * (r 0).toNat + 80 then t else if j = 5 * (r 0).toNat + 81 then w else if j = 5 * (r 0).toNat + 82 then n else if j = 5 * (r 0).toNat + 83 then k else if j = 5 * (r 0).toNat + 84 then 1 else r j
def rS (r : Nat → Int) (a b : Int) : Nat → Int := fun j => if j = 1 then r 1 + 1 else if j = 2 * (r 1).toNat + 48 then a else if j = 2 * (r 1).toNat + 49 then b else r j
def rW (r : Nat → Int) (f l k : Int) : Nat → Int := fun j => if 10 + f ≤ (j : Int) ∧ (j : Int) ≤ 10 + l then k else r j
def rU (r : Nat → Int) (i : Nat) (v : Int) : Nat → Int := fun j => if j = i then v else r j
def iS (r : Nat → Int) (a b : Int) : Prop := ∃ k : Nat, (k : Int) < r 1 ∧ r (2 * k + 48) = a ∧ r (2 * k + 49) = b
def CB (c : Int) (r : Nat → Int) : Prop := ∀ e : Nat, e < 32 → (bt c e = true ↔ ((e : Int) < r 0 ∧ r (5 * e + 84) = 1))
def SB (s : Int) (r : Nat → Int) : Prop := 0 ≤ s ∧ s < 65536 ∧ ((bcN s.toNat : Nat) : Int) = r 1 ∧ ∀ p : Nat, p < 16 → (bt s p = true ↔ iS r ((p / 4 : Nat) : Int) ((p % 4 : Nat) : Int))
/-- a row as it can be -/
def RB (r : Nat → Int) : Prop := 0 ≤ r 0 ∧ r 0 ≤ 24 ∧ 0 ≤ r 1 ∧ r 1 ≤ 6
def LE (L : Nat) (h : m_H) (r : Nat → Int) : Prop := ∀ e : Nat, (e : Int) < r 0 → h (L + 3) e = r (5 * e + 80) ∧ h (L + 4) e = r (5 * e + 81) ∧ h (L + 5) e = r (5 * e + 82) ∧ h (L + 6) e = r (5 * e + 83)
def LR (L : Nat) (h : m_H) (r : Nat → Int) : Prop := RB r ∧ (∀ j, j < 32 → h (L + 1) j = r (10 + j)) ∧ (∀ j, j < 6 → h (L + 2) j = r (42 + j)) ∧ (∀ j, j < 16 → h (L + 7) j = r (60 + j)) ∧ h L 7 = r 0 ∧ LE L h r ∧ CB (h L 8) r ∧ SB (h L 9) r
theorem iS_c {r r' : Nat → Int} {a b : Int} (e : ∀ j, j < 200 → r' j = r j) (h1 : r 1 ≤ 6) : iS r' a b ↔ iS r a b := by
  unfold iS
  rw [e 1 (by decide)]
  constructor
  · rintro ⟨k, h, u, v⟩
    rw [e _ (by omega)] at u v
    exact ⟨k, h, u, v⟩
  · rintro ⟨k, h, u, v⟩
    refine ⟨k, h, ?_, ?_⟩
    · rw [e _ (by omega)]; exact u
    · rw [e _ (by omega)]; exact v
theorem LR.same {L : Nat} {h h' : m_H} {r r' : Nat → Int} (R : LR L h r) (e : ∀ i, i < 8 → ∀ j, h' (L + i) j = h (L + i) j) (e2 : ∀ j, j < 200 → r' j = r j) : LR L h' r' := by
  obtain ⟨b, k, c, w, n, q, cb, sb⟩ := R
  have e0 : r' 0 = r 0 := e2 0 (by decide)
  have e1 : r' 1 = r 1 := e2 1 (by decide)
  obtain ⟨b1, b2, b3, b4⟩ := b
  refine ⟨⟨by omega, by omega, by omega, by omega⟩, fun j hj => ?_, fun j hj => ?_, fun j hj => ?_, ?_, fun x hx => ?_, fun x hx => ?_, ?_⟩
  · rw [e 1 (by decide), e2 _ (by omega)]; exact k j hj
  · rw [e 2 (by decide), e2 _ (by omega)]; exact c j hj
  · rw [e 7 (by decide), e2 _ (by omega)]; exact w j hj
  · rw [e0]; exact (e 0 (by decide) 7).trans n
  · rw [e0] at hx
    rw [e 3 (by decide), e 4 (by decide), e 5 (by decide), e 6 (by decide), e2 _ (by omega), e2 _ (by omega), e2 _ (by omega), e2 _ (by omega)]
    exact q x hx
  · have z : h' L 8 = h L 8 := e 0 (by decide) 8
    rw [z, e0, cb x hx]
    constructor
    · rintro ⟨u, v⟩; exact ⟨u, by rw [e2 _ (by omega)]; exact v⟩
    · rintro ⟨u, v⟩; exact ⟨u, by rw [e2 _ (by omega)] at v; exact v⟩
  · have z : h' L 9 = h L 9 := e 0 (by decide) 9
    obtain ⟨s1, s2, s3, s4⟩ := sb
    rw [z]
    exact ⟨s1, s2, by rw [e1]; exact s3, fun p hp => (s4 p hp).trans (iS_c e2 b4).symm⟩
theorem LR.copy {L K : Nat} {h h' : m_H} {r : Nat → Int} (R : LR K h r) (C : LC L K h h') : LR L h' r := by
  obtain ⟨b, k, c, w, n, q, cb, sb⟩ := R
  obtain ⟨c1, c2, c3, c4, c5, c6, c7, c8, c9, c10⟩ := C
  obtain ⟨b1, b2, b3, b4⟩ := b
  refine ⟨⟨b1, b2, b3, b4⟩, fun j hj => (c1 j hj).trans (k j hj), fun j hj => (c2 j hj).trans (c j hj), fun j hj => (c7 j hj).trans (w j hj), c8.trans n, fun x hx => ?_, by rw [c9]; exact cb, by rw [c10]; exact sb⟩
  have z := q x hx
  exact ⟨(c3 x (by omega)).trans z.1, (c4 x (by omega)).trans z.2.1, (c5 x (by omega)).trans z.2.2.1, (c6 x (by omega)).trans z.2.2.2⟩
/-- one entry more -/
theorem LR.addE {L : Nat} {h h1 h2 h3 h4 h5 h6 : m_H} {r : Nat → Int} {x t w n k y c : Int} (hL : isL L) (R : LR L h r) (hr : r 0 ≤ 23) (ex : h L 7 = x) (E1 : h1 = m_up h (L + 3) x.toNat t) (E2 : h2 = m_up h1 (L + 4) x.toNat w) (E3 : h3 = m_up h2 (L + 5) x.toNat n) (E4 : h4 = m_up h3 (L + 6) x.toNat k) (ec : h L 8 = c) (E5 : h5 = m_up h4 L 8 (m_or c (m_shl 1 x))) (ey : y = x) (E6 : h6 = m_up h5 L 7 (y + 1)) : LR L h6 (rE r t w n k) := by
  obtain ⟨b, kk, cc, ww, nn, q, cb, sb⟩ := R
  obtain ⟨b1, b2, b3, b4⟩ := b
  have hx : r 0 = x := nn.symm.trans ex
  rw [ey] at E6
  have e0 : rE r t w n k 0 = r 0 + 1 := rfl
  have lo : ∀ j : Nat, j ≠ 0 → j < 80 → rE r t w n k j = r j := fun j u v => by
    unfold rE; rw [if_neg u, if_neg (by omega), if_neg (by omega), if_neg (by omega), if_neg (by omega), if_neg (by omega)]
  have at_ : ∀ (e i : Nat), i < 5 → e ≠ (r 0).toNat → rE r t w n k (5 * e + (80 + i)) = r (5 * e + (80 + i)) := fun e i u v => by
    unfold rE; rw [if_neg (by omega), if_neg (by omega), if_neg (by omega), if_neg (by omega), if_neg (by omega), if_neg (by omega)]
  have v0 : rE r t w n k (5 * (r 0).toNat + 80) = t := by unfold rE; rw [if_neg (by omega), if_pos rfl]
  have v1 : rE r t w n k (5 * (r 0).toNat + 81) = w := by unfold rE; rw [if_neg (by omega), if_neg (by omega), if_pos rfl]
  have v2 : rE r t w n k (5 * (r 0).toNat + 82) = n := by unfold rE; rw [if_neg (by omega), if_neg (by omega), if_neg (by omega), if_pos rfl]
  have v3 : rE r t w n k (5 * (r 0).toNat + 83) = k := by unfold rE; rw [if_neg (by omega), if_neg (by omega), if_neg (by omega), if_neg (by omega), if_pos rfl]
  have v4 : rE r t w n k (5 * (r 0).toNat + 84) = 1 := by unfold rE; rw [if_neg (by omega), if_neg (by omega), if_neg (by omega), if_neg (by omega), if_neg (by omega), if_pos rfl]
  have o6 : ∀ i, i ≠ 0 → ∀ j, h6 (L + i) j = h4 (L + i) j := fun i hi j => (upN E6 (fun z => by have := z.1; omega)).trans (upN E5 (fun z => by have := z.1; omega))
  have o4 : ∀ i, i < 3 ∨ i = 7 → ∀ j, h4 (L + i) j = h (L + i) j := fun i hi j => (upN E4 (fun z => by have := z.1; omega)).trans ((upN E3 (fun z => by have := z.1; omega)).trans ((upN E2 (fun z => by have := z.1; omega)).trans (upN E1 (fun z => by have := z.1; omega))))
  refine ⟨⟨by rw [e0]; omega, by rw [e0]; omega, by rw [lo 1 (by decide) (by decide)]; exact b3, by rw [lo 1 (by decide) (by decide)]; exact b4⟩, fun j hj => ?_, fun j hj => ?_, fun j hj => ?_, ?_, fun e he => ?_, fun e he => ?_, ?_⟩
  · rw [o6 1 (by decide), o4 1 (by decide), lo _ (by omega) (by omega)]; exact kk j hj
  · rw [o6 2 (by decide), o4 2 (by decide), lo _ (by omega) (by omega)]; exact cc j hj
  · rw [o6 7 (by decide), o4 7 (by decide), lo _ (by omega) (by omega)]; exact ww j hj
  · rw [upE E6, e0, hx]
  · rw [e0] at he
    rw [o6 3 (by decide), o6 4 (by decide), o6 5 (by decide), o6 6 (by decide)]
    by_cases g : e = (r 0).toNat
    · have g2 : x.toNat = e := by omega
      rw [g2] at E1 E2 E3 E4
      have w0 : h4 (L + 3) e = t := (upN E4 (fun z => by have := z.1; omega)).trans ((upN E3 (fun z => by have := z.1; omega)).trans ((upN E2 (fun z => by have := z.1; omega)).trans (upE E1)))
      have w1 : h4 (L + 4) e = w := (upN E4 (fun z => by have := z.1; omega)).trans ((upN E3 (fun z => by have := z.1; omega)).trans (upE E2))
      have w2 : h4 (L + 5) e = n := (upN E4 (fun z => by have := z.1; omega)).trans (upE E3)
      rw [w0, w1, w2, upE E4, g, v0, v1, v2, v3]
      exact ⟨rfl, rfl, rfl, rfl⟩
    · have g2 : e ≠ x.toNat := by omega
      have w0 : h4 (L + 3) e = h (L + 3) e := (upN E4 (fun z => g2 z.2)).trans ((upN E3 (fun z => g2 z.2)).trans ((upN E2 (fun z => g2 z.2)).trans (upN E1 (fun z => g2 z.2))))
      have w1 : h4 (L + 4) e = h (L + 4) e := (upN E4 (fun z => g2 z.2)).trans ((upN E3 (fun z => g2 z.2)).trans ((upN E2 (fun z => g2 z.2)).trans (upN E1 (fun z => g2 z.2))))
      have w2 : h4 (L + 5) e = h (L + 5) e := (upN E4 (fun z => g2 z.2)).trans ((upN E3 (fun z => g2 z.2)).trans ((upN E2 (fun z => g2 z.2)).trans (upN E1 (fun z => g2 z.2))))
      have w3 : h4 (L + 6) e = h (L + 6) e := (upN E4 (fun z => g2 z.2)).trans ((upN E3 (fun z => g2 z.2)).trans ((upN E2 (fun z => g2 z.2)).trans (upN E1 (fun z => g2 z.2))))
      have a0 := at_ e 0 (by decide) g
      have a1 := at_ e 1 (by decide) g
      have a2 := at_ e 2 (by decide) g
      have a3 := at_ e 3 (by decide) g
      rw [w0, w1, w2, w3, a0, a1, a2, a3]
      exact q e (by omega)
  · have z : h6 L 8 = m_or c (m_shl 1 x) := (upN E6 (fun z => by have := z.2; omega)).trans (upE E5)
    have hx2 : x = ((r 0).toNat : Int) := by omega
    rw [z, hx2, bt_or (by omega) he, e0, Bool.or_eq_true, ← ec, cb e he, decide_eq_true_eq]
    by_cases g : e = (r 0).toNat
    · rw [g, v4]
      constructor
      · intro _; exact ⟨by omega, rfl⟩
      · intro _; exact Or.inr rfl
    · have a4 := at_ e 4 (by decide) g
      rw [a4]
      constructor
      · rintro (⟨u, v⟩ | u)
        · exact ⟨by omega, v⟩
        · exact absurd u g
      · rintro ⟨u, v⟩; exact Or.inl ⟨by omega, v⟩
  · have z : h6 L 9 = h L 9 := (upN E6 (fun z => by have := z.2; omega)).trans ((upN E5 (fun z => by have := z.2; omega)).trans (o4 0 (by decide) 9))
    rw [z]
    obtain ⟨s1, s2, s3, s4⟩ := sb
    refine ⟨s1, s2, by rw [lo 1 (by decide) (by decide)]; exact s3, fun p hp => (s4 p hp).trans ?_⟩
    unfold iS
    rw [lo 1 (by decide) (by decide)]
    constructor
    · rintro ⟨k', u, v, w'⟩
      refine ⟨k', u, ?_, ?_⟩
      · rw [lo _ (by omega) (by omega)]; exact v
      · rw [lo _ (by omega) (by omega)]; exact w'
    · rintro ⟨k', u, v, w'⟩
      rw [lo _ (by omega) (by omega)] at v w'
      exact ⟨k', u, v, w'⟩
/-- one shorter more -/
theorem iS_add {r : Nat → Int} {a b u v : Int} (h0 : 0 ≤ r 1) (h1 : r 1 ≤ 5) : iS (rS r a b) u v ↔ (iS r u v ∨ (u = a ∧ v = b)) := by
  have e1 : rS r a b 1 = r 1 + 1 := rfl
  have va : rS r a b (2 * (r 1).toNat + 48) = a := by unfold rS; rw [if_neg (by omega), if_pos rfl]
  have vb : rS r a b (2 * (r 1).toNat + 49) = b := by unfold rS; rw [if_neg (by omega), if_neg (by omega), if_pos rfl]
  have o : ∀ k : Nat, (k : Int) < r 1 → rS r a b (2 * k + 48) = r (2 * k + 48) ∧ rS r a b (2 * k + 49) = r (2 * k + 49) := fun k hk => by
    unfold rS
    rw [if_neg (by omega), if_neg (by omega), if_neg (by omega), if_neg (by omega), if_neg (by omega), if_neg (by omega)]
    exact ⟨rfl, rfl⟩
  unfold iS
  rw [e1]
  constructor
  · rintro ⟨k, hk, x, y⟩
    by_cases g : (k : Int) < r 1
    · rw [(o k g).1] at x; rw [(o k g).2] at y
      exact Or.inl ⟨k, g, x, y⟩
    · have g2 : k = (r 1).toNat := by omega
      rw [g2, va] at x; rw [g2, vb] at y
      exact Or.inr ⟨x.symm, y.symm⟩
  · rintro (⟨k, hk, x, y⟩ | ⟨x, y⟩)
    · exact ⟨k, by omega, (o k hk).1.trans x, (o k hk).2.trans y⟩
    · exact ⟨(r 1).toNat, by omega, va.trans x.symm, vb.trans y.symm⟩
theorem LR.addS {L : Nat} {h h' : m_H} {r : Nat → Int} {a b c i : Int} (hL : isL L) (R : LR L h r) (h1 : r 1 ≤ 5) (ha : 0 ≤ a) (ha3 : a ≤ 3) (hb : 0 ≤ b) (hb3 : b ≤ 3) (hn : ¬ iS r a b) (ec : h L 9 = c) (ei : i = a * 4 + b) (E : h' = m_up h L 9 (m_or c (m_shl 1 i))) : LR L h' (rS r a b) := by
  obtain ⟨bb, kk, cc, ww, nn, q, cb, sb⟩ := R
  obtain ⟨b1, b2, b3, b4⟩ := bb
  have lo : ∀ j : Nat, j ≠ 1 → j < 48 ∨ 60 ≤ j → rS r a b j = r j := fun j u v => by
    unfold rS; rw [if_neg u, if_neg (by omega), if_neg (by omega)]
  have e1 : rS r a b 1 = r 1 + 1 := rfl
  have o : ∀ k j, j ≠ 9 → h' k j = h k j := fun k j hj => upN E (fun z => hj z.2)
  have o1 : ∀ k, k ≠ 0 → ∀ j, h' (L + k) j = h (L + k) j := fun k hk j => upN E (fun z => by have := z.1; omega)
  refine ⟨⟨by rw [lo 0 (by decide) (by decide)]; exact b1, by rw [lo 0 (by decide) (by decide)]; exact b2, by rw [e1]; omega, by rw [e1]; omega⟩, fun j hj => ?_, fun j hj => ?_, fun j hj => ?_, ?_, fun e he => ?_, fun e he => ?_, ?_⟩
  · rw [o1 1 (by decide), lo _ (by omega) (by omega)]; exact kk j hj
  · rw [o1 2 (by decide), lo _ (by omega) (by omega)]; exact cc j hj
  · rw [o1 7 (by decide), lo _ (by omega) (by omega)]; exact ww j hj
  · rw [o L 7 (by decide), lo 0 (by decide) (by decide)]; exact nn
  · rw [lo 0 (by decide) (by decide)] at he
    rw [o1 3 (by decide), o1 4 (by decide), o1 5 (by decide), o1 6 (by decide), lo _ (by omega) (by omega), lo _ (by omega) (by omega), lo _ (by omega) (by omega), lo _ (by omega) (by omega)]
    exact q e he
  · rw [o L 8 (by decide), lo 0 (by decide) (by decide), lo _ (by omega) (by omega)]; exact cb e he
  · obtain ⟨s1, s2, s3, s4⟩ := sb
    rw [ec] at s1 s2 s3 s4
    obtain ⟨s, hs⟩ : ∃ s : Nat, c = (s : Int) := ⟨c.toNat, by omega⟩
    obtain ⟨p, hp⟩ : ∃ p : Nat, i = (p : Int) := ⟨i.toNat, by omega⟩
    have hp16 : p < 16 := by omega
    have d1 : ((p / 4 : Nat) : Int) = a := by omega
    have d2 : ((p % 4 : Nat) : Int) = b := by omega
    subst hs
    have nb' : bt (s : Int) p = false := by
      have z := s4 p hp16
      rw [d1, d2] at z
      cases g : bt (s : Int) p
      · rfl
      · exact absurd (z.mp g) hn
    have hs2 : s < 65536 := by omega
    have v : h' L 9 = ((s + 2 ^ p : Nat) : Int) := by rw [upE E, hp]; exact or_add hs2 hp16 nb'
    have nb2 : s / 2 ^ p % 2 = 0 := by rw [bt_div hs2, decide_eq_false_iff_not] at nb'; omega
    have sm : s + 2 ^ p < 65536 := by
      have q : p = 0 ∨ p = 1 ∨ p = 2 ∨ p = 3 ∨ p = 4 ∨ p = 5 ∨ p = 6 ∨ p = 7 ∨ p = 8 ∨ p = 9 ∨ p = 10 ∨ p = 11 ∨ p = 12 ∨ p = 13 ∨ p = 14 ∨ p = 15 := by omega
      rcases q with rfl | rfl | rfl | rfl | rfl | rfl | rfl | rfl | rfl | rfl | rfl | rfl | rfl | rfl | rfl | rfl <;> omega
    rw [v]
    refine ⟨Int.natCast_nonneg _, Int.ofNat_lt.mpr sm, ?_, fun p' hp' => ?_⟩
    · have t := bc_add hs2 hp16 nb2
      rw [Int.toNat_natCast, t, e1]
      rw [Int.toNat_natCast] at s3
      omega
    · rw [iS_add b3 h1, ← or_add hs2 hp16 nb', bt_or (by omega) (by omega), Bool.or_eq_true, s4 p' hp', decide_eq_true_eq]
      constructor
      · rintro (x | x)
        · exact Or.inl x
        · subst x; exact Or.inr ⟨d1, d2⟩
      · rintro (x | ⟨x, y⟩)
        · exact Or.inl x
        · exact Or.inr (by omega)
